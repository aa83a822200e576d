theorem f_pay2_0 (σ : zS) (k : Nat) : f_pay2 σ k 0 = σ 0 := by unfold f_pay2; split <;> rfl
theorem f_pay2_6 (σ : zS) (k : Nat) : f_pay2 σ k 6 = σ 6 := by unfold f_pay2; split <;> rfl
theorem sk_pay2 {σ : zS} {nb B k : Nat} (hs : zsk σ nb B k) : zsk (f_pay2 σ k) nb B k := by
  unfold f_pay2
  split
  · exact sk_red (sk_pay hs)
  · exact sk_pay hs
theorem zpar (h : Nat) : (if nI (h % 2) = 0 then (0 : Int32) else 1) = nI (h % 2) := by
  rcases Nat.mod_two_eq_zero_or_one h with z | z <;> rw [z] <;> decide
theorem f_rest_up {Y : zS} {h j : Nat} (h1 : ¬ Y 12 j = 1) (h2 : ¬ Y 12 j = 2) : f_rest Y h j = Y := by
  unfold f_rest f_roh
  rw [if_neg h1, if_neg h2, Int32.add_zero, zs_self]

set_option maxHeartbeats 4000000 in
set_option maxRecDepth 100000 in
theorem c_X4_hourOn (l : Launch) (D : va_G) (cI : ClassId) (μ : Nat → Nat) (th : Int32) (σ : zS) (κ : Nat → Int32) {nb ns h : Nat} (hI : zI σ nb ns h) : zMV l yX4_hourOn wsX4_hourOn ({ frames := 4, cells := 0, slots := 0, locals := 89 }) [.ref (μ 0)] D [(cI, .int)] (zw_M cI μ th σ (κ)) (zw_M cI μ th (f_hour σ nb ns h) (κ)) := by
  intro sz
  refine Met.ofW (cc := cX4_hourOn) (maxL := 2) (ret := none) (by decide) rfl ?_
  intro p e s m args below meth c s₁ B hml hv
  obtain ⟨rfl, hsz, hP, hK, hD⟩ := hv
  have hx := B.exec
  have hb := B.bytes
  have hr := B.returns
  have hts := atoms_spec (ws := wsX4_hourOn) B.pre
  have hown : s.vm.findClass RX4 = some m.cls := findClass_of_methodNamed B.named
  have hlocks := B.notSynchronized
  subst hsz
  have hD := hD.self (sz := s.heap.size)
  generalize hAe : va_A (zw_M cI μ th σ (κ)) s.heap.size = A at hD ⊢
  have hA : ∀ q : Nat, s.heap.size ≤ q → A q := fun q h => by rw [← hAe]; exact Or.inr h
  have hS : va_S A s.heap s.heap [] := va_S.rf
  have hP : va_P D vwCl (zw_M cI μ th σ (κ)) s.heap := hP
  have hl := lv_entry ([.ref (μ 0)]) (n := 2) (Nat.le_of_ble_eq_true rfl)
  rw [lg_entry_eq]
  generalize (lg_sl ([.ref (μ 0)]) ++ List.replicate (2 - (lg_sl ([.ref (μ 0)])).length) Slot.unset).toArray = ls at hl ⊢
  have hl : lv_has ls 2 [(0, .ref (μ 0))] := hl
  have hf19 := hts (.fieldLink RX4 19 "HotBedsModel" "now" "[I") (by decide +kernel)
  have hf29 := hts (.fieldLink RX4 29 "HotBedsModel" "beds" "I") (by decide +kernel)
  have hf36 := hts (.fieldLink RX4 36 "HotBedsModel" "sailors" "I") (by decide +kernel)
  have hinX4 : ∀ w ∈ u_ws RX4 TX4 8, w ∈ wsX4_hourOn := by decide +kernel
  have hcomax := hts (.code Lib.Math.max.name Lib.Math.max.code 2 (some .int)) (by decide +kernel)
  have hcomin := hts (.code Lib.Math.min.name Lib.Math.min.code 2 (some .int)) (by decide +kernel)
  have hinM := hts (.initialized "java/lang/Math") (by decide +kernel)
  have hml71 := hts (.methodLink RX4 71 Lib.Math.min.name) (by decide +kernel)
  have hml99 := hts (.methodLink RX4 99 Lib.Math.max.name) (by decide +kernel)
  have hstmax := hts (.static Lib.Math.max.name) (by decide +kernel)
  have hstmin := hts (.static Lib.Math.min.name) (by decide +kernel)
  have hC := hI.1
  have hnb := hC.2.1
  have hns := hC.2.2.2.1
  have hh := hC.2.2.2.2.2.1
  refine lv_iconst (v := 0) hx hb dX4_hourOn_0 (by decide) ?_
  refine lv_istore_n (lv' := [(1, .int 0), (0, .ref (μ 0))]) hx hb dX4_hourOn_1 rfl hl (by decide) rfl (fun ls hl => ?_)
  refine zk_loop (pc := 2) (fun j H locs ls => va_P D vwCl (zw_M cI μ th (f_itr (fun τ k => f_ring τ h k) j σ) (κ)) H ∧ va_D A (zw_M cI μ th (f_itr (fun τ k => f_ring τ h k) j σ) (κ)) ∧ va_S A s.heap H locs ∧ lv_has ls 2 [(0, .ref (μ 0)), (1, .int (nI j))]) ns (fun j hkj ih H locs ls hI => ?_) (fun H locs ls hI => ?_) _ _ _ ⟨hP, hD, hS, lv_sub hl [1, 0] rfl⟩
  · obtain ⟨hP, hD, hS, hl⟩ := hI
    have hIj := hI.ring j
    have hC := hIj.1
    have hs := hIj.2 j hkj
    refine lv_iload_n hx hb dX4_hourOn_2 rfl (lv_at hl 1 rfl) ?_
    refine lv_aload_n hx hb dX4_hourOn_3 rfl (lv_at hl 0 rfl) ?_
    refine va_get (D := D) (ci := 4) (v := .int (nI ns)) (C := RX4) (T := TX4) (N := 8) hx hb hts hinX4 hown hK hP 0 rfl rfl 2 (by decide) hf36 (fun _ h9 => h9) (congrArg (fun z => some (Value.int z)) hC.2.2.1) dX4_hourOn_4 ?_
    refine lv_icmp_ge (tgt := 43) hx hb dX4_hourOn_7 (by decide) (fun c => absurd c (nI_ge hkj (by omega))) (fun _ => ?_)
    refine lv_aload_n hx hb dX4_hourOn_10 rfl (lv_at hl 0 rfl) ?_
    refine lv_iload_n hx hb dX4_hourOn_11 rfl (lv_at hl 1 rfl) ?_
    refine lv_iconst (v := 4) hx hb dX4_hourOn_12 (by decide) ?_
    refine zk_R (D := D) (va_runV (As := [.int (nI j), .int 4]) (rest := []) ⟨hx, hb, hml, hown, hts⟩ (c_X4_sa l D cI μ th (f_itr (fun τ k => f_ring τ h k) j σ) (κ) (k := j) (w := 4) (by omega) (by decide) _) (cwV 2 hts gX4_hourOn_X4_sa rfl rfl rfl zdX4_sa ⟨Nat.le_of_ble_eq_true rfl, Nat.le_of_ble_eq_true rfl⟩) ⟨zbl _, va_recv hK hP (ci := 4) (q0 := 0) rfl rfl, zpr hK hP hD⟩ rfl rfl hl.1 rfl (lv_room (Nat.le_of_ble_eq_true rfl)) dX4_hourOn_13 ⟨Nat.zero_le _, Nat.zero_le _⟩) hS (fun r_2 H locs hw hkp hS => ?_)
    have hP := hkp _ hP
    have hw : r_2 = (f_itr (fun τ k => f_ring τ h k) j σ) 12 j := hw
    subst hw
    refine lv_if_eq (tgt := 37) hx hb dX4_hourOn_16 (by decide) (fun c_3 => ?_) (fun c_3 => ?_)
    · refine lv_iinc (v := nI (j + 1)) (lv' := [(1, .int (nI (j + 1))), (0, .ref (μ 0))]) hx hb dX4_hourOn_37 hl (k := 1) rfl (nI_1 j) (by decide) rfl (fun ls hl => ?_)
      refine lv_goto (tgt := 2) hx hb dX4_hourOn_40 (by decide) ?_
      have e1 : f_itr (fun τ k => f_ring τ h k) (j + 1) σ = f_itr (fun τ k => f_ring τ h k) j σ := show f_ring _ h j = _ from by rw [f_ring, if_pos c_3]
      exact ih _ _ _ ⟨by rw [e1]; exact hP, by rw [e1]; exact hD, hS, lv_sub hl [1, 0] rfl⟩
    · have hr1 := c_3
      refine lv_aload_n hx hb dX4_hourOn_19 rfl (lv_at hl 0 rfl) ?_
      refine lv_iload_n hx hb dX4_hourOn_20 rfl (lv_at hl 1 rfl) ?_
      refine lv_iconst (v := 0) hx hb dX4_hourOn_21 (by decide) ?_
      refine zk_R (D := D) (va_runV (As := [.int (nI j), .int 0]) (rest := []) ⟨hx, hb, hml, hown, hts⟩ (c_X4_sa l D cI μ th (f_itr (fun τ k => f_ring τ h k) j σ) (κ) (k := j) (w := 0) (by omega) (by decide) _) (cwV 2 hts gX4_hourOn_X4_sa rfl rfl rfl zdX4_sa ⟨Nat.le_of_ble_eq_true rfl, Nat.le_of_ble_eq_true rfl⟩) ⟨zbl _, va_recv hK hP (ci := 4) (q0 := 0) rfl rfl, zpr hK hP hD⟩ rfl rfl hl.1 rfl (lv_room (Nat.le_of_ble_eq_true rfl)) dX4_hourOn_22 ⟨Nat.zero_le _, Nat.zero_le _⟩) hS (fun r_4 H locs hw hkp hS => ?_)
      have hP := hkp _ hP
      have hw : r_4 = (f_itr (fun τ k => f_ring τ h k) j σ) 6 j := hw
      subst hw
      refine lv_aload_n hx hb dX4_hourOn_25 rfl (lv_at hl 0 rfl) ?_
      refine zk_R (D := D) (va_runV (As := []) (rest := [.int ((f_itr (fun τ k => f_ring τ h k) j σ) 6 j)]) ⟨hx, hb, hml, hown, hts⟩ (c_X4_watch l D cI μ th (f_itr (fun τ k => f_ring τ h k) j σ) (κ) hC _) (cwV 0 hts gX4_hourOn_X4_watch rfl rfl rfl zdX4_watch ⟨Nat.le_of_ble_eq_true rfl, Nat.le_of_ble_eq_true rfl⟩) ⟨zbl _, va_recv hK hP (ci := 4) (q0 := 0) rfl rfl, zpr hK hP hD⟩ rfl rfl hl.1 rfl (lv_room (Nat.le_of_ble_eq_true rfl)) dX4_hourOn_26 ⟨Nat.zero_le _, Nat.zero_le _⟩) hS (fun r_5 H locs hw hkp hS => ?_)
      have hP := hkp _ hP
      have hw : r_5 = nI (h % 24 / 8) := hw
      subst hw
      refine lv_icmp_eq (tgt := 37) hx hb dX4_hourOn_29 (by decide) (fun c_6 => ?_) (fun c_6 => ?_)
      · refine lv_iinc (v := nI (j + 1)) (lv' := [(1, .int (nI (j + 1))), (0, .ref (μ 0))]) hx hb dX4_hourOn_37 hl (k := 1) rfl (nI_1 j) (by decide) rfl (fun ls hl => ?_)
        refine lv_goto (tgt := 2) hx hb dX4_hourOn_40 (by decide) ?_
        have e1 : f_itr (fun τ k => f_ring τ h k) (j + 1) σ = f_itr (fun τ k => f_ring τ h k) j σ := show f_ring _ h j = _ from by rw [f_ring, if_neg c_3, if_pos c_6]
        exact ih _ _ _ ⟨by rw [e1]; exact hP, by rw [e1]; exact hD, hS, lv_sub hl [1, 0] rfl⟩
      · have hr2 := c_6
        refine lv_aload_n hx hb dX4_hourOn_32 rfl (lv_at hl 0 rfl) ?_
        refine lv_iload_n hx hb dX4_hourOn_33 rfl (lv_at hl 1 rfl) ?_
        have hF := zfree hD hS hA
        refine zk_V (va_runV (As := [.int (nI j)]) (rest := []) ⟨hx, hb, hml, hown, hts⟩ (c_X4_ring l D cI μ th (f_itr (fun τ k => f_ring τ h k) j σ) (κ) (k := j) hC (by omega) hs hr1 hr2 _) (cwV 1 hts gX4_hourOn_X4_ring rfl rfl rfl zdX4_ring ⟨Nat.le_of_ble_eq_true rfl, Nat.le_of_ble_eq_true rfl⟩) ⟨zbl _, va_recv hK hP (ci := 4) (q0 := 0) rfl rfl, zpr hK hP hD⟩ rfl rfl hl.1 rfl (lv_room (Nat.le_of_ble_eq_true rfl)) dX4_hourOn_34 ⟨Nat.zero_le _, Nat.zero_le _⟩) hS hF (fun H locs hkp hP1 hD1 hS => ?_)
        have hP := hP1
        have hD := hD1.weaken (fun _ _ _ z => hF _ z)
        have hP : va_P D vwCl (zw_M cI μ th (f_ring (f_itr (fun τ k => f_ring τ h k) j σ) h j) (κ)) H := hP
        have hD : va_D A (zw_M cI μ th (f_ring (f_itr (fun τ k => f_ring τ h k) j σ) h j) (κ)) := hD
        refine lv_iinc (v := nI (j + 1)) (lv' := [(1, .int (nI (j + 1))), (0, .ref (μ 0))]) hx hb dX4_hourOn_37 hl (k := 1) rfl (nI_1 j) (by decide) rfl (fun ls hl => ?_)
        refine lv_goto (tgt := 2) hx hb dX4_hourOn_40 (by decide) ?_
        have e1 : f_itr (fun τ k => f_ring τ h k) (j + 1) σ = f_ring (f_itr (fun τ k => f_ring τ h k) j σ) h j := rfl
        exact ih _ _ _ ⟨by rw [e1]; exact hP, by rw [e1]; exact hD, hS, lv_sub hl [1, 0] rfl⟩
  · obtain ⟨hP, hD, hS, hl⟩ := hI
    have hC := (hI.ring ns).1
    refine lv_iload_n hx hb dX4_hourOn_2 rfl (lv_at hl 1 rfl) ?_
    refine lv_aload_n hx hb dX4_hourOn_3 rfl (lv_at hl 0 rfl) ?_
    refine va_get (D := D) (ci := 4) (v := .int (nI ns)) (C := RX4) (T := TX4) (N := 8) hx hb hts hinX4 hown hK hP 0 rfl rfl 2 (by decide) hf36 (fun _ h9 => h9) (congrArg (fun z => some (Value.int z)) hC.2.2.1) dX4_hourOn_4 ?_
    refine lv_icmp_ge (tgt := 43) hx hb dX4_hourOn_7 (by decide) (fun _ => ?_) (fun c => absurd (Int32.le_refl _) c)
    refine lv_iconst (v := 0) hx hb dX4_hourOn_43 (by decide) ?_
    refine lv_istore_n (lv' := [(1, .int 0), (0, .ref (μ 0))]) hx hb dX4_hourOn_44 rfl hl (by decide) rfl (fun ls hl => ?_)
    refine zk_loop (pc := 45) (fun j H locs ls => va_P D vwCl (zw_M cI μ th (f_itr (fun τ k => f_serve τ nb h k) j (f_itr (fun τ k => f_ring τ h k) ns σ)) (κ)) H ∧ va_D A (zw_M cI μ th (f_itr (fun τ k => f_serve τ nb h k) j (f_itr (fun τ k => f_ring τ h k) ns σ)) (κ)) ∧ va_S A s.heap H locs ∧ lv_has ls 2 [(0, .ref (μ 0)), (1, .int (nI j))]) ns (fun j hkj ih H locs ls hI => ?_) (fun H locs ls hI => ?_) _ _ _ ⟨hP, hD, hS, lv_sub hl [1, 0] rfl⟩
    · obtain ⟨hP, hD, hS, hl⟩ := hI
      have hIj := (hI.ring ns).serve j
      have hC := hIj.1
      have hs := hIj.2 j hkj
      refine lv_iload_n hx hb dX4_hourOn_45 rfl (lv_at hl 1 rfl) ?_
      refine lv_aload_n hx hb dX4_hourOn_46 rfl (lv_at hl 0 rfl) ?_
      refine va_get (D := D) (ci := 4) (v := .int (nI ns)) (C := RX4) (T := TX4) (N := 8) hx hb hts hinX4 hown hK hP 0 rfl rfl 2 (by decide) hf36 (fun _ h9 => h9) (congrArg (fun z => some (Value.int z)) hC.2.2.1) dX4_hourOn_47 ?_
      refine lv_icmp_ge (tgt := 106) hx hb dX4_hourOn_50 (by decide) (fun c => absurd c (nI_ge hkj (by omega))) (fun _ => ?_)
      refine lv_aload_n hx hb dX4_hourOn_53 rfl (lv_at hl 0 rfl) ?_
      refine lv_iload_n hx hb dX4_hourOn_54 rfl (lv_at hl 1 rfl) ?_
      refine lv_iconst (v := 0) hx hb dX4_hourOn_55 (by decide) ?_
      refine zk_R (D := D) (va_runV (As := [.int (nI j), .int 0]) (rest := []) ⟨hx, hb, hml, hown, hts⟩ (c_X4_sa l D cI μ th (f_itr (fun τ k => f_serve τ nb h k) j (f_itr (fun τ k => f_ring τ h k) ns σ)) (κ) (k := j) (w := 0) (by omega) (by decide) _) (cwV 2 hts gX4_hourOn_X4_sa rfl rfl rfl zdX4_sa ⟨Nat.le_of_ble_eq_true rfl, Nat.le_of_ble_eq_true rfl⟩) ⟨zbl _, va_recv hK hP (ci := 4) (q0 := 0) rfl rfl, zpr hK hP hD⟩ rfl rfl hl.1 rfl (lv_room (Nat.le_of_ble_eq_true rfl)) dX4_hourOn_56 ⟨Nat.zero_le _, Nat.zero_le _⟩) hS (fun r_9 H locs hw hkp hS => ?_)
      have hP := hkp _ hP
      have hw : r_9 = (f_itr (fun τ k => f_serve τ nb h k) j (f_itr (fun τ k => f_ring τ h k) ns σ)) 6 j := hw
      subst hw
      refine lv_aload_n hx hb dX4_hourOn_59 rfl (lv_at hl 0 rfl) ?_
      refine zk_R (D := D) (va_runV (As := []) (rest := [.int ((f_itr (fun τ k => f_serve τ nb h k) j (f_itr (fun τ k => f_ring τ h k) ns σ)) 6 j)]) ⟨hx, hb, hml, hown, hts⟩ (c_X4_watch l D cI μ th (f_itr (fun τ k => f_serve τ nb h k) j (f_itr (fun τ k => f_ring τ h k) ns σ)) (κ) hC _) (cwV 0 hts gX4_hourOn_X4_watch rfl rfl rfl zdX4_watch ⟨Nat.le_of_ble_eq_true rfl, Nat.le_of_ble_eq_true rfl⟩) ⟨zbl _, va_recv hK hP (ci := 4) (q0 := 0) rfl rfl, zpr hK hP hD⟩ rfl rfl hl.1 rfl (lv_room (Nat.le_of_ble_eq_true rfl)) dX4_hourOn_60 ⟨Nat.zero_le _, Nat.zero_le _⟩) hS (fun r_10 H locs hw hkp hS => ?_)
      have hP := hkp _ hP
      have hw : r_10 = nI (h % 24 / 8) := hw
      subst hw
      refine lv_icmp_eq (tgt := 69) hx hb dX4_hourOn_63 (by decide) (fun c_11 => ?_) (fun c_11 => ?_)
      · refine lv_aload_n hx hb dX4_hourOn_69 rfl (lv_at hl 0 rfl) ?_
        refine va_get (D := D) (ci := 4) (v := .ref (μ 4)) (C := RX4) (T := TX4) (N := 8) hx hb hts hinX4 hown hK hP 0 rfl rfl 6 (by decide) hf19 (fun _ h9 => h9) rfl dX4_hourOn_70 ?_
        refine lv_iconst (v := 0) hx hb dX4_hourOn_73 (by decide) ?_
        refine zk_ld hx hb hK hP 4 0 rfl rfl (k := 0) (by omega) (by decide) (v := nI h) ((zenc_0 (f_itr (fun τ k => f_serve τ nb h k) j (f_itr (fun τ k => f_ring τ h k) ns σ)) (by decide)).trans hC.2.2.2.2.1) dX4_hourOn_74 ?_
        refine lv_bipush (v := 8) hx hb dX4_hourOn_75 (by decide) ?_
        refine zk_rem (x := h) (y := 8) hx hb dX4_hourOn_77 (by omega) (by decide) (by decide) ?_
        refine lv_if_ne (tgt := 86) hx hb dX4_hourOn_78 (by decide) (fun c_12 => ?_) (fun c_12 => ?_)
        · refine lv_aload_n hx hb dX4_hourOn_86 rfl (lv_at hl 0 rfl) ?_
          refine lv_iload_n hx hb dX4_hourOn_87 rfl (lv_at hl 1 rfl) ?_
          refine lv_iconst (v := 4) hx hb dX4_hourOn_88 (by decide) ?_
          refine zk_R (D := D) (va_runV (As := [.int (nI j), .int 4]) (rest := []) ⟨hx, hb, hml, hown, hts⟩ (c_X4_sa l D cI μ th (f_itr (fun τ k => f_serve τ nb h k) j (f_itr (fun τ k => f_ring τ h k) ns σ)) (κ) (k := j) (w := 4) (by omega) (by decide) _) (cwV 2 hts gX4_hourOn_X4_sa rfl rfl rfl zdX4_sa ⟨Nat.le_of_ble_eq_true rfl, Nat.le_of_ble_eq_true rfl⟩) ⟨zbl _, va_recv hK hP (ci := 4) (q0 := 0) rfl rfl, zpr hK hP hD⟩ rfl rfl hl.1 rfl (lv_room (Nat.le_of_ble_eq_true rfl)) dX4_hourOn_89 ⟨Nat.zero_le _, Nat.zero_le _⟩) hS (fun r_13 H locs hw hkp hS => ?_)
          have hP := hkp _ hP
          have hw : r_13 = (f_itr (fun τ k => f_serve τ nb h k) j (f_itr (fun τ k => f_ring τ h k) ns σ)) 12 j := hw
          subst hw
          refine lv_if_ne (tgt := 100) hx hb dX4_hourOn_92 (by decide) (fun c_14 => ?_) (fun c_14 => ?_)
          · refine lv_iinc (v := nI (j + 1)) (lv' := [(1, .int (nI (j + 1))), (0, .ref (μ 0))]) hx hb dX4_hourOn_100 hl (k := 1) rfl (nI_1 j) (by decide) rfl (fun ls hl => ?_)
            refine lv_goto (tgt := 45) hx hb dX4_hourOn_103 (by decide) ?_
            have e1 : f_itr (fun τ k => f_serve τ nb h k) (j + 1) (f_itr (fun τ k => f_ring τ h k) ns σ) = f_itr (fun τ k => f_serve τ nb h k) j (f_itr (fun τ k => f_ring τ h k) ns σ) := show f_serve _ nb h j = _ from by rw [f_serve, if_pos c_11, show f_payR (f_itr (fun τ k => f_serve τ nb h k) j (f_itr (fun τ k => f_ring τ h k) ns σ)) h j = (f_itr (fun τ k => f_serve τ nb h k) j (f_itr (fun τ k => f_ring τ h k) ns σ)) from if_neg c_12, if_neg c_14]
            exact ih _ _ _ ⟨by rw [e1]; exact hP, by rw [e1]; exact hD, hS, lv_sub hl [1, 0] rfl⟩
          · refine lv_aload_n hx hb dX4_hourOn_95 rfl (lv_at hl 0 rfl) ?_
            refine lv_iload_n hx hb dX4_hourOn_96 rfl (lv_at hl 1 rfl) ?_
            have hF := zfree hD hS hA
            refine zk_V (va_runV (As := [.int (nI j)]) (rest := []) ⟨hx, hb, hml, hown, hts⟩ (c_X4_look l D cI μ th (f_itr (fun τ k => f_serve τ nb h k) j (f_itr (fun τ k => f_ring τ h k) ns σ)) (κ) (k := j) hC (by omega) hs _) (cwV 1 hts gX4_hourOn_X4_look rfl rfl rfl zdX4_look ⟨Nat.le_of_ble_eq_true rfl, Nat.le_of_ble_eq_true rfl⟩) ⟨zbl _, va_recv hK hP (ci := 4) (q0 := 0) rfl rfl, zpr hK hP hD⟩ rfl rfl hl.1 rfl (lv_room (Nat.le_of_ble_eq_true rfl)) dX4_hourOn_97 ⟨Nat.zero_le _, Nat.zero_le _⟩) hS hF (fun H locs hkp hP1 hD1 hS => ?_)
            have hP := hP1
            have hD := hD1.weaken (fun _ _ _ z => hF _ z)
            have hP : va_P D vwCl (zw_M cI μ th (f_look (f_itr (fun τ k => f_serve τ nb h k) j (f_itr (fun τ k => f_ring τ h k) ns σ)) nb h j) (κ)) H := hP
            have hD : va_D A (zw_M cI μ th (f_look (f_itr (fun τ k => f_serve τ nb h k) j (f_itr (fun τ k => f_ring τ h k) ns σ)) nb h j) (κ)) := hD
            refine lv_iinc (v := nI (j + 1)) (lv' := [(1, .int (nI (j + 1))), (0, .ref (μ 0))]) hx hb dX4_hourOn_100 hl (k := 1) rfl (nI_1 j) (by decide) rfl (fun ls hl => ?_)
            refine lv_goto (tgt := 45) hx hb dX4_hourOn_103 (by decide) ?_
            have e1 : f_itr (fun τ k => f_serve τ nb h k) (j + 1) (f_itr (fun τ k => f_ring τ h k) ns σ) = f_look (f_itr (fun τ k => f_serve τ nb h k) j (f_itr (fun τ k => f_ring τ h k) ns σ)) nb h j := show f_serve _ nb h j = _ from by rw [f_serve, if_pos c_11, show f_payR (f_itr (fun τ k => f_serve τ nb h k) j (f_itr (fun τ k => f_ring τ h k) ns σ)) h j = (f_itr (fun τ k => f_serve τ nb h k) j (f_itr (fun τ k => f_ring τ h k) ns σ)) from if_neg c_12, if_pos c_14]
            exact ih _ _ _ ⟨by rw [e1]; exact hP, by rw [e1]; exact hD, hS, lv_sub hl [1, 0] rfl⟩
        · refine lv_aload_n hx hb dX4_hourOn_81 rfl (lv_at hl 0 rfl) ?_
          refine lv_iload_n hx hb dX4_hourOn_82 rfl (lv_at hl 1 rfl) ?_
          have hF := zfree hD hS hA
          refine zk_V (va_runV (As := [.int (nI j)]) (rest := []) ⟨hx, hb, hml, hown, hts⟩ (c_X4_pay l D cI μ th (f_itr (fun τ k => f_serve τ nb h k) j (f_itr (fun τ k => f_ring τ h k) ns σ)) (κ) (k := j) (by omega) hs.2.1 _) (cwV 1 hts gX4_hourOn_X4_pay rfl rfl rfl zdX4_pay ⟨Nat.le_of_ble_eq_true rfl, Nat.le_of_ble_eq_true rfl⟩) ⟨zbl _, va_recv hK hP (ci := 4) (q0 := 0) rfl rfl, zpr hK hP hD⟩ rfl rfl hl.1 rfl (lv_room (Nat.le_of_ble_eq_true rfl)) dX4_hourOn_83 ⟨Nat.zero_le _, Nat.zero_le _⟩) hS hF (fun H locs hkp hP1 hD1 hS => ?_)
          have hP := hP1
          have hD := hD1.weaken (fun _ _ _ z => hF _ z)
          have hP : va_P D vwCl (zw_M cI μ th (f_pay2 (f_itr (fun τ k => f_serve τ nb h k) j (f_itr (fun τ k => f_ring τ h k) ns σ)) j) (κ)) H := hP
          have hD : va_D A (zw_M cI μ th (f_pay2 (f_itr (fun τ k => f_serve τ nb h k) j (f_itr (fun τ k => f_ring τ h k) ns σ)) j) (κ)) := hD
          have hC := hC.to (f_pay2_0 (f_itr (fun τ k => f_serve τ nb h k) j (f_itr (fun τ k => f_ring τ h k) ns σ)) j) (f_pay2_6 (f_itr (fun τ k => f_serve τ nb h k) j (f_itr (fun τ k => f_ring τ h k) ns σ)) j)
          have hs := sk_pay2 hs
          refine lv_aload_n hx hb dX4_hourOn_86 rfl (lv_at hl 0 rfl) ?_
          refine lv_iload_n hx hb dX4_hourOn_87 rfl (lv_at hl 1 rfl) ?_
          refine lv_iconst (v := 4) hx hb dX4_hourOn_88 (by decide) ?_
          refine zk_R (D := D) (va_runV (As := [.int (nI j), .int 4]) (rest := []) ⟨hx, hb, hml, hown, hts⟩ (c_X4_sa l D cI μ th (f_pay2 (f_itr (fun τ k => f_serve τ nb h k) j (f_itr (fun τ k => f_ring τ h k) ns σ)) j) (κ) (k := j) (w := 4) (by omega) (by decide) _) (cwV 2 hts gX4_hourOn_X4_sa rfl rfl rfl zdX4_sa ⟨Nat.le_of_ble_eq_true rfl, Nat.le_of_ble_eq_true rfl⟩) ⟨zbl _, va_recv hK hP (ci := 4) (q0 := 0) rfl rfl, zpr hK hP hD⟩ rfl rfl hl.1 rfl (lv_room (Nat.le_of_ble_eq_true rfl)) dX4_hourOn_89 ⟨Nat.zero_le _, Nat.zero_le _⟩) hS (fun r_15 H locs hw hkp hS => ?_)
          have hP := hkp _ hP
          have hw : r_15 = (f_pay2 (f_itr (fun τ k => f_serve τ nb h k) j (f_itr (fun τ k => f_ring τ h k) ns σ)) j) 12 j := hw
          subst hw
          refine lv_if_ne (tgt := 100) hx hb dX4_hourOn_92 (by decide) (fun c_16 => ?_) (fun c_16 => ?_)
          · refine lv_iinc (v := nI (j + 1)) (lv' := [(1, .int (nI (j + 1))), (0, .ref (μ 0))]) hx hb dX4_hourOn_100 hl (k := 1) rfl (nI_1 j) (by decide) rfl (fun ls hl => ?_)
            refine lv_goto (tgt := 45) hx hb dX4_hourOn_103 (by decide) ?_
            have e1 : f_itr (fun τ k => f_serve τ nb h k) (j + 1) (f_itr (fun τ k => f_ring τ h k) ns σ) = f_pay2 (f_itr (fun τ k => f_serve τ nb h k) j (f_itr (fun τ k => f_ring τ h k) ns σ)) j := show f_serve _ nb h j = _ from by rw [f_serve, if_pos c_11, show f_payR (f_itr (fun τ k => f_serve τ nb h k) j (f_itr (fun τ k => f_ring τ h k) ns σ)) h j = (f_pay2 (f_itr (fun τ k => f_serve τ nb h k) j (f_itr (fun τ k => f_ring τ h k) ns σ)) j) from by rw [f_payR, if_pos c_12]; rfl, if_neg c_16]
            exact ih _ _ _ ⟨by rw [e1]; exact hP, by rw [e1]; exact hD, hS, lv_sub hl [1, 0] rfl⟩
          · refine lv_aload_n hx hb dX4_hourOn_95 rfl (lv_at hl 0 rfl) ?_
            refine lv_iload_n hx hb dX4_hourOn_96 rfl (lv_at hl 1 rfl) ?_
            have hF := zfree hD hS hA
            refine zk_V (va_runV (As := [.int (nI j)]) (rest := []) ⟨hx, hb, hml, hown, hts⟩ (c_X4_look l D cI μ th (f_pay2 (f_itr (fun τ k => f_serve τ nb h k) j (f_itr (fun τ k => f_ring τ h k) ns σ)) j) (κ) (k := j) hC (by omega) hs _) (cwV 1 hts gX4_hourOn_X4_look rfl rfl rfl zdX4_look ⟨Nat.le_of_ble_eq_true rfl, Nat.le_of_ble_eq_true rfl⟩) ⟨zbl _, va_recv hK hP (ci := 4) (q0 := 0) rfl rfl, zpr hK hP hD⟩ rfl rfl hl.1 rfl (lv_room (Nat.le_of_ble_eq_true rfl)) dX4_hourOn_97 ⟨Nat.zero_le _, Nat.zero_le _⟩) hS hF (fun H locs hkp hP1 hD1 hS => ?_)
            have hP := hP1
            have hD := hD1.weaken (fun _ _ _ z => hF _ z)
            have hP : va_P D vwCl (zw_M cI μ th (f_look (f_pay2 (f_itr (fun τ k => f_serve τ nb h k) j (f_itr (fun τ k => f_ring τ h k) ns σ)) j) nb h j) (κ)) H := hP
            have hD : va_D A (zw_M cI μ th (f_look (f_pay2 (f_itr (fun τ k => f_serve τ nb h k) j (f_itr (fun τ k => f_ring τ h k) ns σ)) j) nb h j) (κ)) := hD
            refine lv_iinc (v := nI (j + 1)) (lv' := [(1, .int (nI (j + 1))), (0, .ref (μ 0))]) hx hb dX4_hourOn_100 hl (k := 1) rfl (nI_1 j) (by decide) rfl (fun ls hl => ?_)
            refine lv_goto (tgt := 45) hx hb dX4_hourOn_103 (by decide) ?_
            have e1 : f_itr (fun τ k => f_serve τ nb h k) (j + 1) (f_itr (fun τ k => f_ring τ h k) ns σ) = f_look (f_pay2 (f_itr (fun τ k => f_serve τ nb h k) j (f_itr (fun τ k => f_ring τ h k) ns σ)) j) nb h j := show f_serve _ nb h j = _ from by rw [f_serve, if_pos c_11, show f_payR (f_itr (fun τ k => f_serve τ nb h k) j (f_itr (fun τ k => f_ring τ h k) ns σ)) h j = (f_pay2 (f_itr (fun τ k => f_serve τ nb h k) j (f_itr (fun τ k => f_ring τ h k) ns σ)) j) from by rw [f_payR, if_pos c_12]; rfl, if_pos c_16]
            exact ih _ _ _ ⟨by rw [e1]; exact hP, by rw [e1]; exact hD, hS, lv_sub hl [1, 0] rfl⟩
      · refine lv_goto (tgt := 100) hx hb dX4_hourOn_66 (by decide) ?_
        refine lv_iinc (v := nI (j + 1)) (lv' := [(1, .int (nI (j + 1))), (0, .ref (μ 0))]) hx hb dX4_hourOn_100 hl (k := 1) rfl (nI_1 j) (by decide) rfl (fun ls hl => ?_)
        refine lv_goto (tgt := 45) hx hb dX4_hourOn_103 (by decide) ?_
        have e1 : f_itr (fun τ k => f_serve τ nb h k) (j + 1) (f_itr (fun τ k => f_ring τ h k) ns σ) = f_itr (fun τ k => f_serve τ nb h k) j (f_itr (fun τ k => f_ring τ h k) ns σ) := show f_serve _ nb h j = _ from by rw [f_serve, if_neg c_11]
        exact ih _ _ _ ⟨by rw [e1]; exact hP, by rw [e1]; exact hD, hS, lv_sub hl [1, 0] rfl⟩
    · obtain ⟨hP, hD, hS, hl⟩ := hI
      have hC := ((hI.ring ns).serve ns).1
      refine lv_iload_n hx hb dX4_hourOn_45 rfl (lv_at hl 1 rfl) ?_
      refine lv_aload_n hx hb dX4_hourOn_46 rfl (lv_at hl 0 rfl) ?_
      refine va_get (D := D) (ci := 4) (v := .int (nI ns)) (C := RX4) (T := TX4) (N := 8) hx hb hts hinX4 hown hK hP 0 rfl rfl 2 (by decide) hf36 (fun _ h9 => h9) (congrArg (fun z => some (Value.int z)) hC.2.2.1) dX4_hourOn_47 ?_
      refine lv_icmp_ge (tgt := 106) hx hb dX4_hourOn_50 (by decide) (fun _ => ?_) (fun c => absurd (Int32.le_refl _) c)
      refine lv_iconst (v := 0) hx hb dX4_hourOn_106 (by decide) ?_
      refine lv_istore_n (lv' := [(1, .int 0), (0, .ref (μ 0))]) hx hb dX4_hourOn_107 rfl hl (by decide) rfl (fun ls hl => ?_)
      refine zk_loop (pc := 108) (fun j H locs ls => va_P D vwCl (zw_M cI μ th (f_itr (fun τ k => f_rest τ h k) j (f_itr (fun τ k => f_serve τ nb h k) ns (f_itr (fun τ k => f_ring τ h k) ns σ))) (κ)) H ∧ va_D A (zw_M cI μ th (f_itr (fun τ k => f_rest τ h k) j (f_itr (fun τ k => f_serve τ nb h k) ns (f_itr (fun τ k => f_ring τ h k) ns σ))) (κ)) ∧ va_S A s.heap H locs ∧ lv_has ls 2 [(0, .ref (μ 0)), (1, .int (nI j))]) ns (fun j hkj ih H locs ls hI => ?_) (fun H locs ls hI => ?_) _ _ _ ⟨hP, hD, hS, lv_sub hl [1, 0] rfl⟩
      · obtain ⟨hP, hD, hS, hl⟩ := hI
        have hIj := ((hI.ring ns).serve ns).rest j
        have hC := hIj.1
        have hs := hIj.2 j hkj
        refine lv_iload_n hx hb dX4_hourOn_108 rfl (lv_at hl 1 rfl) ?_
        refine lv_aload_n hx hb dX4_hourOn_109 rfl (lv_at hl 0 rfl) ?_
        refine va_get (D := D) (ci := 4) (v := .int (nI ns)) (C := RX4) (T := TX4) (N := 8) hx hb hts hinX4 hown hK hP 0 rfl rfl 2 (by decide) hf36 (fun _ h9 => h9) (congrArg (fun z => some (Value.int z)) hC.2.2.1) dX4_hourOn_110 ?_
        refine lv_icmp_ge (tgt := 187) hx hb dX4_hourOn_113 (by decide) (fun c => absurd c (nI_ge hkj (by omega))) (fun _ => ?_)
        refine lv_aload_n hx hb dX4_hourOn_116 rfl (lv_at hl 0 rfl) ?_
        refine lv_iload_n hx hb dX4_hourOn_117 rfl (lv_at hl 1 rfl) ?_
        refine lv_iconst (v := 4) hx hb dX4_hourOn_118 (by decide) ?_
        refine zk_R (D := D) (va_runV (As := [.int (nI j), .int 4]) (rest := []) ⟨hx, hb, hml, hown, hts⟩ (c_X4_sa l D cI μ th (f_itr (fun τ k => f_rest τ h k) j (f_itr (fun τ k => f_serve τ nb h k) ns (f_itr (fun τ k => f_ring τ h k) ns σ))) (κ) (k := j) (w := 4) (by omega) (by decide) _) (cwV 2 hts gX4_hourOn_X4_sa rfl rfl rfl zdX4_sa ⟨Nat.le_of_ble_eq_true rfl, Nat.le_of_ble_eq_true rfl⟩) ⟨zbl _, va_recv hK hP (ci := 4) (q0 := 0) rfl rfl, zpr hK hP hD⟩ rfl rfl hl.1 rfl (lv_room (Nat.le_of_ble_eq_true rfl)) dX4_hourOn_119 ⟨Nat.zero_le _, Nat.zero_le _⟩) hS (fun r_19 H locs hw hkp hS => ?_)
        have hP := hkp _ hP
        have hw : r_19 = (f_itr (fun τ k => f_rest τ h k) j (f_itr (fun τ k => f_serve τ nb h k) ns (f_itr (fun τ k => f_ring τ h k) ns σ))) 12 j := hw
        subst hw
        refine lv_iconst (v := 1) hx hb dX4_hourOn_122 (by decide) ?_
        refine lv_icmp_ne (tgt := 156) hx hb dX4_hourOn_123 (by decide) (fun c_20 => ?_) (fun c_20 => ?_)
        · refine lv_aload_n hx hb dX4_hourOn_156 rfl (lv_at hl 0 rfl) ?_
          refine lv_iload_n hx hb dX4_hourOn_157 rfl (lv_at hl 1 rfl) ?_
          refine lv_iconst (v := 4) hx hb dX4_hourOn_158 (by decide) ?_
          refine zk_R (D := D) (va_runV (As := [.int (nI j), .int 4]) (rest := []) ⟨hx, hb, hml, hown, hts⟩ (c_X4_sa l D cI μ th (f_itr (fun τ k => f_rest τ h k) j (f_itr (fun τ k => f_serve τ nb h k) ns (f_itr (fun τ k => f_ring τ h k) ns σ))) (κ) (k := j) (w := 4) (by omega) (by decide) _) (cwV 2 hts gX4_hourOn_X4_sa rfl rfl rfl zdX4_sa ⟨Nat.le_of_ble_eq_true rfl, Nat.le_of_ble_eq_true rfl⟩) ⟨zbl _, va_recv hK hP (ci := 4) (q0 := 0) rfl rfl, zpr hK hP hD⟩ rfl rfl hl.1 rfl (lv_room (Nat.le_of_ble_eq_true rfl)) dX4_hourOn_159 ⟨Nat.zero_le _, Nat.zero_le _⟩) hS (fun r_21 H locs hw hkp hS => ?_)
          have hP := hkp _ hP
          have hw : r_21 = (f_itr (fun τ k => f_rest τ h k) j (f_itr (fun τ k => f_serve τ nb h k) ns (f_itr (fun τ k => f_ring τ h k) ns σ))) 12 j := hw
          subst hw
          refine lv_iconst (v := 2) hx hb dX4_hourOn_162 (by decide) ?_
          refine lv_icmp_ne (tgt := 181) hx hb dX4_hourOn_163 (by decide) (fun c_22 => ?_) (fun c_22 => ?_)
          · refine lv_iinc (v := nI (j + 1)) (lv' := [(1, .int (nI (j + 1))), (0, .ref (μ 0))]) hx hb dX4_hourOn_181 hl (k := 1) rfl (nI_1 j) (by decide) rfl (fun ls hl => ?_)
            refine lv_goto (tgt := 108) hx hb dX4_hourOn_184 (by decide) ?_
            have e1 : f_itr (fun τ k => f_rest τ h k) (j + 1) (f_itr (fun τ k => f_serve τ nb h k) ns (f_itr (fun τ k => f_ring τ h k) ns σ)) = f_itr (fun τ k => f_rest τ h k) j (f_itr (fun τ k => f_serve τ nb h k) ns (f_itr (fun τ k => f_ring τ h k) ns σ)) := f_rest_up c_20 c_22
            exact ih _ _ _ ⟨by rw [e1]; exact hP, by rw [e1]; exact hD, hS, lv_sub hl [1, 0] rfl⟩
          · refine lv_aload_n hx hb dX4_hourOn_166 rfl (lv_at hl 0 rfl) ?_
            refine lv_iload_n hx hb dX4_hourOn_167 rfl (lv_at hl 1 rfl) ?_
            refine lv_bipush (v := 6) hx hb dX4_hourOn_168 (by decide) ?_
            refine lv_aload_n hx hb dX4_hourOn_170 rfl (lv_at hl 0 rfl) ?_
            refine va_get (D := D) (ci := 4) (v := .ref (μ 4)) (C := RX4) (T := TX4) (N := 8) hx hb hts hinX4 hown hK hP 0 rfl rfl 6 (by decide) hf19 (fun _ h9 => h9) rfl dX4_hourOn_171 ?_
            refine lv_iconst (v := 0) hx hb dX4_hourOn_174 (by decide) ?_
            refine zk_ld hx hb hK hP 4 0 rfl rfl (k := 0) (by omega) (by decide) (v := nI h) ((zenc_0 (f_itr (fun τ k => f_rest τ h k) j (f_itr (fun τ k => f_serve τ nb h k) ns (f_itr (fun τ k => f_ring τ h k) ns σ))) (by decide)).trans hC.2.2.2.2.1) dX4_hourOn_175 ?_
            refine lv_iconst (v := 2) hx hb dX4_hourOn_176 (by decide) ?_
            refine zk_rem (x := h) (y := 2) hx hb dX4_hourOn_177 (by omega) (by decide) (by decide) ?_
            have hF := zfree hD hS hA
            refine zk_V (va_runV (As := [.int (nI j), .int 6, .int (nI (h % 2))]) (rest := []) ⟨hx, hb, hml, hown, hts⟩ (c_X4_more l D cI μ th (f_itr (fun τ k => f_rest τ h k) j (f_itr (fun τ k => f_serve τ nb h k) ns (f_itr (fun τ k => f_ring τ h k) ns σ))) (κ) (k := j) (w := 6) (by omega) (by decide) (nI (h % 2)) _) (cwV 3 hts gX4_hourOn_X4_more rfl rfl rfl zdX4_more ⟨Nat.le_of_ble_eq_true rfl, Nat.le_of_ble_eq_true rfl⟩) ⟨zbl _, va_recv hK hP (ci := 4) (q0 := 0) rfl rfl, zpr hK hP hD⟩ rfl rfl hl.1 rfl (lv_room (Nat.le_of_ble_eq_true rfl)) dX4_hourOn_178 ⟨Nat.zero_le _, Nat.zero_le _⟩) hS hF (fun H locs hkp hP1 hD1 hS => ?_)
            have hP := hP1
            have hD := hD1.weaken (fun _ _ _ z => hF _ z)
            have hP : va_P D vwCl (zw_M cI μ th (zs (f_itr (fun τ k => f_rest τ h k) j (f_itr (fun τ k => f_serve τ nb h k) ns (f_itr (fun τ k => f_ring τ h k) ns σ))) 14 j (((f_itr (fun τ k => f_rest τ h k) j (f_itr (fun τ k => f_serve τ nb h k) ns (f_itr (fun τ k => f_ring τ h k) ns σ))) 14 j) + (nI (h % 2)))) (κ)) H := hP
            have hD : va_D A (zw_M cI μ th (zs (f_itr (fun τ k => f_rest τ h k) j (f_itr (fun τ k => f_serve τ nb h k) ns (f_itr (fun τ k => f_ring τ h k) ns σ))) 14 j (((f_itr (fun τ k => f_rest τ h k) j (f_itr (fun τ k => f_serve τ nb h k) ns (f_itr (fun τ k => f_ring τ h k) ns σ))) 14 j) + (nI (h % 2)))) (κ)) := hD
            refine lv_iinc (v := nI (j + 1)) (lv' := [(1, .int (nI (j + 1))), (0, .ref (μ 0))]) hx hb dX4_hourOn_181 hl (k := 1) rfl (nI_1 j) (by decide) rfl (fun ls hl => ?_)
            refine lv_goto (tgt := 108) hx hb dX4_hourOn_184 (by decide) ?_
            have e1 : f_itr (fun τ k => f_rest τ h k) (j + 1) (f_itr (fun τ k => f_serve τ nb h k) ns (f_itr (fun τ k => f_ring τ h k) ns σ)) = zs (f_itr (fun τ k => f_rest τ h k) j (f_itr (fun τ k => f_serve τ nb h k) ns (f_itr (fun τ k => f_ring τ h k) ns σ))) 14 j (((f_itr (fun τ k => f_rest τ h k) j (f_itr (fun τ k => f_serve τ nb h k) ns (f_itr (fun τ k => f_ring τ h k) ns σ))) 14 j) + (nI (h % 2))) := show zs _ 14 j (_ + f_roh _ h j) = _ from by rw [f_roh, if_neg c_20, if_pos c_22, zpar]
            exact ih _ _ _ ⟨by rw [e1]; exact hP, by rw [e1]; exact hD, hS, lv_sub hl [1, 0] rfl⟩
        · obtain ⟨b, hb9, eb⟩ := hs.lies c_20
          refine lv_aload_n hx hb dX4_hourOn_126 rfl (lv_at hl 0 rfl) ?_
          refine lv_iload_n hx hb dX4_hourOn_127 rfl (lv_at hl 1 rfl) ?_
          refine lv_bipush (v := 6) hx hb dX4_hourOn_128 (by decide) ?_
          refine lv_aload_n hx hb dX4_hourOn_130 rfl (lv_at hl 0 rfl) ?_
          refine lv_aload_n hx hb dX4_hourOn_131 rfl (lv_at hl 0 rfl) ?_
          refine lv_iload_n hx hb dX4_hourOn_132 rfl (lv_at hl 1 rfl) ?_
          refine lv_iconst (v := 5) hx hb dX4_hourOn_133 (by decide) ?_
          refine zk_R (D := D) (va_runV (As := [.int (nI j), .int 5]) (rest := [.ref (μ 0), .int 6, .int (nI j), .ref (μ 0)]) ⟨hx, hb, hml, hown, hts⟩ (c_X4_sa l D cI μ th (f_itr (fun τ k => f_rest τ h k) j (f_itr (fun τ k => f_serve τ nb h k) ns (f_itr (fun τ k => f_ring τ h k) ns σ))) (κ) (k := j) (w := 5) (by omega) (by decide) _) (cwV 2 hts gX4_hourOn_X4_sa rfl rfl rfl zdX4_sa ⟨Nat.le_of_ble_eq_true rfl, Nat.le_of_ble_eq_true rfl⟩) ⟨zbl _, va_recv hK hP (ci := 4) (q0 := 0) rfl rfl, zpr hK hP hD⟩ rfl rfl hl.1 rfl (lv_room (Nat.le_of_ble_eq_true rfl)) dX4_hourOn_134 ⟨Nat.zero_le _, Nat.zero_le _⟩) hS (fun r_23 H locs hw hkp hS => ?_)
          have hP := hkp _ hP
          have hw : r_23 = nI b := (show _ = _ from hw).trans eb
          subst hw
          refine lv_iconst (v := 0) hx hb dX4_hourOn_137 (by decide) ?_
          refine zk_R (D := D) (va_runV (As := [.int (nI b), .int 0]) (rest := [.int 6, .int (nI j), .ref (μ 0)]) ⟨hx, hb, hml, hown, hts⟩ (c_X4_be l D cI μ th (f_itr (fun τ k => f_rest τ h k) j (f_itr (fun τ k => f_serve τ nb h k) ns (f_itr (fun τ k => f_ring τ h k) ns σ))) (κ) (b := b) (w := 0) (by omega) (by decide) _) (cwV 2 hts gX4_hourOn_X4_be rfl rfl rfl zdX4_be ⟨Nat.le_of_ble_eq_true rfl, Nat.le_of_ble_eq_true rfl⟩) ⟨zbl _, va_recv hK hP (ci := 4) (q0 := 0) rfl rfl, zpr hK hP hD⟩ rfl rfl hl.1 rfl (lv_room (Nat.le_of_ble_eq_true rfl)) dX4_hourOn_138 ⟨Nat.zero_le _, Nat.zero_le _⟩) hS (fun r_24 H locs hw hkp hS => ?_)
          have hP := hkp _ hP
          have hw : r_24 = (f_itr (fun τ k => f_rest τ h k) j (f_itr (fun τ k => f_serve τ nb h k) ns (f_itr (fun τ k => f_ring τ h k) ns σ))) 2 b := hw
          subst hw
          refine lv_iconst (v := 4) hx hb dX4_hourOn_141 (by decide) ?_
          refine lv_icmp_lt (tgt := 149) hx hb dX4_hourOn_142 (by decide) (fun c_25 => ?_) (fun c_25 => ?_)
          · refine lv_iconst (v := 1) hx hb dX4_hourOn_149 (by decide) ?_
            have hF := zfree hD hS hA
            refine zk_V (va_runV (As := [.int (nI j), .int 6, .int 1]) (rest := []) ⟨hx, hb, hml, hown, hts⟩ (c_X4_more l D cI μ th (f_itr (fun τ k => f_rest τ h k) j (f_itr (fun τ k => f_serve τ nb h k) ns (f_itr (fun τ k => f_ring τ h k) ns σ))) (κ) (k := j) (w := 6) (by omega) (by decide) 1 _) (cwV 3 hts gX4_hourOn_X4_more rfl rfl rfl zdX4_more ⟨Nat.le_of_ble_eq_true rfl, Nat.le_of_ble_eq_true rfl⟩) ⟨zbl _, va_recv hK hP (ci := 4) (q0 := 0) rfl rfl, zpr hK hP hD⟩ rfl rfl hl.1 rfl (lv_room (Nat.le_of_ble_eq_true rfl)) dX4_hourOn_150 ⟨Nat.zero_le _, Nat.zero_le _⟩) hS hF (fun H locs hkp hP1 hD1 hS => ?_)
            have hP := hP1
            have hD := hD1.weaken (fun _ _ _ z => hF _ z)
            have hP : va_P D vwCl (zw_M cI μ th (zs (f_itr (fun τ k => f_rest τ h k) j (f_itr (fun τ k => f_serve τ nb h k) ns (f_itr (fun τ k => f_ring τ h k) ns σ))) 14 j (((f_itr (fun τ k => f_rest τ h k) j (f_itr (fun τ k => f_serve τ nb h k) ns (f_itr (fun τ k => f_ring τ h k) ns σ))) 14 j) + 1)) (κ)) H := hP
            have hD : va_D A (zw_M cI μ th (zs (f_itr (fun τ k => f_rest τ h k) j (f_itr (fun τ k => f_serve τ nb h k) ns (f_itr (fun τ k => f_ring τ h k) ns σ))) 14 j (((f_itr (fun τ k => f_rest τ h k) j (f_itr (fun τ k => f_serve τ nb h k) ns (f_itr (fun τ k => f_ring τ h k) ns σ))) 14 j) + 1)) (κ)) := hD
            refine lv_goto (tgt := 181) hx hb dX4_hourOn_153 (by decide) ?_
            refine lv_iinc (v := nI (j + 1)) (lv' := [(1, .int (nI (j + 1))), (0, .ref (μ 0))]) hx hb dX4_hourOn_181 hl (k := 1) rfl (nI_1 j) (by decide) rfl (fun ls hl => ?_)
            refine lv_goto (tgt := 108) hx hb dX4_hourOn_184 (by decide) ?_
            have e1 : f_itr (fun τ k => f_rest τ h k) (j + 1) (f_itr (fun τ k => f_serve τ nb h k) ns (f_itr (fun τ k => f_ring τ h k) ns σ)) = zs (f_itr (fun τ k => f_rest τ h k) j (f_itr (fun τ k => f_serve τ nb h k) ns (f_itr (fun τ k => f_ring τ h k) ns σ))) 14 j (((f_itr (fun τ k => f_rest τ h k) j (f_itr (fun τ k => f_serve τ nb h k) ns (f_itr (fun τ k => f_ring τ h k) ns σ))) 14 j) + 1) := show zs _ 14 j (_ + f_roh _ h j) = _ from by rw [f_roh, if_pos c_20, eb, if_neg (fun z => z.2 (by rw [nI_clamp (by omega)]; exact c_25))]
            exact ih _ _ _ ⟨by rw [e1]; exact hP, by rw [e1]; exact hD, hS, lv_sub hl [1, 0] rfl⟩
          · refine lv_iconst (v := 2) hx hb dX4_hourOn_145 (by decide) ?_
            refine lv_goto (tgt := 150) hx hb dX4_hourOn_146 (by decide) ?_
            have hF := zfree hD hS hA
            refine zk_V (va_runV (As := [.int (nI j), .int 6, .int 2]) (rest := []) ⟨hx, hb, hml, hown, hts⟩ (c_X4_more l D cI μ th (f_itr (fun τ k => f_rest τ h k) j (f_itr (fun τ k => f_serve τ nb h k) ns (f_itr (fun τ k => f_ring τ h k) ns σ))) (κ) (k := j) (w := 6) (by omega) (by decide) 2 _) (cwV 3 hts gX4_hourOn_X4_more rfl rfl rfl zdX4_more ⟨Nat.le_of_ble_eq_true rfl, Nat.le_of_ble_eq_true rfl⟩) ⟨zbl _, va_recv hK hP (ci := 4) (q0 := 0) rfl rfl, zpr hK hP hD⟩ rfl rfl hl.1 rfl (lv_room (Nat.le_of_ble_eq_true rfl)) dX4_hourOn_150 ⟨Nat.zero_le _, Nat.zero_le _⟩) hS hF (fun H locs hkp hP1 hD1 hS => ?_)
            have hP := hP1
            have hD := hD1.weaken (fun _ _ _ z => hF _ z)
            have hP : va_P D vwCl (zw_M cI μ th (zs (f_itr (fun τ k => f_rest τ h k) j (f_itr (fun τ k => f_serve τ nb h k) ns (f_itr (fun τ k => f_ring τ h k) ns σ))) 14 j (((f_itr (fun τ k => f_rest τ h k) j (f_itr (fun τ k => f_serve τ nb h k) ns (f_itr (fun τ k => f_ring τ h k) ns σ))) 14 j) + 2)) (κ)) H := hP
            have hD : va_D A (zw_M cI μ th (zs (f_itr (fun τ k => f_rest τ h k) j (f_itr (fun τ k => f_serve τ nb h k) ns (f_itr (fun τ k => f_ring τ h k) ns σ))) 14 j (((f_itr (fun τ k => f_rest τ h k) j (f_itr (fun τ k => f_serve τ nb h k) ns (f_itr (fun τ k => f_ring τ h k) ns σ))) 14 j) + 2)) (κ)) := hD
            refine lv_goto (tgt := 181) hx hb dX4_hourOn_153 (by decide) ?_
            refine lv_iinc (v := nI (j + 1)) (lv' := [(1, .int (nI (j + 1))), (0, .ref (μ 0))]) hx hb dX4_hourOn_181 hl (k := 1) rfl (nI_1 j) (by decide) rfl (fun ls hl => ?_)
            refine lv_goto (tgt := 108) hx hb dX4_hourOn_184 (by decide) ?_
            have e1 : f_itr (fun τ k => f_rest τ h k) (j + 1) (f_itr (fun τ k => f_serve τ nb h k) ns (f_itr (fun τ k => f_ring τ h k) ns σ)) = zs (f_itr (fun τ k => f_rest τ h k) j (f_itr (fun τ k => f_serve τ nb h k) ns (f_itr (fun τ k => f_ring τ h k) ns σ))) 14 j (((f_itr (fun τ k => f_rest τ h k) j (f_itr (fun τ k => f_serve τ nb h k) ns (f_itr (fun τ k => f_ring τ h k) ns σ))) 14 j) + 2) := show zs _ 14 j (_ + f_roh _ h j) = _ from by rw [f_roh, if_pos c_20, eb, if_pos ⟨zhas_k hC hb9, by rw [nI_clamp (by omega)]; exact c_25⟩]
            exact ih _ _ _ ⟨by rw [e1]; exact hP, by rw [e1]; exact hD, hS, lv_sub hl [1, 0] rfl⟩
      · obtain ⟨hP, hD, hS, hl⟩ := hI
        have hC := (((hI.ring ns).serve ns).rest ns).1
        refine lv_iload_n hx hb dX4_hourOn_108 rfl (lv_at hl 1 rfl) ?_
        refine lv_aload_n hx hb dX4_hourOn_109 rfl (lv_at hl 0 rfl) ?_
        refine va_get (D := D) (ci := 4) (v := .int (nI ns)) (C := RX4) (T := TX4) (N := 8) hx hb hts hinX4 hown hK hP 0 rfl rfl 2 (by decide) hf36 (fun _ h9 => h9) (congrArg (fun z => some (Value.int z)) hC.2.2.1) dX4_hourOn_110 ?_
        refine lv_icmp_ge (tgt := 187) hx hb dX4_hourOn_113 (by decide) (fun _ => ?_) (fun c => absurd (Int32.le_refl _) c)
        refine lv_iconst (v := 0) hx hb dX4_hourOn_187 (by decide) ?_
        refine lv_istore_n (lv' := [(1, .int 0), (0, .ref (μ 0))]) hx hb dX4_hourOn_188 rfl hl (by decide) rfl (fun ls hl => ?_)
        refine zk_loop (pc := 189) (fun j H locs ls => va_P D vwCl (zw_M cI μ th (f_cool (f_itr (fun τ k => f_rest τ h k) ns (f_itr (fun τ k => f_serve τ nb h k) ns (f_itr (fun τ k => f_ring τ h k) ns σ))) j) (κ)) H ∧ va_D A (zw_M cI μ th (f_cool (f_itr (fun τ k => f_rest τ h k) ns (f_itr (fun τ k => f_serve τ nb h k) ns (f_itr (fun τ k => f_ring τ h k) ns σ))) j) (κ)) ∧ va_S A s.heap H locs ∧ lv_has ls 2 [(0, .ref (μ 0)), (1, .int (nI j))]) nb (fun j hkj ih H locs ls hI => ?_) (fun H locs ls hI => ?_) _ _ _ ⟨hP, hD, hS, lv_sub hl [1, 0] rfl⟩
        · obtain ⟨hP, hD, hS, hl⟩ := hI
          have hC := (((hI.ring ns).serve ns).rest ns).1.cool j
          refine lv_iload_n hx hb dX4_hourOn_189 rfl (lv_at hl 1 rfl) ?_
          refine lv_aload_n hx hb dX4_hourOn_190 rfl (lv_at hl 0 rfl) ?_
          refine va_get (D := D) (ci := 4) (v := .int (nI nb)) (C := RX4) (T := TX4) (N := 8) hx hb hts hinX4 hown hK hP 0 rfl rfl 1 (by decide) hf29 (fun _ h9 => h9) (congrArg (fun z => some (Value.int z)) hC.1) dX4_hourOn_191 ?_
          refine lv_icmp_ge (tgt := 247) hx hb dX4_hourOn_194 (by decide) (fun c => absurd c (nI_ge hkj (by omega))) (fun _ => ?_)
          refine lv_aload_n hx hb dX4_hourOn_197 rfl (lv_at hl 0 rfl) ?_
          refine lv_iload_n hx hb dX4_hourOn_198 rfl (lv_at hl 1 rfl) ?_
          refine lv_iconst (v := 0) hx hb dX4_hourOn_199 (by decide) ?_
          refine lv_aload_n hx hb dX4_hourOn_200 rfl (lv_at hl 0 rfl) ?_
          refine lv_iload_n hx hb dX4_hourOn_201 rfl (lv_at hl 1 rfl) ?_
          refine lv_iconst (v := 3) hx hb dX4_hourOn_202 (by decide) ?_
          refine zk_R (D := D) (va_runV (As := [.int (nI j), .int 3]) (rest := [.int 0, .int (nI j), .ref (μ 0)]) ⟨hx, hb, hml, hown, hts⟩ (c_X4_be l D cI μ th (f_cool (f_itr (fun τ k => f_rest τ h k) ns (f_itr (fun τ k => f_serve τ nb h k) ns (f_itr (fun τ k => f_ring τ h k) ns σ))) j) (κ) (b := j) (w := 3) (by omega) (by decide) _) (cwV 2 hts gX4_hourOn_X4_be rfl rfl rfl zdX4_be ⟨Nat.le_of_ble_eq_true rfl, Nat.le_of_ble_eq_true rfl⟩) ⟨zbl _, va_recv hK hP (ci := 4) (q0 := 0) rfl rfl, zpr hK hP hD⟩ rfl rfl hl.1 rfl (lv_room (Nat.le_of_ble_eq_true rfl)) dX4_hourOn_203 ⟨Nat.zero_le _, Nat.zero_le _⟩) hS (fun r_28 H locs hw hkp hS => ?_)
          have hP := hkp _ hP
          have hw : r_28 = (f_cool (f_itr (fun τ k => f_rest τ h k) ns (f_itr (fun τ k => f_serve τ nb h k) ns (f_itr (fun τ k => f_ring τ h k) ns σ))) j) 5 j := hw
          subst hw
          refine lv_iconst (v := (-1)) hx hb dX4_hourOn_206 (by decide) ?_
          refine lv_icmp_ne (tgt := 225) hx hb dX4_hourOn_207 (by decide) (fun c_29 => ?_) (fun c_29 => ?_)
          · refine lv_bipush (v := 8) hx hb dX4_hourOn_225 (by decide) ?_
            refine lv_aload_n hx hb dX4_hourOn_227 rfl (lv_at hl 0 rfl) ?_
            refine lv_iload_n hx hb dX4_hourOn_228 rfl (lv_at hl 1 rfl) ?_
            refine lv_iconst (v := 0) hx hb dX4_hourOn_229 (by decide) ?_
            refine zk_R (D := D) (va_runV (As := [.int (nI j), .int 0]) (rest := [.int 8, .int 0, .int (nI j), .ref (μ 0)]) ⟨hx, hb, hml, hown, hts⟩ (c_X4_be l D cI μ th (f_cool (f_itr (fun τ k => f_rest τ h k) ns (f_itr (fun τ k => f_serve τ nb h k) ns (f_itr (fun τ k => f_ring τ h k) ns σ))) j) (κ) (b := j) (w := 0) (by omega) (by decide) _) (cwV 2 hts gX4_hourOn_X4_be rfl rfl rfl zdX4_be ⟨Nat.le_of_ble_eq_true rfl, Nat.le_of_ble_eq_true rfl⟩) ⟨zbl _, va_recv hK hP (ci := 4) (q0 := 0) rfl rfl, zpr hK hP hD⟩ rfl rfl hl.1 rfl (lv_room (Nat.le_of_ble_eq_true rfl)) dX4_hourOn_230 ⟨Nat.zero_le _, Nat.zero_le _⟩) hS (fun r_30 H locs hw hkp hS => ?_)
            have hP := hkp _ hP
            have hw : r_30 = (f_cool (f_itr (fun τ k => f_rest τ h k) ns (f_itr (fun τ k => f_serve τ nb h k) ns (f_itr (fun τ k => f_ring τ h k) ns σ))) j) 2 j := hw
            subst hw
            refine lv_iconst (v := 2) hx hb dX4_hourOn_233 (by decide) ?_
            refine lv_iadd hx hb dX4_hourOn_234 ?_
            refine va_mmin hx hb (hml.trans hl.1.symm) hown hml71 hstmin hinM hcomin (Nat.le_of_ble_eq_true rfl) (Nat.le_of_ble_eq_true rfl) (Nat.zero_le _) (Nat.zero_le _) dX4_hourOn_235 ?_
            have hF := zfree hD hS hA
            refine zk_V (va_runV (As := [.int (nI j), .int 0, .int (f_min8 (((f_cool (f_itr (fun τ k => f_rest τ h k) ns (f_itr (fun τ k => f_serve τ nb h k) ns (f_itr (fun τ k => f_ring τ h k) ns σ))) j) 2 j) + 2))]) (rest := []) ⟨hx, hb, hml, hown, hts⟩ (c_X4_letBed l D cI μ th (f_cool (f_itr (fun τ k => f_rest τ h k) ns (f_itr (fun τ k => f_serve τ nb h k) ns (f_itr (fun τ k => f_ring τ h k) ns σ))) j) (κ) (b := j) (w := 0) (by omega) (by decide) (f_min8 (((f_cool (f_itr (fun τ k => f_rest τ h k) ns (f_itr (fun τ k => f_serve τ nb h k) ns (f_itr (fun τ k => f_ring τ h k) ns σ))) j) 2 j) + 2)) _) (cwV 3 hts gX4_hourOn_X4_letBed rfl rfl rfl zdX4_letBed ⟨Nat.le_of_ble_eq_true rfl, Nat.le_of_ble_eq_true rfl⟩) ⟨zbl _, va_recv hK hP (ci := 4) (q0 := 0) rfl rfl, zpr hK hP hD⟩ rfl rfl hl.1 rfl (lv_room (Nat.le_of_ble_eq_true rfl)) dX4_hourOn_238 ⟨Nat.zero_le _, Nat.zero_le _⟩) hS hF (fun H locs hkp hP1 hD1 hS => ?_)
            have hP := hP1
            have hD := hD1.weaken (fun _ _ _ z => hF _ z)
            have hP : va_P D vwCl (zw_M cI μ th (zs (f_cool (f_itr (fun τ k => f_rest τ h k) ns (f_itr (fun τ k => f_serve τ nb h k) ns (f_itr (fun τ k => f_ring τ h k) ns σ))) j) 2 j (f_min8 (((f_cool (f_itr (fun τ k => f_rest τ h k) ns (f_itr (fun τ k => f_serve τ nb h k) ns (f_itr (fun τ k => f_ring τ h k) ns σ))) j) 2 j) + 2))) (κ)) H := hP
            have hD : va_D A (zw_M cI μ th (zs (f_cool (f_itr (fun τ k => f_rest τ h k) ns (f_itr (fun τ k => f_serve τ nb h k) ns (f_itr (fun τ k => f_ring τ h k) ns σ))) j) 2 j (f_min8 (((f_cool (f_itr (fun τ k => f_rest τ h k) ns (f_itr (fun τ k => f_serve τ nb h k) ns (f_itr (fun τ k => f_ring τ h k) ns σ))) j) 2 j) + 2))) (κ)) := hD
            refine lv_iinc (v := nI (j + 1)) (lv' := [(1, .int (nI (j + 1))), (0, .ref (μ 0))]) hx hb dX4_hourOn_241 hl (k := 1) rfl (nI_1 j) (by decide) rfl (fun ls hl => ?_)
            refine lv_goto (tgt := 189) hx hb dX4_hourOn_244 (by decide) ?_
            have e1 : f_cool (f_itr (fun τ k => f_rest τ h k) ns (f_itr (fun τ k => f_serve τ nb h k) ns (f_itr (fun τ k => f_ring τ h k) ns σ))) (j + 1) = zs (f_cool (f_itr (fun τ k => f_rest τ h k) ns (f_itr (fun τ k => f_serve τ nb h k) ns (f_itr (fun τ k => f_ring τ h k) ns σ))) j) 2 j (f_min8 (((f_cool (f_itr (fun τ k => f_rest τ h k) ns (f_itr (fun τ k => f_serve τ nb h k) ns (f_itr (fun τ k => f_ring τ h k) ns σ))) j) 2 j) + 2)) := by rw [f_cool, f_cw, if_neg c_29]
            exact ih _ _ _ ⟨by rw [e1]; exact hP, by rw [e1]; exact hD, hS, lv_sub hl [1, 0] rfl⟩
          · refine lv_iconst (v := 0) hx hb dX4_hourOn_210 (by decide) ?_
            refine lv_aload_n hx hb dX4_hourOn_211 rfl (lv_at hl 0 rfl) ?_
            refine lv_iload_n hx hb dX4_hourOn_212 rfl (lv_at hl 1 rfl) ?_
            refine lv_iconst (v := 0) hx hb dX4_hourOn_213 (by decide) ?_
            refine zk_R (D := D) (va_runV (As := [.int (nI j), .int 0]) (rest := [.int 0, .int 0, .int (nI j), .ref (μ 0)]) ⟨hx, hb, hml, hown, hts⟩ (c_X4_be l D cI μ th (f_cool (f_itr (fun τ k => f_rest τ h k) ns (f_itr (fun τ k => f_serve τ nb h k) ns (f_itr (fun τ k => f_ring τ h k) ns σ))) j) (κ) (b := j) (w := 0) (by omega) (by decide) _) (cwV 2 hts gX4_hourOn_X4_be rfl rfl rfl zdX4_be ⟨Nat.le_of_ble_eq_true rfl, Nat.le_of_ble_eq_true rfl⟩) ⟨zbl _, va_recv hK hP (ci := 4) (q0 := 0) rfl rfl, zpr hK hP hD⟩ rfl rfl hl.1 rfl (lv_room (Nat.le_of_ble_eq_true rfl)) dX4_hourOn_214 ⟨Nat.zero_le _, Nat.zero_le _⟩) hS (fun r_31 H locs hw hkp hS => ?_)
            have hP := hkp _ hP
            have hw : r_31 = (f_cool (f_itr (fun τ k => f_rest τ h k) ns (f_itr (fun τ k => f_serve τ nb h k) ns (f_itr (fun τ k => f_ring τ h k) ns σ))) j) 2 j := hw
            subst hw
            refine lv_iconst (v := 1) hx hb dX4_hourOn_217 (by decide) ?_
            refine lv_isub hx hb dX4_hourOn_218 ?_
            refine va_mmax hx hb (hml.trans hl.1.symm) hown hml99 hstmax hinM hcomax (Nat.le_of_ble_eq_true rfl) (Nat.le_of_ble_eq_true rfl) (Nat.zero_le _) (Nat.zero_le _) dX4_hourOn_219 ?_
            refine lv_goto (tgt := 238) hx hb dX4_hourOn_222 (by decide) ?_
            have hF := zfree hD hS hA
            refine zk_V (va_runV (As := [.int (nI j), .int 0, .int (f_max0 (((f_cool (f_itr (fun τ k => f_rest τ h k) ns (f_itr (fun τ k => f_serve τ nb h k) ns (f_itr (fun τ k => f_ring τ h k) ns σ))) j) 2 j) - 1))]) (rest := []) ⟨hx, hb, hml, hown, hts⟩ (c_X4_letBed l D cI μ th (f_cool (f_itr (fun τ k => f_rest τ h k) ns (f_itr (fun τ k => f_serve τ nb h k) ns (f_itr (fun τ k => f_ring τ h k) ns σ))) j) (κ) (b := j) (w := 0) (by omega) (by decide) (f_max0 (((f_cool (f_itr (fun τ k => f_rest τ h k) ns (f_itr (fun τ k => f_serve τ nb h k) ns (f_itr (fun τ k => f_ring τ h k) ns σ))) j) 2 j) - 1)) _) (cwV 3 hts gX4_hourOn_X4_letBed rfl rfl rfl zdX4_letBed ⟨Nat.le_of_ble_eq_true rfl, Nat.le_of_ble_eq_true rfl⟩) ⟨zbl _, va_recv hK hP (ci := 4) (q0 := 0) rfl rfl, zpr hK hP hD⟩ rfl rfl hl.1 rfl (lv_room (Nat.le_of_ble_eq_true rfl)) dX4_hourOn_238 ⟨Nat.zero_le _, Nat.zero_le _⟩) hS hF (fun H locs hkp hP1 hD1 hS => ?_)
            have hP := hP1
            have hD := hD1.weaken (fun _ _ _ z => hF _ z)
            have hP : va_P D vwCl (zw_M cI μ th (zs (f_cool (f_itr (fun τ k => f_rest τ h k) ns (f_itr (fun τ k => f_serve τ nb h k) ns (f_itr (fun τ k => f_ring τ h k) ns σ))) j) 2 j (f_max0 (((f_cool (f_itr (fun τ k => f_rest τ h k) ns (f_itr (fun τ k => f_serve τ nb h k) ns (f_itr (fun τ k => f_ring τ h k) ns σ))) j) 2 j) - 1))) (κ)) H := hP
            have hD : va_D A (zw_M cI μ th (zs (f_cool (f_itr (fun τ k => f_rest τ h k) ns (f_itr (fun τ k => f_serve τ nb h k) ns (f_itr (fun τ k => f_ring τ h k) ns σ))) j) 2 j (f_max0 (((f_cool (f_itr (fun τ k => f_rest τ h k) ns (f_itr (fun τ k => f_serve τ nb h k) ns (f_itr (fun τ k => f_ring τ h k) ns σ))) j) 2 j) - 1))) (κ)) := hD
            refine lv_iinc (v := nI (j + 1)) (lv' := [(1, .int (nI (j + 1))), (0, .ref (μ 0))]) hx hb dX4_hourOn_241 hl (k := 1) rfl (nI_1 j) (by decide) rfl (fun ls hl => ?_)
            refine lv_goto (tgt := 189) hx hb dX4_hourOn_244 (by decide) ?_
            have e1 : f_cool (f_itr (fun τ k => f_rest τ h k) ns (f_itr (fun τ k => f_serve τ nb h k) ns (f_itr (fun τ k => f_ring τ h k) ns σ))) (j + 1) = zs (f_cool (f_itr (fun τ k => f_rest τ h k) ns (f_itr (fun τ k => f_serve τ nb h k) ns (f_itr (fun τ k => f_ring τ h k) ns σ))) j) 2 j (f_max0 (((f_cool (f_itr (fun τ k => f_rest τ h k) ns (f_itr (fun τ k => f_serve τ nb h k) ns (f_itr (fun τ k => f_ring τ h k) ns σ))) j) 2 j) - 1)) := by rw [f_cool, f_cw, if_pos c_29]
            exact ih _ _ _ ⟨by rw [e1]; exact hP, by rw [e1]; exact hD, hS, lv_sub hl [1, 0] rfl⟩
        · obtain ⟨hP, hD, hS, hl⟩ := hI
          have hC := (((hI.ring ns).serve ns).rest ns).1.cool nb
          refine lv_iload_n hx hb dX4_hourOn_189 rfl (lv_at hl 1 rfl) ?_
          refine lv_aload_n hx hb dX4_hourOn_190 rfl (lv_at hl 0 rfl) ?_
          refine va_get (D := D) (ci := 4) (v := .int (nI nb)) (C := RX4) (T := TX4) (N := 8) hx hb hts hinX4 hown hK hP 0 rfl rfl 1 (by decide) hf29 (fun _ h9 => h9) (congrArg (fun z => some (Value.int z)) hC.1) dX4_hourOn_191 ?_
          refine lv_icmp_ge (tgt := 247) hx hb dX4_hourOn_194 (by decide) (fun _ => ?_) (fun c => absurd (Int32.le_refl _) c)
          refine lv_aload_n hx hb dX4_hourOn_247 rfl (lv_at hl 0 rfl) ?_
          refine va_get (D := D) (ci := 4) (v := .ref (μ 4)) (C := RX4) (T := TX4) (N := 8) hx hb hts hinX4 hown hK hP 0 rfl rfl 6 (by decide) hf19 (fun _ h9 => h9) rfl dX4_hourOn_248 ?_
          refine lv_iconst (v := 0) hx hb dX4_hourOn_251 (by decide) ?_
          refine lv_dup2_11 hx hb dX4_hourOn_252 rfl rfl ?_
          refine zk_ld hx hb hK hP 4 0 rfl rfl (k := 0) (by omega) (by decide) (v := nI h) ((zenc_0 (f_cool (f_itr (fun τ k => f_rest τ h k) ns (f_itr (fun τ k => f_serve τ nb h k) ns (f_itr (fun τ k => f_ring τ h k) ns σ))) nb) (by decide)).trans hC.2.2.2.2.1) dX4_hourOn_253 ?_
          refine lv_iconst (v := 1) hx hb dX4_hourOn_254 (by decide) ?_
          refine zk_add (x := h) (y := 1) hx hb dX4_hourOn_255 ?_
          refine zk_st hx hb hK hP hD hS 4 0 rfl rfl (k := 0) (by omega) (by decide) (zwm_0 cI μ th (f_cool (f_itr (fun τ k => f_rest τ h k) ns (f_itr (fun τ k => f_serve τ nb h k) ns (f_itr (fun τ k => f_ring τ h k) ns σ))) nb) (κ) (by decide) _) dX4_hourOn_256 (fun H locs hP hD hS => ?_)
          have hP : va_P D vwCl (zw_M cI μ th (zs (f_cool (f_itr (fun τ k => f_rest τ h k) ns (f_itr (fun τ k => f_serve τ nb h k) ns (f_itr (fun τ k => f_ring τ h k) ns σ))) nb) 0 0 (nI (h + 1))) (κ)) H := hP
          have hD : va_D A (zw_M cI μ th (zs (f_cool (f_itr (fun τ k => f_rest τ h k) ns (f_itr (fun τ k => f_serve τ nb h k) ns (f_itr (fun τ k => f_ring τ h k) ns σ))) nb) 0 0 (nI (h + 1))) (κ)) := hD
          have e9 : f_hour σ nb ns h = zs (f_cool (f_itr (fun τ k => f_rest τ h k) ns (f_itr (fun τ k => f_serve τ nb h k) ns (f_itr (fun τ k => f_ring τ h k) ns σ))) nb) 0 0 (nI (h + 1)) := by rfl
          have hP9 : va_P D vwCl (zw_M cI μ th (f_hour σ nb ns h) (κ)) H := by rw [e9]; exact hP
          have hD9 : va_D A (zw_M cI μ th (f_hour σ nb ns h) (κ)) := by rw [e9]; exact hD
          exact W.vret hx hb hr (fun t ht hW => ⟨⟨(), rfl, trivial, by rw [ht]; exact hP9, va_K.moved hW.alike hK, hD9⟩, hS.F ht⟩) hS.2.2 dX4_hourOn_257

set_option maxHeartbeats 4000000 in
set_option maxRecDepth 100000 in
theorem c_X4_hoursOn (l : Launch) (D : va_G) (cI : ClassId) (μ : Nat → Nat) (th : Int32) (σ : zS) (κ : Nat → Int32) {n : Nat} {nb ns h : Nat} (hI : zI σ nb ns h) (hn : h + n < 2 ^ 30) : zMV l yX4_hoursOn wsX4_hoursOn ({ frames := 5, cells := 0, slots := 0, locals := 110 }) [.ref (μ 0), .int (nI n)] D [(cI, .int)] (zw_M cI μ th σ (κ)) (zw_M cI μ th (f_hours σ nb ns h n) (κ)) := by
  intro sz
  refine Met.ofW (cc := cX4_hoursOn) (maxL := 3) (ret := none) (by decide) rfl ?_
  intro p e s m args below meth c s₁ B hml hv
  obtain ⟨rfl, hsz, hP, hK, hD⟩ := hv
  have hx := B.exec
  have hb := B.bytes
  have hr := B.returns
  have hts := atoms_spec (ws := wsX4_hoursOn) B.pre
  have hown : s.vm.findClass RX4 = some m.cls := findClass_of_methodNamed B.named
  have hlocks := B.notSynchronized
  subst hsz
  have hD := hD.self (sz := s.heap.size)
  generalize hAe : va_A (zw_M cI μ th σ (κ)) s.heap.size = A at hD ⊢
  have hA : ∀ q : Nat, s.heap.size ≤ q → A q := fun q h => by rw [← hAe]; exact Or.inr h
  have hS : va_S A s.heap s.heap [] := va_S.rf
  have hP : va_P D vwCl (zw_M cI μ th σ (κ)) s.heap := hP
  have hl := lv_entry ([.ref (μ 0), .int (nI n)]) (n := 3) (Nat.le_of_ble_eq_true rfl)
  rw [lg_entry_eq]
  generalize (lg_sl ([.ref (μ 0), .int (nI n)]) ++ List.replicate (3 - (lg_sl ([.ref (μ 0), .int (nI n)])).length) Slot.unset).toArray = ls at hl ⊢
  have hl : lv_has ls 3 [(0, .ref (μ 0)), (1, .int (nI n))] := hl
  refine lv_iconst (v := 0) hx hb dX4_hoursOn_0 (by decide) ?_
  refine lv_istore_n (lv' := [(2, .int 0), (0, .ref (μ 0)), (1, .int (nI n))]) hx hb dX4_hoursOn_1 rfl hl (by decide) rfl (fun ls hl => ?_)
  refine zk_loop (pc := 2) (fun i H locs ls => va_P D vwCl (zw_M cI μ th (f_hours σ nb ns h i) (κ)) H ∧ va_D A (zw_M cI μ th (f_hours σ nb ns h i) (κ)) ∧ va_S A s.heap H locs ∧ lv_has ls 3 [(0, .ref (μ 0)), (1, .int (nI n)), (2, .int (nI i))]) n (fun i hki ih H locs ls hI => ?_) (fun H locs ls hI => ?_) _ _ _ ⟨hP, hD, hS, lv_sub hl [1, 2, 0] rfl⟩
  · obtain ⟨hP, hD, hS, hl⟩ := hI
    refine lv_iload_n hx hb dX4_hoursOn_2 rfl (lv_at hl 2 rfl) ?_
    refine lv_iload_n hx hb dX4_hoursOn_3 rfl (lv_at hl 1 rfl) ?_
    refine lv_icmp_ge (tgt := 17) hx hb dX4_hoursOn_4 (by decide) (fun c => absurd c (nI_ge hki (by omega))) (fun _ => ?_)
    refine lv_aload_n hx hb dX4_hoursOn_7 rfl (lv_at hl 0 rfl) ?_
    have hF := zfree hD hS hA
    refine zk_V (va_runV (As := []) (rest := []) ⟨hx, hb, hml, hown, hts⟩ (c_X4_hourOn l D cI μ th (f_hours σ nb ns h i) (κ) (hI.hours i (by omega)) _) (cwV 0 hts gX4_hoursOn_X4_hourOn rfl rfl rfl zdX4_hourOn ⟨Nat.le_of_ble_eq_true rfl, Nat.le_of_ble_eq_true rfl⟩) ⟨zbl _, va_recv hK hP (ci := 4) (q0 := 0) rfl rfl, zpr hK hP hD⟩ rfl rfl hl.1 rfl (lv_room (Nat.le_of_ble_eq_true rfl)) dX4_hoursOn_8 ⟨Nat.zero_le _, Nat.zero_le _⟩) hS hF (fun H locs hkp hP1 hD1 hS => ?_)
    have hP := hP1
    have hD := hD1.weaken (fun _ _ _ z => hF _ z)
    have hP : va_P D vwCl (zw_M cI μ th (f_hour (f_hours σ nb ns h i) nb ns (h + i)) (κ)) H := hP
    have hD : va_D A (zw_M cI μ th (f_hour (f_hours σ nb ns h i) nb ns (h + i)) (κ)) := hD
    refine lv_iinc (v := nI (i + 1)) (lv' := [(2, .int (nI (i + 1))), (0, .ref (μ 0)), (1, .int (nI n))]) hx hb dX4_hoursOn_11 hl (k := 2) rfl (nI_1 i) (by decide) rfl (fun ls hl => ?_)
    refine lv_goto (tgt := 2) hx hb dX4_hoursOn_14 (by decide) ?_
    have e1 : f_hours σ nb ns h (i + 1) = f_hour (f_hours σ nb ns h i) nb ns (h + i) := rfl
    exact ih _ _ _ ⟨by rw [e1]; exact hP, by rw [e1]; exact hD, hS, lv_sub hl [1, 2, 0] rfl⟩
  · obtain ⟨hP, hD, hS, hl⟩ := hI
    refine lv_iload_n hx hb dX4_hoursOn_2 rfl (lv_at hl 2 rfl) ?_
    refine lv_iload_n hx hb dX4_hoursOn_3 rfl (lv_at hl 1 rfl) ?_
    refine lv_icmp_ge (tgt := 17) hx hb dX4_hoursOn_4 (by decide) (fun _ => ?_) (fun c => absurd (Int32.le_refl _) c)
    have hP9 := hP
    have hD9 := hD
    exact W.vret hx hb hr (fun t ht hW => ⟨⟨(), rfl, trivial, by rw [ht]; exact hP9, va_K.moved hW.alike hK, hD9⟩, hS.F ht⟩) hS.2.2 dX4_hoursOn_17

set_option maxHeartbeats 4000000 in
set_option maxRecDepth 100000 in
theorem c_X4_sum (l : Launch) (D : va_G) (cI : ClassId) (μ : Nat → Nat) (th : Int32) (σ : zS) (κ : Nat → Int32) {w : Nat} {nb ns h : Nat} (hC : zC σ nb ns h) (hw10 : w < 10) : zMR l yX4_sum wsX4_sum ({ frames := 1, cells := 0, slots := 0, locals := 22 }) [.ref (μ 0), .int (nI w)] D [(cI, .int)] (zw_M cI μ th σ (κ)) (fun r => r = f_sum (σ (zrs w)) ns) := by
  intro sz
  refine Met.ofW (cc := cX4_sum) (maxL := 4) (ret := (some .int)) (by decide) rfl ?_
  intro p e s m args below meth c s₁ B hml hv
  obtain ⟨rfl, hsz, hP, hK, hD⟩ := hv
  have hx := B.exec
  have hb := B.bytes
  have hr := B.returns
  have hts := atoms_spec (ws := wsX4_sum) B.pre
  have hown : s.vm.findClass RX4 = some m.cls := findClass_of_methodNamed B.named
  have hlocks := B.notSynchronized
  have hS : va_S (fun _ => False) s.heap s.heap [] := va_S.rf
  have hP : va_P D vwCl (zw_M cI μ th σ (κ)) s.heap := hP
  have hl := lv_entry ([.ref (μ 0), .int (nI w)]) (n := 4) (Nat.le_of_ble_eq_true rfl)
  rw [lg_entry_eq]
  generalize (lg_sl ([.ref (μ 0), .int (nI w)]) ++ List.replicate (4 - (lg_sl ([.ref (μ 0), .int (nI w)])).length) Slot.unset).toArray = ls at hl ⊢
  have hl : lv_has ls 4 [(0, .ref (μ 0)), (1, .int (nI w))] := hl
  have hf36 := hts (.fieldLink RX4 36 "HotBedsModel" "sailors" "I") (by decide +kernel)
  have hinX4 : ∀ w ∈ u_ws RX4 TX4 8, w ∈ wsX4_sum := by decide +kernel
  have hnb := hC.2.1
  have hns := hC.2.2.2.1
  have hh := hC.2.2.2.2.2.1
  refine lv_iconst (v := 0) hx hb dX4_sum_0 (by decide) ?_
  refine lv_istore_n (lv' := [(2, .int 0), (0, .ref (μ 0)), (1, .int (nI w))]) hx hb dX4_sum_1 rfl hl (by decide) rfl (fun ls hl => ?_)
  refine lv_iconst (v := 0) hx hb dX4_sum_2 (by decide) ?_
  refine lv_istore_n (lv' := [(3, .int 0), (2, .int 0), (0, .ref (μ 0)), (1, .int (nI w))]) hx hb dX4_sum_3 rfl hl (by decide) rfl (fun ls hl => ?_)
  refine zk_loop (pc := 4) (fun i H locs ls => va_P D vwCl (zw_M cI μ th σ (κ)) H ∧ va_S (fun _ => False) s.heap H locs ∧ lv_has ls 4 [(0, .ref (μ 0)), (1, .int (nI w)), (2, .int (f_sum (σ (zrs w)) i)), (3, .int (nI i))]) ns (fun i hki ih H locs ls hI => ?_) (fun H locs ls hI => ?_) _ _ _ ⟨hP, hS, lv_sub hl [2, 3, 1, 0] rfl⟩
  · obtain ⟨hP, hS, hl⟩ := hI
    refine lv_iload_n hx hb dX4_sum_4 rfl (lv_at hl 3 rfl) ?_
    refine lv_aload_n hx hb dX4_sum_5 rfl (lv_at hl 0 rfl) ?_
    refine va_get (D := D) (ci := 4) (v := .int (nI ns)) (C := RX4) (T := TX4) (N := 8) hx hb hts hinX4 hown hK hP 0 rfl rfl 2 (by decide) hf36 (fun _ h9 => h9) (congrArg (fun z => some (Value.int z)) hC.2.2.1) dX4_sum_6 ?_
    refine lv_icmp_ge (tgt := 27) hx hb dX4_sum_9 (by decide) (fun c => absurd c (nI_ge hki (by omega))) (fun _ => ?_)
    refine lv_iload_n hx hb dX4_sum_12 rfl (lv_at hl 2 rfl) ?_
    refine lv_aload_n hx hb dX4_sum_13 rfl (lv_at hl 0 rfl) ?_
    refine lv_iload_n hx hb dX4_sum_14 rfl (lv_at hl 3 rfl) ?_
    refine lv_iload_n hx hb dX4_sum_15 rfl (lv_at hl 1 rfl) ?_
    refine zk_R (D := D) (va_runV (As := [.int (nI i), .int (nI w)]) (rest := [.int (f_sum (σ (zrs w)) i)]) ⟨hx, hb, hml, hown, hts⟩ (c_X4_sa l D cI μ th σ (κ) (k := i) (w := w) (by omega) (by omega) _) (cwV 2 hts gX4_sum_X4_sa rfl rfl rfl zdX4_sa ⟨Nat.le_of_ble_eq_true rfl, Nat.le_of_ble_eq_true rfl⟩) ⟨zbl _, va_recv hK hP (ci := 4) (q0 := 0) rfl rfl, zpr hK hP hD⟩ rfl rfl hl.1 rfl (lv_room (Nat.le_of_ble_eq_true rfl)) dX4_sum_16 ⟨Nat.zero_le _, Nat.zero_le _⟩) hS (fun r_2 H locs hw hkp hS => ?_)
    have hP := hkp _ hP
    have hw : r_2 = σ (zrs w) i := hw
    subst hw
    refine lv_iadd hx hb dX4_sum_19 ?_
    refine lv_istore_n (lv' := [(2, .int ((f_sum (σ (zrs w)) i) + (σ (zrs w) i))), (0, .ref (μ 0)), (1, .int (nI w)), (3, .int (nI i))]) hx hb dX4_sum_20 rfl hl (by decide) rfl (fun ls hl => ?_)
    refine lv_iinc (v := nI (i + 1)) (lv' := [(3, .int (nI (i + 1))), (2, .int ((f_sum (σ (zrs w)) i) + (σ (zrs w) i))), (0, .ref (μ 0)), (1, .int (nI w))]) hx hb dX4_sum_21 hl (k := 3) rfl (nI_1 i) (by decide) rfl (fun ls hl => ?_)
    refine lv_goto (tgt := 4) hx hb dX4_sum_24 (by decide) ?_
    exact ih _ _ _ ⟨hP, hS, lv_sub hl [2, 3, 1, 0] rfl⟩
  · obtain ⟨hP, hS, hl⟩ := hI
    refine lv_iload_n hx hb dX4_sum_4 rfl (lv_at hl 3 rfl) ?_
    refine lv_aload_n hx hb dX4_sum_5 rfl (lv_at hl 0 rfl) ?_
    refine va_get (D := D) (ci := 4) (v := .int (nI ns)) (C := RX4) (T := TX4) (N := 8) hx hb hts hinX4 hown hK hP 0 rfl rfl 2 (by decide) hf36 (fun _ h9 => h9) (congrArg (fun z => some (Value.int z)) hC.2.2.1) dX4_sum_6 ?_
    refine lv_icmp_ge (tgt := 27) hx hb dX4_sum_9 (by decide) (fun _ => ?_) (fun c => absurd (Int32.le_refl _) c)
    refine lv_iload_n hx hb dX4_sum_27 rfl (lv_at hl 2 rfl) ?_
    exact W.iret (v := f_sum (σ (zrs w)) ns) hx hb hr (fun t ht hW => ⟨⟨f_sum (σ (zrs w)) ns, (), rfl, rfl, trivial⟩, hS.F ht⟩) hS.2.2 dX4_sum_28

set_option maxHeartbeats 4000000 in
set_option maxRecDepth 100000 in
theorem c_X4_many (l : Launch) (D : va_G) (cI : ClassId) (μ : Nat → Nat) (th : Int32) (σ : zS) (κ : Nat → Int32) (v : Int32) {nb ns h : Nat} (hC : zC σ nb ns h) : zMR l yX4_many wsX4_many ({ frames := 1, cells := 0, slots := 0, locals := 22 }) [.ref (μ 0), .int v] D [(cI, .int)] (zw_M cI μ th σ (κ)) (fun r => r = f_many (σ 12) v ns) := by
  intro sz
  refine Met.ofW (cc := cX4_many) (maxL := 4) (ret := (some .int)) (by decide) rfl ?_
  intro p e s m args below meth c s₁ B hml hv
  obtain ⟨rfl, hsz, hP, hK, hD⟩ := hv
  have hx := B.exec
  have hb := B.bytes
  have hr := B.returns
  have hts := atoms_spec (ws := wsX4_many) B.pre
  have hown : s.vm.findClass RX4 = some m.cls := findClass_of_methodNamed B.named
  have hlocks := B.notSynchronized
  have hS : va_S (fun _ => False) s.heap s.heap [] := va_S.rf
  have hP : va_P D vwCl (zw_M cI μ th σ (κ)) s.heap := hP
  have hl := lv_entry ([.ref (μ 0), .int v]) (n := 4) (Nat.le_of_ble_eq_true rfl)
  rw [lg_entry_eq]
  generalize (lg_sl ([.ref (μ 0), .int v]) ++ List.replicate (4 - (lg_sl ([.ref (μ 0), .int v])).length) Slot.unset).toArray = ls at hl ⊢
  have hl : lv_has ls 4 [(0, .ref (μ 0)), (1, .int v)] := hl
  have hf36 := hts (.fieldLink RX4 36 "HotBedsModel" "sailors" "I") (by decide +kernel)
  have hinX4 : ∀ w ∈ u_ws RX4 TX4 8, w ∈ wsX4_many := by decide +kernel
  have hnb := hC.2.1
  have hns := hC.2.2.2.1
  have hh := hC.2.2.2.2.2.1
  refine lv_iconst (v := 0) hx hb dX4_many_0 (by decide) ?_
  refine lv_istore_n (lv' := [(2, .int 0), (0, .ref (μ 0)), (1, .int v)]) hx hb dX4_many_1 rfl hl (by decide) rfl (fun ls hl => ?_)
  refine lv_iconst (v := 0) hx hb dX4_many_2 (by decide) ?_
  refine lv_istore_n (lv' := [(3, .int 0), (2, .int 0), (0, .ref (μ 0)), (1, .int v)]) hx hb dX4_many_3 rfl hl (by decide) rfl (fun ls hl => ?_)
  refine zk_loop (pc := 4) (fun i H locs ls => va_P D vwCl (zw_M cI μ th σ (κ)) H ∧ va_S (fun _ => False) s.heap H locs ∧ lv_has ls 4 [(0, .ref (μ 0)), (1, .int v), (2, .int (f_many (σ 12) v i)), (3, .int (nI i))]) ns (fun i hki ih H locs ls hI => ?_) (fun H locs ls hI => ?_) _ _ _ ⟨hP, hS, lv_sub hl [2, 3, 1, 0] rfl⟩
  · obtain ⟨hP, hS, hl⟩ := hI
    refine lv_iload_n hx hb dX4_many_4 rfl (lv_at hl 3 rfl) ?_
    refine lv_aload_n hx hb dX4_many_5 rfl (lv_at hl 0 rfl) ?_
    refine va_get (D := D) (ci := 4) (v := .int (nI ns)) (C := RX4) (T := TX4) (N := 8) hx hb hts hinX4 hown hK hP 0 rfl rfl 2 (by decide) hf36 (fun _ h9 => h9) (congrArg (fun z => some (Value.int z)) hC.2.2.1) dX4_many_6 ?_
    refine lv_icmp_ge (tgt := 36) hx hb dX4_many_9 (by decide) (fun c => absurd c (nI_ge hki (by omega))) (fun _ => ?_)
    refine lv_iload_n hx hb dX4_many_12 rfl (lv_at hl 2 rfl) ?_
    refine lv_aload_n hx hb dX4_many_13 rfl (lv_at hl 0 rfl) ?_
    refine lv_iload_n hx hb dX4_many_14 rfl (lv_at hl 3 rfl) ?_
    refine lv_iconst (v := 4) hx hb dX4_many_15 (by decide) ?_
    refine zk_R (D := D) (va_runV (As := [.int (nI i), .int 4]) (rest := [.int (f_many (σ 12) v i)]) ⟨hx, hb, hml, hown, hts⟩ (c_X4_sa l D cI μ th σ (κ) (k := i) (w := 4) (by omega) (by decide) _) (cwV 2 hts gX4_many_X4_sa rfl rfl rfl zdX4_sa ⟨Nat.le_of_ble_eq_true rfl, Nat.le_of_ble_eq_true rfl⟩) ⟨zbl _, va_recv hK hP (ci := 4) (q0 := 0) rfl rfl, zpr hK hP hD⟩ rfl rfl hl.1 rfl (lv_room (Nat.le_of_ble_eq_true rfl)) dX4_many_16 ⟨Nat.zero_le _, Nat.zero_le _⟩) hS (fun r_2 H locs hw hkp hS => ?_)
    have hP := hkp _ hP
    have hw : r_2 = σ 12 i := hw
    subst hw
    refine lv_iload_n hx hb dX4_many_19 rfl (lv_at hl 1 rfl) ?_
    refine lv_icmp_ne (tgt := 27) hx hb dX4_many_20 (by decide) (fun c_3 => ?_) (fun c_3 => ?_)
    · refine lv_iconst (v := 0) hx hb dX4_many_27 (by decide) ?_
      refine lv_iadd hx hb dX4_many_28 ?_
      refine lv_istore_n (lv' := [(2, .int ((f_many (σ 12) v i) + 0)), (0, .ref (μ 0)), (1, .int v), (3, .int (nI i))]) hx hb dX4_many_29 rfl hl (by decide) rfl (fun ls hl => ?_)
      refine lv_iinc (v := nI (i + 1)) (lv' := [(3, .int (nI (i + 1))), (2, .int ((f_many (σ 12) v i) + 0)), (0, .ref (μ 0)), (1, .int v)]) hx hb dX4_many_30 hl (k := 3) rfl (nI_1 i) (by decide) rfl (fun ls hl => ?_)
      refine lv_goto (tgt := 4) hx hb dX4_many_33 (by decide) ?_
      have e1 : f_many (σ 12) v (i + 1) = f_many (σ 12) v i + 0 := by rw [Int32.add_zero]; exact if_neg c_3
      exact ih _ _ _ ⟨hP, hS, by rw [e1]; exact lv_sub hl [2, 3, 1, 0] rfl⟩
    · refine lv_iconst (v := 1) hx hb dX4_many_23 (by decide) ?_
      refine lv_goto (tgt := 28) hx hb dX4_many_24 (by decide) ?_
      refine lv_iadd hx hb dX4_many_28 ?_
      refine lv_istore_n (lv' := [(2, .int ((f_many (σ 12) v i) + 1)), (0, .ref (μ 0)), (1, .int v), (3, .int (nI i))]) hx hb dX4_many_29 rfl hl (by decide) rfl (fun ls hl => ?_)
      refine lv_iinc (v := nI (i + 1)) (lv' := [(3, .int (nI (i + 1))), (2, .int ((f_many (σ 12) v i) + 1)), (0, .ref (μ 0)), (1, .int v)]) hx hb dX4_many_30 hl (k := 3) rfl (nI_1 i) (by decide) rfl (fun ls hl => ?_)
      refine lv_goto (tgt := 4) hx hb dX4_many_33 (by decide) ?_
      have e1 : f_many (σ 12) v (i + 1) = f_many (σ 12) v i + 1 := if_pos c_3
      exact ih _ _ _ ⟨hP, hS, by rw [e1]; exact lv_sub hl [2, 3, 1, 0] rfl⟩
  · obtain ⟨hP, hS, hl⟩ := hI
    refine lv_iload_n hx hb dX4_many_4 rfl (lv_at hl 3 rfl) ?_
    refine lv_aload_n hx hb dX4_many_5 rfl (lv_at hl 0 rfl) ?_
    refine va_get (D := D) (ci := 4) (v := .int (nI ns)) (C := RX4) (T := TX4) (N := 8) hx hb hts hinX4 hown hK hP 0 rfl rfl 2 (by decide) hf36 (fun _ h9 => h9) (congrArg (fun z => some (Value.int z)) hC.2.2.1) dX4_many_6 ?_
    refine lv_icmp_ge (tgt := 36) hx hb dX4_many_9 (by decide) (fun _ => ?_) (fun c => absurd (Int32.le_refl _) c)
    refine lv_iload_n hx hb dX4_many_36 rfl (lv_at hl 2 rfl) ?_
    exact W.iret (v := f_many (σ 12) v ns) hx hb hr (fun t ht hW => ⟨⟨f_many (σ 12) v ns, (), rfl, rfl, trivial⟩, hS.F ht⟩) hS.2.2 dX4_many_37

set_option maxHeartbeats 4000000 in
set_option maxRecDepth 100000 in
theorem c_X4_sailorTold (l : Launch) (D : va_G) (cI : ClassId) (μ : Nat → Nat) (th : Int32) (σ : zS) (κ : Nat → Int32) {k w : Nat} (hk : k < 10) (hw11 : w ≤ 10) : zMR l yX4_sailorTold wsX4_sailorTold ({ frames := 1, cells := 0, slots := 0, locals := 22 }) [.ref (μ 0), .int (nI k), .int (nI w)] D [(cI, .int)] (zw_M cI μ th σ (κ)) (fun r => r = σ (q_row w) k) := by
  intro sz
  refine Met.ofW (cc := cX4_sailorTold) (maxL := 3) (ret := (some .int)) (by decide) rfl ?_
  intro p e s m args below meth c s₁ B hml hv
  obtain ⟨rfl, hsz, hP, hK, hD⟩ := hv
  have hx := B.exec
  have hb := B.bytes
  have hr := B.returns
  have hts := atoms_spec (ws := wsX4_sailorTold) B.pre
  have hown : s.vm.findClass RX4 = some m.cls := findClass_of_methodNamed B.named
  have hlocks := B.notSynchronized
  have hS : va_S (fun _ => False) s.heap s.heap [] := va_S.rf
  have hP : va_P D vwCl (zw_M cI μ th σ (κ)) s.heap := hP
  have hl := lv_entry ([.ref (μ 0), .int (nI k), .int (nI w)]) (n := 3) (Nat.le_of_ble_eq_true rfl)
  rw [lg_entry_eq]
  generalize (lg_sl ([.ref (μ 0), .int (nI k), .int (nI w)]) ++ List.replicate (3 - (lg_sl ([.ref (μ 0), .int (nI k), .int (nI w)])).length) Slot.unset).toArray = ls at hl ⊢
  have hl : lv_has ls 3 [(0, .ref (μ 0)), (1, .int (nI k)), (2, .int (nI w))] := hl
  have hf13 := hts (.fieldLink RX4 13 "HotBedsModel" "heavy" "[I") (by decide +kernel)
  have hf16 := hts (.fieldLink RX4 16 "HotBedsModel" "wages" "[I") (by decide +kernel)
  have hinX4 : ∀ w ∈ u_ws RX4 TX4 8, w ∈ wsX4_sailorTold := by decide +kernel
  refine lv_iload_n hx hb dX4_sailorTold_0 rfl (lv_at hl 2 rfl) ?_
  rcases (show w = 0 ∨ w = 1 ∨ w = 2 ∨ w = 3 ∨ w = 4 ∨ w = 5 ∨ w = 6 ∨ w = 7 ∨ w = 8 ∨ w = 9 ∨ w = 10 by omega) with rfl | rfl | rfl | rfl | rfl | rfl | rfl | rfl | rfl | rfl | rfl
  · refine lv_tableIn hx hb dX4_sailorTold_1 (by decide) (by decide) (off := 27) (by decide) (tgt := 28) (by decide) ?_
    refine lv_aload_n hx hb dX4_sailorTold_28 rfl (lv_at hl 0 rfl) ?_
    refine lv_iload_n hx hb dX4_sailorTold_29 rfl (lv_at hl 1 rfl) ?_
    refine lv_iconst (v := 0) hx hb dX4_sailorTold_30 (by decide) ?_
    refine zk_R (D := D) (va_runV (As := [.int (nI k), .int 0]) (rest := []) ⟨hx, hb, hml, hown, hts⟩ (c_X4_sa l D cI μ th σ (κ) (k := k) (w := 0) hk (by decide) _) (cwV 2 hts gX4_sailorTold_X4_sa rfl rfl rfl zdX4_sa ⟨Nat.le_of_ble_eq_true rfl, Nat.le_of_ble_eq_true rfl⟩) ⟨zbl _, va_recv hK hP (ci := 4) (q0 := 0) rfl rfl, zpr hK hP hD⟩ rfl rfl hl.1 rfl (lv_room (Nat.le_of_ble_eq_true rfl)) dX4_sailorTold_31 ⟨Nat.zero_le _, Nat.zero_le _⟩) hS (fun r_1 H locs hw hkp hS => ?_)
    have hP := hkp _ hP
    have hw : r_1 = σ 6 k := hw
    subst hw
    exact W.iret (v := σ 6 k) hx hb hr (fun t ht hW => ⟨⟨σ 6 k, (), rfl, rfl, trivial⟩, hS.F ht⟩) hS.2.2 dX4_sailorTold_34
  · refine lv_tableIn hx hb dX4_sailorTold_1 (by decide) (by decide) (off := 34) (by decide) (tgt := 35) (by decide) ?_
    refine lv_aload_n hx hb dX4_sailorTold_35 rfl (lv_at hl 0 rfl) ?_
    refine va_get (D := D) (ci := 4) (v := .ref (μ 2)) (C := RX4) (T := TX4) (N := 8) hx hb hts hinX4 hown hK hP 0 rfl rfl 4 (by decide) hf13 (fun _ h9 => h9) rfl dX4_sailorTold_36 ?_
    refine lv_iload_n hx hb dX4_sailorTold_39 rfl (lv_at hl 1 rfl) ?_
    refine zk_ld hx hb hK hP 2 0 rfl rfl (k := k) hk (by decide) (v := σ 7 k) rfl dX4_sailorTold_40 ?_
    exact W.iret (v := σ 7 k) hx hb hr (fun t ht hW => ⟨⟨σ 7 k, (), rfl, rfl, trivial⟩, hS.F ht⟩) hS.2.2 dX4_sailorTold_41
  · refine lv_tableIn hx hb dX4_sailorTold_1 (by decide) (by decide) (off := 41) (by decide) (tgt := 42) (by decide) ?_
    refine lv_aload_n hx hb dX4_sailorTold_42 rfl (lv_at hl 0 rfl) ?_
    refine va_get (D := D) (ci := 4) (v := .ref (μ 3)) (C := RX4) (T := TX4) (N := 8) hx hb hts hinX4 hown hK hP 0 rfl rfl 5 (by decide) hf16 (fun _ h9 => h9) rfl dX4_sailorTold_43 ?_
    refine lv_iload_n hx hb dX4_sailorTold_46 rfl (lv_at hl 1 rfl) ?_
    refine zk_ld hx hb hK hP 3 0 rfl rfl (k := k) hk (by decide) (v := σ 8 k) rfl dX4_sailorTold_47 ?_
    exact W.iret (v := σ 8 k) hx hb hr (fun t ht hW => ⟨⟨σ 8 k, (), rfl, rfl, trivial⟩, hS.F ht⟩) hS.2.2 dX4_sailorTold_48
  · refine lv_tableOut hx hb dX4_sailorTold_1 (by decide) (tgt := 49) (by decide) ?_
    refine lv_aload_n hx hb dX4_sailorTold_49 rfl (lv_at hl 0 rfl) ?_
    refine lv_iload_n hx hb dX4_sailorTold_50 rfl (lv_at hl 1 rfl) ?_
    refine lv_iload_n hx hb dX4_sailorTold_51 rfl (lv_at hl 2 rfl) ?_
    refine lv_iconst (v := 2) hx hb dX4_sailorTold_52 (by decide) ?_
    refine zk_sub (x := 3) (y := 2) hx hb dX4_sailorTold_53 (by omega) ?_
    refine zk_R (D := D) (va_runV (As := [.int (nI k), .int (nI 1)]) (rest := []) ⟨hx, hb, hml, hown, hts⟩ (c_X4_sa l D cI μ th σ (κ) (k := k) (w := 1) hk (by decide) _) (cwV 2 hts gX4_sailorTold_X4_sa rfl rfl rfl zdX4_sa ⟨Nat.le_of_ble_eq_true rfl, Nat.le_of_ble_eq_true rfl⟩) ⟨zbl _, va_recv hK hP (ci := 4) (q0 := 0) rfl rfl, zpr hK hP hD⟩ rfl rfl hl.1 rfl (lv_room (Nat.le_of_ble_eq_true rfl)) dX4_sailorTold_54 ⟨Nat.zero_le _, Nat.zero_le _⟩) hS (fun r_2 H locs hw hkp hS => ?_)
    have hP := hkp _ hP
    have hw : r_2 = σ 9 k := hw
    subst hw
    exact W.iret (v := σ 9 k) hx hb hr (fun t ht hW => ⟨⟨σ 9 k, (), rfl, rfl, trivial⟩, hS.F ht⟩) hS.2.2 dX4_sailorTold_57
  · refine lv_tableOut hx hb dX4_sailorTold_1 (by decide) (tgt := 49) (by decide) ?_
    refine lv_aload_n hx hb dX4_sailorTold_49 rfl (lv_at hl 0 rfl) ?_
    refine lv_iload_n hx hb dX4_sailorTold_50 rfl (lv_at hl 1 rfl) ?_
    refine lv_iload_n hx hb dX4_sailorTold_51 rfl (lv_at hl 2 rfl) ?_
    refine lv_iconst (v := 2) hx hb dX4_sailorTold_52 (by decide) ?_
    refine zk_sub (x := 4) (y := 2) hx hb dX4_sailorTold_53 (by omega) ?_
    refine zk_R (D := D) (va_runV (As := [.int (nI k), .int (nI 2)]) (rest := []) ⟨hx, hb, hml, hown, hts⟩ (c_X4_sa l D cI μ th σ (κ) (k := k) (w := 2) hk (by decide) _) (cwV 2 hts gX4_sailorTold_X4_sa rfl rfl rfl zdX4_sa ⟨Nat.le_of_ble_eq_true rfl, Nat.le_of_ble_eq_true rfl⟩) ⟨zbl _, va_recv hK hP (ci := 4) (q0 := 0) rfl rfl, zpr hK hP hD⟩ rfl rfl hl.1 rfl (lv_room (Nat.le_of_ble_eq_true rfl)) dX4_sailorTold_54 ⟨Nat.zero_le _, Nat.zero_le _⟩) hS (fun r_3 H locs hw hkp hS => ?_)
    have hP := hkp _ hP
    have hw : r_3 = σ 10 k := hw
    subst hw
    exact W.iret (v := σ 10 k) hx hb hr (fun t ht hW => ⟨⟨σ 10 k, (), rfl, rfl, trivial⟩, hS.F ht⟩) hS.2.2 dX4_sailorTold_57
  · refine lv_tableOut hx hb dX4_sailorTold_1 (by decide) (tgt := 49) (by decide) ?_
    refine lv_aload_n hx hb dX4_sailorTold_49 rfl (lv_at hl 0 rfl) ?_
    refine lv_iload_n hx hb dX4_sailorTold_50 rfl (lv_at hl 1 rfl) ?_
    refine lv_iload_n hx hb dX4_sailorTold_51 rfl (lv_at hl 2 rfl) ?_
    refine lv_iconst (v := 2) hx hb dX4_sailorTold_52 (by decide) ?_
    refine zk_sub (x := 5) (y := 2) hx hb dX4_sailorTold_53 (by omega) ?_
    refine zk_R (D := D) (va_runV (As := [.int (nI k), .int (nI 3)]) (rest := []) ⟨hx, hb, hml, hown, hts⟩ (c_X4_sa l D cI μ th σ (κ) (k := k) (w := 3) hk (by decide) _) (cwV 2 hts gX4_sailorTold_X4_sa rfl rfl rfl zdX4_sa ⟨Nat.le_of_ble_eq_true rfl, Nat.le_of_ble_eq_true rfl⟩) ⟨zbl _, va_recv hK hP (ci := 4) (q0 := 0) rfl rfl, zpr hK hP hD⟩ rfl rfl hl.1 rfl (lv_room (Nat.le_of_ble_eq_true rfl)) dX4_sailorTold_54 ⟨Nat.zero_le _, Nat.zero_le _⟩) hS (fun r_4 H locs hw hkp hS => ?_)
    have hP := hkp _ hP
    have hw : r_4 = σ 11 k := hw
    subst hw
    exact W.iret (v := σ 11 k) hx hb hr (fun t ht hW => ⟨⟨σ 11 k, (), rfl, rfl, trivial⟩, hS.F ht⟩) hS.2.2 dX4_sailorTold_57
  · refine lv_tableOut hx hb dX4_sailorTold_1 (by decide) (tgt := 49) (by decide) ?_
    refine lv_aload_n hx hb dX4_sailorTold_49 rfl (lv_at hl 0 rfl) ?_
    refine lv_iload_n hx hb dX4_sailorTold_50 rfl (lv_at hl 1 rfl) ?_
    refine lv_iload_n hx hb dX4_sailorTold_51 rfl (lv_at hl 2 rfl) ?_
    refine lv_iconst (v := 2) hx hb dX4_sailorTold_52 (by decide) ?_
    refine zk_sub (x := 6) (y := 2) hx hb dX4_sailorTold_53 (by omega) ?_
    refine zk_R (D := D) (va_runV (As := [.int (nI k), .int (nI 4)]) (rest := []) ⟨hx, hb, hml, hown, hts⟩ (c_X4_sa l D cI μ th σ (κ) (k := k) (w := 4) hk (by decide) _) (cwV 2 hts gX4_sailorTold_X4_sa rfl rfl rfl zdX4_sa ⟨Nat.le_of_ble_eq_true rfl, Nat.le_of_ble_eq_true rfl⟩) ⟨zbl _, va_recv hK hP (ci := 4) (q0 := 0) rfl rfl, zpr hK hP hD⟩ rfl rfl hl.1 rfl (lv_room (Nat.le_of_ble_eq_true rfl)) dX4_sailorTold_54 ⟨Nat.zero_le _, Nat.zero_le _⟩) hS (fun r_5 H locs hw hkp hS => ?_)
    have hP := hkp _ hP
    have hw : r_5 = σ 12 k := hw
    subst hw
    exact W.iret (v := σ 12 k) hx hb hr (fun t ht hW => ⟨⟨σ 12 k, (), rfl, rfl, trivial⟩, hS.F ht⟩) hS.2.2 dX4_sailorTold_57
  · refine lv_tableOut hx hb dX4_sailorTold_1 (by decide) (tgt := 49) (by decide) ?_
    refine lv_aload_n hx hb dX4_sailorTold_49 rfl (lv_at hl 0 rfl) ?_
    refine lv_iload_n hx hb dX4_sailorTold_50 rfl (lv_at hl 1 rfl) ?_
    refine lv_iload_n hx hb dX4_sailorTold_51 rfl (lv_at hl 2 rfl) ?_
    refine lv_iconst (v := 2) hx hb dX4_sailorTold_52 (by decide) ?_
    refine zk_sub (x := 7) (y := 2) hx hb dX4_sailorTold_53 (by omega) ?_
    refine zk_R (D := D) (va_runV (As := [.int (nI k), .int (nI 5)]) (rest := []) ⟨hx, hb, hml, hown, hts⟩ (c_X4_sa l D cI μ th σ (κ) (k := k) (w := 5) hk (by decide) _) (cwV 2 hts gX4_sailorTold_X4_sa rfl rfl rfl zdX4_sa ⟨Nat.le_of_ble_eq_true rfl, Nat.le_of_ble_eq_true rfl⟩) ⟨zbl _, va_recv hK hP (ci := 4) (q0 := 0) rfl rfl, zpr hK hP hD⟩ rfl rfl hl.1 rfl (lv_room (Nat.le_of_ble_eq_true rfl)) dX4_sailorTold_54 ⟨Nat.zero_le _, Nat.zero_le _⟩) hS (fun r_6 H locs hw hkp hS => ?_)
    have hP := hkp _ hP
    have hw : r_6 = σ 13 k := hw
    subst hw
    exact W.iret (v := σ 13 k) hx hb hr (fun t ht hW => ⟨⟨σ 13 k, (), rfl, rfl, trivial⟩, hS.F ht⟩) hS.2.2 dX4_sailorTold_57
  · refine lv_tableOut hx hb dX4_sailorTold_1 (by decide) (tgt := 49) (by decide) ?_
    refine lv_aload_n hx hb dX4_sailorTold_49 rfl (lv_at hl 0 rfl) ?_
    refine lv_iload_n hx hb dX4_sailorTold_50 rfl (lv_at hl 1 rfl) ?_
    refine lv_iload_n hx hb dX4_sailorTold_51 rfl (lv_at hl 2 rfl) ?_
    refine lv_iconst (v := 2) hx hb dX4_sailorTold_52 (by decide) ?_
    refine zk_sub (x := 8) (y := 2) hx hb dX4_sailorTold_53 (by omega) ?_
    refine zk_R (D := D) (va_runV (As := [.int (nI k), .int (nI 6)]) (rest := []) ⟨hx, hb, hml, hown, hts⟩ (c_X4_sa l D cI μ th σ (κ) (k := k) (w := 6) hk (by decide) _) (cwV 2 hts gX4_sailorTold_X4_sa rfl rfl rfl zdX4_sa ⟨Nat.le_of_ble_eq_true rfl, Nat.le_of_ble_eq_true rfl⟩) ⟨zbl _, va_recv hK hP (ci := 4) (q0 := 0) rfl rfl, zpr hK hP hD⟩ rfl rfl hl.1 rfl (lv_room (Nat.le_of_ble_eq_true rfl)) dX4_sailorTold_54 ⟨Nat.zero_le _, Nat.zero_le _⟩) hS (fun r_7 H locs hw hkp hS => ?_)
    have hP := hkp _ hP
    have hw : r_7 = σ 14 k := hw
    subst hw
    exact W.iret (v := σ 14 k) hx hb hr (fun t ht hW => ⟨⟨σ 14 k, (), rfl, rfl, trivial⟩, hS.F ht⟩) hS.2.2 dX4_sailorTold_57
  · refine lv_tableOut hx hb dX4_sailorTold_1 (by decide) (tgt := 49) (by decide) ?_
    refine lv_aload_n hx hb dX4_sailorTold_49 rfl (lv_at hl 0 rfl) ?_
    refine lv_iload_n hx hb dX4_sailorTold_50 rfl (lv_at hl 1 rfl) ?_
    refine lv_iload_n hx hb dX4_sailorTold_51 rfl (lv_at hl 2 rfl) ?_
    refine lv_iconst (v := 2) hx hb dX4_sailorTold_52 (by decide) ?_
    refine zk_sub (x := 9) (y := 2) hx hb dX4_sailorTold_53 (by omega) ?_
    refine zk_R (D := D) (va_runV (As := [.int (nI k), .int (nI 7)]) (rest := []) ⟨hx, hb, hml, hown, hts⟩ (c_X4_sa l D cI μ th σ (κ) (k := k) (w := 7) hk (by decide) _) (cwV 2 hts gX4_sailorTold_X4_sa rfl rfl rfl zdX4_sa ⟨Nat.le_of_ble_eq_true rfl, Nat.le_of_ble_eq_true rfl⟩) ⟨zbl _, va_recv hK hP (ci := 4) (q0 := 0) rfl rfl, zpr hK hP hD⟩ rfl rfl hl.1 rfl (lv_room (Nat.le_of_ble_eq_true rfl)) dX4_sailorTold_54 ⟨Nat.zero_le _, Nat.zero_le _⟩) hS (fun r_8 H locs hw hkp hS => ?_)
    have hP := hkp _ hP
    have hw : r_8 = σ 15 k := hw
    subst hw
    exact W.iret (v := σ 15 k) hx hb hr (fun t ht hW => ⟨⟨σ 15 k, (), rfl, rfl, trivial⟩, hS.F ht⟩) hS.2.2 dX4_sailorTold_57
  · refine lv_tableOut hx hb dX4_sailorTold_1 (by decide) (tgt := 49) (by decide) ?_
    refine lv_aload_n hx hb dX4_sailorTold_49 rfl (lv_at hl 0 rfl) ?_
    refine lv_iload_n hx hb dX4_sailorTold_50 rfl (lv_at hl 1 rfl) ?_
    refine lv_iload_n hx hb dX4_sailorTold_51 rfl (lv_at hl 2 rfl) ?_
    refine lv_iconst (v := 2) hx hb dX4_sailorTold_52 (by decide) ?_
    refine zk_sub (x := 10) (y := 2) hx hb dX4_sailorTold_53 (by omega) ?_
    refine zk_R (D := D) (va_runV (As := [.int (nI k), .int (nI 8)]) (rest := []) ⟨hx, hb, hml, hown, hts⟩ (c_X4_sa l D cI μ th σ (κ) (k := k) (w := 8) hk (by decide) _) (cwV 2 hts gX4_sailorTold_X4_sa rfl rfl rfl zdX4_sa ⟨Nat.le_of_ble_eq_true rfl, Nat.le_of_ble_eq_true rfl⟩) ⟨zbl _, va_recv hK hP (ci := 4) (q0 := 0) rfl rfl, zpr hK hP hD⟩ rfl rfl hl.1 rfl (lv_room (Nat.le_of_ble_eq_true rfl)) dX4_sailorTold_54 ⟨Nat.zero_le _, Nat.zero_le _⟩) hS (fun r_9 H locs hw hkp hS => ?_)
    have hP := hkp _ hP
    have hw : r_9 = σ 17 k := hw
    subst hw
    exact W.iret (v := σ 17 k) hx hb hr (fun t ht hW => ⟨⟨σ 17 k, (), rfl, rfl, trivial⟩, hS.F ht⟩) hS.2.2 dX4_sailorTold_57

set_option maxHeartbeats 4000000 in
set_option maxRecDepth 100000 in
theorem c_X4_bedTold (l : Launch) (D : va_G) (cI : ClassId) (μ : Nat → Nat) (th : Int32) (σ : zS) (κ : Nat → Int32) {b w : Nat} (hb6 : b < 6) (hw5 : w ≤ 4) : zMR l yX4_bedTold wsX4_bedTold ({ frames := 1, cells := 0, slots := 0, locals := 22 }) [.ref (μ 0), .int (nI b), .int (nI w)] D [(cI, .int)] (zw_M cI μ th σ (κ)) (fun r => r = σ (w + 1) b) := by
  intro sz
  refine Met.ofW (cc := cX4_bedTold) (maxL := 3) (ret := (some .int)) (by decide) rfl ?_
  intro p e s m args below meth c s₁ B hml hv
  obtain ⟨rfl, hsz, hP, hK, hD⟩ := hv
  have hx := B.exec
  have hb := B.bytes
  have hr := B.returns
  have hts := atoms_spec (ws := wsX4_bedTold) B.pre
  have hown : s.vm.findClass RX4 = some m.cls := findClass_of_methodNamed B.named
  have hlocks := B.notSynchronized
  have hS : va_S (fun _ => False) s.heap s.heap [] := va_S.rf
  have hP : va_P D vwCl (zw_M cI μ th σ (κ)) s.heap := hP
  have hl := lv_entry ([.ref (μ 0), .int (nI b), .int (nI w)]) (n := 3) (Nat.le_of_ble_eq_true rfl)
  rw [lg_entry_eq]
  generalize (lg_sl ([.ref (μ 0), .int (nI b), .int (nI w)]) ++ List.replicate (3 - (lg_sl ([.ref (μ 0), .int (nI b), .int (nI w)])).length) Slot.unset).toArray = ls at hl ⊢
  have hl : lv_has ls 3 [(0, .ref (μ 0)), (1, .int (nI b)), (2, .int (nI w))] := hl
  have hf9 := hts (.fieldLink RX4 9 "HotBedsModel" "prices" "[I") (by decide +kernel)
  have hinX4 : ∀ w ∈ u_ws RX4 TX4 8, w ∈ wsX4_bedTold := by decide +kernel
  rcases (show w = 0 ∨ w = 1 ∨ w = 2 ∨ w = 3 ∨ w = 4 by omega) with rfl | rfl | rfl | rfl | rfl
  · refine lv_iload_n hx hb dX4_bedTold_0 rfl (lv_at hl 2 rfl) ?_
    refine lv_if_ne (tgt := 13) hx hb dX4_bedTold_1 (by decide) (fun c => absurd (by decide) c) (fun _ => ?_)
    refine lv_aload_n hx hb dX4_bedTold_4 rfl (lv_at hl 0 rfl) ?_
    refine va_get (D := D) (ci := 4) (v := .ref (μ 1)) (C := RX4) (T := TX4) (N := 8) hx hb hts hinX4 hown hK hP 0 rfl rfl 3 (by decide) hf9 (fun _ h9 => h9) rfl dX4_bedTold_5 ?_
    refine lv_iload_n hx hb dX4_bedTold_8 rfl (lv_at hl 1 rfl) ?_
    refine zk_ld hx hb hK hP 1 0 rfl rfl (k := b) hb6 (by decide) (v := σ 1 b) rfl dX4_bedTold_9 ?_
    refine lv_goto (tgt := 21) hx hb dX4_bedTold_10 (by decide) ?_
    exact W.iret (v := σ 1 b) hx hb hr (fun t ht hW => ⟨⟨σ 1 b, (), rfl, rfl, trivial⟩, hS.F ht⟩) hS.2.2 dX4_bedTold_21
  · refine lv_iload_n hx hb dX4_bedTold_0 rfl (lv_at hl 2 rfl) ?_
    refine lv_if_ne (tgt := 13) hx hb dX4_bedTold_1 (by decide) (fun _ => ?_) (fun c => absurd c (by decide))
    refine lv_aload_n hx hb dX4_bedTold_13 rfl (lv_at hl 0 rfl) ?_
    refine lv_iload_n hx hb dX4_bedTold_14 rfl (lv_at hl 1 rfl) ?_
    refine lv_iload_n hx hb dX4_bedTold_15 rfl (lv_at hl 2 rfl) ?_
    refine lv_iconst (v := 1) hx hb dX4_bedTold_16 (by decide) ?_
    refine zk_sub (x := 1) (y := 1) hx hb dX4_bedTold_17 (by omega) ?_
    refine zk_R (D := D) (va_runV (As := [.int (nI b), .int (nI 0)]) (rest := []) ⟨hx, hb, hml, hown, hts⟩ (c_X4_be l D cI μ th σ (κ) (b := b) (w := 0) hb6 (by decide) _) (cwV 2 hts gX4_bedTold_X4_be rfl rfl rfl zdX4_be ⟨Nat.le_of_ble_eq_true rfl, Nat.le_of_ble_eq_true rfl⟩) ⟨zbl _, va_recv hK hP (ci := 4) (q0 := 0) rfl rfl, zpr hK hP hD⟩ rfl rfl hl.1 rfl (lv_room (Nat.le_of_ble_eq_true rfl)) dX4_bedTold_18 ⟨Nat.zero_le _, Nat.zero_le _⟩) hS (fun r_3 H locs hw hkp hS => ?_)
    have hP := hkp _ hP
    have hw : r_3 = σ 2 b := hw
    subst hw
    exact W.iret (v := σ 2 b) hx hb hr (fun t ht hW => ⟨⟨σ 2 b, (), rfl, rfl, trivial⟩, hS.F ht⟩) hS.2.2 dX4_bedTold_21
  · refine lv_iload_n hx hb dX4_bedTold_0 rfl (lv_at hl 2 rfl) ?_
    refine lv_if_ne (tgt := 13) hx hb dX4_bedTold_1 (by decide) (fun _ => ?_) (fun c => absurd c (by decide))
    refine lv_aload_n hx hb dX4_bedTold_13 rfl (lv_at hl 0 rfl) ?_
    refine lv_iload_n hx hb dX4_bedTold_14 rfl (lv_at hl 1 rfl) ?_
    refine lv_iload_n hx hb dX4_bedTold_15 rfl (lv_at hl 2 rfl) ?_
    refine lv_iconst (v := 1) hx hb dX4_bedTold_16 (by decide) ?_
    refine zk_sub (x := 2) (y := 1) hx hb dX4_bedTold_17 (by omega) ?_
    refine zk_R (D := D) (va_runV (As := [.int (nI b), .int (nI 1)]) (rest := []) ⟨hx, hb, hml, hown, hts⟩ (c_X4_be l D cI μ th σ (κ) (b := b) (w := 1) hb6 (by decide) _) (cwV 2 hts gX4_bedTold_X4_be rfl rfl rfl zdX4_be ⟨Nat.le_of_ble_eq_true rfl, Nat.le_of_ble_eq_true rfl⟩) ⟨zbl _, va_recv hK hP (ci := 4) (q0 := 0) rfl rfl, zpr hK hP hD⟩ rfl rfl hl.1 rfl (lv_room (Nat.le_of_ble_eq_true rfl)) dX4_bedTold_18 ⟨Nat.zero_le _, Nat.zero_le _⟩) hS (fun r_5 H locs hw hkp hS => ?_)
    have hP := hkp _ hP
    have hw : r_5 = σ 3 b := hw
    subst hw
    exact W.iret (v := σ 3 b) hx hb hr (fun t ht hW => ⟨⟨σ 3 b, (), rfl, rfl, trivial⟩, hS.F ht⟩) hS.2.2 dX4_bedTold_21
  · refine lv_iload_n hx hb dX4_bedTold_0 rfl (lv_at hl 2 rfl) ?_
    refine lv_if_ne (tgt := 13) hx hb dX4_bedTold_1 (by decide) (fun _ => ?_) (fun c => absurd c (by decide))
    refine lv_aload_n hx hb dX4_bedTold_13 rfl (lv_at hl 0 rfl) ?_
    refine lv_iload_n hx hb dX4_bedTold_14 rfl (lv_at hl 1 rfl) ?_
    refine lv_iload_n hx hb dX4_bedTold_15 rfl (lv_at hl 2 rfl) ?_
    refine lv_iconst (v := 1) hx hb dX4_bedTold_16 (by decide) ?_
    refine zk_sub (x := 3) (y := 1) hx hb dX4_bedTold_17 (by omega) ?_
    refine zk_R (D := D) (va_runV (As := [.int (nI b), .int (nI 2)]) (rest := []) ⟨hx, hb, hml, hown, hts⟩ (c_X4_be l D cI μ th σ (κ) (b := b) (w := 2) hb6 (by decide) _) (cwV 2 hts gX4_bedTold_X4_be rfl rfl rfl zdX4_be ⟨Nat.le_of_ble_eq_true rfl, Nat.le_of_ble_eq_true rfl⟩) ⟨zbl _, va_recv hK hP (ci := 4) (q0 := 0) rfl rfl, zpr hK hP hD⟩ rfl rfl hl.1 rfl (lv_room (Nat.le_of_ble_eq_true rfl)) dX4_bedTold_18 ⟨Nat.zero_le _, Nat.zero_le _⟩) hS (fun r_7 H locs hw hkp hS => ?_)
    have hP := hkp _ hP
    have hw : r_7 = σ 4 b := hw
    subst hw
    exact W.iret (v := σ 4 b) hx hb hr (fun t ht hW => ⟨⟨σ 4 b, (), rfl, rfl, trivial⟩, hS.F ht⟩) hS.2.2 dX4_bedTold_21
  · refine lv_iload_n hx hb dX4_bedTold_0 rfl (lv_at hl 2 rfl) ?_
    refine lv_if_ne (tgt := 13) hx hb dX4_bedTold_1 (by decide) (fun _ => ?_) (fun c => absurd c (by decide))
    refine lv_aload_n hx hb dX4_bedTold_13 rfl (lv_at hl 0 rfl) ?_
    refine lv_iload_n hx hb dX4_bedTold_14 rfl (lv_at hl 1 rfl) ?_
    refine lv_iload_n hx hb dX4_bedTold_15 rfl (lv_at hl 2 rfl) ?_
    refine lv_iconst (v := 1) hx hb dX4_bedTold_16 (by decide) ?_
    refine zk_sub (x := 4) (y := 1) hx hb dX4_bedTold_17 (by omega) ?_
    refine zk_R (D := D) (va_runV (As := [.int (nI b), .int (nI 3)]) (rest := []) ⟨hx, hb, hml, hown, hts⟩ (c_X4_be l D cI μ th σ (κ) (b := b) (w := 3) hb6 (by decide) _) (cwV 2 hts gX4_bedTold_X4_be rfl rfl rfl zdX4_be ⟨Nat.le_of_ble_eq_true rfl, Nat.le_of_ble_eq_true rfl⟩) ⟨zbl _, va_recv hK hP (ci := 4) (q0 := 0) rfl rfl, zpr hK hP hD⟩ rfl rfl hl.1 rfl (lv_room (Nat.le_of_ble_eq_true rfl)) dX4_bedTold_18 ⟨Nat.zero_le _, Nat.zero_le _⟩) hS (fun r_9 H locs hw hkp hS => ?_)
    have hP := hkp _ hP
    have hw : r_9 = σ 5 b := hw
    subst hw
    exact W.iret (v := σ 5 b) hx hb hr (fun t ht hW => ⟨⟨σ 5 b, (), rfl, rfl, trivial⟩, hS.F ht⟩) hS.2.2 dX4_bedTold_21

set_option maxHeartbeats 4000000 in
set_option maxRecDepth 100000 in
theorem c_X4_counted (l : Launch) (D : va_G) (cI : ClassId) (μ : Nat → Nat) (th : Int32) (σ : zS) (κ : Nat → Int32) {w : Nat} {nb ns h : Nat} (hC : zC σ nb ns h) (hw9 : w ≤ 9) : zMR l yX4_counted wsX4_counted ({ frames := 2, cells := 0, slots := 0, locals := 45 }) [.ref (μ 0), .int (nI w)] D [(cI, .int)] (zw_M cI μ th σ (κ)) (fun r => r = q_cnt σ nb ns h w) := by
  intro sz
  refine Met.ofW (cc := cX4_counted) (maxL := 2) (ret := (some .int)) (by decide) rfl ?_
  intro p e s m args below meth c s₁ B hml hv
  obtain ⟨rfl, hsz, hP, hK, hD⟩ := hv
  have hx := B.exec
  have hb := B.bytes
  have hr := B.returns
  have hts := atoms_spec (ws := wsX4_counted) B.pre
  have hown : s.vm.findClass RX4 = some m.cls := findClass_of_methodNamed B.named
  have hlocks := B.notSynchronized
  have hS : va_S (fun _ => False) s.heap s.heap [] := va_S.rf
  have hP : va_P D vwCl (zw_M cI μ th σ (κ)) s.heap := hP
  have hl := lv_entry ([.ref (μ 0), .int (nI w)]) (n := 2) (Nat.le_of_ble_eq_true rfl)
  rw [lg_entry_eq]
  generalize (lg_sl ([.ref (μ 0), .int (nI w)]) ++ List.replicate (2 - (lg_sl ([.ref (μ 0), .int (nI w)])).length) Slot.unset).toArray = ls at hl ⊢
  have hl : lv_has ls 2 [(0, .ref (μ 0)), (1, .int (nI w))] := hl
  have hf19 := hts (.fieldLink RX4 19 "HotBedsModel" "now" "[I") (by decide +kernel)
  have hf29 := hts (.fieldLink RX4 29 "HotBedsModel" "beds" "I") (by decide +kernel)
  have hf36 := hts (.fieldLink RX4 36 "HotBedsModel" "sailors" "I") (by decide +kernel)
  have hinX4 : ∀ w ∈ u_ws RX4 TX4 8, w ∈ wsX4_counted := by decide +kernel
  have hnb := hC.2.1
  have hns := hC.2.2.2.1
  have hh := hC.2.2.2.2.2.1
  refine lv_iload_n hx hb dX4_counted_0 rfl (lv_at hl 1 rfl) ?_
  rcases (show w = 0 ∨ w = 1 ∨ w = 2 ∨ w = 3 ∨ w = 4 ∨ w = 5 ∨ w = 6 ∨ w = 7 ∨ w = 8 ∨ w = 9 by omega) with rfl | rfl | rfl | rfl | rfl | rfl | rfl | rfl | rfl | rfl
  · refine lv_tableIn hx hb dX4_counted_1 (by decide) (by decide) (off := 51) (by decide) (tgt := 52) (by decide) ?_
    refine lv_aload_n hx hb dX4_counted_52 rfl (lv_at hl 0 rfl) ?_
    refine va_get (D := D) (ci := 4) (v := .ref (μ 4)) (C := RX4) (T := TX4) (N := 8) hx hb hts hinX4 hown hK hP 0 rfl rfl 6 (by decide) hf19 (fun _ h9 => h9) rfl dX4_counted_53 ?_
    refine lv_iconst (v := 0) hx hb dX4_counted_56 (by decide) ?_
    refine zk_ld hx hb hK hP 4 0 rfl rfl (k := 0) (by omega) (by decide) (v := nI h) ((zenc_0 σ (by decide)).trans hC.2.2.2.2.1) dX4_counted_57 ?_
    exact W.iret (v := nI h) hx hb hr (fun t ht hW => ⟨⟨nI h, (), rfl, rfl, trivial⟩, hS.F ht⟩) hS.2.2 dX4_counted_58
  · refine lv_tableIn hx hb dX4_counted_1 (by decide) (by decide) (off := 58) (by decide) (tgt := 59) (by decide) ?_
    refine lv_aload_n hx hb dX4_counted_59 rfl (lv_at hl 0 rfl) ?_
    refine va_get (D := D) (ci := 4) (v := .int (nI nb)) (C := RX4) (T := TX4) (N := 8) hx hb hts hinX4 hown hK hP 0 rfl rfl 1 (by decide) hf29 (fun _ h9 => h9) (congrArg (fun z => some (Value.int z)) hC.1) dX4_counted_60 ?_
    exact W.iret (v := nI nb) hx hb hr (fun t ht hW => ⟨⟨nI nb, (), rfl, rfl, trivial⟩, hS.F ht⟩) hS.2.2 dX4_counted_63
  · refine lv_tableIn hx hb dX4_counted_1 (by decide) (by decide) (off := 63) (by decide) (tgt := 64) (by decide) ?_
    refine lv_aload_n hx hb dX4_counted_64 rfl (lv_at hl 0 rfl) ?_
    refine va_get (D := D) (ci := 4) (v := .int (nI ns)) (C := RX4) (T := TX4) (N := 8) hx hb hts hinX4 hown hK hP 0 rfl rfl 2 (by decide) hf36 (fun _ h9 => h9) (congrArg (fun z => some (Value.int z)) hC.2.2.1) dX4_counted_65 ?_
    exact W.iret (v := nI ns) hx hb hr (fun t ht hW => ⟨⟨nI ns, (), rfl, rfl, trivial⟩, hS.F ht⟩) hS.2.2 dX4_counted_68
  · refine lv_tableIn hx hb dX4_counted_1 (by decide) (by decide) (off := 68) (by decide) (tgt := 69) (by decide) ?_
    refine lv_aload_n hx hb dX4_counted_69 rfl (lv_at hl 0 rfl) ?_
    refine zk_R (D := D) (va_runV (As := []) (rest := []) ⟨hx, hb, hml, hown, hts⟩ (c_X4_watch l D cI μ th σ (κ) hC _) (cwV 0 hts gX4_counted_X4_watch rfl rfl rfl zdX4_watch ⟨Nat.le_of_ble_eq_true rfl, Nat.le_of_ble_eq_true rfl⟩) ⟨zbl _, va_recv hK hP (ci := 4) (q0 := 0) rfl rfl, zpr hK hP hD⟩ rfl rfl hl.1 rfl (lv_room (Nat.le_of_ble_eq_true rfl)) dX4_counted_70 ⟨Nat.zero_le _, Nat.zero_le _⟩) hS (fun r_1 H locs hw hkp hS => ?_)
    have hP := hkp _ hP
    have hw : r_1 = nI (h % 24 / 8) := hw
    subst hw
    exact W.iret (v := nI (h % 24 / 8)) hx hb hr (fun t ht hW => ⟨⟨nI (h % 24 / 8), (), rfl, rfl, trivial⟩, hS.F ht⟩) hS.2.2 dX4_counted_73
  · refine lv_tableIn hx hb dX4_counted_1 (by decide) (by decide) (off := 73) (by decide) (tgt := 74) (by decide) ?_
    refine lv_aload_n hx hb dX4_counted_74 rfl (lv_at hl 0 rfl) ?_
    refine lv_iconst (v := 1) hx hb dX4_counted_75 (by decide) ?_
    refine zk_R (D := D) (va_runV (As := [.int 1]) (rest := []) ⟨hx, hb, hml, hown, hts⟩ (c_X4_many l D cI μ th σ (κ) 1 hC _) (cwV 1 hts gX4_counted_X4_many rfl rfl rfl zdX4_many ⟨Nat.le_of_ble_eq_true rfl, Nat.le_of_ble_eq_true rfl⟩) ⟨zbl _, va_recv hK hP (ci := 4) (q0 := 0) rfl rfl, zpr hK hP hD⟩ rfl rfl hl.1 rfl (lv_room (Nat.le_of_ble_eq_true rfl)) dX4_counted_76 ⟨Nat.zero_le _, Nat.zero_le _⟩) hS (fun r_2 H locs hw hkp hS => ?_)
    have hP := hkp _ hP
    have hw : r_2 = f_many (σ 12) 1 ns := hw
    subst hw
    exact W.iret (v := f_many (σ 12) 1 ns) hx hb hr (fun t ht hW => ⟨⟨f_many (σ 12) 1 ns, (), rfl, rfl, trivial⟩, hS.F ht⟩) hS.2.2 dX4_counted_79
  · refine lv_tableIn hx hb dX4_counted_1 (by decide) (by decide) (off := 79) (by decide) (tgt := 80) (by decide) ?_
    refine lv_aload_n hx hb dX4_counted_80 rfl (lv_at hl 0 rfl) ?_
    refine lv_iconst (v := 2) hx hb dX4_counted_81 (by decide) ?_
    refine zk_R (D := D) (va_runV (As := [.int 2]) (rest := []) ⟨hx, hb, hml, hown, hts⟩ (c_X4_many l D cI μ th σ (κ) 2 hC _) (cwV 1 hts gX4_counted_X4_many rfl rfl rfl zdX4_many ⟨Nat.le_of_ble_eq_true rfl, Nat.le_of_ble_eq_true rfl⟩) ⟨zbl _, va_recv hK hP (ci := 4) (q0 := 0) rfl rfl, zpr hK hP hD⟩ rfl rfl hl.1 rfl (lv_room (Nat.le_of_ble_eq_true rfl)) dX4_counted_82 ⟨Nat.zero_le _, Nat.zero_le _⟩) hS (fun r_3 H locs hw hkp hS => ?_)
    have hP := hkp _ hP
    have hw : r_3 = f_many (σ 12) 2 ns := hw
    subst hw
    exact W.iret (v := f_many (σ 12) 2 ns) hx hb hr (fun t ht hW => ⟨⟨f_many (σ 12) 2 ns, (), rfl, rfl, trivial⟩, hS.F ht⟩) hS.2.2 dX4_counted_85
  · refine lv_tableIn hx hb dX4_counted_1 (by decide) (by decide) (off := 85) (by decide) (tgt := 86) (by decide) ?_
    refine lv_aload_n hx hb dX4_counted_86 rfl (lv_at hl 0 rfl) ?_
    refine lv_bipush (v := 7) hx hb dX4_counted_87 (by decide) ?_
    refine zk_R (D := D) (va_runV (As := [.int 7]) (rest := []) ⟨hx, hb, hml, hown, hts⟩ (c_X4_sum l D cI μ th σ (κ) (w := 7) hC (by decide) _) (cwV 1 hts gX4_counted_X4_sum rfl rfl rfl zdX4_sum ⟨Nat.le_of_ble_eq_true rfl, Nat.le_of_ble_eq_true rfl⟩) ⟨zbl _, va_recv hK hP (ci := 4) (q0 := 0) rfl rfl, zpr hK hP hD⟩ rfl rfl hl.1 rfl (lv_room (Nat.le_of_ble_eq_true rfl)) dX4_counted_89 ⟨Nat.zero_le _, Nat.zero_le _⟩) hS (fun r_4 H locs hw hkp hS => ?_)
    have hP := hkp _ hP
    have hw : r_4 = f_sum (σ 15) ns := hw
    subst hw
    exact W.iret (v := f_sum (σ 15) ns) hx hb hr (fun t ht hW => ⟨⟨f_sum (σ 15) ns, (), rfl, rfl, trivial⟩, hS.F ht⟩) hS.2.2 dX4_counted_92
  · refine lv_tableIn hx hb dX4_counted_1 (by decide) (by decide) (off := 92) (by decide) (tgt := 93) (by decide) ?_
    refine lv_aload_n hx hb dX4_counted_93 rfl (lv_at hl 0 rfl) ?_
    refine lv_bipush (v := 8) hx hb dX4_counted_94 (by decide) ?_
    refine zk_R (D := D) (va_runV (As := [.int 8]) (rest := []) ⟨hx, hb, hml, hown, hts⟩ (c_X4_sum l D cI μ th σ (κ) (w := 8) hC (by decide) _) (cwV 1 hts gX4_counted_X4_sum rfl rfl rfl zdX4_sum ⟨Nat.le_of_ble_eq_true rfl, Nat.le_of_ble_eq_true rfl⟩) ⟨zbl _, va_recv hK hP (ci := 4) (q0 := 0) rfl rfl, zpr hK hP hD⟩ rfl rfl hl.1 rfl (lv_room (Nat.le_of_ble_eq_true rfl)) dX4_counted_96 ⟨Nat.zero_le _, Nat.zero_le _⟩) hS (fun r_5 H locs hw hkp hS => ?_)
    have hP := hkp _ hP
    have hw : r_5 = f_sum (σ 17) ns := hw
    subst hw
    exact W.iret (v := f_sum (σ 17) ns) hx hb hr (fun t ht hW => ⟨⟨f_sum (σ 17) ns, (), rfl, rfl, trivial⟩, hS.F ht⟩) hS.2.2 dX4_counted_99
  · refine lv_tableIn hx hb dX4_counted_1 (by decide) (by decide) (off := 99) (by decide) (tgt := 100) (by decide) ?_
    refine lv_aload_n hx hb dX4_counted_100 rfl (lv_at hl 0 rfl) ?_
    refine va_get (D := D) (ci := 4) (v := .ref (μ 4)) (C := RX4) (T := TX4) (N := 8) hx hb hts hinX4 hown hK hP 0 rfl rfl 6 (by decide) hf19 (fun _ h9 => h9) rfl dX4_counted_101 ?_
    refine lv_iconst (v := 1) hx hb dX4_counted_104 (by decide) ?_
    refine zk_ld hx hb hK hP 4 0 rfl rfl (k := 1) (by omega) (by decide) (v := σ 0 1) (zenc_0 σ (by decide)) dX4_counted_105 ?_
    exact W.iret (v := σ 0 1) hx hb hr (fun t ht hW => ⟨⟨σ 0 1, (), rfl, rfl, trivial⟩, hS.F ht⟩) hS.2.2 dX4_counted_106
  · refine lv_tableOut hx hb dX4_counted_1 (by decide) (tgt := 107) (by decide) ?_
    refine lv_aload_n hx hb dX4_counted_107 rfl (lv_at hl 0 rfl) ?_
    refine va_get (D := D) (ci := 4) (v := .ref (μ 4)) (C := RX4) (T := TX4) (N := 8) hx hb hts hinX4 hown hK hP 0 rfl rfl 6 (by decide) hf19 (fun _ h9 => h9) rfl dX4_counted_108 ?_
    refine lv_iconst (v := 2) hx hb dX4_counted_111 (by decide) ?_
    refine zk_ld hx hb hK hP 4 0 rfl rfl (k := 2) (by omega) (by decide) (v := σ 0 2) (zenc_0 σ (by decide)) dX4_counted_112 ?_
    exact W.iret (v := σ 0 2) hx hb hr (fun t ht hW => ⟨⟨σ 0 2, (), rfl, rfl, trivial⟩, hS.F ht⟩) hS.2.2 dX4_counted_113
