theorem f_warm_k {σ : zS} {nb ns h B b : Nat} {x : Int32} (hV : zV σ nb ns h B) (hb : b < nb) (hx : x = nI b) : f_warm σ x ↔ ¬ σ 2 b ≤ 3 := by
  have hnb := hV.1.2.1
  obtain ⟨w, hw, ew⟩ := (hV.kbd hb).2.2.1
  have e : (¬ σ 2 b < 4) ↔ ¬ σ 2 b ≤ 3 := by
    rw [ew]
    exact not_congr ⟨fun z => nI_le (a := w) (b := 3) (by have := (nI_ltI (a := w) (b := 4) (by omega) (by decide)).mp z; omega) (by decide), fun z => nI_lt (a := w) (b := 4) (by have := (nI_leI (a := w) (b := 3) (by omega) (by decide)).mp z; omega) (by decide)⟩
  rw [hx, ← e]
  constructor
  · intro z
    have z2 := z.2
    rw [nI_clamp (by omega)] at z2
    exact z2
  · intro z
    exact ⟨hV.zhas hb, by rw [nI_clamp (by omega)]; exact z⟩
theorem zodd {h : Nat} (hn : ¬ nI (h % 2) = 1) : nI (h % 2) = 0 := by
  rcases (show h % 2 = 0 ∨ h % 2 = 1 by omega) with e | e
  · rw [e]; rfl
  · rw [e] at hn; exact absurd rfl hn
set_option maxHeartbeats 4000000 in
set_option maxRecDepth 100000 in
theorem p_rest1 {p : Program} {l : Launch} {e : Env} {s : State} {m : MethodId} {args : Array Value} {below : List Frame} {meth : Method} {c : Code} {Q : State → Prop} {D : va_G} {cI cB cS : ClassId} {u bd sl : Nat → Nat} {A : Nat → Prop} {σ : zS} {H : Heap} {locs : List Loc} {ls : Array Slot} (C : zPa p s m args meth c D cI cB cS) (hA : ∀ q : Nat, s.heap.size ≤ q → A q) {nb ns h B k : Nat} (hV : zV σ nb ns h B) (hk : k < ns) (hP : va_P D vwCl (zj cB cS u bd sl nb ns σ) H) (hD : va_D A (zj cB cS u bd sl nb ns σ)) (hS : va_S A s.heap H locs) (hl : lv_has ls 9 [(6, .ref (sl k)), (5, .int (nI k)), (4, .int (nI ns)), (3, .ref (u 2)), (2, .int (nI (h % 8))), (1, .int (nI (h % 24 / 8))), (0, .ref (u 0))])  (kk : ∀ (H : Heap) (locs : List Loc) (ls : Array Slot), va_P D vwCl (zj cB cS u bd sl nb ns (f_rest σ h k)) H → va_D A (zj cB cS u bd sl nb ns (f_rest σ h k)) → va_S A s.heap H locs → lv_has ls 9 [(5, .int (nI k)), (4, .int (nI ns)), (3, .ref (u 2)), (2, .int (nI (h % 8))), (1, .int (nI (h % 24 / 8))), (0, .ref (u 0))] → W p l e zRp s m args below meth c H locs 0 0 Q (F0 m 577 ls [])) : W p l e zRp s m args below meth c H locs 0 0 Q (F0 m 516 ls []) := by
  obtain ⟨hx, hb, hml, hown, hts, hK⟩ := C
  have hnb := hV.1.2.1
  have hns := hV.1.2.2.2.1
  have hh := hV.1.2.2.2.2.2.1
  have hf29 := hts (.fieldLink RX6 29 "HotBedsLaw$Sim" "hour" "I") (by decide +kernel)
  have hf39 := hts (.fieldLink RX6 39 "HotBedsLaw$Bed" "warmth" "I") (by decide +kernel)
  have hf70 := hts (.fieldLink RX6 70 "HotBedsLaw$Sailor" "in" "LHotBedsLaw$Bed;") (by decide +kernel)
  have hf77 := hts (.fieldLink RX6 77 "HotBedsLaw$Sailor" "onFloor" "Z") (by decide +kernel)
  have hf80 := hts (.fieldLink RX6 80 "HotBedsLaw$Sailor" "rest" "I") (by decide +kernel)
  have hinX4 : ∀ w ∈ u_ws RX4 TX4 6, w ∈ wsX6_pass := by decide +kernel
  have hinX5 : ∀ w ∈ u_ws RX5 TX5 13, w ∈ wsX6_pass := by decide +kernel
  have hinX6 : ∀ w ∈ u_ws RX6 TX6 5, w ∈ wsX6_pass := by decide +kernel
  refine lv_aload hx hb dX6_pass_516 (lv_at hl 0 rfl) ?_
  refine lv_dup hx hb dX6_pass_518 rfl ?_
  refine va_get (D := D) (ci := 5) (v := .int (σ 14 k)) (C := RX5) (T := TX5) (N := 13) hx hb hts hinX5 hown hK hP (3 + nb + k) (zjq_S hk) rfl 9 (by decide) hf80 (fun _ h9 => h9) rfl dX6_pass_519 ?_
  refine lv_aload hx hb dX6_pass_522 (lv_at hl 0 rfl) ?_
  rcases zplace ((hV.ksk hk).2.2.2.1) with ⟨e12b_1, b_1, hb_1, e13b_1⟩ | ⟨e12b_1, e13b_1⟩ | ⟨e12b_1, e13b_1⟩
  · refine va_get (D := D) (ci := 5) (v := .ref (bd b_1)) (C := RX5) (T := TX5) (N := 13) hx hb hts hinX5 hown hK hP (3 + nb + k) (zjq_S hk) rfl 7 (by decide) hf70 (fun _ h9 => h9) (congrArg some (zrf_r e13b_1 (by omega))) dX6_pass_524 ?_
    refine lv_ifnull hx hb dX6_pass_527 ?_
    refine lv_aload hx hb dX6_pass_530 (lv_at hl 0 rfl) ?_
    refine va_get (D := D) (ci := 5) (v := .ref (bd b_1)) (C := RX5) (T := TX5) (N := 13) hx hb hts hinX5 hown hK hP (3 + nb + k) (zjq_S hk) rfl 7 (by decide) hf70 (fun _ h9 => h9) (congrArg some (zrf_r e13b_1 (by omega))) dX6_pass_532 ?_
    refine va_get (D := D) (ci := 4) (v := .int (σ 2 b_1)) (C := RX4) (T := TX4) (N := 6) hx hb hts hinX4 hown hK hP (3 + b_1) (zjq_B hb_1) rfl 1 (by decide) hf39 (fun _ h9 => h9) rfl dX6_pass_535 ?_
    refine lv_iconst (v := 3) hx hb dX6_pass_538 (by decide) ?_
    refine lv_icmp_le (tgt := 546) hx hb dX6_pass_539 (by decide) (fun c_2 => ?_) (fun c_2 => ?_)
    · refine lv_iconst (v := 1) hx hb dX6_pass_546 (by decide) ?_
      refine lv_goto (tgt := 573) hx hb dX6_pass_547 (by decide) ?_
      refine lv_iadd hx hb dX6_pass_573 ?_
      refine va_put (D := D) (ci := 5) (v := .int ((σ 14 k) + 1)) (ty := .int) (C := RX5) (T := TX5) (N := 13) hx hb hts hinX5 tyX5 tyX5_ok nmX5 hown hK hP hD hS (3 + nb + k) (zjq_S hk) rfl 9 (by decide) hf80 (fun _ h9 => h9)  rfl (by decide +kernel) rfl rfl (Nat.le_of_ble_eq_true rfl) dX6_pass_574 (fun H locs hP hD hS => ?_)
      have hP : va_P D vwCl (zj cB cS u bd sl nb ns (zs σ 14 k ((σ 14 k) + 1))) H := by rw [← zjw14 hk _]; exact hP
      have hD : va_D A (zj cB cS u bd sl nb ns (zs σ 14 k ((σ 14 k) + 1))) := by rw [← zjw14 hk _]; exact hD
      have e9 : f_rest σ h k = zs σ 14 k ((σ 14 k) + 1) := by unfold f_rest f_roh; rw [if_pos e12b_1, if_neg (fun z => (((f_warm_k hV hb_1 e13b_1)).mp z) c_2)]
      exact kk _ _ _ (by rw [e9]; exact hP) (by rw [e9]; exact hD) hS (lv_sub hl [1, 2, 3, 4, 5, 6] rfl)
    · refine lv_iconst (v := 2) hx hb dX6_pass_542 (by decide) ?_
      refine lv_goto (tgt := 573) hx hb dX6_pass_543 (by decide) ?_
      refine lv_iadd hx hb dX6_pass_573 ?_
      refine va_put (D := D) (ci := 5) (v := .int ((σ 14 k) + 2)) (ty := .int) (C := RX5) (T := TX5) (N := 13) hx hb hts hinX5 tyX5 tyX5_ok nmX5 hown hK hP hD hS (3 + nb + k) (zjq_S hk) rfl 9 (by decide) hf80 (fun _ h9 => h9)  rfl (by decide +kernel) rfl rfl (Nat.le_of_ble_eq_true rfl) dX6_pass_574 (fun H locs hP hD hS => ?_)
      have hP : va_P D vwCl (zj cB cS u bd sl nb ns (zs σ 14 k ((σ 14 k) + 2))) H := by rw [← zjw14 hk _]; exact hP
      have hD : va_D A (zj cB cS u bd sl nb ns (zs σ 14 k ((σ 14 k) + 2))) := by rw [← zjw14 hk _]; exact hD
      have e9 : f_rest σ h k = zs σ 14 k ((σ 14 k) + 2) := by unfold f_rest f_roh; rw [if_pos e12b_1, if_pos (((f_warm_k hV hb_1 e13b_1)).mpr c_2)]
      exact kk _ _ _ (by rw [e9]; exact hP) (by rw [e9]; exact hD) hS (lv_sub hl [1, 2, 3, 4, 5, 6] rfl)
  · refine va_get (D := D) (ci := 5) (v := .null) (C := RX5) (T := TX5) (N := 13) hx hb hts hinX5 hown hK hP (3 + nb + k) (zjq_S hk) rfl 7 (by decide) hf70 (fun _ h9 => h9) (congrArg some (zrf_n e13b_1)) dX6_pass_524 ?_
    refine lv_ifnullN (tgt := 550) hx hb dX6_pass_527 (by decide) ?_
    refine lv_aload hx hb dX6_pass_550 (lv_at hl 0 rfl) ?_
    refine va_get (D := D) (ci := 5) (v := .int 0) (C := RX5) (T := TX5) (N := 13) hx hb hts hinX5 hown hK hP (3 + nb + k) (zjq_S hk) rfl 8 (by decide) hf77 (fun _ h9 => h9) (congrArg (fun z => some (Value.int z)) (zfl_0 e12b_1)) dX6_pass_552 ?_
    refine lv_if_eq (tgt := 572) hx hb dX6_pass_555 (by decide) (fun _ => ?_) (fun c => absurd (by decide) c)
    refine lv_iconst (v := 0) hx hb dX6_pass_572 (by decide) ?_
    refine lv_iadd hx hb dX6_pass_573 ?_
    refine va_put (D := D) (ci := 5) (v := .int ((σ 14 k) + 0)) (ty := .int) (C := RX5) (T := TX5) (N := 13) hx hb hts hinX5 tyX5 tyX5_ok nmX5 hown hK hP hD hS (3 + nb + k) (zjq_S hk) rfl 9 (by decide) hf80 (fun _ h9 => h9)  rfl (by decide +kernel) rfl rfl (Nat.le_of_ble_eq_true rfl) dX6_pass_574 (fun H locs hP hD hS => ?_)
    have hP : va_P D vwCl (zj cB cS u bd sl nb ns (zs σ 14 k ((σ 14 k) + 0))) H := by rw [← zjw14 hk _]; exact hP
    have hD : va_D A (zj cB cS u bd sl nb ns (zs σ 14 k ((σ 14 k) + 0))) := by rw [← zjw14 hk _]; exact hD
    have e9 : f_rest σ h k = zs σ 14 k ((σ 14 k) + 0) := by unfold f_rest f_roh; rw [if_neg (by rw [e12b_1]; decide), if_neg (by rw [e12b_1]; decide)]
    exact kk _ _ _ (by rw [e9]; exact hP) (by rw [e9]; exact hD) hS (lv_sub hl [1, 2, 3, 4, 5, 6] rfl)
  · refine va_get (D := D) (ci := 5) (v := .null) (C := RX5) (T := TX5) (N := 13) hx hb hts hinX5 hown hK hP (3 + nb + k) (zjq_S hk) rfl 7 (by decide) hf70 (fun _ h9 => h9) (congrArg some (zrf_n e13b_1)) dX6_pass_524 ?_
    refine lv_ifnullN (tgt := 550) hx hb dX6_pass_527 (by decide) ?_
    refine lv_aload hx hb dX6_pass_550 (lv_at hl 0 rfl) ?_
    refine va_get (D := D) (ci := 5) (v := .int 1) (C := RX5) (T := TX5) (N := 13) hx hb hts hinX5 hown hK hP (3 + nb + k) (zjq_S hk) rfl 8 (by decide) hf77 (fun _ h9 => h9) (congrArg (fun z => some (Value.int z)) (zfl_2 e12b_1)) dX6_pass_552 ?_
    refine lv_if_eq (tgt := 572) hx hb dX6_pass_555 (by decide) (fun c => absurd c (by decide)) (fun _ => ?_)
    refine lv_aload_n hx hb dX6_pass_558 rfl (lv_at hl 6 rfl) ?_
    refine va_get (D := D) (ci := 6) (v := .int (nI h)) (C := RX6) (T := TX6) (N := 5) hx hb hts hinX6 hown hK hP 0 rfl rfl 0 (by decide) hf29 (fun _ h9 => h9) (congrArg (fun z => some (Value.int z)) hV.1.2.2.2.2.1) dX6_pass_559 ?_
    refine lv_iconst (v := 2) hx hb dX6_pass_562 (by decide) ?_
    refine zk_rem (x := h) (y := 2) hx hb dX6_pass_563 (by omega) (by decide) (by decide) ?_
    refine lv_iconst (v := 1) hx hb dX6_pass_564 (by decide) ?_
    refine lv_icmp_ne (tgt := 572) hx hb dX6_pass_565 (by decide) (fun c_5 => ?_) (fun c_5 => ?_)
    · refine lv_iconst (v := 0) hx hb dX6_pass_572 (by decide) ?_
      refine lv_iadd hx hb dX6_pass_573 ?_
      refine va_put (D := D) (ci := 5) (v := .int ((σ 14 k) + 0)) (ty := .int) (C := RX5) (T := TX5) (N := 13) hx hb hts hinX5 tyX5 tyX5_ok nmX5 hown hK hP hD hS (3 + nb + k) (zjq_S hk) rfl 9 (by decide) hf80 (fun _ h9 => h9)  rfl (by decide +kernel) rfl rfl (Nat.le_of_ble_eq_true rfl) dX6_pass_574 (fun H locs hP hD hS => ?_)
      have hP : va_P D vwCl (zj cB cS u bd sl nb ns (zs σ 14 k ((σ 14 k) + 0))) H := by rw [← zjw14 hk _]; exact hP
      have hD : va_D A (zj cB cS u bd sl nb ns (zs σ 14 k ((σ 14 k) + 0))) := by rw [← zjw14 hk _]; exact hD
      have e9 : f_rest σ h k = zs σ 14 k ((σ 14 k) + 0) := by unfold f_rest f_roh; rw [if_neg (by rw [e12b_1]; decide), if_pos e12b_1, if_pos (zodd c_5)]
      exact kk _ _ _ (by rw [e9]; exact hP) (by rw [e9]; exact hD) hS (lv_sub hl [1, 2, 3, 4, 5, 6] rfl)
    · refine lv_iconst (v := 1) hx hb dX6_pass_568 (by decide) ?_
      refine lv_goto (tgt := 573) hx hb dX6_pass_569 (by decide) ?_
      refine lv_iadd hx hb dX6_pass_573 ?_
      refine va_put (D := D) (ci := 5) (v := .int ((σ 14 k) + 1)) (ty := .int) (C := RX5) (T := TX5) (N := 13) hx hb hts hinX5 tyX5 tyX5_ok nmX5 hown hK hP hD hS (3 + nb + k) (zjq_S hk) rfl 9 (by decide) hf80 (fun _ h9 => h9)  rfl (by decide +kernel) rfl rfl (Nat.le_of_ble_eq_true rfl) dX6_pass_574 (fun H locs hP hD hS => ?_)
      have hP : va_P D vwCl (zj cB cS u bd sl nb ns (zs σ 14 k ((σ 14 k) + 1))) H := by rw [← zjw14 hk _]; exact hP
      have hD : va_D A (zj cB cS u bd sl nb ns (zs σ 14 k ((σ 14 k) + 1))) := by rw [← zjw14 hk _]; exact hD
      have e9 : f_rest σ h k = zs σ 14 k ((σ 14 k) + 1) := by unfold f_rest f_roh; rw [if_neg (by rw [e12b_1]; decide), if_pos e12b_1, if_neg (by rw [c_5]; decide)]
      exact kk _ _ _ (by rw [e9]; exact hP) (by rw [e9]; exact hD) hS (lv_sub hl [1, 2, 3, 4, 5, 6] rfl)
set_option maxHeartbeats 4000000 in
set_option maxRecDepth 100000 in
theorem p_cool1 {p : Program} {l : Launch} {e : Env} {s : State} {m : MethodId} {args : Array Value} {below : List Frame} {meth : Method} {c : Code} {Q : State → Prop} {D : va_G} {cI cB cS : ClassId} {u bd sl : Nat → Nat} {A : Nat → Prop} {σ : zS} {H : Heap} {locs : List Loc} {ls : Array Slot} (C : zPa p s m args meth c D cI cB cS) (hA : ∀ q : Nat, s.heap.size ≤ q → A q) {nb ns h B k : Nat} (hV : zV σ nb ns h B) (hk : k < nb) (hP : va_P D vwCl (zj cB cS u bd sl nb ns σ) H) (hD : va_D A (zj cB cS u bd sl nb ns σ)) (hS : va_S A s.heap H locs) (hl : lv_has ls 9 [(6, .ref (bd k)), (5, .int (nI k)), (4, .int (nI nb)), (3, .ref (u 1)), (2, .int (nI (h % 8))), (1, .int (nI (h % 24 / 8))), (0, .ref (u 0))])  (kk : ∀ (H : Heap) (locs : List Loc) (ls : Array Slot), va_P D vwCl (zj cB cS u bd sl nb ns (zs σ 2 k (f_cw σ k))) H → va_D A (zj cB cS u bd sl nb ns (zs σ 2 k (f_cw σ k))) → va_S A s.heap H locs → lv_has ls 9 [(5, .int (nI k)), (4, .int (nI nb)), (3, .ref (u 1)), (2, .int (nI (h % 8))), (1, .int (nI (h % 24 / 8))), (0, .ref (u 0))] → W p l e zRp s m args below meth c H locs 0 0 Q (F0 m 669 ls [])) : W p l e zRp s m args below meth c H locs 0 0 Q (F0 m 608 ls []) := by
  obtain ⟨hx, hb, hml, hown, hts, hK⟩ := C
  have hnb := hV.1.2.1
  have hns := hV.1.2.2.2.1
  have hh := hV.1.2.2.2.2.2.1
  have hf39 := hts (.fieldLink RX6 39 "HotBedsLaw$Bed" "warmth" "I") (by decide +kernel)
  have hf73 := hts (.fieldLink RX6 73 "HotBedsLaw$Bed" "who" "LHotBedsLaw$Sailor;") (by decide +kernel)
  have hinX4 : ∀ w ∈ u_ws RX4 TX4 6, w ∈ wsX6_pass := by decide +kernel
  refine lv_aload hx hb dX6_pass_608 (lv_at hl 0 rfl) ?_
  rcases (hV.kbd hk).2.2.2 with e5b_1 | ⟨k_1, hk_1, e5b_1, -⟩
  · refine va_get (D := D) (ci := 4) (v := .null) (C := RX4) (T := TX4) (N := 6) hx hb hts hinX4 hown hK hP (3 + k) (zjq_B hk) rfl 4 (by decide) hf73 (fun _ h9 => h9) (congrArg some (zrf_n e5b_1)) dX6_pass_610 ?_
    refine lv_ifnullN (tgt := 645) hx hb dX6_pass_613 (by decide) ?_
    refine lv_aload hx hb dX6_pass_645 (lv_at hl 0 rfl) ?_
    refine lv_aload hx hb dX6_pass_647 (lv_at hl 0 rfl) ?_
    refine va_get (D := D) (ci := 4) (v := .int (σ 2 k)) (C := RX4) (T := TX4) (N := 6) hx hb hts hinX4 hown hK hP (3 + k) (zjq_B hk) rfl 1 (by decide) hf39 (fun _ h9 => h9) rfl dX6_pass_649 ?_
    refine lv_if_le (tgt := 665) hx hb dX6_pass_652 (by decide) (fun c_2 => ?_) (fun c_2 => ?_)
    · refine lv_iconst (v := 0) hx hb dX6_pass_665 (by decide) ?_
      refine va_put (D := D) (ci := 4) (v := .int 0) (ty := .int) (C := RX4) (T := TX4) (N := 6) hx hb hts hinX4 tyX4 tyX4_ok nmX4 hown hK hP hD hS (3 + k) (zjq_B hk) rfl 1 (by decide) hf39 (fun _ h9 => h9)  rfl (by decide +kernel) rfl rfl (Nat.le_of_ble_eq_true rfl) dX6_pass_666 (fun H locs hP hD hS => ?_)
      have hP : va_P D vwCl (zj cB cS u bd sl nb ns (zs σ 2 k 0)) H := by rw [← zjw2 hk _]; exact hP
      have hD : va_D A (zj cB cS u bd sl nb ns (zs σ 2 k 0)) := by rw [← zjw2 hk _]; exact hD
      have e9 : zs σ 2 k (f_cw σ k) = zs σ 2 k 0 := by unfold f_cw; rw [if_pos e5b_1, f_max0_v (hV.kbd hk).2.2.1 c_2]
      exact kk _ _ _ (by rw [e9]; exact hP) (by rw [e9]; exact hD) hS (lv_sub hl [1, 2, 3, 4, 5, 6] rfl)
    · refine lv_aload hx hb dX6_pass_655 (lv_at hl 0 rfl) ?_
      refine va_get (D := D) (ci := 4) (v := .int (σ 2 k)) (C := RX4) (T := TX4) (N := 6) hx hb hts hinX4 hown hK hP (3 + k) (zjq_B hk) rfl 1 (by decide) hf39 (fun _ h9 => h9) rfl dX6_pass_657 ?_
      refine lv_iconst (v := 1) hx hb dX6_pass_660 (by decide) ?_
      refine lv_isub hx hb dX6_pass_661 ?_
      refine lv_goto (tgt := 666) hx hb dX6_pass_662 (by decide) ?_
      refine va_put (D := D) (ci := 4) (v := .int ((σ 2 k) - 1)) (ty := .int) (C := RX4) (T := TX4) (N := 6) hx hb hts hinX4 tyX4 tyX4_ok nmX4 hown hK hP hD hS (3 + k) (zjq_B hk) rfl 1 (by decide) hf39 (fun _ h9 => h9)  rfl (by decide +kernel) rfl rfl (Nat.le_of_ble_eq_true rfl) dX6_pass_666 (fun H locs hP hD hS => ?_)
      have hP : va_P D vwCl (zj cB cS u bd sl nb ns (zs σ 2 k ((σ 2 k) - 1))) H := by rw [← zjw2 hk _]; exact hP
      have hD : va_D A (zj cB cS u bd sl nb ns (zs σ 2 k ((σ 2 k) - 1))) := by rw [← zjw2 hk _]; exact hD
      have e9 : zs σ 2 k (f_cw σ k) = zs σ 2 k ((σ 2 k) - 1) := by unfold f_cw; rw [if_pos e5b_1, f_max0_w (hV.kbd hk).2.2.1 c_2]
      exact kk _ _ _ (by rw [e9]; exact hP) (by rw [e9]; exact hD) hS (lv_sub hl [1, 2, 3, 4, 5, 6] rfl)
  · refine va_get (D := D) (ci := 4) (v := .ref (sl k_1)) (C := RX4) (T := TX4) (N := 6) hx hb hts hinX4 hown hK hP (3 + k) (zjq_B hk) rfl 4 (by decide) hf73 (fun _ h9 => h9) (congrArg some (zrf_r e5b_1 (by omega))) dX6_pass_610 ?_
    refine lv_ifnull hx hb dX6_pass_613 ?_
    refine lv_aload hx hb dX6_pass_616 (lv_at hl 0 rfl) ?_
    refine lv_aload hx hb dX6_pass_618 (lv_at hl 0 rfl) ?_
    refine va_get (D := D) (ci := 4) (v := .int (σ 2 k)) (C := RX4) (T := TX4) (N := 6) hx hb hts hinX4 hown hK hP (3 + k) (zjq_B hk) rfl 1 (by decide) hf39 (fun _ h9 => h9) rfl dX6_pass_620 ?_
    refine lv_iconst (v := 5) hx hb dX6_pass_623 (by decide) ?_
    refine lv_icmp_le (tgt := 632) hx hb dX6_pass_624 (by decide) (fun c_3 => ?_) (fun c_3 => ?_)
    · refine lv_aload hx hb dX6_pass_632 (lv_at hl 0 rfl) ?_
      refine va_get (D := D) (ci := 4) (v := .int (σ 2 k)) (C := RX4) (T := TX4) (N := 6) hx hb hts hinX4 hown hK hP (3 + k) (zjq_B hk) rfl 1 (by decide) hf39 (fun _ h9 => h9) rfl dX6_pass_634 ?_
      refine lv_iconst (v := 2) hx hb dX6_pass_637 (by decide) ?_
      refine lv_iadd hx hb dX6_pass_638 ?_
      refine va_put (D := D) (ci := 4) (v := .int ((σ 2 k) + 2)) (ty := .int) (C := RX4) (T := TX4) (N := 6) hx hb hts hinX4 tyX4 tyX4_ok nmX4 hown hK hP hD hS (3 + k) (zjq_B hk) rfl 1 (by decide) hf39 (fun _ h9 => h9)  rfl (by decide +kernel) rfl rfl (Nat.le_of_ble_eq_true rfl) dX6_pass_639 (fun H locs hP hD hS => ?_)
      have hP : va_P D vwCl (zj cB cS u bd sl nb ns (zs σ 2 k ((σ 2 k) + 2))) H := by rw [← zjw2 hk _]; exact hP
      have hD : va_D A (zj cB cS u bd sl nb ns (zs σ 2 k ((σ 2 k) + 2))) := by rw [← zjw2 hk _]; exact hD
      refine lv_goto (tgt := 669) hx hb dX6_pass_642 (by decide) ?_
      have e9 : zs σ 2 k (f_cw σ k) = zs σ 2 k ((σ 2 k) + 2) := by unfold f_cw; rw [if_neg (fun z => zn_m1 (k := k_1) (by omega) (e5b_1.symm.trans z)), f_min8_le (hV.kbd hk).2.2.1 c_3]
      exact kk _ _ _ (by rw [e9]; exact hP) (by rw [e9]; exact hD) hS (lv_sub hl [1, 2, 3, 4, 5, 6] rfl)
    · refine lv_bipush (v := 8) hx hb dX6_pass_627 (by decide) ?_
      refine lv_goto (tgt := 639) hx hb dX6_pass_629 (by decide) ?_
      refine va_put (D := D) (ci := 4) (v := .int 8) (ty := .int) (C := RX4) (T := TX4) (N := 6) hx hb hts hinX4 tyX4 tyX4_ok nmX4 hown hK hP hD hS (3 + k) (zjq_B hk) rfl 1 (by decide) hf39 (fun _ h9 => h9)  rfl (by decide +kernel) rfl rfl (Nat.le_of_ble_eq_true rfl) dX6_pass_639 (fun H locs hP hD hS => ?_)
      have hP : va_P D vwCl (zj cB cS u bd sl nb ns (zs σ 2 k 8)) H := by rw [← zjw2 hk _]; exact hP
      have hD : va_D A (zj cB cS u bd sl nb ns (zs σ 2 k 8)) := by rw [← zjw2 hk _]; exact hD
      refine lv_goto (tgt := 669) hx hb dX6_pass_642 (by decide) ?_
      have e9 : zs σ 2 k (f_cw σ k) = zs σ 2 k 8 := by unfold f_cw; rw [if_neg (fun z => zn_m1 (k := k_1) (by omega) (e5b_1.symm.trans z)), f_min8_gt (hV.kbd hk).2.2.1 c_3]
      exact kk _ _ _ (by rw [e9]; exact hP) (by rw [e9]; exact hD) hS (lv_sub hl [1, 2, 3, 4, 5, 6] rfl)
set_option maxHeartbeats 4000000 in
set_option maxRecDepth 100000 in
theorem p_rings {p : Program} {l : Launch} {e : Env} {s : State} {m : MethodId} {args : Array Value} {below : List Frame} {meth : Method} {c : Code} {Q : State → Prop} {D : va_G} {cI cB cS : ClassId} {u bd sl : Nat → Nat} {A : Nat → Prop} {σ : zS} {H : Heap} {locs : List Loc} {ls : Array Slot} (C : zPa p s m args meth c D cI cB cS) (hA : ∀ q : Nat, s.heap.size ≤ q → A q) {nb ns h B : Nat} (hV : zV σ nb ns h B) (hB : B + 30 ≤ 2 ^ 28) (hP : va_P D vwCl (zj cB cS u bd sl nb ns σ) H) (hD : va_D A (zj cB cS u bd sl nb ns σ)) (hS : va_S A s.heap H locs) (hl : lv_has ls 9 [(2, .int (nI (h % 8))), (1, .int (nI (h % 24 / 8))), (0, .ref (u 0))])  (kk : ∀ (H : Heap) (locs : List Loc) (ls : Array Slot), va_P D vwCl (zj cB cS u bd sl nb ns (f_itr (fun τ k => f_ring τ h k) ns σ)) H → va_D A (zj cB cS u bd sl nb ns (f_itr (fun τ k => f_ring τ h k) ns σ)) → va_S A s.heap H locs → lv_has ls 9 [(2, .int (nI (h % 8))), (1, .int (nI (h % 24 / 8))), (0, .ref (u 0))] → W p l e zRp s m args below meth c H locs 0 0 Q (F0 m 159 ls [])) : W p l e zRp s m args below meth c H locs 0 0 Q (F0 m 18 ls []) := by
  obtain ⟨hx, hb, hml, hown, hts, hK⟩ := C
  have hnb := hV.1.2.1
  have hns := hV.1.2.2.2.1
  have hh := hV.1.2.2.2.2.2.1
  have hf24 := hts (.fieldLink RX6 24 "HotBedsLaw$Sim" "sailors" "[LHotBedsLaw$Sailor;") (by decide +kernel)
  have hinX6 : ∀ w ∈ u_ws RX6 TX6 5, w ∈ wsX6_pass := by decide +kernel
  refine lv_aload_n hx hb dX6_pass_18 rfl (lv_at hl 2 rfl) ?_
  refine va_get (D := D) (ci := 6) (v := .ref (u 2)) (C := RX6) (T := TX6) (N := 5) hx hb hts hinX6 hown hK hP 0 rfl rfl 4 (by decide) hf24 (fun _ h9 => h9) rfl dX6_pass_19 ?_
  refine lv_astore_n (lv' := [(3, .ref (u 2)), (2, .int (nI (h % 8))), (1, .int (nI (h % 24 / 8))), (0, .ref (u 0))]) hx hb dX6_pass_22 rfl hl (by decide) rfl (fun ls hl => ?_)
  refine lv_aload_n hx hb dX6_pass_23 rfl (lv_at hl 0 rfl) ?_
  refine va_alen hx hb hK hP 2 2 rfl rfl (v := nI ns) rfl dX6_pass_24 ?_
  refine lv_istore (lv' := [(4, .int (nI ns)), (3, .ref (u 2)), (2, .int (nI (h % 8))), (1, .int (nI (h % 24 / 8))), (0, .ref (u 0))]) hx hb dX6_pass_25 hl (by decide) rfl (fun ls hl => ?_)
  refine lv_iconst (v := 0) hx hb dX6_pass_27 (by decide) ?_
  refine lv_istore (lv' := [(5, .int 0), (4, .int (nI ns)), (3, .ref (u 2)), (2, .int (nI (h % 8))), (1, .int (nI (h % 24 / 8))), (0, .ref (u 0))]) hx hb dX6_pass_28 hl (by decide) rfl (fun ls hl => ?_)
  have C0 : zPa p s m args meth c D cI cB cS := ⟨hx, hb, hml, hown, hts, hK⟩
  refine zk_loop (pc := 30) (fun k H locs ls => va_P D vwCl (zj cB cS u bd sl nb ns (f_itr (fun τ k => f_ring τ h k) k σ)) H ∧ va_D A (zj cB cS u bd sl nb ns (f_itr (fun τ k => f_ring τ h k) k σ)) ∧ va_S A s.heap H locs ∧ lv_has ls 9 [(5, .int (nI k)), (4, .int (nI ns)), (3, .ref (u 2)), (2, .int (nI (h % 8))), (1, .int (nI (h % 24 / 8))), (0, .ref (u 0))]) ns (fun k hk ih H locs ls hI => ?_) (fun H locs ls hI => ?_) _ _ _ ⟨hP, hD, hS, lv_sub hl [0, 1, 2, 3, 4, 5] rfl⟩
  · obtain ⟨hP, hD, hS, hl⟩ := hI
    refine lv_iload hx hb dX6_pass_30 (lv_at hl 0 rfl) ?_
    refine lv_iload hx hb dX6_pass_32 (lv_at hl 1 rfl) ?_
    refine lv_icmp_ge (tgt := 159) hx hb dX6_pass_34 (by decide) (fun c => absurd c (nI_ge hk (by omega))) (fun _ => ?_)
    refine lv_aload_n hx hb dX6_pass_37 rfl (lv_at hl 2 rfl) ?_
    refine lv_iload hx hb dX6_pass_38 (lv_at hl 0 rfl) ?_
    refine zk_ldq hx hb hK hP 2 2 rfl rfl (k := k) hk (by omega) (v := sl k) rfl dX6_pass_40 ?_
    refine lv_astore (lv' := [(6, .ref (sl k)), (5, .int (nI k)), (4, .int (nI ns)), (3, .ref (u 2)), (2, .int (nI (h % 8))), (1, .int (nI (h % 24 / 8))), (0, .ref (u 0))]) hx hb dX6_pass_41 hl (by decide) rfl (fun ls hl => ?_)
    refine p_ring1 C0 hA (hV.rings k (by omega) (by omega)) hk hP hD hS (lv_sub hl [0, 1, 2, 3, 4, 5, 6] rfl) (fun H locs ls hP hD hS hl => ?_)
    refine lv_iinc (v := nI (k + 1)) (lv' := [(5, .int (nI (k + 1))), (4, .int (nI ns)), (3, .ref (u 2)), (2, .int (nI (h % 8))), (1, .int (nI (h % 24 / 8))), (0, .ref (u 0))]) hx hb dX6_pass_153 hl (k := 0) rfl (nI_1 k) (by decide) rfl (fun ls hl => ?_)
    refine lv_goto (tgt := 30) hx hb dX6_pass_156 (by decide) ?_
    exact ih _ _ _ ⟨hP, hD, hS, lv_sub hl [0, 1, 2, 3, 4, 5] rfl⟩
  · obtain ⟨hP, hD, hS, hl⟩ := hI
    refine lv_iload hx hb dX6_pass_30 (lv_at hl 0 rfl) ?_
    refine lv_iload hx hb dX6_pass_32 (lv_at hl 1 rfl) ?_
    refine lv_icmp_ge (tgt := 159) hx hb dX6_pass_34 (by decide) (fun _ => ?_) (fun c => absurd (i32_rf _) c)
    exact kk _ _ _ hP hD hS (lv_sub hl [3, 4, 5] rfl)
set_option maxHeartbeats 4000000 in
set_option maxRecDepth 100000 in
theorem p_serves {p : Program} {l : Launch} {e : Env} {s : State} {m : MethodId} {args : Array Value} {below : List Frame} {meth : Method} {c : Code} {Q : State → Prop} {D : va_G} {cI cB cS : ClassId} {u bd sl : Nat → Nat} {A : Nat → Prop} {σ : zS} {H : Heap} {locs : List Loc} {ls : Array Slot} (C : zPa p s m args meth c D cI cB cS) (hA : ∀ q : Nat, s.heap.size ≤ q → A q) {nb ns h B : Nat} (hV : zV σ nb ns h B) (hB : B + 30 ≤ 2 ^ 28) (hP : va_P D vwCl (zj cB cS u bd sl nb ns σ) H) (hD : va_D A (zj cB cS u bd sl nb ns σ)) (hS : va_S A s.heap H locs) (hl : lv_has ls 9 [(2, .int (nI (h % 8))), (1, .int (nI (h % 24 / 8))), (0, .ref (u 0))])  (kk : ∀ (H : Heap) (locs : List Loc) (ls : Array Slot), va_P D vwCl (zj cB cS u bd sl nb ns (f_itr (fun τ k => f_serve τ nb h k) ns σ)) H → va_D A (zj cB cS u bd sl nb ns (f_itr (fun τ k => f_serve τ nb h k) ns σ)) → va_S A s.heap H locs → lv_has ls 9 [(2, .int (nI (h % 8))), (1, .int (nI (h % 24 / 8))), (0, .ref (u 0))] → W p l e zRp s m args below meth c H locs 0 0 Q (F0 m 491 ls [])) : W p l e zRp s m args below meth c H locs 0 0 Q (F0 m 159 ls []) := by
  obtain ⟨hx, hb, hml, hown, hts, hK⟩ := C
  have hnb := hV.1.2.1
  have hns := hV.1.2.2.2.1
  have hh := hV.1.2.2.2.2.2.1
  have hf24 := hts (.fieldLink RX6 24 "HotBedsLaw$Sim" "sailors" "[LHotBedsLaw$Sailor;") (by decide +kernel)
  have hinX6 : ∀ w ∈ u_ws RX6 TX6 5, w ∈ wsX6_pass := by decide +kernel
  refine lv_aload_n hx hb dX6_pass_159 rfl (lv_at hl 2 rfl) ?_
  refine va_get (D := D) (ci := 6) (v := .ref (u 2)) (C := RX6) (T := TX6) (N := 5) hx hb hts hinX6 hown hK hP 0 rfl rfl 4 (by decide) hf24 (fun _ h9 => h9) rfl dX6_pass_160 ?_
  refine lv_astore_n (lv' := [(3, .ref (u 2)), (2, .int (nI (h % 8))), (1, .int (nI (h % 24 / 8))), (0, .ref (u 0))]) hx hb dX6_pass_163 rfl hl (by decide) rfl (fun ls hl => ?_)
  refine lv_aload_n hx hb dX6_pass_164 rfl (lv_at hl 0 rfl) ?_
  refine va_alen hx hb hK hP 2 2 rfl rfl (v := nI ns) rfl dX6_pass_165 ?_
  refine lv_istore (lv' := [(4, .int (nI ns)), (3, .ref (u 2)), (2, .int (nI (h % 8))), (1, .int (nI (h % 24 / 8))), (0, .ref (u 0))]) hx hb dX6_pass_166 hl (by decide) rfl (fun ls hl => ?_)
  refine lv_iconst (v := 0) hx hb dX6_pass_168 (by decide) ?_
  refine lv_istore (lv' := [(5, .int 0), (4, .int (nI ns)), (3, .ref (u 2)), (2, .int (nI (h % 8))), (1, .int (nI (h % 24 / 8))), (0, .ref (u 0))]) hx hb dX6_pass_169 hl (by decide) rfl (fun ls hl => ?_)
  have C0 : zPa p s m args meth c D cI cB cS := ⟨hx, hb, hml, hown, hts, hK⟩
  refine zk_loop (pc := 171) (fun k H locs ls => va_P D vwCl (zj cB cS u bd sl nb ns (f_itr (fun τ k => f_serve τ nb h k) k σ)) H ∧ va_D A (zj cB cS u bd sl nb ns (f_itr (fun τ k => f_serve τ nb h k) k σ)) ∧ va_S A s.heap H locs ∧ lv_has ls 9 [(5, .int (nI k)), (4, .int (nI ns)), (3, .ref (u 2)), (2, .int (nI (h % 8))), (1, .int (nI (h % 24 / 8))), (0, .ref (u 0))]) ns (fun k hk ih H locs ls hI => ?_) (fun H locs ls hI => ?_) _ _ _ ⟨hP, hD, hS, lv_sub hl [0, 1, 2, 3, 4, 5] rfl⟩
  · obtain ⟨hP, hD, hS, hl⟩ := hI
    refine lv_iload hx hb dX6_pass_171 (lv_at hl 0 rfl) ?_
    refine lv_iload hx hb dX6_pass_173 (lv_at hl 1 rfl) ?_
    refine lv_icmp_ge (tgt := 491) hx hb dX6_pass_175 (by decide) (fun c => absurd c (nI_ge hk (by omega))) (fun _ => ?_)
    refine lv_aload_n hx hb dX6_pass_178 rfl (lv_at hl 2 rfl) ?_
    refine lv_iload hx hb dX6_pass_179 (lv_at hl 0 rfl) ?_
    refine zk_ldq hx hb hK hP 2 2 rfl rfl (k := k) hk (by omega) (v := sl k) rfl dX6_pass_181 ?_
    refine lv_astore (lv' := [(6, .ref (sl k)), (5, .int (nI k)), (4, .int (nI ns)), (3, .ref (u 2)), (2, .int (nI (h % 8))), (1, .int (nI (h % 24 / 8))), (0, .ref (u 0))]) hx hb dX6_pass_182 hl (by decide) rfl (fun ls hl => ?_)
    refine p_serve1 C0 hA (hV.serves k (by omega) (by omega)) hk hP hD hS (lv_sub hl [0, 1, 2, 3, 4, 5, 6] rfl) (fun H locs ls hP hD hS hl => ?_)
    refine lv_iinc (v := nI (k + 1)) (lv' := [(5, .int (nI (k + 1))), (4, .int (nI ns)), (3, .ref (u 2)), (2, .int (nI (h % 8))), (1, .int (nI (h % 24 / 8))), (0, .ref (u 0))]) hx hb dX6_pass_485 hl (k := 0) rfl (nI_1 k) (by decide) rfl (fun ls hl => ?_)
    refine lv_goto (tgt := 171) hx hb dX6_pass_488 (by decide) ?_
    exact ih _ _ _ ⟨hP, hD, hS, lv_sub hl [0, 1, 2, 3, 4, 5] rfl⟩
  · obtain ⟨hP, hD, hS, hl⟩ := hI
    refine lv_iload hx hb dX6_pass_171 (lv_at hl 0 rfl) ?_
    refine lv_iload hx hb dX6_pass_173 (lv_at hl 1 rfl) ?_
    refine lv_icmp_ge (tgt := 491) hx hb dX6_pass_175 (by decide) (fun _ => ?_) (fun c => absurd (i32_rf _) c)
    exact kk _ _ _ hP hD hS (lv_sub hl [3, 4, 5] rfl)
set_option maxHeartbeats 4000000 in
set_option maxRecDepth 100000 in
theorem p_rests {p : Program} {l : Launch} {e : Env} {s : State} {m : MethodId} {args : Array Value} {below : List Frame} {meth : Method} {c : Code} {Q : State → Prop} {D : va_G} {cI cB cS : ClassId} {u bd sl : Nat → Nat} {A : Nat → Prop} {σ : zS} {H : Heap} {locs : List Loc} {ls : Array Slot} (C : zPa p s m args meth c D cI cB cS) (hA : ∀ q : Nat, s.heap.size ≤ q → A q) {nb ns h B : Nat} (hV : zV σ nb ns h B) (hB : B + 30 ≤ 2 ^ 28) (hP : va_P D vwCl (zj cB cS u bd sl nb ns σ) H) (hD : va_D A (zj cB cS u bd sl nb ns σ)) (hS : va_S A s.heap H locs) (hl : lv_has ls 9 [(2, .int (nI (h % 8))), (1, .int (nI (h % 24 / 8))), (0, .ref (u 0))])  (kk : ∀ (H : Heap) (locs : List Loc) (ls : Array Slot), va_P D vwCl (zj cB cS u bd sl nb ns (f_itr (fun τ k => f_rest τ h k) ns σ)) H → va_D A (zj cB cS u bd sl nb ns (f_itr (fun τ k => f_rest τ h k) ns σ)) → va_S A s.heap H locs → lv_has ls 9 [(2, .int (nI (h % 8))), (1, .int (nI (h % 24 / 8))), (0, .ref (u 0))] → W p l e zRp s m args below meth c H locs 0 0 Q (F0 m 583 ls [])) : W p l e zRp s m args below meth c H locs 0 0 Q (F0 m 491 ls []) := by
  obtain ⟨hx, hb, hml, hown, hts, hK⟩ := C
  have hnb := hV.1.2.1
  have hns := hV.1.2.2.2.1
  have hh := hV.1.2.2.2.2.2.1
  have hf24 := hts (.fieldLink RX6 24 "HotBedsLaw$Sim" "sailors" "[LHotBedsLaw$Sailor;") (by decide +kernel)
  have hinX6 : ∀ w ∈ u_ws RX6 TX6 5, w ∈ wsX6_pass := by decide +kernel
  refine lv_aload_n hx hb dX6_pass_491 rfl (lv_at hl 2 rfl) ?_
  refine va_get (D := D) (ci := 6) (v := .ref (u 2)) (C := RX6) (T := TX6) (N := 5) hx hb hts hinX6 hown hK hP 0 rfl rfl 4 (by decide) hf24 (fun _ h9 => h9) rfl dX6_pass_492 ?_
  refine lv_astore_n (lv' := [(3, .ref (u 2)), (2, .int (nI (h % 8))), (1, .int (nI (h % 24 / 8))), (0, .ref (u 0))]) hx hb dX6_pass_495 rfl hl (by decide) rfl (fun ls hl => ?_)
  refine lv_aload_n hx hb dX6_pass_496 rfl (lv_at hl 0 rfl) ?_
  refine va_alen hx hb hK hP 2 2 rfl rfl (v := nI ns) rfl dX6_pass_497 ?_
  refine lv_istore (lv' := [(4, .int (nI ns)), (3, .ref (u 2)), (2, .int (nI (h % 8))), (1, .int (nI (h % 24 / 8))), (0, .ref (u 0))]) hx hb dX6_pass_498 hl (by decide) rfl (fun ls hl => ?_)
  refine lv_iconst (v := 0) hx hb dX6_pass_500 (by decide) ?_
  refine lv_istore (lv' := [(5, .int 0), (4, .int (nI ns)), (3, .ref (u 2)), (2, .int (nI (h % 8))), (1, .int (nI (h % 24 / 8))), (0, .ref (u 0))]) hx hb dX6_pass_501 hl (by decide) rfl (fun ls hl => ?_)
  have C0 : zPa p s m args meth c D cI cB cS := ⟨hx, hb, hml, hown, hts, hK⟩
  refine zk_loop (pc := 503) (fun k H locs ls => va_P D vwCl (zj cB cS u bd sl nb ns (f_itr (fun τ k => f_rest τ h k) k σ)) H ∧ va_D A (zj cB cS u bd sl nb ns (f_itr (fun τ k => f_rest τ h k) k σ)) ∧ va_S A s.heap H locs ∧ lv_has ls 9 [(5, .int (nI k)), (4, .int (nI ns)), (3, .ref (u 2)), (2, .int (nI (h % 8))), (1, .int (nI (h % 24 / 8))), (0, .ref (u 0))]) ns (fun k hk ih H locs ls hI => ?_) (fun H locs ls hI => ?_) _ _ _ ⟨hP, hD, hS, lv_sub hl [0, 1, 2, 3, 4, 5] rfl⟩
  · obtain ⟨hP, hD, hS, hl⟩ := hI
    refine lv_iload hx hb dX6_pass_503 (lv_at hl 0 rfl) ?_
    refine lv_iload hx hb dX6_pass_505 (lv_at hl 1 rfl) ?_
    refine lv_icmp_ge (tgt := 583) hx hb dX6_pass_507 (by decide) (fun c => absurd c (nI_ge hk (by omega))) (fun _ => ?_)
    refine lv_aload_n hx hb dX6_pass_510 rfl (lv_at hl 2 rfl) ?_
    refine lv_iload hx hb dX6_pass_511 (lv_at hl 0 rfl) ?_
    refine zk_ldq hx hb hK hP 2 2 rfl rfl (k := k) hk (by omega) (v := sl k) rfl dX6_pass_513 ?_
    refine lv_astore (lv' := [(6, .ref (sl k)), (5, .int (nI k)), (4, .int (nI ns)), (3, .ref (u 2)), (2, .int (nI (h % 8))), (1, .int (nI (h % 24 / 8))), (0, .ref (u 0))]) hx hb dX6_pass_514 hl (by decide) rfl (fun ls hl => ?_)
    refine p_rest1 C0 hA (hV.rests k (by omega) (by omega)) hk hP hD hS (lv_sub hl [0, 1, 2, 3, 4, 5, 6] rfl) (fun H locs ls hP hD hS hl => ?_)
    refine lv_iinc (v := nI (k + 1)) (lv' := [(5, .int (nI (k + 1))), (4, .int (nI ns)), (3, .ref (u 2)), (2, .int (nI (h % 8))), (1, .int (nI (h % 24 / 8))), (0, .ref (u 0))]) hx hb dX6_pass_577 hl (k := 0) rfl (nI_1 k) (by decide) rfl (fun ls hl => ?_)
    refine lv_goto (tgt := 503) hx hb dX6_pass_580 (by decide) ?_
    exact ih _ _ _ ⟨hP, hD, hS, lv_sub hl [0, 1, 2, 3, 4, 5] rfl⟩
  · obtain ⟨hP, hD, hS, hl⟩ := hI
    refine lv_iload hx hb dX6_pass_503 (lv_at hl 0 rfl) ?_
    refine lv_iload hx hb dX6_pass_505 (lv_at hl 1 rfl) ?_
    refine lv_icmp_ge (tgt := 583) hx hb dX6_pass_507 (by decide) (fun _ => ?_) (fun c => absurd (i32_rf _) c)
    exact kk _ _ _ hP hD hS (lv_sub hl [3, 4, 5] rfl)
set_option maxHeartbeats 4000000 in
set_option maxRecDepth 100000 in
theorem p_cools {p : Program} {l : Launch} {e : Env} {s : State} {m : MethodId} {args : Array Value} {below : List Frame} {meth : Method} {c : Code} {Q : State → Prop} {D : va_G} {cI cB cS : ClassId} {u bd sl : Nat → Nat} {A : Nat → Prop} {σ : zS} {H : Heap} {locs : List Loc} {ls : Array Slot} (C : zPa p s m args meth c D cI cB cS) (hA : ∀ q : Nat, s.heap.size ≤ q → A q) {nb ns h B : Nat} (hV : zV σ nb ns h B) (hB : B + 30 ≤ 2 ^ 28) (hP : va_P D vwCl (zj cB cS u bd sl nb ns σ) H) (hD : va_D A (zj cB cS u bd sl nb ns σ)) (hS : va_S A s.heap H locs) (hl : lv_has ls 9 [(2, .int (nI (h % 8))), (1, .int (nI (h % 24 / 8))), (0, .ref (u 0))])  (kk : ∀ (H : Heap) (locs : List Loc) (ls : Array Slot), va_P D vwCl (zj cB cS u bd sl nb ns (f_cool σ nb)) H → va_D A (zj cB cS u bd sl nb ns (f_cool σ nb)) → va_S A s.heap H locs → lv_has ls 9 [(2, .int (nI (h % 8))), (1, .int (nI (h % 24 / 8))), (0, .ref (u 0))] → W p l e zRp s m args below meth c H locs 0 0 Q (F0 m 675 ls [])) : W p l e zRp s m args below meth c H locs 0 0 Q (F0 m 583 ls []) := by
  obtain ⟨hx, hb, hml, hown, hts, hK⟩ := C
  have hnb := hV.1.2.1
  have hns := hV.1.2.2.2.1
  have hh := hV.1.2.2.2.2.2.1
  have hf18 := hts (.fieldLink RX6 18 "HotBedsLaw$Sim" "beds" "[LHotBedsLaw$Bed;") (by decide +kernel)
  have hinX6 : ∀ w ∈ u_ws RX6 TX6 5, w ∈ wsX6_pass := by decide +kernel
  refine lv_aload_n hx hb dX6_pass_583 rfl (lv_at hl 2 rfl) ?_
  refine va_get (D := D) (ci := 6) (v := .ref (u 1)) (C := RX6) (T := TX6) (N := 5) hx hb hts hinX6 hown hK hP 0 rfl rfl 3 (by decide) hf18 (fun _ h9 => h9) rfl dX6_pass_584 ?_
  refine lv_astore_n (lv' := [(3, .ref (u 1)), (2, .int (nI (h % 8))), (1, .int (nI (h % 24 / 8))), (0, .ref (u 0))]) hx hb dX6_pass_587 rfl hl (by decide) rfl (fun ls hl => ?_)
  refine lv_aload_n hx hb dX6_pass_588 rfl (lv_at hl 0 rfl) ?_
  refine va_alen hx hb hK hP 1 1 rfl rfl (v := nI nb) rfl dX6_pass_589 ?_
  refine lv_istore (lv' := [(4, .int (nI nb)), (3, .ref (u 1)), (2, .int (nI (h % 8))), (1, .int (nI (h % 24 / 8))), (0, .ref (u 0))]) hx hb dX6_pass_590 hl (by decide) rfl (fun ls hl => ?_)
  refine lv_iconst (v := 0) hx hb dX6_pass_592 (by decide) ?_
  refine lv_istore (lv' := [(5, .int 0), (4, .int (nI nb)), (3, .ref (u 1)), (2, .int (nI (h % 8))), (1, .int (nI (h % 24 / 8))), (0, .ref (u 0))]) hx hb dX6_pass_593 hl (by decide) rfl (fun ls hl => ?_)
  have C0 : zPa p s m args meth c D cI cB cS := ⟨hx, hb, hml, hown, hts, hK⟩
  refine zk_loop (pc := 595) (fun k H locs ls => va_P D vwCl (zj cB cS u bd sl nb ns (f_cool σ k)) H ∧ va_D A (zj cB cS u bd sl nb ns (f_cool σ k)) ∧ va_S A s.heap H locs ∧ lv_has ls 9 [(5, .int (nI k)), (4, .int (nI nb)), (3, .ref (u 1)), (2, .int (nI (h % 8))), (1, .int (nI (h % 24 / 8))), (0, .ref (u 0))]) nb (fun k hk ih H locs ls hI => ?_) (fun H locs ls hI => ?_) _ _ _ ⟨hP, hD, hS, lv_sub hl [0, 1, 2, 3, 4, 5] rfl⟩
  · obtain ⟨hP, hD, hS, hl⟩ := hI
    refine lv_iload hx hb dX6_pass_595 (lv_at hl 0 rfl) ?_
    refine lv_iload hx hb dX6_pass_597 (lv_at hl 1 rfl) ?_
    refine lv_icmp_ge (tgt := 675) hx hb dX6_pass_599 (by decide) (fun c => absurd c (nI_ge hk (by omega))) (fun _ => ?_)
    refine lv_aload_n hx hb dX6_pass_602 rfl (lv_at hl 2 rfl) ?_
    refine lv_iload hx hb dX6_pass_603 (lv_at hl 0 rfl) ?_
    refine zk_ldq hx hb hK hP 1 1 rfl rfl (k := k) hk (by omega) (v := bd k) rfl dX6_pass_605 ?_
    refine lv_astore (lv' := [(6, .ref (bd k)), (5, .int (nI k)), (4, .int (nI nb)), (3, .ref (u 1)), (2, .int (nI (h % 8))), (1, .int (nI (h % 24 / 8))), (0, .ref (u 0))]) hx hb dX6_pass_606 hl (by decide) rfl (fun ls hl => ?_)
    refine p_cool1 C0 hA (hV.cool k (by omega)) hk hP hD hS (lv_sub hl [0, 1, 2, 3, 4, 5, 6] rfl) (fun H locs ls hP hD hS hl => ?_)
    refine lv_iinc (v := nI (k + 1)) (lv' := [(5, .int (nI (k + 1))), (4, .int (nI nb)), (3, .ref (u 1)), (2, .int (nI (h % 8))), (1, .int (nI (h % 24 / 8))), (0, .ref (u 0))]) hx hb dX6_pass_669 hl (k := 0) rfl (nI_1 k) (by decide) rfl (fun ls hl => ?_)
    refine lv_goto (tgt := 595) hx hb dX6_pass_672 (by decide) ?_
    exact ih _ _ _ ⟨hP, hD, hS, lv_sub hl [0, 1, 2, 3, 4, 5] rfl⟩
  · obtain ⟨hP, hD, hS, hl⟩ := hI
    refine lv_iload hx hb dX6_pass_595 (lv_at hl 0 rfl) ?_
    refine lv_iload hx hb dX6_pass_597 (lv_at hl 1 rfl) ?_
    refine lv_icmp_ge (tgt := 675) hx hb dX6_pass_599 (by decide) (fun _ => ?_) (fun c => absurd (i32_rf _) c)
    exact kk _ _ _ hP hD hS (lv_sub hl [3, 4, 5] rfl)
set_option maxHeartbeats 4000000 in
set_option maxRecDepth 100000 in
theorem c_X6_pass (l : Launch) (D : va_G) (cI cB cS : ClassId) (u bd sl : Nat → Nat) (σ : zS) {nb ns h B : Nat} (hV : zV σ nb ns h B) (hB : B + 90 ≤ 2 ^ 28) : zMV l yX6_pass wsX6_pass ({ frames := 1, cells := 0, slots := 0, locals := 26 }) [.ref (u 0)] D (zT3 cI cB cS) (zj cB cS u bd sl nb ns σ) (zj cB cS u bd sl nb ns (f_hour σ nb ns h)) := by
  intro sz
  refine Met.ofW (cc := cX6_pass) (maxL := 9) (ret := none) (by decide) rfl ?_
  intro p e s m args below meth c s₁ B hml hv
  obtain ⟨rfl, hsz, hP, hK, hD⟩ := hv
  have hx := B.exec
  have hb := B.bytes
  have hr := B.returns
  have hts := atoms_spec (ws := wsX6_pass) B.pre
  have hown : s.vm.findClass RX6 = some m.cls := findClass_of_methodNamed B.named
  have hlocks := B.notSynchronized
  subst hsz
  have hD := hD.self (sz := s.heap.size)
  generalize hAe : va_A (zj cB cS u bd sl nb ns σ) s.heap.size = A at hD ⊢
  have hA : ∀ q : Nat, s.heap.size ≤ q → A q := fun q h => by rw [← hAe]; exact Or.inr h
  have hS : va_S A s.heap s.heap [] := va_S.rf
  have hP : va_P D vwCl (zj cB cS u bd sl nb ns σ) s.heap := hP
  have hl := lv_entry ([.ref (u 0)]) (n := 9) (Nat.le_of_ble_eq_true rfl)
  rw [lg_entry_eq]
  generalize (lg_sl ([.ref (u 0)]) ++ List.replicate (9 - (lg_sl ([.ref (u 0)])).length) Slot.unset).toArray = ls at hl ⊢
  have hl : lv_has ls 9 [(0, .ref (u 0))] := hl
  have hf29 := hts (.fieldLink RX6 29 "HotBedsLaw$Sim" "hour" "I") (by decide +kernel)
  have hinX6 : ∀ w ∈ u_ws RX6 TX6 5, w ∈ wsX6_pass := by decide +kernel
  have hh := hV.1.2.2.2.2.2.1
  have hnb := hV.1.2.1
  have hns := hV.1.2.2.2.1
  refine lv_aload_n hx hb dX6_pass_0 rfl (lv_at hl 0 rfl) ?_
  refine va_get (D := D) (ci := 6) (v := .int (nI h)) (C := RX6) (T := TX6) (N := 5) hx hb hts hinX6 hown hK hP 0 rfl rfl 0 (by decide) hf29 (fun _ h9 => h9) (congrArg (fun z => some (Value.int z)) hV.1.2.2.2.2.1) dX6_pass_1 ?_
  refine lv_bipush (v := 8) hx hb dX6_pass_4 (by decide) ?_
  refine zk_div (x := h) (y := 8) hx hb dX6_pass_6 (by omega) (by decide) (by decide) ?_
  refine lv_iconst (v := 3) hx hb dX6_pass_7 (by decide) ?_
  refine zk_rem (x := (h / 8)) (y := 3) hx hb dX6_pass_8 (by omega) (by decide) (by decide) ?_
  refine lv_istore_n (lv' := [(1, .int (nI ((h / 8) % 3))), (0, .ref (u 0))]) hx hb dX6_pass_9 rfl hl (by decide) rfl (fun ls hl => ?_)
  refine lv_aload_n hx hb dX6_pass_10 rfl (lv_at hl 1 rfl) ?_
  refine va_get (D := D) (ci := 6) (v := .int (nI h)) (C := RX6) (T := TX6) (N := 5) hx hb hts hinX6 hown hK hP 0 rfl rfl 0 (by decide) hf29 (fun _ h9 => h9) (congrArg (fun z => some (Value.int z)) hV.1.2.2.2.2.1) dX6_pass_11 ?_
  refine lv_bipush (v := 8) hx hb dX6_pass_14 (by decide) ?_
  refine zk_rem (x := h) (y := 8) hx hb dX6_pass_16 (by omega) (by decide) (by decide) ?_
  refine lv_istore_n (lv' := [(2, .int (nI (h % 8))), (1, .int (nI ((h / 8) % 3))), (0, .ref (u 0))]) hx hb dX6_pass_17 rfl hl (by decide) rfl (fun ls hl => ?_)
  rw [show h / 8 % 3 = h % 24 / 8 by omega] at hl
  have C0 : zPa p s m _ meth c D cI cB cS := ⟨hx, hb, hml, hown, hts, hK⟩
  have hB3 : _ + 30 ≤ 2 ^ 28 := Nat.le_trans (Nat.add_le_add_left (by decide) _) hB
  refine p_rings C0 hA hV hB3 hP hD hS (lv_sub hl [0, 1, 2] rfl) (fun H locs ls hP hD hS hl => ?_)
  refine p_serves C0 hA (hV.hour1 hB3) (by omega) hP hD hS hl (fun H locs ls hP hD hS hl => ?_)
  refine p_rests C0 hA (hV.hour2 hB3) (by omega) hP hD hS hl (fun H locs ls hP hD hS hl => ?_)
  refine p_cools C0 hA (hV.hour3 hB3) (by omega) hP hD hS hl (fun H locs ls hP hD hS hl => ?_)
  have hP : va_P D vwCl (zj cB cS u bd sl nb ns (f_cool (f_hour3 σ nb ns h) nb)) H := hP
  have hD : va_D A (zj cB cS u bd sl nb ns (f_cool (f_hour3 σ nb ns h) nb)) := hD
  refine lv_aload_n hx hb dX6_pass_675 rfl (lv_at hl 2 rfl) ?_
  refine lv_dup hx hb dX6_pass_676 rfl ?_
  refine va_get (D := D) (ci := 6) (v := .int (nI h)) (C := RX6) (T := TX6) (N := 5) hx hb hts hinX6 hown hK hP 0 rfl rfl 0 (by decide) hf29 (fun _ h9 => h9) (congrArg (fun z => some (Value.int z)) ((congrFun (f_cool_0 _ nb) 0).trans (hV.hour3 hB3).1.2.2.2.2.1)) dX6_pass_677 ?_
  refine lv_iconst (v := 1) hx hb dX6_pass_680 (by decide) ?_
  refine zk_add (x := h) (y := 1) hx hb dX6_pass_681 ?_
  refine va_put (D := D) (ci := 6) (v := .int (nI (h + 1))) (ty := .int) (C := RX6) (T := TX6) (N := 5) hx hb hts hinX6 tyX6 tyX6_ok nmX6 hown hK hP hD hS 0 rfl rfl 0 (by decide) hf29 (fun _ h9 => h9)  rfl (by decide +kernel) rfl rfl (Nat.le_of_ble_eq_true rfl) dX6_pass_682 (fun H locs hP hD hS => ?_)
  have hP : va_P D vwCl (zj cB cS u bd sl nb ns (zs (f_cool (f_hour3 σ nb ns h) nb) 0 0 (nI (h + 1)))) H := by rw [← zjw00 _]; exact hP
  have hD : va_D A (zj cB cS u bd sl nb ns (zs (f_cool (f_hour3 σ nb ns h) nb) 0 0 (nI (h + 1)))) := by rw [← zjw00 _]; exact hD
  have e9 : f_hour σ nb ns h = zs (f_cool (f_hour3 σ nb ns h) nb) 0 0 (nI (h + 1)) := by rfl
  have hP9 : va_P D vwCl (zj cB cS u bd sl nb ns (f_hour σ nb ns h)) H := by rw [e9]; exact hP
  have hD9 : va_D A (zj cB cS u bd sl nb ns (f_hour σ nb ns h)) := by rw [e9]; exact hD
  exact W.vret hx hb hr (fun t ht hW => ⟨⟨(), rfl, trivial, by rw [ht]; exact hP9, va_K.moved hW.alike hK, hD9⟩, hS.F ht⟩) hS.2.2 dX6_pass_685
