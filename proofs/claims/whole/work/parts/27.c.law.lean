set_option maxHeartbeats 4000000 in
set_option maxRecDepth 100000 in
theorem law_t_553 {p : Program} {l : Launch} {e : Env} {s : State} {m : MethodId} {below : List Frame} {meth : Method} {c : Code} {D : va_G} {cI cL : ClassId} {b0 L : Nat} {xs : Nat → Int32} {x o : Nat} {a b μ : Nat → Nat} {Q : State → Prop} {cells slots i : Nat} (C : zLA l p s m meth c D cI cL b0 L xs) {hm : Nat} (kk : zGo p l e s m below meth c D cI cL b0 x o a b μ Q cells slots 1260 i hm) (hc : cells ≤ 1092) (hs : slots ≤ 8973) {σ τ : zS} {f : Nat → Int64} {th x5 x6 : Int32} {κ : Nat → Int32} {nb ns h : Nat} {H : Heap} {locs : List Loc} {ls : Array Slot} (hU : zU σ nb ns h) (hh : h ≤ hm) (hP : va_P D vwCl (zw_W cI cL x a b σ τ o f μ th κ) H) (hD : va_D (fun q => s.heap.size ≤ q) (zw_W cI cL x a b σ τ o f μ th κ)) (hS : va_S (fun q => s.heap.size ≤ q) s.heap H locs) (hl : lv_has ls 9 [(6, .int x6), (5, .int x5), (0, .ref b0), (1, .ref x), (2, .ref (μ 0)), (3, .ref o), (4, .int (nI i))]) (hf : th = x5) (hg : x5 = 0 → f 0 = x6.toInt64) : W p l e room_1 s m #[Value.ref b0] below meth c H locs cells slots Q (F0 m 553 ls []) := by
  obtain ⟨hx, hb, hr, hml, hown, hts, hX, hbl, hK, hL, hZ, hst, hL2⟩ := C
  have hP9 : va_P D vwCl (zw_O cI cL x a b σ τ o f ++ (zw_M cI μ th σ κ ++ [])) H := hP
  have hD9 : va_D (fun q => s.heap.size ≤ q) (zw_O cI cL x a b σ τ o f ++ (zw_M cI μ th σ κ ++ [])) := hD
  have hPm := fr_P hP9
  have hDm := fr_D hD9
  have hKm : va_K D vwCl [(cI, .int)] s := hK.sub [0] rfl
  refine lv_aload_n hx hb dL_law_553 rfl (lv_at hl 4 rfl) ?_
  refine zk_R (D := D) (va_runV (As := []) (rest := []) ⟨hx, hb, hml, hown, hts⟩ (c_X4_thrown l D cI μ th σ κ _) (cwV 0 hts gL_law_X4_thrown rfl rfl rfl zdX4_thrown ⟨Nat.le_of_ble_eq_true rfl, Nat.le_of_ble_eq_true rfl⟩) ⟨zbl _, va_recv hKm hPm (ci := 4) (q0 := 0) rfl rfl, zpr hKm hPm hDm⟩ rfl rfl hl.1 rfl (lv_room (Nat.le_of_ble_eq_true rfl)) dL_law_554 ⟨hc, hs⟩) hS (fun r H locs hr9 hk1 hS => ?_)
  have hP := hk1 _ hP
  rw [show r = x5 from hr9.trans hf]
  refine lv_iload hx hb dL_law_557 (lv_at hl 1 rfl) ?_
  refine lv_icmp_eq (tgt := 564) hx hb dL_law_559 (by decide) (fun _ => ?_) (fun c1 => absurd rfl c1)
  refine lv_iload hx hb dL_law_564 (lv_at hl 1 rfl) ?_
  refine lv_if_ne (tgt := 581) hx hb dL_law_566 (by decide) (fun c2 => ?_) (fun c2 => ?_)
  · refine lv_goto (tgt := 1260) hx hb dL_law_581 (by decide) ?_
    exact kk σ τ f th κ nb ns h _ _ ls hU hh hP hD hS (lv_sub hl [2, 3, 4, 5, 6] rfl)
  · refine lv_aload_n hx hb dL_law_569 rfl (lv_at hl 5 rfl) ?_
    refine lv_iconst (v := 0) hx hb dL_law_570 (by decide) ?_
    refine va_lald hx hb hK hP 41 1 rfl rfl vp_in01 dL_law_571 ?_
    refine lv_iload hx hb dL_law_572 (lv_at hl 0 rfl) ?_
    refine lv_i2l hx hb dL_law_574 rfl ?_
    refine W.lcmp hx hb dL_law_575 ?_
    refine lv_if_eq (tgt := 581) hx hb dL_law_576 (by decide) (fun _ => ?_) (fun c3 => absurd ((lg_cmp_eq _ _).mpr (hg c2)) c3)
    refine lv_goto (tgt := 1260) hx hb dL_law_581 (by decide) ?_
    exact kk σ τ f th κ nb ns h _ _ ls hU hh hP hD hS (lv_sub hl [2, 3, 4, 5, 6] rfl)

set_option maxHeartbeats 4000000 in
set_option maxRecDepth 100000 in
theorem law_pawn {p : Program} {l : Launch} {e : Env} {s : State} {m : MethodId} {below : List Frame} {meth : Method} {c : Code} {D : va_G} {cI cL : ClassId} {b0 L : Nat} {xs : Nat → Int32} {x o : Nat} {a b μ : Nat → Nat} {Q : State → Prop} {cells slots i : Nat} (C : zLA l p s m meth c D cI cL b0 L xs) {hm : Nat} (kk : zGo p l e s m below meth c D cI cL b0 x o a b μ Q (cells + 1) (slots + 6) 1260 i (hm + 72)) (hc : cells + 1 ≤ 1092) (hs : slots + 6 ≤ 8973) (hi : i + 5 ≤ L) (hm9 : hm + 80 < 2 ^ 30) : zGo p l e s m below meth c D cI cL b0 x o a b μ Q cells slots 528 i hm := by
  have C0 := C
  obtain ⟨hx, hb, hr, hml, hown, hts, hX, hbl, hK, hL, hZ, hst, hL2⟩ := C
  intro σ τ f th κ nb ns h H locs ls hU hh hP hD hS hl
  have hI := hU.1
  have hC := hI.1
  have hA : ∀ q : Nat, s.heap.size ≤ q → (fun q => s.heap.size ≤ q) q := fun _ z => z
  have hbA : ¬ (fun q => s.heap.size ≤ q) b0 := Nat.not_le.mpr hbl
  have hnb := hC.2.1
  have hns := hC.2.2.2.1
  obtain ⟨v1, e1⟩ : ∃ v, xs (nI (i + 1)).toNatClampNeg = v := ⟨_, rfl⟩
  by_cases hv : f_sail σ v1
  · obtain ⟨k, hk, rfl⟩ := zsail_of hC hv
    by_cases hw : σ 10 k = 1
    · have hP8 : va_P D vwCl ([] ++ (zw_O cI cL x a b σ τ o f ++ zw_M cI μ th σ κ)) H := hP
      have hD8 : va_D (fun q => s.heap.size ≤ q) ([] ++ (zw_O cI cL x a b σ τ o f ++ zw_M cI μ th σ κ)) := hD
      have hPo := fr_P hP8
      have hDo := fr_D hD8
      refine lv_aload_n hx hb dL_law_528 rfl (lv_at hl 1 rfl) ?_
      refine lv_aload_n hx hb dL_law_529 rfl (lv_at hl 0 rfl) ?_
      refine lv_iload hx hb dL_law_530 (lv_at hl 4 rfl) ?_
      refine lv_iconst (v := 1) hx hb dL_law_532 (by decide) ?_
      refine zk_add (x := i) (y := 1) hx hb dL_law_533 ?_
      refine va_sld hx hb hX hbl hbA hS (vp_in_nI (by omega) (by omega)) dL_law_534 ?_
      rw [e1]
      refine lv_aload_n hx hb dL_law_535 rfl (lv_at hl 3 rfl) ?_
      have hF := zfree hDo hS hA
      refine zk_E (vx_runSW (As := [.ref x, .int (nI k), .ref o]) (rest := []) ⟨hx, hb, hml, hown, hts⟩ (c_L_pawn l D cI cL x a b σ τ o f hC hk hw _) (vx_cwSW 3 hts gL_law_L_pawn rfl rfl rfl zdL_pawn.2 ⟨Nat.le_of_ble_eq_true rfl, Nat.le_of_ble_eq_true rfl⟩) ⟨zblL _, zprL hK hPo hDo hL⟩ rfl rfl hl.1 rfl (lv_room (Nat.le_of_ble_eq_true rfl)) dL_law_536 ⟨Nat.le_of_succ_le hc, Nat.le_trans (Nat.le_add_right _ 6) hs⟩) hS hF (fun r u H locs hr9 hkp hP1 hD1 hS => ?_)
      subst hr9
      obtain ⟨hP, hD⟩ := fr_J hP8 hD8 hkp hF hP1 hD1
      refine W.widen (k := cells + 1) (n := slots + 6) (by omega) (by omega) ?_
      refine lv_istore (lv' := [(5, .int 0), (0, .ref b0), (1, .ref x), (2, .ref (μ 0)), (3, .ref o), (4, .int (nI i))]) hx hb dL_law_539 hl (by decide) rfl (fun ls hl => ?_)
      have hP7 : va_P D vwCl (zw_O cI cL x a b (f_pawnB σ k) τ o (vp_updL f 0 ((f_pawnB σ k) 9 k).toInt64) ++ (zw_M cI μ th σ κ ++ [])) H := hP
      have hD7 : va_D (fun q => s.heap.size ≤ q) (zw_O cI cL x a b (f_pawnB σ k) τ o (vp_updL f 0 ((f_pawnB σ k) 9 k).toInt64) ++ (zw_M cI μ th σ κ ++ [])) := hD
      have hPm := fr_P hP7
      have hDm := fr_D hD7
      have hKm : va_K D vwCl [(cI, .int)] s := hK.sub [0] rfl
      have hF2 := zfree hDm hS hA
      refine lv_aload_n hx hb dL_law_541 rfl (lv_at hl 3 rfl) ?_
      refine lv_aload_n hx hb dL_law_542 rfl (lv_at hl 1 rfl) ?_
      refine lv_iload hx hb dL_law_543 (lv_at hl 5 rfl) ?_
      refine lv_iconst (v := 1) hx hb dL_law_545 (by decide) ?_
      refine zk_add (x := i) (y := 1) hx hb dL_law_546 ?_
      refine va_sld hx hb hX hbl hbA hS (vp_in_nI (by omega) (by omega)) dL_law_547 ?_
      rw [e1]
      refine zk_I (va_runV (As := [.int (nI k)]) (rest := []) ⟨hx, hb, hml, hown, hts⟩ (c_X4_pawn l D cI μ th σ κ hC hk hw _) (cwV 1 hts gL_law_X4_pawn rfl rfl rfl zdX4_pawn ⟨Nat.le_of_ble_eq_true rfl, Nat.le_of_ble_eq_true rfl⟩) ⟨zbl _, va_recv hKm hPm (ci := 4) (q0 := 0) rfl rfl, zpr hKm hPm hDm⟩ rfl rfl hl.1 rfl (lv_room (Nat.le_of_ble_eq_true rfl)) dL_law_548 ⟨hc, hs⟩) hS hF2 (fun r6 H locs hr6 hkp hP1 hD1 hS => ?_)
      obtain ⟨hP, hD⟩ := fr_J hP7 hD7 hkp hF2 hP1 hD1
      subst hr6
      refine lv_istore (lv' := [(6, .int ((f_pawnB σ k) 9 k)), (5, .int 0), (0, .ref b0), (1, .ref x), (2, .ref (μ 0)), (3, .ref o), (4, .int (nI i))]) hx hb dL_law_551 hl (by decide) rfl (fun ls hl => ?_)
      have hP : va_P D vwCl (zw_W cI cL x a b (f_pawnB σ k) τ o (vp_updL f 0 ((f_pawnB σ k) 9 k).toInt64) μ 0 κ) H := hP
      have hD : va_D (fun q => s.heap.size ≤ q) (zw_W cI cL x a b (f_pawnB σ k) τ o (vp_updL f 0 ((f_pawnB σ k) 9 k).toInt64) μ 0 κ) := hD
      exact law_t_553 C0 kk hc hs (hU.pawnB hk) (by omega) hP hD hS hl rfl (fun _ => rfl)
    · have hP8 : va_P D vwCl ([] ++ (zw_O cI cL x a b σ τ o f ++ zw_M cI μ th σ κ)) H := hP
      have hD8 : va_D (fun q => s.heap.size ≤ q) ([] ++ (zw_O cI cL x a b σ τ o f ++ zw_M cI μ th σ κ)) := hD
      have hPo := fr_P hP8
      have hDo := fr_D hD8
      refine lv_aload_n hx hb dL_law_528 rfl (lv_at hl 1 rfl) ?_
      refine lv_aload_n hx hb dL_law_529 rfl (lv_at hl 0 rfl) ?_
      refine lv_iload hx hb dL_law_530 (lv_at hl 4 rfl) ?_
      refine lv_iconst (v := 1) hx hb dL_law_532 (by decide) ?_
      refine zk_add (x := i) (y := 1) hx hb dL_law_533 ?_
      refine va_sld hx hb hX hbl hbA hS (vp_in_nI (by omega) (by omega)) dL_law_534 ?_
      rw [e1]
      refine lv_aload_n hx hb dL_law_535 rfl (lv_at hl 3 rfl) ?_
      refine zk_B (D := D) (vx_runSW (As := [.ref x, .int (nI k), .ref o]) (rest := []) ⟨hx, hb, hml, hown, hts⟩ (t_L_pawn2 l hst D cI cL x a b σ τ o f hC hk hw _) (vx_cwSW 3 hts gL_law_L_pawn rfl rfl rfl zdL_pawn.2 ⟨Nat.le_of_ble_eq_true rfl, Nat.le_of_ble_eq_true rfl⟩) ⟨zblX _, zprX (H0 := s.heap) hK hPo hDo hL hZ hS⟩ rfl rfl hl.1 rfl (lv_room (Nat.le_of_ble_eq_true rfl)) dL_law_536 ⟨hc, hs⟩) hS (fun H locs hk1 hS => ?_)
      have hP := hk1 _ hP
      refine lv_istore (lv' := [(5, .int 2), (0, .ref b0), (1, .ref x), (2, .ref (μ 0)), (3, .ref o), (4, .int (nI i))]) hx hb dL_law_539 hl (by decide) rfl (fun ls hl => ?_)
      have hP7 : va_P D vwCl (zw_O cI cL x a b (σ) τ o f ++ (zw_M cI μ th σ κ ++ [])) H := hP
      have hD7 : va_D (fun q => s.heap.size ≤ q) (zw_O cI cL x a b (σ) τ o f ++ (zw_M cI μ th σ κ ++ [])) := hD
      have hPm := fr_P hP7
      have hDm := fr_D hD7
      have hKm : va_K D vwCl [(cI, .int)] s := hK.sub [0] rfl
      have hF2 := zfree hDm hS hA
      refine lv_aload_n hx hb dL_law_541 rfl (lv_at hl 3 rfl) ?_
      refine lv_aload_n hx hb dL_law_542 rfl (lv_at hl 1 rfl) ?_
      refine lv_iload hx hb dL_law_543 (lv_at hl 5 rfl) ?_
      refine lv_iconst (v := 1) hx hb dL_law_545 (by decide) ?_
      refine zk_add (x := i) (y := 1) hx hb dL_law_546 ?_
      refine va_sld hx hb hX hbl hbA hS (vp_in_nI (by omega) (by omega)) dL_law_547 ?_
      rw [e1]
      refine zk_I (va_runV (As := [.int (nI k)]) (rest := []) ⟨hx, hb, hml, hown, hts⟩ (b_X4_pawn2 l D cI μ th σ κ hC hk hw _) (cwV 1 hts gL_law_X4_pawn rfl rfl rfl zdX4_pawn ⟨Nat.le_of_ble_eq_true rfl, Nat.le_of_ble_eq_true rfl⟩) ⟨zbl _, va_recv hKm hPm (ci := 4) (q0 := 0) rfl rfl, zpr hKm hPm hDm⟩ rfl rfl hl.1 rfl (lv_room (Nat.le_of_ble_eq_true rfl)) dL_law_548 ⟨hc, hs⟩) hS hF2 (fun r6 H locs hr6 hkp hP1 hD1 hS => ?_)
      obtain ⟨hP, hD⟩ := fr_J hP7 hD7 hkp hF2 hP1 hD1
      refine lv_istore (lv' := [(6, .int (r6)), (5, .int 2), (0, .ref b0), (1, .ref x), (2, .ref (μ 0)), (3, .ref o), (4, .int (nI i))]) hx hb dL_law_551 hl (by decide) rfl (fun ls hl => ?_)
      have hP : va_P D vwCl (zw_W cI cL x a b (σ) τ o f μ 2 κ) H := hP
      have hD : va_D (fun q => s.heap.size ≤ q) (zw_W cI cL x a b (σ) τ o f μ 2 κ) := hD
      exact law_t_553 C0 kk hc hs (hU) (by omega) hP hD hS hl rfl (fun z => absurd z (by decide))
  · have hP8 : va_P D vwCl ([] ++ (zw_O cI cL x a b σ τ o f ++ zw_M cI μ th σ κ)) H := hP
    have hD8 : va_D (fun q => s.heap.size ≤ q) ([] ++ (zw_O cI cL x a b σ τ o f ++ zw_M cI μ th σ κ)) := hD
    have hPo := fr_P hP8
    have hDo := fr_D hD8
    refine lv_aload_n hx hb dL_law_528 rfl (lv_at hl 1 rfl) ?_
    refine lv_aload_n hx hb dL_law_529 rfl (lv_at hl 0 rfl) ?_
    refine lv_iload hx hb dL_law_530 (lv_at hl 4 rfl) ?_
    refine lv_iconst (v := 1) hx hb dL_law_532 (by decide) ?_
    refine zk_add (x := i) (y := 1) hx hb dL_law_533 ?_
    refine va_sld hx hb hX hbl hbA hS (vp_in_nI (by omega) (by omega)) dL_law_534 ?_
    rw [e1]
    refine lv_aload_n hx hb dL_law_535 rfl (lv_at hl 3 rfl) ?_
    refine zk_B (D := D) (vx_runSW (As := [.ref x, .int v1, .ref o]) (rest := []) ⟨hx, hb, hml, hown, hts⟩ (t_L_pawn1 l hst D cI cL x a b σ τ o f v1 hv _) (vx_cwSW 3 hts gL_law_L_pawn rfl rfl rfl zdL_pawn.2 ⟨Nat.le_of_ble_eq_true rfl, Nat.le_of_ble_eq_true rfl⟩) ⟨zblX _, zprX (H0 := s.heap) hK hPo hDo hL hZ hS⟩ rfl rfl hl.1 rfl (lv_room (Nat.le_of_ble_eq_true rfl)) dL_law_536 ⟨hc, hs⟩) hS (fun H locs hk1 hS => ?_)
    have hP := hk1 _ hP
    refine lv_istore (lv' := [(5, .int 1), (0, .ref b0), (1, .ref x), (2, .ref (μ 0)), (3, .ref o), (4, .int (nI i))]) hx hb dL_law_539 hl (by decide) rfl (fun ls hl => ?_)
    have hP7 : va_P D vwCl (zw_O cI cL x a b (σ) τ o f ++ (zw_M cI μ th σ κ ++ [])) H := hP
    have hD7 : va_D (fun q => s.heap.size ≤ q) (zw_O cI cL x a b (σ) τ o f ++ (zw_M cI μ th σ κ ++ [])) := hD
    have hPm := fr_P hP7
    have hDm := fr_D hD7
    have hKm : va_K D vwCl [(cI, .int)] s := hK.sub [0] rfl
    have hF2 := zfree hDm hS hA
    refine lv_aload_n hx hb dL_law_541 rfl (lv_at hl 3 rfl) ?_
    refine lv_aload_n hx hb dL_law_542 rfl (lv_at hl 1 rfl) ?_
    refine lv_iload hx hb dL_law_543 (lv_at hl 5 rfl) ?_
    refine lv_iconst (v := 1) hx hb dL_law_545 (by decide) ?_
    refine zk_add (x := i) (y := 1) hx hb dL_law_546 ?_
    refine va_sld hx hb hX hbl hbA hS (vp_in_nI (by omega) (by omega)) dL_law_547 ?_
    rw [e1]
    refine zk_I (va_runV (As := [.int v1]) (rest := []) ⟨hx, hb, hml, hown, hts⟩ (b_X4_pawn1 l D cI μ th σ κ v1 hC hv _) (cwV 1 hts gL_law_X4_pawn rfl rfl rfl zdX4_pawn ⟨Nat.le_of_ble_eq_true rfl, Nat.le_of_ble_eq_true rfl⟩) ⟨zbl _, va_recv hKm hPm (ci := 4) (q0 := 0) rfl rfl, zpr hKm hPm hDm⟩ rfl rfl hl.1 rfl (lv_room (Nat.le_of_ble_eq_true rfl)) dL_law_548 ⟨hc, hs⟩) hS hF2 (fun r6 H locs hr6 hkp hP1 hD1 hS => ?_)
    obtain ⟨hP, hD⟩ := fr_J hP7 hD7 hkp hF2 hP1 hD1
    refine lv_istore (lv' := [(6, .int (r6)), (5, .int 1), (0, .ref b0), (1, .ref x), (2, .ref (μ 0)), (3, .ref o), (4, .int (nI i))]) hx hb dL_law_551 hl (by decide) rfl (fun ls hl => ?_)
    have hP : va_P D vwCl (zw_W cI cL x a b (σ) τ o f μ 1 κ) H := hP
    have hD : va_D (fun q => s.heap.size ≤ q) (zw_W cI cL x a b (σ) τ o f μ 1 κ) := hD
    exact law_t_553 C0 kk hc hs (hU) (by omega) hP hD hS hl rfl (fun z => absurd z (by decide))

set_option maxHeartbeats 4000000 in
set_option maxRecDepth 100000 in
theorem law_t_609 {p : Program} {l : Launch} {e : Env} {s : State} {m : MethodId} {below : List Frame} {meth : Method} {c : Code} {D : va_G} {cI cL : ClassId} {b0 L : Nat} {xs : Nat → Int32} {x o : Nat} {a b μ : Nat → Nat} {Q : State → Prop} {cells slots i : Nat} (C : zLA l p s m meth c D cI cL b0 L xs) {hm : Nat} (kk : zGo p l e s m below meth c D cI cL b0 x o a b μ Q cells slots 1260 i hm) (hc : cells ≤ 1092) (hs : slots ≤ 8973) {σ τ : zS} {f : Nat → Int64} {th x5 x6 : Int32} {κ : Nat → Int32} {nb ns h : Nat} {H : Heap} {locs : List Loc} {ls : Array Slot} (hU : zU σ nb ns h) (hh : h ≤ hm) (hP : va_P D vwCl (zw_W cI cL x a b σ τ o f μ th κ) H) (hD : va_D (fun q => s.heap.size ≤ q) (zw_W cI cL x a b σ τ o f μ th κ)) (hS : va_S (fun q => s.heap.size ≤ q) s.heap H locs) (hl : lv_has ls 9 [(6, .int x6), (5, .int x5), (0, .ref b0), (1, .ref x), (2, .ref (μ 0)), (3, .ref o), (4, .int (nI i))]) (hf : th = x5) (hg : x5 = 0 → f 0 = x6.toInt64) : W p l e room_1 s m #[Value.ref b0] below meth c H locs cells slots Q (F0 m 609 ls []) := by
  obtain ⟨hx, hb, hr, hml, hown, hts, hX, hbl, hK, hL, hZ, hst, hL2⟩ := C
  have hP9 : va_P D vwCl (zw_O cI cL x a b σ τ o f ++ (zw_M cI μ th σ κ ++ [])) H := hP
  have hD9 : va_D (fun q => s.heap.size ≤ q) (zw_O cI cL x a b σ τ o f ++ (zw_M cI μ th σ κ ++ [])) := hD
  have hPm := fr_P hP9
  have hDm := fr_D hD9
  have hKm : va_K D vwCl [(cI, .int)] s := hK.sub [0] rfl
  refine lv_aload_n hx hb dL_law_609 rfl (lv_at hl 4 rfl) ?_
  refine zk_R (D := D) (va_runV (As := []) (rest := []) ⟨hx, hb, hml, hown, hts⟩ (c_X4_thrown l D cI μ th σ κ _) (cwV 0 hts gL_law_X4_thrown rfl rfl rfl zdX4_thrown ⟨Nat.le_of_ble_eq_true rfl, Nat.le_of_ble_eq_true rfl⟩) ⟨zbl _, va_recv hKm hPm (ci := 4) (q0 := 0) rfl rfl, zpr hKm hPm hDm⟩ rfl rfl hl.1 rfl (lv_room (Nat.le_of_ble_eq_true rfl)) dL_law_610 ⟨hc, hs⟩) hS (fun r H locs hr9 hk1 hS => ?_)
  have hP := hk1 _ hP
  rw [show r = x5 from hr9.trans hf]
  refine lv_iload hx hb dL_law_613 (lv_at hl 1 rfl) ?_
  refine lv_icmp_eq (tgt := 620) hx hb dL_law_615 (by decide) (fun _ => ?_) (fun c1 => absurd rfl c1)
  refine lv_iload hx hb dL_law_620 (lv_at hl 1 rfl) ?_
  refine lv_if_ne (tgt := 637) hx hb dL_law_622 (by decide) (fun c2 => ?_) (fun c2 => ?_)
  · refine lv_goto (tgt := 1260) hx hb dL_law_637 (by decide) ?_
    exact kk σ τ f th κ nb ns h _ _ ls hU hh hP hD hS (lv_sub hl [2, 3, 4, 5, 6] rfl)
  · refine lv_aload_n hx hb dL_law_625 rfl (lv_at hl 5 rfl) ?_
    refine lv_iconst (v := 0) hx hb dL_law_626 (by decide) ?_
    refine va_lald hx hb hK hP 41 1 rfl rfl vp_in01 dL_law_627 ?_
    refine lv_iload hx hb dL_law_628 (lv_at hl 0 rfl) ?_
    refine lv_i2l hx hb dL_law_630 rfl ?_
    refine W.lcmp hx hb dL_law_631 ?_
    refine lv_if_eq (tgt := 637) hx hb dL_law_632 (by decide) (fun _ => ?_) (fun c3 => absurd ((lg_cmp_eq _ _).mpr (hg c2)) c3)
    refine lv_goto (tgt := 1260) hx hb dL_law_637 (by decide) ?_
    exact kk σ τ f th κ nb ns h _ _ ls hU hh hP hD hS (lv_sub hl [2, 3, 4, 5, 6] rfl)

set_option maxHeartbeats 4000000 in
set_option maxRecDepth 100000 in
theorem law_redeem {p : Program} {l : Launch} {e : Env} {s : State} {m : MethodId} {below : List Frame} {meth : Method} {c : Code} {D : va_G} {cI cL : ClassId} {b0 L : Nat} {xs : Nat → Int32} {x o : Nat} {a b μ : Nat → Nat} {Q : State → Prop} {cells slots i : Nat} (C : zLA l p s m meth c D cI cL b0 L xs) {hm : Nat} (kk : zGo p l e s m below meth c D cI cL b0 x o a b μ Q (cells + 1) (slots + 6) 1260 i (hm + 72)) (hc : cells + 1 ≤ 1092) (hs : slots + 6 ≤ 8973) (hi : i + 5 ≤ L) (hm9 : hm + 80 < 2 ^ 30) : zGo p l e s m below meth c D cI cL b0 x o a b μ Q cells slots 584 i hm := by
  have C0 := C
  obtain ⟨hx, hb, hr, hml, hown, hts, hX, hbl, hK, hL, hZ, hst, hL2⟩ := C
  intro σ τ f th κ nb ns h H locs ls hU hh hP hD hS hl
  have hI := hU.1
  have hC := hI.1
  have hA : ∀ q : Nat, s.heap.size ≤ q → (fun q => s.heap.size ≤ q) q := fun _ z => z
  have hbA : ¬ (fun q => s.heap.size ≤ q) b0 := Nat.not_le.mpr hbl
  have hnb := hC.2.1
  have hns := hC.2.2.2.1
  obtain ⟨v1, e1⟩ : ∃ v, xs (nI (i + 1)).toNatClampNeg = v := ⟨_, rfl⟩
  by_cases hv : f_sail σ v1
  · obtain ⟨k, hk, rfl⟩ := zsail_of hC hv
    by_cases hw : f_can σ k
    · have hP8 : va_P D vwCl ([] ++ (zw_O cI cL x a b σ τ o f ++ zw_M cI μ th σ κ)) H := hP
      have hD8 : va_D (fun q => s.heap.size ≤ q) ([] ++ (zw_O cI cL x a b σ τ o f ++ zw_M cI μ th σ κ)) := hD
      have hPo := fr_P hP8
      have hDo := fr_D hD8
      refine lv_aload_n hx hb dL_law_584 rfl (lv_at hl 1 rfl) ?_
      refine lv_aload_n hx hb dL_law_585 rfl (lv_at hl 0 rfl) ?_
      refine lv_iload hx hb dL_law_586 (lv_at hl 4 rfl) ?_
      refine lv_iconst (v := 1) hx hb dL_law_588 (by decide) ?_
      refine zk_add (x := i) (y := 1) hx hb dL_law_589 ?_
      refine va_sld hx hb hX hbl hbA hS (vp_in_nI (by omega) (by omega)) dL_law_590 ?_
      rw [e1]
      refine lv_aload_n hx hb dL_law_591 rfl (lv_at hl 3 rfl) ?_
      have hF := zfree hDo hS hA
      refine zk_E (vx_runSW (As := [.ref x, .int (nI k), .ref o]) (rest := []) ⟨hx, hb, hml, hown, hts⟩ (c_L_redeem l D cI cL x a b σ τ o f hC hk hw _) (vx_cwSW 3 hts gL_law_L_redeem rfl rfl rfl zdL_redeem.2 ⟨Nat.le_of_ble_eq_true rfl, Nat.le_of_ble_eq_true rfl⟩) ⟨zblL _, zprL hK hPo hDo hL⟩ rfl rfl hl.1 rfl (lv_room (Nat.le_of_ble_eq_true rfl)) dL_law_592 ⟨Nat.le_of_succ_le hc, Nat.le_trans (Nat.le_add_right _ 6) hs⟩) hS hF (fun r u H locs hr9 hkp hP1 hD1 hS => ?_)
      subst hr9
      obtain ⟨hP, hD⟩ := fr_J hP8 hD8 hkp hF hP1 hD1
      refine W.widen (k := cells + 1) (n := slots + 6) (by omega) (by omega) ?_
      refine lv_istore (lv' := [(5, .int 0), (0, .ref b0), (1, .ref x), (2, .ref (μ 0)), (3, .ref o), (4, .int (nI i))]) hx hb dL_law_595 hl (by decide) rfl (fun ls hl => ?_)
      have hP7 : va_P D vwCl (zw_O cI cL x a b (f_red σ k) τ o (vp_updL f 0 ((f_red σ k) 9 k).toInt64) ++ (zw_M cI μ th σ κ ++ [])) H := hP
      have hD7 : va_D (fun q => s.heap.size ≤ q) (zw_O cI cL x a b (f_red σ k) τ o (vp_updL f 0 ((f_red σ k) 9 k).toInt64) ++ (zw_M cI μ th σ κ ++ [])) := hD
      have hPm := fr_P hP7
      have hDm := fr_D hD7
      have hKm : va_K D vwCl [(cI, .int)] s := hK.sub [0] rfl
      have hF2 := zfree hDm hS hA
      refine lv_aload_n hx hb dL_law_597 rfl (lv_at hl 3 rfl) ?_
      refine lv_aload_n hx hb dL_law_598 rfl (lv_at hl 1 rfl) ?_
      refine lv_iload hx hb dL_law_599 (lv_at hl 5 rfl) ?_
      refine lv_iconst (v := 1) hx hb dL_law_601 (by decide) ?_
      refine zk_add (x := i) (y := 1) hx hb dL_law_602 ?_
      refine va_sld hx hb hX hbl hbA hS (vp_in_nI (by omega) (by omega)) dL_law_603 ?_
      rw [e1]
      refine zk_I (va_runV (As := [.int (nI k)]) (rest := []) ⟨hx, hb, hml, hown, hts⟩ (c_X4_redeem l D cI μ th σ κ hI hk hw _) (cwV 1 hts gL_law_X4_redeem rfl rfl rfl zdX4_redeem ⟨Nat.le_of_ble_eq_true rfl, Nat.le_of_ble_eq_true rfl⟩) ⟨zbl _, va_recv hKm hPm (ci := 4) (q0 := 0) rfl rfl, zpr hKm hPm hDm⟩ rfl rfl hl.1 rfl (lv_room (Nat.le_of_ble_eq_true rfl)) dL_law_604 ⟨hc, hs⟩) hS hF2 (fun r6 H locs hr6 hkp hP1 hD1 hS => ?_)
      obtain ⟨hP, hD⟩ := fr_J hP7 hD7 hkp hF2 hP1 hD1
      subst hr6
      refine lv_istore (lv' := [(6, .int ((f_red σ k) 9 k)), (5, .int 0), (0, .ref b0), (1, .ref x), (2, .ref (μ 0)), (3, .ref o), (4, .int (nI i))]) hx hb dL_law_607 hl (by decide) rfl (fun ls hl => ?_)
      have hP : va_P D vwCl (zw_W cI cL x a b (f_red σ k) τ o (vp_updL f 0 ((f_red σ k) 9 k).toInt64) μ 0 κ) H := hP
      have hD : va_D (fun q => s.heap.size ≤ q) (zw_W cI cL x a b (f_red σ k) τ o (vp_updL f 0 ((f_red σ k) 9 k).toInt64) μ 0 κ) := hD
      exact law_t_609 C0 kk hc hs (hU.red hk) (by omega) hP hD hS hl rfl (fun _ => rfl)
    · have hP8 : va_P D vwCl ([] ++ (zw_O cI cL x a b σ τ o f ++ zw_M cI μ th σ κ)) H := hP
      have hD8 : va_D (fun q => s.heap.size ≤ q) ([] ++ (zw_O cI cL x a b σ τ o f ++ zw_M cI μ th σ κ)) := hD
      have hPo := fr_P hP8
      have hDo := fr_D hD8
      refine lv_aload_n hx hb dL_law_584 rfl (lv_at hl 1 rfl) ?_
      refine lv_aload_n hx hb dL_law_585 rfl (lv_at hl 0 rfl) ?_
      refine lv_iload hx hb dL_law_586 (lv_at hl 4 rfl) ?_
      refine lv_iconst (v := 1) hx hb dL_law_588 (by decide) ?_
      refine zk_add (x := i) (y := 1) hx hb dL_law_589 ?_
      refine va_sld hx hb hX hbl hbA hS (vp_in_nI (by omega) (by omega)) dL_law_590 ?_
      rw [e1]
      refine lv_aload_n hx hb dL_law_591 rfl (lv_at hl 3 rfl) ?_
      refine zk_B (D := D) (vx_runSW (As := [.ref x, .int (nI k), .ref o]) (rest := []) ⟨hx, hb, hml, hown, hts⟩ (t_L_redeem2 l hst D cI cL x a b σ τ o f hC hk hw _) (vx_cwSW 3 hts gL_law_L_redeem rfl rfl rfl zdL_redeem.2 ⟨Nat.le_of_ble_eq_true rfl, Nat.le_of_ble_eq_true rfl⟩) ⟨zblX _, zprX (H0 := s.heap) hK hPo hDo hL hZ hS⟩ rfl rfl hl.1 rfl (lv_room (Nat.le_of_ble_eq_true rfl)) dL_law_592 ⟨hc, hs⟩) hS (fun H locs hk1 hS => ?_)
      have hP := hk1 _ hP
      refine lv_istore (lv' := [(5, .int 2), (0, .ref b0), (1, .ref x), (2, .ref (μ 0)), (3, .ref o), (4, .int (nI i))]) hx hb dL_law_595 hl (by decide) rfl (fun ls hl => ?_)
      have hP7 : va_P D vwCl (zw_O cI cL x a b (σ) τ o f ++ (zw_M cI μ th σ κ ++ [])) H := hP
      have hD7 : va_D (fun q => s.heap.size ≤ q) (zw_O cI cL x a b (σ) τ o f ++ (zw_M cI μ th σ κ ++ [])) := hD
      have hPm := fr_P hP7
      have hDm := fr_D hD7
      have hKm : va_K D vwCl [(cI, .int)] s := hK.sub [0] rfl
      have hF2 := zfree hDm hS hA
      refine lv_aload_n hx hb dL_law_597 rfl (lv_at hl 3 rfl) ?_
      refine lv_aload_n hx hb dL_law_598 rfl (lv_at hl 1 rfl) ?_
      refine lv_iload hx hb dL_law_599 (lv_at hl 5 rfl) ?_
      refine lv_iconst (v := 1) hx hb dL_law_601 (by decide) ?_
      refine zk_add (x := i) (y := 1) hx hb dL_law_602 ?_
      refine va_sld hx hb hX hbl hbA hS (vp_in_nI (by omega) (by omega)) dL_law_603 ?_
      rw [e1]
      refine zk_I (va_runV (As := [.int (nI k)]) (rest := []) ⟨hx, hb, hml, hown, hts⟩ (b_X4_redeem2 l D cI μ th σ κ hI hk hw _) (cwV 1 hts gL_law_X4_redeem rfl rfl rfl zdX4_redeem ⟨Nat.le_of_ble_eq_true rfl, Nat.le_of_ble_eq_true rfl⟩) ⟨zbl _, va_recv hKm hPm (ci := 4) (q0 := 0) rfl rfl, zpr hKm hPm hDm⟩ rfl rfl hl.1 rfl (lv_room (Nat.le_of_ble_eq_true rfl)) dL_law_604 ⟨hc, hs⟩) hS hF2 (fun r6 H locs hr6 hkp hP1 hD1 hS => ?_)
      obtain ⟨hP, hD⟩ := fr_J hP7 hD7 hkp hF2 hP1 hD1
      refine lv_istore (lv' := [(6, .int (r6)), (5, .int 2), (0, .ref b0), (1, .ref x), (2, .ref (μ 0)), (3, .ref o), (4, .int (nI i))]) hx hb dL_law_607 hl (by decide) rfl (fun ls hl => ?_)
      have hP : va_P D vwCl (zw_W cI cL x a b (σ) τ o f μ 2 κ) H := hP
      have hD : va_D (fun q => s.heap.size ≤ q) (zw_W cI cL x a b (σ) τ o f μ 2 κ) := hD
      exact law_t_609 C0 kk hc hs (hU) (by omega) hP hD hS hl rfl (fun z => absurd z (by decide))
  · have hP8 : va_P D vwCl ([] ++ (zw_O cI cL x a b σ τ o f ++ zw_M cI μ th σ κ)) H := hP
    have hD8 : va_D (fun q => s.heap.size ≤ q) ([] ++ (zw_O cI cL x a b σ τ o f ++ zw_M cI μ th σ κ)) := hD
    have hPo := fr_P hP8
    have hDo := fr_D hD8
    refine lv_aload_n hx hb dL_law_584 rfl (lv_at hl 1 rfl) ?_
    refine lv_aload_n hx hb dL_law_585 rfl (lv_at hl 0 rfl) ?_
    refine lv_iload hx hb dL_law_586 (lv_at hl 4 rfl) ?_
    refine lv_iconst (v := 1) hx hb dL_law_588 (by decide) ?_
    refine zk_add (x := i) (y := 1) hx hb dL_law_589 ?_
    refine va_sld hx hb hX hbl hbA hS (vp_in_nI (by omega) (by omega)) dL_law_590 ?_
    rw [e1]
    refine lv_aload_n hx hb dL_law_591 rfl (lv_at hl 3 rfl) ?_
    refine zk_B (D := D) (vx_runSW (As := [.ref x, .int v1, .ref o]) (rest := []) ⟨hx, hb, hml, hown, hts⟩ (t_L_redeem1 l hst D cI cL x a b σ τ o f v1 hv _) (vx_cwSW 3 hts gL_law_L_redeem rfl rfl rfl zdL_redeem.2 ⟨Nat.le_of_ble_eq_true rfl, Nat.le_of_ble_eq_true rfl⟩) ⟨zblX _, zprX (H0 := s.heap) hK hPo hDo hL hZ hS⟩ rfl rfl hl.1 rfl (lv_room (Nat.le_of_ble_eq_true rfl)) dL_law_592 ⟨hc, hs⟩) hS (fun H locs hk1 hS => ?_)
    have hP := hk1 _ hP
    refine lv_istore (lv' := [(5, .int 1), (0, .ref b0), (1, .ref x), (2, .ref (μ 0)), (3, .ref o), (4, .int (nI i))]) hx hb dL_law_595 hl (by decide) rfl (fun ls hl => ?_)
    have hP7 : va_P D vwCl (zw_O cI cL x a b (σ) τ o f ++ (zw_M cI μ th σ κ ++ [])) H := hP
    have hD7 : va_D (fun q => s.heap.size ≤ q) (zw_O cI cL x a b (σ) τ o f ++ (zw_M cI μ th σ κ ++ [])) := hD
    have hPm := fr_P hP7
    have hDm := fr_D hD7
    have hKm : va_K D vwCl [(cI, .int)] s := hK.sub [0] rfl
    have hF2 := zfree hDm hS hA
    refine lv_aload_n hx hb dL_law_597 rfl (lv_at hl 3 rfl) ?_
    refine lv_aload_n hx hb dL_law_598 rfl (lv_at hl 1 rfl) ?_
    refine lv_iload hx hb dL_law_599 (lv_at hl 5 rfl) ?_
    refine lv_iconst (v := 1) hx hb dL_law_601 (by decide) ?_
    refine zk_add (x := i) (y := 1) hx hb dL_law_602 ?_
    refine va_sld hx hb hX hbl hbA hS (vp_in_nI (by omega) (by omega)) dL_law_603 ?_
    rw [e1]
    refine zk_I (va_runV (As := [.int v1]) (rest := []) ⟨hx, hb, hml, hown, hts⟩ (b_X4_redeem1 l D cI μ th σ κ v1 hC hv _) (cwV 1 hts gL_law_X4_redeem rfl rfl rfl zdX4_redeem ⟨Nat.le_of_ble_eq_true rfl, Nat.le_of_ble_eq_true rfl⟩) ⟨zbl _, va_recv hKm hPm (ci := 4) (q0 := 0) rfl rfl, zpr hKm hPm hDm⟩ rfl rfl hl.1 rfl (lv_room (Nat.le_of_ble_eq_true rfl)) dL_law_604 ⟨hc, hs⟩) hS hF2 (fun r6 H locs hr6 hkp hP1 hD1 hS => ?_)
    obtain ⟨hP, hD⟩ := fr_J hP7 hD7 hkp hF2 hP1 hD1
    refine lv_istore (lv' := [(6, .int (r6)), (5, .int 1), (0, .ref b0), (1, .ref x), (2, .ref (μ 0)), (3, .ref o), (4, .int (nI i))]) hx hb dL_law_607 hl (by decide) rfl (fun ls hl => ?_)
    have hP : va_P D vwCl (zw_W cI cL x a b (σ) τ o f μ 1 κ) H := hP
    have hD : va_D (fun q => s.heap.size ≤ q) (zw_W cI cL x a b (σ) τ o f μ 1 κ) := hD
    exact law_t_609 C0 kk hc hs (hU) (by omega) hP hD hS hl rfl (fun z => absurd z (by decide))

set_option maxHeartbeats 4000000 in
set_option maxRecDepth 100000 in
theorem law_t_665 {p : Program} {l : Launch} {e : Env} {s : State} {m : MethodId} {below : List Frame} {meth : Method} {c : Code} {D : va_G} {cI cL : ClassId} {b0 L : Nat} {xs : Nat → Int32} {x o : Nat} {a b μ : Nat → Nat} {Q : State → Prop} {cells slots i : Nat} (C : zLA l p s m meth c D cI cL b0 L xs) {hm : Nat} (kk : zGo p l e s m below meth c D cI cL b0 x o a b μ Q cells slots 1260 i hm) (hc : cells ≤ 1092) (hs : slots ≤ 8973) {σ τ : zS} {f : Nat → Int64} {th x5 x6 : Int32} {κ : Nat → Int32} {nb ns h : Nat} {H : Heap} {locs : List Loc} {ls : Array Slot} (hU : zU σ nb ns h) (hh : h ≤ hm) (hP : va_P D vwCl (zw_W cI cL x a b σ τ o f μ th κ) H) (hD : va_D (fun q => s.heap.size ≤ q) (zw_W cI cL x a b σ τ o f μ th κ)) (hS : va_S (fun q => s.heap.size ≤ q) s.heap H locs) (hl : lv_has ls 9 [(6, .int x6), (5, .int x5), (0, .ref b0), (1, .ref x), (2, .ref (μ 0)), (3, .ref o), (4, .int (nI i))]) (hf : th = x5) (hg : x5 = 0 → f 0 = x6.toInt64) : W p l e room_1 s m #[Value.ref b0] below meth c H locs cells slots Q (F0 m 665 ls []) := by
  obtain ⟨hx, hb, hr, hml, hown, hts, hX, hbl, hK, hL, hZ, hst, hL2⟩ := C
  have hP9 : va_P D vwCl (zw_O cI cL x a b σ τ o f ++ (zw_M cI μ th σ κ ++ [])) H := hP
  have hD9 : va_D (fun q => s.heap.size ≤ q) (zw_O cI cL x a b σ τ o f ++ (zw_M cI μ th σ κ ++ [])) := hD
  have hPm := fr_P hP9
  have hDm := fr_D hD9
  have hKm : va_K D vwCl [(cI, .int)] s := hK.sub [0] rfl
  refine lv_aload_n hx hb dL_law_665 rfl (lv_at hl 4 rfl) ?_
  refine zk_R (D := D) (va_runV (As := []) (rest := []) ⟨hx, hb, hml, hown, hts⟩ (c_X4_thrown l D cI μ th σ κ _) (cwV 0 hts gL_law_X4_thrown rfl rfl rfl zdX4_thrown ⟨Nat.le_of_ble_eq_true rfl, Nat.le_of_ble_eq_true rfl⟩) ⟨zbl _, va_recv hKm hPm (ci := 4) (q0 := 0) rfl rfl, zpr hKm hPm hDm⟩ rfl rfl hl.1 rfl (lv_room (Nat.le_of_ble_eq_true rfl)) dL_law_666 ⟨hc, hs⟩) hS (fun r H locs hr9 hk1 hS => ?_)
  have hP := hk1 _ hP
  rw [show r = x5 from hr9.trans hf]
  refine lv_iload hx hb dL_law_669 (lv_at hl 1 rfl) ?_
  refine lv_icmp_eq (tgt := 676) hx hb dL_law_671 (by decide) (fun _ => ?_) (fun c1 => absurd rfl c1)
  refine lv_iload hx hb dL_law_676 (lv_at hl 1 rfl) ?_
  refine lv_if_ne (tgt := 693) hx hb dL_law_678 (by decide) (fun c2 => ?_) (fun c2 => ?_)
  · refine lv_goto (tgt := 1260) hx hb dL_law_693 (by decide) ?_
    exact kk σ τ f th κ nb ns h _ _ ls hU hh hP hD hS (lv_sub hl [2, 3, 4, 5, 6] rfl)
  · refine lv_aload_n hx hb dL_law_681 rfl (lv_at hl 5 rfl) ?_
    refine lv_iconst (v := 0) hx hb dL_law_682 (by decide) ?_
    refine va_lald hx hb hK hP 41 1 rfl rfl vp_in01 dL_law_683 ?_
    refine lv_iload hx hb dL_law_684 (lv_at hl 0 rfl) ?_
    refine lv_i2l hx hb dL_law_686 rfl ?_
    refine W.lcmp hx hb dL_law_687 ?_
    refine lv_if_eq (tgt := 693) hx hb dL_law_688 (by decide) (fun _ => ?_) (fun c3 => absurd ((lg_cmp_eq _ _).mpr (hg c2)) c3)
    refine lv_goto (tgt := 1260) hx hb dL_law_693 (by decide) ?_
    exact kk σ τ f th κ nb ns h _ _ ls hU hh hP hD hS (lv_sub hl [2, 3, 4, 5, 6] rfl)

set_option maxHeartbeats 4000000 in
set_option maxRecDepth 100000 in
theorem law_call {p : Program} {l : Launch} {e : Env} {s : State} {m : MethodId} {below : List Frame} {meth : Method} {c : Code} {D : va_G} {cI cL : ClassId} {b0 L : Nat} {xs : Nat → Int32} {x o : Nat} {a b μ : Nat → Nat} {Q : State → Prop} {cells slots i : Nat} (C : zLA l p s m meth c D cI cL b0 L xs) {hm : Nat} (kk : zGo p l e s m below meth c D cI cL b0 x o a b μ Q (cells + 1) (slots + 6) 1260 i (hm + 72)) (hc : cells + 1 ≤ 1092) (hs : slots + 6 ≤ 8973) (hi : i + 5 ≤ L) (hm9 : hm + 80 < 2 ^ 30) : zGo p l e s m below meth c D cI cL b0 x o a b μ Q cells slots 640 i hm := by
  have C0 := C
  obtain ⟨hx, hb, hr, hml, hown, hts, hX, hbl, hK, hL, hZ, hst, hL2⟩ := C
  intro σ τ f th κ nb ns h H locs ls hU hh hP hD hS hl
  have hI := hU.1
  have hC := hI.1
  have hA : ∀ q : Nat, s.heap.size ≤ q → (fun q => s.heap.size ≤ q) q := fun _ z => z
  have hbA : ¬ (fun q => s.heap.size ≤ q) b0 := Nat.not_le.mpr hbl
  have hnb := hC.2.1
  have hns := hC.2.2.2.1
  obtain ⟨v1, e1⟩ : ∃ v, xs (nI (i + 1)).toNatClampNeg = v := ⟨_, rfl⟩
  by_cases hv : f_sail σ v1
  · obtain ⟨k, hk, rfl⟩ := zsail_of hC hv
    by_cases hw : σ 12 k = 0
    · have hP8 : va_P D vwCl ([] ++ (zw_O cI cL x a b σ τ o f ++ zw_M cI μ th σ κ)) H := hP
      have hD8 : va_D (fun q => s.heap.size ≤ q) ([] ++ (zw_O cI cL x a b σ τ o f ++ zw_M cI μ th σ κ)) := hD
      have hPo := fr_P hP8
      have hDo := fr_D hD8
      refine lv_aload_n hx hb dL_law_640 rfl (lv_at hl 1 rfl) ?_
      refine lv_aload_n hx hb dL_law_641 rfl (lv_at hl 0 rfl) ?_
      refine lv_iload hx hb dL_law_642 (lv_at hl 4 rfl) ?_
      refine lv_iconst (v := 1) hx hb dL_law_644 (by decide) ?_
      refine zk_add (x := i) (y := 1) hx hb dL_law_645 ?_
      refine va_sld hx hb hX hbl hbA hS (vp_in_nI (by omega) (by omega)) dL_law_646 ?_
      rw [e1]
      refine lv_aload_n hx hb dL_law_647 rfl (lv_at hl 3 rfl) ?_
      refine zk_B (D := D) (vx_runSW (As := [.ref x, .int (nI k), .ref o]) (rest := []) ⟨hx, hb, hml, hown, hts⟩ (t_L_call2 l hst D cI cL x a b σ τ o f hC hk hw _) (vx_cwSW 3 hts gL_law_L_call rfl rfl rfl zdL_call.2 ⟨Nat.le_of_ble_eq_true rfl, Nat.le_of_ble_eq_true rfl⟩) ⟨zblX _, zprX (H0 := s.heap) hK hPo hDo hL hZ hS⟩ rfl rfl hl.1 rfl (lv_room (Nat.le_of_ble_eq_true rfl)) dL_law_648 ⟨hc, hs⟩) hS (fun H locs hk1 hS => ?_)
      have hP := hk1 _ hP
      refine lv_istore (lv' := [(5, .int 2), (0, .ref b0), (1, .ref x), (2, .ref (μ 0)), (3, .ref o), (4, .int (nI i))]) hx hb dL_law_651 hl (by decide) rfl (fun ls hl => ?_)
      have hP7 : va_P D vwCl (zw_O cI cL x a b (σ) τ o f ++ (zw_M cI μ th σ κ ++ [])) H := hP
      have hD7 : va_D (fun q => s.heap.size ≤ q) (zw_O cI cL x a b (σ) τ o f ++ (zw_M cI μ th σ κ ++ [])) := hD
      have hPm := fr_P hP7
      have hDm := fr_D hD7
      have hKm : va_K D vwCl [(cI, .int)] s := hK.sub [0] rfl
      have hF2 := zfree hDm hS hA
      refine lv_aload_n hx hb dL_law_653 rfl (lv_at hl 3 rfl) ?_
      refine lv_aload_n hx hb dL_law_654 rfl (lv_at hl 1 rfl) ?_
      refine lv_iload hx hb dL_law_655 (lv_at hl 5 rfl) ?_
      refine lv_iconst (v := 1) hx hb dL_law_657 (by decide) ?_
      refine zk_add (x := i) (y := 1) hx hb dL_law_658 ?_
      refine va_sld hx hb hX hbl hbA hS (vp_in_nI (by omega) (by omega)) dL_law_659 ?_
      rw [e1]
      refine zk_I (va_runV (As := [.int (nI k)]) (rest := []) ⟨hx, hb, hml, hown, hts⟩ (b_X4_call2 l D cI μ th σ κ hC hk hw _) (cwV 1 hts gL_law_X4_call rfl rfl rfl zdX4_call ⟨Nat.le_of_ble_eq_true rfl, Nat.le_of_ble_eq_true rfl⟩) ⟨zbl _, va_recv hKm hPm (ci := 4) (q0 := 0) rfl rfl, zpr hKm hPm hDm⟩ rfl rfl hl.1 rfl (lv_room (Nat.le_of_ble_eq_true rfl)) dL_law_660 ⟨hc, hs⟩) hS hF2 (fun r6 H locs hr6 hkp hP1 hD1 hS => ?_)
      obtain ⟨hP, hD⟩ := fr_J hP7 hD7 hkp hF2 hP1 hD1
      refine lv_istore (lv' := [(6, .int (r6)), (5, .int 2), (0, .ref b0), (1, .ref x), (2, .ref (μ 0)), (3, .ref o), (4, .int (nI i))]) hx hb dL_law_663 hl (by decide) rfl (fun ls hl => ?_)
      have hP : va_P D vwCl (zw_W cI cL x a b (σ) τ o f μ 2 κ) H := hP
      have hD : va_D (fun q => s.heap.size ≤ q) (zw_W cI cL x a b (σ) τ o f μ 2 κ) := hD
      exact law_t_665 C0 kk hc hs (hU) (by omega) hP hD hS hl rfl (fun z => absurd z (by decide))
    · have hP8 : va_P D vwCl ([] ++ (zw_O cI cL x a b σ τ o f ++ zw_M cI μ th σ κ)) H := hP
      have hD8 : va_D (fun q => s.heap.size ≤ q) ([] ++ (zw_O cI cL x a b σ τ o f ++ zw_M cI μ th σ κ)) := hD
      have hPo := fr_P hP8
      have hDo := fr_D hD8
      refine lv_aload_n hx hb dL_law_640 rfl (lv_at hl 1 rfl) ?_
      refine lv_aload_n hx hb dL_law_641 rfl (lv_at hl 0 rfl) ?_
      refine lv_iload hx hb dL_law_642 (lv_at hl 4 rfl) ?_
      refine lv_iconst (v := 1) hx hb dL_law_644 (by decide) ?_
      refine zk_add (x := i) (y := 1) hx hb dL_law_645 ?_
      refine va_sld hx hb hX hbl hbA hS (vp_in_nI (by omega) (by omega)) dL_law_646 ?_
      rw [e1]
      refine lv_aload_n hx hb dL_law_647 rfl (lv_at hl 3 rfl) ?_
      have hF := zfree hDo hS hA
      refine zk_E (vx_runSW (As := [.ref x, .int (nI k), .ref o]) (rest := []) ⟨hx, hb, hml, hown, hts⟩ (c_L_call l D cI cL x a b σ τ o f hC hk hw _) (vx_cwSW 3 hts gL_law_L_call rfl rfl rfl zdL_call.2 ⟨Nat.le_of_ble_eq_true rfl, Nat.le_of_ble_eq_true rfl⟩) ⟨zblL _, zprL hK hPo hDo hL⟩ rfl rfl hl.1 rfl (lv_room (Nat.le_of_ble_eq_true rfl)) dL_law_648 ⟨Nat.le_of_succ_le hc, Nat.le_trans (Nat.le_add_right _ 6) hs⟩) hS hF (fun r u H locs hr9 hkp hP1 hD1 hS => ?_)
      subst hr9
      obtain ⟨hP, hD⟩ := fr_J hP8 hD8 hkp hF hP1 hD1
      refine W.widen (k := cells + 1) (n := slots + 6) (by omega) (by omega) ?_
      refine lv_istore (lv' := [(5, .int 0), (0, .ref b0), (1, .ref x), (2, .ref (μ 0)), (3, .ref o), (4, .int (nI i))]) hx hb dL_law_651 hl (by decide) rfl (fun ls hl => ?_)
      have hP7 : va_P D vwCl (zw_O cI cL x a b (f_getUp σ k) τ o (vp_updL f 0 (σ 13 k).toInt64) ++ (zw_M cI μ th σ κ ++ [])) H := hP
      have hD7 : va_D (fun q => s.heap.size ≤ q) (zw_O cI cL x a b (f_getUp σ k) τ o (vp_updL f 0 (σ 13 k).toInt64) ++ (zw_M cI μ th σ κ ++ [])) := hD
      have hPm := fr_P hP7
      have hDm := fr_D hD7
      have hKm : va_K D vwCl [(cI, .int)] s := hK.sub [0] rfl
      have hF2 := zfree hDm hS hA
      refine lv_aload_n hx hb dL_law_653 rfl (lv_at hl 3 rfl) ?_
      refine lv_aload_n hx hb dL_law_654 rfl (lv_at hl 1 rfl) ?_
      refine lv_iload hx hb dL_law_655 (lv_at hl 5 rfl) ?_
      refine lv_iconst (v := 1) hx hb dL_law_657 (by decide) ?_
      refine zk_add (x := i) (y := 1) hx hb dL_law_658 ?_
      refine va_sld hx hb hX hbl hbA hS (vp_in_nI (by omega) (by omega)) dL_law_659 ?_
      rw [e1]
      refine zk_I (va_runV (As := [.int (nI k)]) (rest := []) ⟨hx, hb, hml, hown, hts⟩ (c_X4_call l D cI μ th σ κ hI hk hw _) (cwV 1 hts gL_law_X4_call rfl rfl rfl zdX4_call ⟨Nat.le_of_ble_eq_true rfl, Nat.le_of_ble_eq_true rfl⟩) ⟨zbl _, va_recv hKm hPm (ci := 4) (q0 := 0) rfl rfl, zpr hKm hPm hDm⟩ rfl rfl hl.1 rfl (lv_room (Nat.le_of_ble_eq_true rfl)) dL_law_660 ⟨hc, hs⟩) hS hF2 (fun r6 H locs hr6 hkp hP1 hD1 hS => ?_)
      obtain ⟨hP, hD⟩ := fr_J hP7 hD7 hkp hF2 hP1 hD1
      subst hr6
      refine lv_istore (lv' := [(6, .int (σ 13 k)), (5, .int 0), (0, .ref b0), (1, .ref x), (2, .ref (μ 0)), (3, .ref o), (4, .int (nI i))]) hx hb dL_law_663 hl (by decide) rfl (fun ls hl => ?_)
      have hP : va_P D vwCl (zw_W cI cL x a b (f_getUp σ k) τ o (vp_updL f 0 (σ 13 k).toInt64) μ 0 κ) H := hP
      have hD : va_D (fun q => s.heap.size ≤ q) (zw_W cI cL x a b (f_getUp σ k) τ o (vp_updL f 0 (σ 13 k).toInt64) μ 0 κ) := hD
      exact law_t_665 C0 kk hc hs (hU.getUp hk) (by omega) hP hD hS hl rfl (fun _ => rfl)
  · have hP8 : va_P D vwCl ([] ++ (zw_O cI cL x a b σ τ o f ++ zw_M cI μ th σ κ)) H := hP
    have hD8 : va_D (fun q => s.heap.size ≤ q) ([] ++ (zw_O cI cL x a b σ τ o f ++ zw_M cI μ th σ κ)) := hD
    have hPo := fr_P hP8
    have hDo := fr_D hD8
    refine lv_aload_n hx hb dL_law_640 rfl (lv_at hl 1 rfl) ?_
    refine lv_aload_n hx hb dL_law_641 rfl (lv_at hl 0 rfl) ?_
    refine lv_iload hx hb dL_law_642 (lv_at hl 4 rfl) ?_
    refine lv_iconst (v := 1) hx hb dL_law_644 (by decide) ?_
    refine zk_add (x := i) (y := 1) hx hb dL_law_645 ?_
    refine va_sld hx hb hX hbl hbA hS (vp_in_nI (by omega) (by omega)) dL_law_646 ?_
    rw [e1]
    refine lv_aload_n hx hb dL_law_647 rfl (lv_at hl 3 rfl) ?_
    refine zk_B (D := D) (vx_runSW (As := [.ref x, .int v1, .ref o]) (rest := []) ⟨hx, hb, hml, hown, hts⟩ (t_L_call1 l hst D cI cL x a b σ τ o f v1 hv _) (vx_cwSW 3 hts gL_law_L_call rfl rfl rfl zdL_call.2 ⟨Nat.le_of_ble_eq_true rfl, Nat.le_of_ble_eq_true rfl⟩) ⟨zblX _, zprX (H0 := s.heap) hK hPo hDo hL hZ hS⟩ rfl rfl hl.1 rfl (lv_room (Nat.le_of_ble_eq_true rfl)) dL_law_648 ⟨hc, hs⟩) hS (fun H locs hk1 hS => ?_)
    have hP := hk1 _ hP
    refine lv_istore (lv' := [(5, .int 1), (0, .ref b0), (1, .ref x), (2, .ref (μ 0)), (3, .ref o), (4, .int (nI i))]) hx hb dL_law_651 hl (by decide) rfl (fun ls hl => ?_)
    have hP7 : va_P D vwCl (zw_O cI cL x a b (σ) τ o f ++ (zw_M cI μ th σ κ ++ [])) H := hP
    have hD7 : va_D (fun q => s.heap.size ≤ q) (zw_O cI cL x a b (σ) τ o f ++ (zw_M cI μ th σ κ ++ [])) := hD
    have hPm := fr_P hP7
    have hDm := fr_D hD7
    have hKm : va_K D vwCl [(cI, .int)] s := hK.sub [0] rfl
    have hF2 := zfree hDm hS hA
    refine lv_aload_n hx hb dL_law_653 rfl (lv_at hl 3 rfl) ?_
    refine lv_aload_n hx hb dL_law_654 rfl (lv_at hl 1 rfl) ?_
    refine lv_iload hx hb dL_law_655 (lv_at hl 5 rfl) ?_
    refine lv_iconst (v := 1) hx hb dL_law_657 (by decide) ?_
    refine zk_add (x := i) (y := 1) hx hb dL_law_658 ?_
    refine va_sld hx hb hX hbl hbA hS (vp_in_nI (by omega) (by omega)) dL_law_659 ?_
    rw [e1]
    refine zk_I (va_runV (As := [.int v1]) (rest := []) ⟨hx, hb, hml, hown, hts⟩ (b_X4_call1 l D cI μ th σ κ v1 hC hv _) (cwV 1 hts gL_law_X4_call rfl rfl rfl zdX4_call ⟨Nat.le_of_ble_eq_true rfl, Nat.le_of_ble_eq_true rfl⟩) ⟨zbl _, va_recv hKm hPm (ci := 4) (q0 := 0) rfl rfl, zpr hKm hPm hDm⟩ rfl rfl hl.1 rfl (lv_room (Nat.le_of_ble_eq_true rfl)) dL_law_660 ⟨hc, hs⟩) hS hF2 (fun r6 H locs hr6 hkp hP1 hD1 hS => ?_)
    obtain ⟨hP, hD⟩ := fr_J hP7 hD7 hkp hF2 hP1 hD1
    refine lv_istore (lv' := [(6, .int (r6)), (5, .int 1), (0, .ref b0), (1, .ref x), (2, .ref (μ 0)), (3, .ref o), (4, .int (nI i))]) hx hb dL_law_663 hl (by decide) rfl (fun ls hl => ?_)
    have hP : va_P D vwCl (zw_W cI cL x a b (σ) τ o f μ 1 κ) H := hP
    have hD : va_D (fun q => s.heap.size ≤ q) (zw_W cI cL x a b (σ) τ o f μ 1 κ) := hD
    exact law_t_665 C0 kk hc hs (hU) (by omega) hP hD hS hl rfl (fun z => absurd z (by decide))

set_option maxHeartbeats 4000000 in
set_option maxRecDepth 100000 in
theorem law_t_733 {p : Program} {l : Launch} {e : Env} {s : State} {m : MethodId} {below : List Frame} {meth : Method} {c : Code} {D : va_G} {cI cL : ClassId} {b0 L : Nat} {xs : Nat → Int32} {x o : Nat} {a b μ : Nat → Nat} {Q : State → Prop} {cells slots i : Nat} (C : zLA l p s m meth c D cI cL b0 L xs) {hm : Nat} (kk : zGo p l e s m below meth c D cI cL b0 x o a b μ Q cells slots 1260 i hm) (hc : cells ≤ 1092) (hs : slots ≤ 8973) {σ τ : zS} {f : Nat → Int64} {th x5 x6 : Int32} {κ : Nat → Int32} {nb ns h : Nat} {H : Heap} {locs : List Loc} {ls : Array Slot} (hU : zU σ nb ns h) (hh : h ≤ hm) (hP : va_P D vwCl (zw_W cI cL x a b σ τ o f μ th κ) H) (hD : va_D (fun q => s.heap.size ≤ q) (zw_W cI cL x a b σ τ o f μ th κ)) (hS : va_S (fun q => s.heap.size ≤ q) s.heap H locs) (hl : lv_has ls 9 [(6, .int x6), (5, .int x5), (0, .ref b0), (1, .ref x), (2, .ref (μ 0)), (3, .ref o), (4, .int (nI i))]) (hf : th = x5) (hg : x5 = 0 → f 0 = x6.toInt64) : W p l e room_1 s m #[Value.ref b0] below meth c H locs cells slots Q (F0 m 733 ls []) := by
  obtain ⟨hx, hb, hr, hml, hown, hts, hX, hbl, hK, hL, hZ, hst, hL2⟩ := C
  have hP9 : va_P D vwCl (zw_O cI cL x a b σ τ o f ++ (zw_M cI μ th σ κ ++ [])) H := hP
  have hD9 : va_D (fun q => s.heap.size ≤ q) (zw_O cI cL x a b σ τ o f ++ (zw_M cI μ th σ κ ++ [])) := hD
  have hPm := fr_P hP9
  have hDm := fr_D hD9
  have hKm : va_K D vwCl [(cI, .int)] s := hK.sub [0] rfl
  refine lv_aload_n hx hb dL_law_733 rfl (lv_at hl 4 rfl) ?_
  refine zk_R (D := D) (va_runV (As := []) (rest := []) ⟨hx, hb, hml, hown, hts⟩ (c_X4_thrown l D cI μ th σ κ _) (cwV 0 hts gL_law_X4_thrown rfl rfl rfl zdX4_thrown ⟨Nat.le_of_ble_eq_true rfl, Nat.le_of_ble_eq_true rfl⟩) ⟨zbl _, va_recv hKm hPm (ci := 4) (q0 := 0) rfl rfl, zpr hKm hPm hDm⟩ rfl rfl hl.1 rfl (lv_room (Nat.le_of_ble_eq_true rfl)) dL_law_734 ⟨hc, hs⟩) hS (fun r H locs hr9 hk1 hS => ?_)
  have hP := hk1 _ hP
  rw [show r = x5 from hr9.trans hf]
  refine lv_iload hx hb dL_law_737 (lv_at hl 1 rfl) ?_
  refine lv_icmp_eq (tgt := 744) hx hb dL_law_739 (by decide) (fun _ => ?_) (fun c1 => absurd rfl c1)
  refine lv_iload hx hb dL_law_744 (lv_at hl 1 rfl) ?_
  refine lv_if_ne (tgt := 761) hx hb dL_law_746 (by decide) (fun c2 => ?_) (fun c2 => ?_)
  · refine lv_goto (tgt := 1260) hx hb dL_law_761 (by decide) ?_
    exact kk σ τ f th κ nb ns h _ _ ls hU hh hP hD hS (lv_sub hl [2, 3, 4, 5, 6] rfl)
  · refine lv_aload_n hx hb dL_law_749 rfl (lv_at hl 5 rfl) ?_
    refine lv_iconst (v := 0) hx hb dL_law_750 (by decide) ?_
    refine va_lald hx hb hK hP 41 1 rfl rfl vp_in01 dL_law_751 ?_
    refine lv_iload hx hb dL_law_752 (lv_at hl 0 rfl) ?_
    refine lv_i2l hx hb dL_law_754 rfl ?_
    refine W.lcmp hx hb dL_law_755 ?_
    refine lv_if_eq (tgt := 761) hx hb dL_law_756 (by decide) (fun _ => ?_) (fun c3 => absurd ((lg_cmp_eq _ _).mpr (hg c2)) c3)
    refine lv_goto (tgt := 1260) hx hb dL_law_761 (by decide) ?_
    exact kk σ τ f th κ nb ns h _ _ ls hU hh hP hD hS (lv_sub hl [2, 3, 4, 5, 6] rfl)

set_option maxHeartbeats 4000000 in
set_option maxRecDepth 100000 in
theorem law_shift {p : Program} {l : Launch} {e : Env} {s : State} {m : MethodId} {below : List Frame} {meth : Method} {c : Code} {D : va_G} {cI cL : ClassId} {b0 L : Nat} {xs : Nat → Int32} {x o : Nat} {a b μ : Nat → Nat} {Q : State → Prop} {cells slots i : Nat} (C : zLA l p s m meth c D cI cL b0 L xs) {hm : Nat} (kk : zGo p l e s m below meth c D cI cL b0 x o a b μ Q (cells + 1) (slots + 6) 1260 i (hm + 72)) (hc : cells + 1 ≤ 1092) (hs : slots + 6 ≤ 8973) (hi : i + 5 ≤ L) (hm9 : hm + 80 < 2 ^ 30) : zGo p l e s m below meth c D cI cL b0 x o a b μ Q cells slots 696 i hm := by
  have C0 := C
  obtain ⟨hx, hb, hr, hml, hown, hts, hX, hbl, hK, hL, hZ, hst, hL2⟩ := C
  intro σ τ f th κ nb ns h H locs ls hU hh hP hD hS hl
  have hI := hU.1
  have hC := hI.1
  have hA : ∀ q : Nat, s.heap.size ≤ q → (fun q => s.heap.size ≤ q) q := fun _ z => z
  have hbA : ¬ (fun q => s.heap.size ≤ q) b0 := Nat.not_le.mpr hbl
  have hnb := hC.2.1
  have hns := hC.2.2.2.1
  obtain ⟨v1, e1⟩ : ∃ v, xs (nI (i + 1)).toNatClampNeg = v := ⟨_, rfl⟩
  obtain ⟨v2, e2⟩ : ∃ v, xs (nI (i + 2)).toNatClampNeg = v := ⟨_, rfl⟩
  by_cases hv : f_sail σ v1
  · obtain ⟨k, hk, rfl⟩ := zsail_of hC hv
    by_cases hw : ¬ v2 < 0 ∧ v2 < 3
    · by_cases hu : σ 12 k = 0
      · have hP8 : va_P D vwCl ([] ++ (zw_O cI cL x a b σ τ o f ++ zw_M cI μ th σ κ)) H := hP
        have hD8 : va_D (fun q => s.heap.size ≤ q) ([] ++ (zw_O cI cL x a b σ τ o f ++ zw_M cI μ th σ κ)) := hD
        have hPo := fr_P hP8
        have hDo := fr_D hD8
        refine lv_aload_n hx hb dL_law_696 rfl (lv_at hl 1 rfl) ?_
        refine lv_aload_n hx hb dL_law_697 rfl (lv_at hl 0 rfl) ?_
        refine lv_iload hx hb dL_law_698 (lv_at hl 4 rfl) ?_
        refine lv_iconst (v := 1) hx hb dL_law_700 (by decide) ?_
        refine zk_add (x := i) (y := 1) hx hb dL_law_701 ?_
        refine va_sld hx hb hX hbl hbA hS (vp_in_nI (by omega) (by omega)) dL_law_702 ?_
        rw [e1]
        refine lv_aload_n hx hb dL_law_703 rfl (lv_at hl 0 rfl) ?_
        refine lv_iload hx hb dL_law_704 (lv_at hl 4 rfl) ?_
        refine lv_iconst (v := 2) hx hb dL_law_706 (by decide) ?_
        refine zk_add (x := i) (y := 2) hx hb dL_law_707 ?_
        refine va_sld hx hb hX hbl hbA hS (vp_in_nI (by omega) (by omega)) dL_law_708 ?_
        rw [e2]
        refine lv_aload_n hx hb dL_law_709 rfl (lv_at hl 3 rfl) ?_
        have hF := zfree hDo hS hA
        refine zk_E (vx_runSW (As := [.ref x, .int (nI k), .int v2, .ref o]) (rest := []) ⟨hx, hb, hml, hown, hts⟩ (c_L_shift l D cI cL x a b σ τ o f hC hk v2 hw.1 hw.2 hu _) (vx_cwSW 4 hts gL_law_L_shift rfl rfl rfl zdL_shift.2 ⟨Nat.le_of_ble_eq_true rfl, Nat.le_of_ble_eq_true rfl⟩) ⟨zblL _, zprL hK hPo hDo hL⟩ rfl rfl hl.1 rfl (lv_room (Nat.le_of_ble_eq_true rfl)) dL_law_710 ⟨Nat.le_of_succ_le hc, Nat.le_trans (Nat.le_add_right _ 6) hs⟩) hS hF (fun r u H locs hr9 hkp hP1 hD1 hS => ?_)
        subst hr9
        obtain ⟨hP, hD⟩ := fr_J hP8 hD8 hkp hF hP1 hD1
        refine W.widen (k := cells + 1) (n := slots + 6) (by omega) (by omega) ?_
        refine lv_istore (lv' := [(5, .int 0), (0, .ref b0), (1, .ref x), (2, .ref (μ 0)), (3, .ref o), (4, .int (nI i))]) hx hb dL_law_713 hl (by decide) rfl (fun ls hl => ?_)
        have hP7 : va_P D vwCl (zw_O cI cL x a b (zs σ 6 k v2) τ o (vp_updL f 0 (σ 6 k).toInt64) ++ (zw_M cI μ th σ κ ++ [])) H := hP
        have hD7 : va_D (fun q => s.heap.size ≤ q) (zw_O cI cL x a b (zs σ 6 k v2) τ o (vp_updL f 0 (σ 6 k).toInt64) ++ (zw_M cI μ th σ κ ++ [])) := hD
        have hPm := fr_P hP7
        have hDm := fr_D hD7
        have hKm : va_K D vwCl [(cI, .int)] s := hK.sub [0] rfl
        have hF2 := zfree hDm hS hA
        refine lv_aload_n hx hb dL_law_715 rfl (lv_at hl 3 rfl) ?_
        refine lv_aload_n hx hb dL_law_716 rfl (lv_at hl 1 rfl) ?_
        refine lv_iload hx hb dL_law_717 (lv_at hl 5 rfl) ?_
        refine lv_iconst (v := 1) hx hb dL_law_719 (by decide) ?_
        refine zk_add (x := i) (y := 1) hx hb dL_law_720 ?_
        refine va_sld hx hb hX hbl hbA hS (vp_in_nI (by omega) (by omega)) dL_law_721 ?_
        rw [e1]
        refine lv_aload_n hx hb dL_law_722 rfl (lv_at hl 1 rfl) ?_
        refine lv_iload hx hb dL_law_723 (lv_at hl 5 rfl) ?_
        refine lv_iconst (v := 2) hx hb dL_law_725 (by decide) ?_
        refine zk_add (x := i) (y := 2) hx hb dL_law_726 ?_
        refine va_sld hx hb hX hbl hbA hS (vp_in_nI (by omega) (by omega)) dL_law_727 ?_
        rw [e2]
        refine zk_I (va_runV (As := [.int (nI k), .int v2]) (rest := []) ⟨hx, hb, hml, hown, hts⟩ (c_X4_shift l D cI μ th σ κ hC hk v2 hw.1 hw.2 hu _) (cwV 2 hts gL_law_X4_shift rfl rfl rfl zdX4_shift ⟨Nat.le_of_ble_eq_true rfl, Nat.le_of_ble_eq_true rfl⟩) ⟨zbl _, va_recv hKm hPm (ci := 4) (q0 := 0) rfl rfl, zpr hKm hPm hDm⟩ rfl rfl hl.1 rfl (lv_room (Nat.le_of_ble_eq_true rfl)) dL_law_728 ⟨hc, hs⟩) hS hF2 (fun r6 H locs hr6 hkp hP1 hD1 hS => ?_)
        obtain ⟨hP, hD⟩ := fr_J hP7 hD7 hkp hF2 hP1 hD1
        subst hr6
        refine lv_istore (lv' := [(6, .int (σ 6 k)), (5, .int 0), (0, .ref b0), (1, .ref x), (2, .ref (μ 0)), (3, .ref o), (4, .int (nI i))]) hx hb dL_law_731 hl (by decide) rfl (fun ls hl => ?_)
        have hP : va_P D vwCl (zw_W cI cL x a b (zs σ 6 k v2) τ o (vp_updL f 0 (σ 6 k).toInt64) μ 0 κ) H := hP
        have hD : va_D (fun q => s.heap.size ≤ q) (zw_W cI cL x a b (zs σ 6 k v2) τ o (vp_updL f 0 (σ 6 k).toInt64) μ 0 κ) := hD
        exact law_t_733 C0 kk hc hs (hU.wat hw.1 hw.2) (by omega) hP hD hS hl rfl (fun _ => rfl)
      · have hP8 : va_P D vwCl ([] ++ (zw_O cI cL x a b σ τ o f ++ zw_M cI μ th σ κ)) H := hP
        have hD8 : va_D (fun q => s.heap.size ≤ q) ([] ++ (zw_O cI cL x a b σ τ o f ++ zw_M cI μ th σ κ)) := hD
        have hPo := fr_P hP8
        have hDo := fr_D hD8
        refine lv_aload_n hx hb dL_law_696 rfl (lv_at hl 1 rfl) ?_
        refine lv_aload_n hx hb dL_law_697 rfl (lv_at hl 0 rfl) ?_
        refine lv_iload hx hb dL_law_698 (lv_at hl 4 rfl) ?_
        refine lv_iconst (v := 1) hx hb dL_law_700 (by decide) ?_
        refine zk_add (x := i) (y := 1) hx hb dL_law_701 ?_
        refine va_sld hx hb hX hbl hbA hS (vp_in_nI (by omega) (by omega)) dL_law_702 ?_
        rw [e1]
        refine lv_aload_n hx hb dL_law_703 rfl (lv_at hl 0 rfl) ?_
        refine lv_iload hx hb dL_law_704 (lv_at hl 4 rfl) ?_
        refine lv_iconst (v := 2) hx hb dL_law_706 (by decide) ?_
        refine zk_add (x := i) (y := 2) hx hb dL_law_707 ?_
        refine va_sld hx hb hX hbl hbA hS (vp_in_nI (by omega) (by omega)) dL_law_708 ?_
        rw [e2]
        refine lv_aload_n hx hb dL_law_709 rfl (lv_at hl 3 rfl) ?_
        refine zk_B (D := D) (vx_runSW (As := [.ref x, .int (nI k), .int v2, .ref o]) (rest := []) ⟨hx, hb, hml, hown, hts⟩ (t_L_shift3 l hst D cI cL x a b σ τ o f hC hk v2 hw.1 hw.2 hu _) (vx_cwSW 4 hts gL_law_L_shift rfl rfl rfl zdL_shift.2 ⟨Nat.le_of_ble_eq_true rfl, Nat.le_of_ble_eq_true rfl⟩) ⟨zblX _, zprX (H0 := s.heap) hK hPo hDo hL hZ hS⟩ rfl rfl hl.1 rfl (lv_room (Nat.le_of_ble_eq_true rfl)) dL_law_710 ⟨hc, hs⟩) hS (fun H locs hk1 hS => ?_)
        have hP := hk1 _ hP
        refine lv_istore (lv' := [(5, .int 2), (0, .ref b0), (1, .ref x), (2, .ref (μ 0)), (3, .ref o), (4, .int (nI i))]) hx hb dL_law_713 hl (by decide) rfl (fun ls hl => ?_)
        have hP7 : va_P D vwCl (zw_O cI cL x a b (σ) τ o f ++ (zw_M cI μ th σ κ ++ [])) H := hP
        have hD7 : va_D (fun q => s.heap.size ≤ q) (zw_O cI cL x a b (σ) τ o f ++ (zw_M cI μ th σ κ ++ [])) := hD
        have hPm := fr_P hP7
        have hDm := fr_D hD7
        have hKm : va_K D vwCl [(cI, .int)] s := hK.sub [0] rfl
        have hF2 := zfree hDm hS hA
        refine lv_aload_n hx hb dL_law_715 rfl (lv_at hl 3 rfl) ?_
        refine lv_aload_n hx hb dL_law_716 rfl (lv_at hl 1 rfl) ?_
        refine lv_iload hx hb dL_law_717 (lv_at hl 5 rfl) ?_
        refine lv_iconst (v := 1) hx hb dL_law_719 (by decide) ?_
        refine zk_add (x := i) (y := 1) hx hb dL_law_720 ?_
        refine va_sld hx hb hX hbl hbA hS (vp_in_nI (by omega) (by omega)) dL_law_721 ?_
        rw [e1]
        refine lv_aload_n hx hb dL_law_722 rfl (lv_at hl 1 rfl) ?_
        refine lv_iload hx hb dL_law_723 (lv_at hl 5 rfl) ?_
        refine lv_iconst (v := 2) hx hb dL_law_725 (by decide) ?_
        refine zk_add (x := i) (y := 2) hx hb dL_law_726 ?_
        refine va_sld hx hb hX hbl hbA hS (vp_in_nI (by omega) (by omega)) dL_law_727 ?_
        rw [e2]
        refine zk_I (va_runV (As := [.int (nI k), .int v2]) (rest := []) ⟨hx, hb, hml, hown, hts⟩ (b_X4_shift3 l D cI μ th σ κ hC hk v2 hw.1 hw.2 hu _) (cwV 2 hts gL_law_X4_shift rfl rfl rfl zdX4_shift ⟨Nat.le_of_ble_eq_true rfl, Nat.le_of_ble_eq_true rfl⟩) ⟨zbl _, va_recv hKm hPm (ci := 4) (q0 := 0) rfl rfl, zpr hKm hPm hDm⟩ rfl rfl hl.1 rfl (lv_room (Nat.le_of_ble_eq_true rfl)) dL_law_728 ⟨hc, hs⟩) hS hF2 (fun r6 H locs hr6 hkp hP1 hD1 hS => ?_)
        obtain ⟨hP, hD⟩ := fr_J hP7 hD7 hkp hF2 hP1 hD1
        refine lv_istore (lv' := [(6, .int (r6)), (5, .int 2), (0, .ref b0), (1, .ref x), (2, .ref (μ 0)), (3, .ref o), (4, .int (nI i))]) hx hb dL_law_731 hl (by decide) rfl (fun ls hl => ?_)
        have hP : va_P D vwCl (zw_W cI cL x a b (σ) τ o f μ 2 κ) H := hP
        have hD : va_D (fun q => s.heap.size ≤ q) (zw_W cI cL x a b (σ) τ o f μ 2 κ) := hD
        exact law_t_733 C0 kk hc hs (hU) (by omega) hP hD hS hl rfl (fun z => absurd z (by decide))
    · have hP8 : va_P D vwCl ([] ++ (zw_O cI cL x a b σ τ o f ++ zw_M cI μ th σ κ)) H := hP
      have hD8 : va_D (fun q => s.heap.size ≤ q) ([] ++ (zw_O cI cL x a b σ τ o f ++ zw_M cI μ th σ κ)) := hD
      have hPo := fr_P hP8
      have hDo := fr_D hD8
      refine lv_aload_n hx hb dL_law_696 rfl (lv_at hl 1 rfl) ?_
      refine lv_aload_n hx hb dL_law_697 rfl (lv_at hl 0 rfl) ?_
      refine lv_iload hx hb dL_law_698 (lv_at hl 4 rfl) ?_
      refine lv_iconst (v := 1) hx hb dL_law_700 (by decide) ?_
      refine zk_add (x := i) (y := 1) hx hb dL_law_701 ?_
      refine va_sld hx hb hX hbl hbA hS (vp_in_nI (by omega) (by omega)) dL_law_702 ?_
      rw [e1]
      refine lv_aload_n hx hb dL_law_703 rfl (lv_at hl 0 rfl) ?_
      refine lv_iload hx hb dL_law_704 (lv_at hl 4 rfl) ?_
      refine lv_iconst (v := 2) hx hb dL_law_706 (by decide) ?_
      refine zk_add (x := i) (y := 2) hx hb dL_law_707 ?_
      refine va_sld hx hb hX hbl hbA hS (vp_in_nI (by omega) (by omega)) dL_law_708 ?_
      rw [e2]
      refine lv_aload_n hx hb dL_law_709 rfl (lv_at hl 3 rfl) ?_
      refine zk_B (D := D) (vx_runSW (As := [.ref x, .int (nI k), .int v2, .ref o]) (rest := []) ⟨hx, hb, hml, hown, hts⟩ (t_L_shift2 l hst D cI cL x a b σ τ o f hC hk v2 hw _) (vx_cwSW 4 hts gL_law_L_shift rfl rfl rfl zdL_shift.2 ⟨Nat.le_of_ble_eq_true rfl, Nat.le_of_ble_eq_true rfl⟩) ⟨zblX _, zprX (H0 := s.heap) hK hPo hDo hL hZ hS⟩ rfl rfl hl.1 rfl (lv_room (Nat.le_of_ble_eq_true rfl)) dL_law_710 ⟨hc, hs⟩) hS (fun H locs hk1 hS => ?_)
      have hP := hk1 _ hP
      refine lv_istore (lv' := [(5, .int 1), (0, .ref b0), (1, .ref x), (2, .ref (μ 0)), (3, .ref o), (4, .int (nI i))]) hx hb dL_law_713 hl (by decide) rfl (fun ls hl => ?_)
      have hP7 : va_P D vwCl (zw_O cI cL x a b (σ) τ o f ++ (zw_M cI μ th σ κ ++ [])) H := hP
      have hD7 : va_D (fun q => s.heap.size ≤ q) (zw_O cI cL x a b (σ) τ o f ++ (zw_M cI μ th σ κ ++ [])) := hD
      have hPm := fr_P hP7
      have hDm := fr_D hD7
      have hKm : va_K D vwCl [(cI, .int)] s := hK.sub [0] rfl
      have hF2 := zfree hDm hS hA
      refine lv_aload_n hx hb dL_law_715 rfl (lv_at hl 3 rfl) ?_
      refine lv_aload_n hx hb dL_law_716 rfl (lv_at hl 1 rfl) ?_
      refine lv_iload hx hb dL_law_717 (lv_at hl 5 rfl) ?_
      refine lv_iconst (v := 1) hx hb dL_law_719 (by decide) ?_
      refine zk_add (x := i) (y := 1) hx hb dL_law_720 ?_
      refine va_sld hx hb hX hbl hbA hS (vp_in_nI (by omega) (by omega)) dL_law_721 ?_
      rw [e1]
      refine lv_aload_n hx hb dL_law_722 rfl (lv_at hl 1 rfl) ?_
      refine lv_iload hx hb dL_law_723 (lv_at hl 5 rfl) ?_
      refine lv_iconst (v := 2) hx hb dL_law_725 (by decide) ?_
      refine zk_add (x := i) (y := 2) hx hb dL_law_726 ?_
      refine va_sld hx hb hX hbl hbA hS (vp_in_nI (by omega) (by omega)) dL_law_727 ?_
      rw [e2]
      refine zk_I (va_runV (As := [.int (nI k), .int v2]) (rest := []) ⟨hx, hb, hml, hown, hts⟩ (b_X4_shift2 l D cI μ th σ κ hC hk v2 hw _) (cwV 2 hts gL_law_X4_shift rfl rfl rfl zdX4_shift ⟨Nat.le_of_ble_eq_true rfl, Nat.le_of_ble_eq_true rfl⟩) ⟨zbl _, va_recv hKm hPm (ci := 4) (q0 := 0) rfl rfl, zpr hKm hPm hDm⟩ rfl rfl hl.1 rfl (lv_room (Nat.le_of_ble_eq_true rfl)) dL_law_728 ⟨hc, hs⟩) hS hF2 (fun r6 H locs hr6 hkp hP1 hD1 hS => ?_)
      obtain ⟨hP, hD⟩ := fr_J hP7 hD7 hkp hF2 hP1 hD1
      refine lv_istore (lv' := [(6, .int (r6)), (5, .int 1), (0, .ref b0), (1, .ref x), (2, .ref (μ 0)), (3, .ref o), (4, .int (nI i))]) hx hb dL_law_731 hl (by decide) rfl (fun ls hl => ?_)
      have hP : va_P D vwCl (zw_W cI cL x a b (σ) τ o f μ 1 κ) H := hP
      have hD : va_D (fun q => s.heap.size ≤ q) (zw_W cI cL x a b (σ) τ o f μ 1 κ) := hD
      exact law_t_733 C0 kk hc hs (hU) (by omega) hP hD hS hl rfl (fun z => absurd z (by decide))
  · have hP8 : va_P D vwCl ([] ++ (zw_O cI cL x a b σ τ o f ++ zw_M cI μ th σ κ)) H := hP
    have hD8 : va_D (fun q => s.heap.size ≤ q) ([] ++ (zw_O cI cL x a b σ τ o f ++ zw_M cI μ th σ κ)) := hD
    have hPo := fr_P hP8
    have hDo := fr_D hD8
    refine lv_aload_n hx hb dL_law_696 rfl (lv_at hl 1 rfl) ?_
    refine lv_aload_n hx hb dL_law_697 rfl (lv_at hl 0 rfl) ?_
    refine lv_iload hx hb dL_law_698 (lv_at hl 4 rfl) ?_
    refine lv_iconst (v := 1) hx hb dL_law_700 (by decide) ?_
    refine zk_add (x := i) (y := 1) hx hb dL_law_701 ?_
    refine va_sld hx hb hX hbl hbA hS (vp_in_nI (by omega) (by omega)) dL_law_702 ?_
    rw [e1]
    refine lv_aload_n hx hb dL_law_703 rfl (lv_at hl 0 rfl) ?_
    refine lv_iload hx hb dL_law_704 (lv_at hl 4 rfl) ?_
    refine lv_iconst (v := 2) hx hb dL_law_706 (by decide) ?_
    refine zk_add (x := i) (y := 2) hx hb dL_law_707 ?_
    refine va_sld hx hb hX hbl hbA hS (vp_in_nI (by omega) (by omega)) dL_law_708 ?_
    rw [e2]
    refine lv_aload_n hx hb dL_law_709 rfl (lv_at hl 3 rfl) ?_
    refine zk_B (D := D) (vx_runSW (As := [.ref x, .int v1, .int v2, .ref o]) (rest := []) ⟨hx, hb, hml, hown, hts⟩ (t_L_shift1 l hst D cI cL x a b σ τ o f v1 v2 hv _) (vx_cwSW 4 hts gL_law_L_shift rfl rfl rfl zdL_shift.2 ⟨Nat.le_of_ble_eq_true rfl, Nat.le_of_ble_eq_true rfl⟩) ⟨zblX _, zprX (H0 := s.heap) hK hPo hDo hL hZ hS⟩ rfl rfl hl.1 rfl (lv_room (Nat.le_of_ble_eq_true rfl)) dL_law_710 ⟨hc, hs⟩) hS (fun H locs hk1 hS => ?_)
    have hP := hk1 _ hP
    refine lv_istore (lv' := [(5, .int 1), (0, .ref b0), (1, .ref x), (2, .ref (μ 0)), (3, .ref o), (4, .int (nI i))]) hx hb dL_law_713 hl (by decide) rfl (fun ls hl => ?_)
    have hP7 : va_P D vwCl (zw_O cI cL x a b (σ) τ o f ++ (zw_M cI μ th σ κ ++ [])) H := hP
    have hD7 : va_D (fun q => s.heap.size ≤ q) (zw_O cI cL x a b (σ) τ o f ++ (zw_M cI μ th σ κ ++ [])) := hD
    have hPm := fr_P hP7
    have hDm := fr_D hD7
    have hKm : va_K D vwCl [(cI, .int)] s := hK.sub [0] rfl
    have hF2 := zfree hDm hS hA
    refine lv_aload_n hx hb dL_law_715 rfl (lv_at hl 3 rfl) ?_
    refine lv_aload_n hx hb dL_law_716 rfl (lv_at hl 1 rfl) ?_
    refine lv_iload hx hb dL_law_717 (lv_at hl 5 rfl) ?_
    refine lv_iconst (v := 1) hx hb dL_law_719 (by decide) ?_
    refine zk_add (x := i) (y := 1) hx hb dL_law_720 ?_
    refine va_sld hx hb hX hbl hbA hS (vp_in_nI (by omega) (by omega)) dL_law_721 ?_
    rw [e1]
    refine lv_aload_n hx hb dL_law_722 rfl (lv_at hl 1 rfl) ?_
    refine lv_iload hx hb dL_law_723 (lv_at hl 5 rfl) ?_
    refine lv_iconst (v := 2) hx hb dL_law_725 (by decide) ?_
    refine zk_add (x := i) (y := 2) hx hb dL_law_726 ?_
    refine va_sld hx hb hX hbl hbA hS (vp_in_nI (by omega) (by omega)) dL_law_727 ?_
    rw [e2]
    refine zk_I (va_runV (As := [.int v1, .int v2]) (rest := []) ⟨hx, hb, hml, hown, hts⟩ (b_X4_shift1 l D cI μ th σ κ v1 v2 hC hv _) (cwV 2 hts gL_law_X4_shift rfl rfl rfl zdX4_shift ⟨Nat.le_of_ble_eq_true rfl, Nat.le_of_ble_eq_true rfl⟩) ⟨zbl _, va_recv hKm hPm (ci := 4) (q0 := 0) rfl rfl, zpr hKm hPm hDm⟩ rfl rfl hl.1 rfl (lv_room (Nat.le_of_ble_eq_true rfl)) dL_law_728 ⟨hc, hs⟩) hS hF2 (fun r6 H locs hr6 hkp hP1 hD1 hS => ?_)
    obtain ⟨hP, hD⟩ := fr_J hP7 hD7 hkp hF2 hP1 hD1
    refine lv_istore (lv' := [(6, .int (r6)), (5, .int 1), (0, .ref b0), (1, .ref x), (2, .ref (μ 0)), (3, .ref o), (4, .int (nI i))]) hx hb dL_law_731 hl (by decide) rfl (fun ls hl => ?_)
    have hP : va_P D vwCl (zw_W cI cL x a b (σ) τ o f μ 1 κ) H := hP
    have hD : va_D (fun q => s.heap.size ≤ q) (zw_W cI cL x a b (σ) τ o f μ 1 κ) := hD
    exact law_t_733 C0 kk hc hs (hU) (by omega) hP hD hS hl rfl (fun z => absurd z (by decide))

set_option maxHeartbeats 4000000 in
set_option maxRecDepth 100000 in
theorem law_t_789 {p : Program} {l : Launch} {e : Env} {s : State} {m : MethodId} {below : List Frame} {meth : Method} {c : Code} {D : va_G} {cI cL : ClassId} {b0 L : Nat} {xs : Nat → Int32} {x o : Nat} {a b μ : Nat → Nat} {Q : State → Prop} {cells slots i : Nat} (C : zLA l p s m meth c D cI cL b0 L xs) {hm : Nat} (kk : zGo p l e s m below meth c D cI cL b0 x o a b μ Q cells slots 1260 i hm) (hc : cells ≤ 1092) (hs : slots ≤ 8973) {σ τ : zS} {f : Nat → Int64} {th x5 x6 : Int32} {κ : Nat → Int32} {nb ns h : Nat} {H : Heap} {locs : List Loc} {ls : Array Slot} (hU : zU σ nb ns h) (hh : h ≤ hm) (hP : va_P D vwCl (zw_W cI cL x a b σ τ o f μ th κ) H) (hD : va_D (fun q => s.heap.size ≤ q) (zw_W cI cL x a b σ τ o f μ th κ)) (hS : va_S (fun q => s.heap.size ≤ q) s.heap H locs) (hl : lv_has ls 9 [(6, .int x6), (5, .int x5), (0, .ref b0), (1, .ref x), (2, .ref (μ 0)), (3, .ref o), (4, .int (nI i))]) (hf : th = x5) (hg : x5 = 0 → f 0 = x6.toInt64) : W p l e room_1 s m #[Value.ref b0] below meth c H locs cells slots Q (F0 m 789 ls []) := by
  obtain ⟨hx, hb, hr, hml, hown, hts, hX, hbl, hK, hL, hZ, hst, hL2⟩ := C
  have hP9 : va_P D vwCl (zw_O cI cL x a b σ τ o f ++ (zw_M cI μ th σ κ ++ [])) H := hP
  have hD9 : va_D (fun q => s.heap.size ≤ q) (zw_O cI cL x a b σ τ o f ++ (zw_M cI μ th σ κ ++ [])) := hD
  have hPm := fr_P hP9
  have hDm := fr_D hD9
  have hKm : va_K D vwCl [(cI, .int)] s := hK.sub [0] rfl
  refine lv_aload_n hx hb dL_law_789 rfl (lv_at hl 4 rfl) ?_
  refine zk_R (D := D) (va_runV (As := []) (rest := []) ⟨hx, hb, hml, hown, hts⟩ (c_X4_thrown l D cI μ th σ κ _) (cwV 0 hts gL_law_X4_thrown rfl rfl rfl zdX4_thrown ⟨Nat.le_of_ble_eq_true rfl, Nat.le_of_ble_eq_true rfl⟩) ⟨zbl _, va_recv hKm hPm (ci := 4) (q0 := 0) rfl rfl, zpr hKm hPm hDm⟩ rfl rfl hl.1 rfl (lv_room (Nat.le_of_ble_eq_true rfl)) dL_law_790 ⟨hc, hs⟩) hS (fun r H locs hr9 hk1 hS => ?_)
  have hP := hk1 _ hP
  rw [show r = x5 from hr9.trans hf]
  refine lv_iload hx hb dL_law_793 (lv_at hl 1 rfl) ?_
  refine lv_icmp_eq (tgt := 800) hx hb dL_law_795 (by decide) (fun _ => ?_) (fun c1 => absurd rfl c1)
  refine lv_iload hx hb dL_law_800 (lv_at hl 1 rfl) ?_
  refine lv_if_ne (tgt := 817) hx hb dL_law_802 (by decide) (fun c2 => ?_) (fun c2 => ?_)
  · refine lv_goto (tgt := 1260) hx hb dL_law_817 (by decide) ?_
    exact kk σ τ f th κ nb ns h _ _ ls hU hh hP hD hS (lv_sub hl [2, 3, 4, 5, 6] rfl)
  · refine lv_aload_n hx hb dL_law_805 rfl (lv_at hl 5 rfl) ?_
    refine lv_iconst (v := 0) hx hb dL_law_806 (by decide) ?_
    refine va_lald hx hb hK hP 41 1 rfl rfl vp_in01 dL_law_807 ?_
    refine lv_iload hx hb dL_law_808 (lv_at hl 0 rfl) ?_
    refine lv_i2l hx hb dL_law_810 rfl ?_
    refine W.lcmp hx hb dL_law_811 ?_
    refine lv_if_eq (tgt := 817) hx hb dL_law_812 (by decide) (fun _ => ?_) (fun c3 => absurd ((lg_cmp_eq _ _).mpr (hg c2)) c3)
    refine lv_goto (tgt := 1260) hx hb dL_law_817 (by decide) ?_
    exact kk σ τ f th κ nb ns h _ _ ls hU hh hP hD hS (lv_sub hl [2, 3, 4, 5, 6] rfl)

set_option maxHeartbeats 4000000 in
set_option maxRecDepth 100000 in
theorem law_pass {p : Program} {l : Launch} {e : Env} {s : State} {m : MethodId} {below : List Frame} {meth : Method} {c : Code} {D : va_G} {cI cL : ClassId} {b0 L : Nat} {xs : Nat → Int32} {x o : Nat} {a b μ : Nat → Nat} {Q : State → Prop} {cells slots i : Nat} (C : zLA l p s m meth c D cI cL b0 L xs) {hm : Nat} (kk : zGo p l e s m below meth c D cI cL b0 x o a b μ Q (cells + 1) (slots + 6) 1260 i (hm + 72)) (hc : cells + 1 ≤ 1092) (hs : slots + 6 ≤ 8973) (hi : i + 5 ≤ L) (hm9 : hm + 80 < 2 ^ 30) : zGo p l e s m below meth c D cI cL b0 x o a b μ Q cells slots 764 i hm := by
  have C0 := C
  obtain ⟨hx, hb, hr, hml, hown, hts, hX, hbl, hK, hL, hZ, hst, hL2⟩ := C
  intro σ τ f th κ nb ns h H locs ls hU hh hP hD hS hl
  have hI := hU.1
  have hC := hI.1
  have hA : ∀ q : Nat, s.heap.size ≤ q → (fun q => s.heap.size ≤ q) q := fun _ z => z
  have hbA : ¬ (fun q => s.heap.size ≤ q) b0 := Nat.not_le.mpr hbl
  have hnb := hC.2.1
  have hns := hC.2.2.2.1
  obtain ⟨v1, e1⟩ : ∃ v, xs (nI (i + 1)).toNatClampNeg = v := ⟨_, rfl⟩
  by_cases hv : ¬ v1 < 1 ∧ v1 ≤ 72
  · obtain ⟨n, hn72, rfl⟩ := zn_72 hv.1 hv.2
    have hP8 : va_P D vwCl ([] ++ (zw_O cI cL x a b σ τ o f ++ zw_M cI μ th σ κ)) H := hP
    have hD8 : va_D (fun q => s.heap.size ≤ q) ([] ++ (zw_O cI cL x a b σ τ o f ++ zw_M cI μ th σ κ)) := hD
    have hPo := fr_P hP8
    have hDo := fr_D hD8
    refine lv_aload_n hx hb dL_law_764 rfl (lv_at hl 1 rfl) ?_
    refine lv_aload_n hx hb dL_law_765 rfl (lv_at hl 0 rfl) ?_
    refine lv_iload hx hb dL_law_766 (lv_at hl 4 rfl) ?_
    refine lv_iconst (v := 1) hx hb dL_law_768 (by decide) ?_
    refine zk_add (x := i) (y := 1) hx hb dL_law_769 ?_
    refine va_sld hx hb hX hbl hbA hS (vp_in_nI (by omega) (by omega)) dL_law_770 ?_
    rw [e1]
    refine lv_aload_n hx hb dL_law_771 rfl (lv_at hl 3 rfl) ?_
    have hF := zfree hDo hS hA
    refine zk_E (vx_runSW (As := [.ref x, .int (nI n), .ref o]) (rest := []) ⟨hx, hb, hml, hown, hts⟩ (c_L_pass l D cI cL x a b σ τ o f hC hv.1 hv.2 (by omega) _) (vx_cwSW 3 hts gL_law_L_pass rfl rfl rfl zdL_pass.2 ⟨Nat.le_of_ble_eq_true rfl, Nat.le_of_ble_eq_true rfl⟩) ⟨zblL _, zprL hK hPo hDo hL⟩ rfl rfl hl.1 rfl (lv_room (Nat.le_of_ble_eq_true rfl)) dL_law_772 ⟨Nat.le_of_succ_le hc, Nat.le_trans (Nat.le_add_right _ 6) hs⟩) hS hF (fun r u H locs hr9 hkp hP1 hD1 hS => ?_)
    subst hr9
    obtain ⟨hP, hD⟩ := fr_J hP8 hD8 hkp hF hP1 hD1
    refine W.widen (k := cells + 1) (n := slots + 6) (by omega) (by omega) ?_
    refine lv_istore (lv' := [(5, .int 0), (0, .ref b0), (1, .ref x), (2, .ref (μ 0)), (3, .ref o), (4, .int (nI i))]) hx hb dL_law_775 hl (by decide) rfl (fun ls hl => ?_)
    have hP7 : va_P D vwCl (zw_O cI cL x a b (f_hours σ nb ns h n) τ o (vp_updL f 0 (f_sum ((f_hours σ nb ns h n) 17) ns - f_sum (σ 17) ns).toInt64) ++ (zw_M cI μ th σ κ ++ [])) H := hP
    have hD7 : va_D (fun q => s.heap.size ≤ q) (zw_O cI cL x a b (f_hours σ nb ns h n) τ o (vp_updL f 0 (f_sum ((f_hours σ nb ns h n) 17) ns - f_sum (σ 17) ns).toInt64) ++ (zw_M cI μ th σ κ ++ [])) := hD
    have hPm := fr_P hP7
    have hDm := fr_D hD7
    have hKm : va_K D vwCl [(cI, .int)] s := hK.sub [0] rfl
    have hF2 := zfree hDm hS hA
    refine lv_aload_n hx hb dL_law_777 rfl (lv_at hl 3 rfl) ?_
    refine lv_aload_n hx hb dL_law_778 rfl (lv_at hl 1 rfl) ?_
    refine lv_iload hx hb dL_law_779 (lv_at hl 5 rfl) ?_
    refine lv_iconst (v := 1) hx hb dL_law_781 (by decide) ?_
    refine zk_add (x := i) (y := 1) hx hb dL_law_782 ?_
    refine va_sld hx hb hX hbl hbA hS (vp_in_nI (by omega) (by omega)) dL_law_783 ?_
    rw [e1]
    refine zk_I (va_runV (As := [.int (nI n)]) (rest := []) ⟨hx, hb, hml, hown, hts⟩ (c_X4_pass l D cI μ th σ κ hI hv.1 hv.2 (by omega) _) (cwV 1 hts gL_law_X4_pass rfl rfl rfl zdX4_pass ⟨Nat.le_of_ble_eq_true rfl, Nat.le_of_ble_eq_true rfl⟩) ⟨zbl _, va_recv hKm hPm (ci := 4) (q0 := 0) rfl rfl, zpr hKm hPm hDm⟩ rfl rfl hl.1 rfl (lv_room (Nat.le_of_ble_eq_true rfl)) dL_law_784 ⟨hc, hs⟩) hS hF2 (fun r6 H locs hr6 hkp hP1 hD1 hS => ?_)
    obtain ⟨hP, hD⟩ := fr_J hP7 hD7 hkp hF2 hP1 hD1
    subst hr6
    refine lv_istore (lv' := [(6, .int (f_sum ((f_hours σ nb ns h n) 17) ns - f_sum (σ 17) ns)), (5, .int 0), (0, .ref b0), (1, .ref x), (2, .ref (μ 0)), (3, .ref o), (4, .int (nI i))]) hx hb dL_law_787 hl (by decide) rfl (fun ls hl => ?_)
    have hP : va_P D vwCl (zw_W cI cL x a b (f_hours σ nb ns h n) τ o (vp_updL f 0 (f_sum ((f_hours σ nb ns h n) 17) ns - f_sum (σ 17) ns).toInt64) μ 0 κ) H := hP
    have hD : va_D (fun q => s.heap.size ≤ q) (zw_W cI cL x a b (f_hours σ nb ns h n) τ o (vp_updL f 0 (f_sum ((f_hours σ nb ns h n) 17) ns - f_sum (σ 17) ns).toInt64) μ 0 κ) := hD
    exact law_t_789 C0 kk hc hs (hU.hours n (by omega)) (by omega) hP hD hS hl rfl (fun _ => rfl)
  · have hP8 : va_P D vwCl ([] ++ (zw_O cI cL x a b σ τ o f ++ zw_M cI μ th σ κ)) H := hP
    have hD8 : va_D (fun q => s.heap.size ≤ q) ([] ++ (zw_O cI cL x a b σ τ o f ++ zw_M cI μ th σ κ)) := hD
    have hPo := fr_P hP8
    have hDo := fr_D hD8
    refine lv_aload_n hx hb dL_law_764 rfl (lv_at hl 1 rfl) ?_
    refine lv_aload_n hx hb dL_law_765 rfl (lv_at hl 0 rfl) ?_
    refine lv_iload hx hb dL_law_766 (lv_at hl 4 rfl) ?_
    refine lv_iconst (v := 1) hx hb dL_law_768 (by decide) ?_
    refine zk_add (x := i) (y := 1) hx hb dL_law_769 ?_
    refine va_sld hx hb hX hbl hbA hS (vp_in_nI (by omega) (by omega)) dL_law_770 ?_
    rw [e1]
    refine lv_aload_n hx hb dL_law_771 rfl (lv_at hl 3 rfl) ?_
    refine zk_B (D := D) (vx_runSW (As := [.ref x, .int v1, .ref o]) (rest := []) ⟨hx, hb, hml, hown, hts⟩ (t_L_pass l hst D cI cL x a b σ τ o f v1 hv _) (vx_cwSW 3 hts gL_law_L_pass rfl rfl rfl zdL_pass.2 ⟨Nat.le_of_ble_eq_true rfl, Nat.le_of_ble_eq_true rfl⟩) ⟨zblX _, zprX (H0 := s.heap) hK hPo hDo hL hZ hS⟩ rfl rfl hl.1 rfl (lv_room (Nat.le_of_ble_eq_true rfl)) dL_law_772 ⟨hc, hs⟩) hS (fun H locs hk1 hS => ?_)
    have hP := hk1 _ hP
    refine lv_istore (lv' := [(5, .int 1), (0, .ref b0), (1, .ref x), (2, .ref (μ 0)), (3, .ref o), (4, .int (nI i))]) hx hb dL_law_775 hl (by decide) rfl (fun ls hl => ?_)
    have hP7 : va_P D vwCl (zw_O cI cL x a b (σ) τ o f ++ (zw_M cI μ th σ κ ++ [])) H := hP
    have hD7 : va_D (fun q => s.heap.size ≤ q) (zw_O cI cL x a b (σ) τ o f ++ (zw_M cI μ th σ κ ++ [])) := hD
    have hPm := fr_P hP7
    have hDm := fr_D hD7
    have hKm : va_K D vwCl [(cI, .int)] s := hK.sub [0] rfl
    have hF2 := zfree hDm hS hA
    refine lv_aload_n hx hb dL_law_777 rfl (lv_at hl 3 rfl) ?_
    refine lv_aload_n hx hb dL_law_778 rfl (lv_at hl 1 rfl) ?_
    refine lv_iload hx hb dL_law_779 (lv_at hl 5 rfl) ?_
    refine lv_iconst (v := 1) hx hb dL_law_781 (by decide) ?_
    refine zk_add (x := i) (y := 1) hx hb dL_law_782 ?_
    refine va_sld hx hb hX hbl hbA hS (vp_in_nI (by omega) (by omega)) dL_law_783 ?_
    rw [e1]
    refine zk_I (va_runV (As := [.int v1]) (rest := []) ⟨hx, hb, hml, hown, hts⟩ (b_X4_pass l D cI μ th σ κ v1 hv _) (cwV 1 hts gL_law_X4_pass rfl rfl rfl zdX4_pass ⟨Nat.le_of_ble_eq_true rfl, Nat.le_of_ble_eq_true rfl⟩) ⟨zbl _, va_recv hKm hPm (ci := 4) (q0 := 0) rfl rfl, zpr hKm hPm hDm⟩ rfl rfl hl.1 rfl (lv_room (Nat.le_of_ble_eq_true rfl)) dL_law_784 ⟨hc, hs⟩) hS hF2 (fun r6 H locs hr6 hkp hP1 hD1 hS => ?_)
    obtain ⟨hP, hD⟩ := fr_J hP7 hD7 hkp hF2 hP1 hD1
    refine lv_istore (lv' := [(6, .int (r6)), (5, .int 1), (0, .ref b0), (1, .ref x), (2, .ref (μ 0)), (3, .ref o), (4, .int (nI i))]) hx hb dL_law_787 hl (by decide) rfl (fun ls hl => ?_)
    have hP : va_P D vwCl (zw_W cI cL x a b (σ) τ o f μ 1 κ) H := hP
    have hD : va_D (fun q => s.heap.size ≤ q) (zw_W cI cL x a b (σ) τ o f μ 1 κ) := hD
    exact law_t_789 C0 kk hc hs (hU) (by omega) hP hD hS hl rfl (fun z => absurd z (by decide))
