set_option maxHeartbeats 4000000 in
set_option maxRecDepth 100000 in
theorem law_t_857 {p : Program} {l : Launch} {e : Env} {s : State} {m : MethodId} {below : List Frame} {meth : Method} {c : Code} {D : va_G} {cI cL : ClassId} {b0 L : Nat} {xs : Nat → Int32} {x o : Nat} {a b μ : Nat → Nat} {Q : State → Prop} {cells slots i : Nat} (C : zLA l p s m meth c D cI cL b0 L xs) {hm : Nat} (kk : zGo p l e s m below meth c D cI cL b0 x o a b μ Q cells slots 1260 i hm) (hc : cells ≤ 1092) (hs : slots ≤ 8973) {σ τ : zS} {f : Nat → Int64} {th x5 x6 : Int32} {κ : Nat → Int32} {nb ns h : Nat} {H : Heap} {locs : List Loc} {ls : Array Slot} (hU : zU σ nb ns h) (hh : h ≤ hm) (hP : va_P D vwCl (zw_W cI cL x a b σ τ o f μ th κ) H) (hD : va_D (fun q => s.heap.size ≤ q) (zw_W cI cL x a b σ τ o f μ th κ)) (hS : va_S (fun q => s.heap.size ≤ q) s.heap H locs) (hl : lv_has ls 9 [(6, .int x6), (5, .int x5), (0, .ref b0), (1, .ref x), (2, .ref (μ 0)), (3, .ref o), (4, .int (nI i))]) (hf : th = x5) (hg : x5 = 0 → f 0 = x6.toInt64) : W p l e room_1 s m #[Value.ref b0] below meth c H locs cells slots Q (F0 m 857 ls []) := by
  obtain ⟨hx, hb, hr, hml, hown, hts, hX, hbl, hK, hL, hZ, hst, hL2⟩ := C
  have hP9 : va_P D vwCl (zw_O cI cL x a b σ τ o f ++ (zw_M cI μ th σ κ ++ [])) H := hP
  have hD9 : va_D (fun q => s.heap.size ≤ q) (zw_O cI cL x a b σ τ o f ++ (zw_M cI μ th σ κ ++ [])) := hD
  have hPm := fr_P hP9
  have hDm := fr_D hD9
  have hKm : va_K D vwCl [(cI, .int)] s := hK.sub [0] rfl
  refine lv_aload_n hx hb dL_law_857 rfl (lv_at hl 4 rfl) ?_
  refine zk_R (D := D) (va_runV (As := []) (rest := []) ⟨hx, hb, hml, hown, hts⟩ (c_X4_thrown l D cI μ th σ κ _) (cwV 0 hts gL_law_X4_thrown rfl rfl rfl zdX4_thrown ⟨Nat.le_of_ble_eq_true rfl, Nat.le_of_ble_eq_true rfl⟩) ⟨zbl _, va_recv hKm hPm (ci := 4) (q0 := 0) rfl rfl, zpr hKm hPm hDm⟩ rfl rfl hl.1 rfl (lv_room (Nat.le_of_ble_eq_true rfl)) dL_law_858 ⟨hc, hs⟩) hS (fun r H locs hr9 hk1 hS => ?_)
  have hP := hk1 _ hP
  rw [show r = x5 from hr9.trans hf]
  refine lv_iload hx hb dL_law_861 (lv_at hl 1 rfl) ?_
  refine lv_icmp_eq (tgt := 868) hx hb dL_law_863 (by decide) (fun _ => ?_) (fun c1 => absurd rfl c1)
  refine lv_iload hx hb dL_law_868 (lv_at hl 1 rfl) ?_
  refine lv_if_ne (tgt := 885) hx hb dL_law_870 (by decide) (fun c2 => ?_) (fun c2 => ?_)
  · refine lv_goto (tgt := 1260) hx hb dL_law_885 (by decide) ?_
    exact kk σ τ f th κ nb ns h _ _ ls hU hh hP hD hS (lv_sub hl [2, 3, 4, 5, 6] rfl)
  · refine lv_aload_n hx hb dL_law_873 rfl (lv_at hl 5 rfl) ?_
    refine lv_iconst (v := 0) hx hb dL_law_874 (by decide) ?_
    refine va_lald hx hb hK hP 41 1 rfl rfl vp_in01 dL_law_875 ?_
    refine lv_iload hx hb dL_law_876 (lv_at hl 0 rfl) ?_
    refine lv_i2l hx hb dL_law_878 rfl ?_
    refine W.lcmp hx hb dL_law_879 ?_
    refine lv_if_eq (tgt := 885) hx hb dL_law_880 (by decide) (fun _ => ?_) (fun c3 => absurd ((lg_cmp_eq _ _).mpr (hg c2)) c3)
    refine lv_goto (tgt := 1260) hx hb dL_law_885 (by decide) ?_
    exact kk σ τ f th κ nb ns h _ _ ls hU hh hP hD hS (lv_sub hl [2, 3, 4, 5, 6] rfl)

set_option maxHeartbeats 4000000 in
set_option maxRecDepth 100000 in
theorem law_told {p : Program} {l : Launch} {e : Env} {s : State} {m : MethodId} {below : List Frame} {meth : Method} {c : Code} {D : va_G} {cI cL : ClassId} {b0 L : Nat} {xs : Nat → Int32} {x o : Nat} {a b μ : Nat → Nat} {Q : State → Prop} {cells slots i : Nat} (C : zLA l p s m meth c D cI cL b0 L xs) {hm : Nat} (kk : zGo p l e s m below meth c D cI cL b0 x o a b μ Q (cells + 1) (slots + 6) 1260 i (hm + 72)) (hc : cells + 1 ≤ 1092) (hs : slots + 6 ≤ 8973) (hi : i + 5 ≤ L) (hm9 : hm + 80 < 2 ^ 30) : zGo p l e s m below meth c D cI cL b0 x o a b μ Q cells slots 820 i hm := by
  have C0 := C
  obtain ⟨hx, hb, hr, hml, hown, hts, hX, hbl, hK, hL, hZ, hst, hL2⟩ := C
  intro σ τ f th κ nb ns h H locs ls hU hh hP hD hS hl
  have hI := hU.1
  have hC := hI.1
  have hA : ∀ q : Nat, s.heap.size ≤ q → (fun q => s.heap.size ≤ q) q := fun _ z => z
  have hbA : ¬ (fun q => s.heap.size ≤ q) b0 := Nat.not_le.mpr hbl
  have hnb := hC.2.1
  have hns := hC.2.2.2.1
  obtain ⟨v1, e1⟩ : ∃ v, xs (nI (i + 1)).toNatClampNeg = v := ⟨_, rfl⟩
  obtain ⟨v2, e2⟩ : ∃ v, xs (nI (i + 2)).toNatClampNeg = v := ⟨_, rfl⟩
  by_cases hv : f_sail σ v1
  · obtain ⟨k, hk, rfl⟩ := zsail_of hC hv
    by_cases hw : v2.toInt < 0 ∨ (10 : Int) < v2.toInt
    · have hP8 : va_P D vwCl ([] ++ (zw_O cI cL x a b σ τ o f ++ zw_M cI μ th σ κ)) H := hP
      have hD8 : va_D (fun q => s.heap.size ≤ q) ([] ++ (zw_O cI cL x a b σ τ o f ++ zw_M cI μ th σ κ)) := hD
      have hPo := fr_P hP8
      have hDo := fr_D hD8
      refine lv_aload_n hx hb dL_law_820 rfl (lv_at hl 1 rfl) ?_
      refine lv_aload_n hx hb dL_law_821 rfl (lv_at hl 0 rfl) ?_
      refine lv_iload hx hb dL_law_822 (lv_at hl 4 rfl) ?_
      refine lv_iconst (v := 1) hx hb dL_law_824 (by decide) ?_
      refine zk_add (x := i) (y := 1) hx hb dL_law_825 ?_
      refine va_sld hx hb hX hbl hbA hS (vp_in_nI (by omega) (by omega)) dL_law_826 ?_
      rw [e1]
      refine lv_aload_n hx hb dL_law_827 rfl (lv_at hl 0 rfl) ?_
      refine lv_iload hx hb dL_law_828 (lv_at hl 4 rfl) ?_
      refine lv_iconst (v := 2) hx hb dL_law_830 (by decide) ?_
      refine zk_add (x := i) (y := 2) hx hb dL_law_831 ?_
      refine va_sld hx hb hX hbl hbA hS (vp_in_nI (by omega) (by omega)) dL_law_832 ?_
      rw [e2]
      refine lv_aload_n hx hb dL_law_833 rfl (lv_at hl 3 rfl) ?_
      refine zk_B (D := D) (vx_runSW (As := [.ref x, .int (nI k), .int v2, .ref o]) (rest := []) ⟨hx, hb, hml, hown, hts⟩ (t_L_told2 l hst D cI cL x a b σ τ o f hC hk v2 hw _) (vx_cwSW 4 hts gL_law_L_told rfl rfl rfl zdL_told.2 ⟨Nat.le_of_ble_eq_true rfl, Nat.le_of_ble_eq_true rfl⟩) ⟨zblX _, zprX (H0 := s.heap) hK hPo hDo hL hZ hS⟩ rfl rfl hl.1 rfl (lv_room (Nat.le_of_ble_eq_true rfl)) dL_law_834 ⟨hc, hs⟩) hS (fun H locs hk1 hS => ?_)
      have hP := hk1 _ hP
      refine lv_istore (lv' := [(5, .int 1), (0, .ref b0), (1, .ref x), (2, .ref (μ 0)), (3, .ref o), (4, .int (nI i))]) hx hb dL_law_837 hl (by decide) rfl (fun ls hl => ?_)
      have hP7 : va_P D vwCl (zw_O cI cL x a b (σ) τ o f ++ (zw_M cI μ th σ κ ++ [])) H := hP
      have hD7 : va_D (fun q => s.heap.size ≤ q) (zw_O cI cL x a b (σ) τ o f ++ (zw_M cI μ th σ κ ++ [])) := hD
      have hPm := fr_P hP7
      have hDm := fr_D hD7
      have hKm : va_K D vwCl [(cI, .int)] s := hK.sub [0] rfl
      have hF2 := zfree hDm hS hA
      refine lv_aload_n hx hb dL_law_839 rfl (lv_at hl 3 rfl) ?_
      refine lv_aload_n hx hb dL_law_840 rfl (lv_at hl 1 rfl) ?_
      refine lv_iload hx hb dL_law_841 (lv_at hl 5 rfl) ?_
      refine lv_iconst (v := 1) hx hb dL_law_843 (by decide) ?_
      refine zk_add (x := i) (y := 1) hx hb dL_law_844 ?_
      refine va_sld hx hb hX hbl hbA hS (vp_in_nI (by omega) (by omega)) dL_law_845 ?_
      rw [e1]
      refine lv_aload_n hx hb dL_law_846 rfl (lv_at hl 1 rfl) ?_
      refine lv_iload hx hb dL_law_847 (lv_at hl 5 rfl) ?_
      refine lv_iconst (v := 2) hx hb dL_law_849 (by decide) ?_
      refine zk_add (x := i) (y := 2) hx hb dL_law_850 ?_
      refine va_sld hx hb hX hbl hbA hS (vp_in_nI (by omega) (by omega)) dL_law_851 ?_
      rw [e2]
      refine zk_I (va_runV (As := [.int (nI k), .int v2]) (rest := []) ⟨hx, hb, hml, hown, hts⟩ (b_X4_told2 l D cI μ th σ κ hC hk v2 hw _) (cwV 2 hts gL_law_X4_told rfl rfl rfl zdX4_told ⟨Nat.le_of_ble_eq_true rfl, Nat.le_of_ble_eq_true rfl⟩) ⟨zbl _, va_recv hKm hPm (ci := 4) (q0 := 0) rfl rfl, zpr hKm hPm hDm⟩ rfl rfl hl.1 rfl (lv_room (Nat.le_of_ble_eq_true rfl)) dL_law_852 ⟨hc, hs⟩) hS hF2 (fun r6 H locs hr6 hkp hP1 hD1 hS => ?_)
      obtain ⟨hP, hD⟩ := fr_J hP7 hD7 hkp hF2 hP1 hD1
      refine lv_istore (lv' := [(6, .int (r6)), (5, .int 1), (0, .ref b0), (1, .ref x), (2, .ref (μ 0)), (3, .ref o), (4, .int (nI i))]) hx hb dL_law_855 hl (by decide) rfl (fun ls hl => ?_)
      have hP : va_P D vwCl (zw_W cI cL x a b (σ) τ o f μ 1 κ) H := hP
      have hD : va_D (fun q => s.heap.size ≤ q) (zw_W cI cL x a b (σ) τ o f μ 1 κ) := hD
      exact law_t_857 C0 kk hc hs (hU) (by omega) hP hD hS hl rfl (fun z => absurd z (by decide))
    · obtain ⟨w, hw10, rfl⟩ := zn_w (n := 10) hw
      have hP8 : va_P D vwCl ([] ++ (zw_O cI cL x a b σ τ o f ++ zw_M cI μ th σ κ)) H := hP
      have hD8 : va_D (fun q => s.heap.size ≤ q) ([] ++ (zw_O cI cL x a b σ τ o f ++ zw_M cI μ th σ κ)) := hD
      have hPo := fr_P hP8
      have hDo := fr_D hD8
      refine lv_aload_n hx hb dL_law_820 rfl (lv_at hl 1 rfl) ?_
      refine lv_aload_n hx hb dL_law_821 rfl (lv_at hl 0 rfl) ?_
      refine lv_iload hx hb dL_law_822 (lv_at hl 4 rfl) ?_
      refine lv_iconst (v := 1) hx hb dL_law_824 (by decide) ?_
      refine zk_add (x := i) (y := 1) hx hb dL_law_825 ?_
      refine va_sld hx hb hX hbl hbA hS (vp_in_nI (by omega) (by omega)) dL_law_826 ?_
      rw [e1]
      refine lv_aload_n hx hb dL_law_827 rfl (lv_at hl 0 rfl) ?_
      refine lv_iload hx hb dL_law_828 (lv_at hl 4 rfl) ?_
      refine lv_iconst (v := 2) hx hb dL_law_830 (by decide) ?_
      refine zk_add (x := i) (y := 2) hx hb dL_law_831 ?_
      refine va_sld hx hb hX hbl hbA hS (vp_in_nI (by omega) (by omega)) dL_law_832 ?_
      rw [e2]
      refine lv_aload_n hx hb dL_law_833 rfl (lv_at hl 3 rfl) ?_
      have hF := zfree hDo hS hA
      refine zk_E (vx_runSW (As := [.ref x, .int (nI k), .int (nI w), .ref o]) (rest := []) ⟨hx, hb, hml, hown, hts⟩ (c_L_told l D cI cL x a b σ τ o f hC hk hw10 _) (vx_cwSW 4 hts gL_law_L_told rfl rfl rfl zdL_told.2 ⟨Nat.le_of_ble_eq_true rfl, Nat.le_of_ble_eq_true rfl⟩) ⟨zblL _, zprL hK hPo hDo hL⟩ rfl rfl hl.1 rfl (lv_room (Nat.le_of_ble_eq_true rfl)) dL_law_834 ⟨Nat.le_of_succ_le hc, Nat.le_trans (Nat.le_add_right _ 6) hs⟩) hS hF (fun r u H locs hr9 hkp hP1 hD1 hS => ?_)
      subst hr9
      obtain ⟨hP, hD⟩ := fr_J hP8 hD8 hkp hF hP1 hD1
      refine W.widen (k := cells + 1) (n := slots + 6) (by omega) (by omega) ?_
      refine lv_istore (lv' := [(5, .int 0), (0, .ref b0), (1, .ref x), (2, .ref (μ 0)), (3, .ref o), (4, .int (nI i))]) hx hb dL_law_837 hl (by decide) rfl (fun ls hl => ?_)
      have hP7 : va_P D vwCl (zw_O cI cL x a b (σ) τ o (vp_updL f 0 (σ (q_row w) k).toInt64) ++ (zw_M cI μ th σ κ ++ [])) H := hP
      have hD7 : va_D (fun q => s.heap.size ≤ q) (zw_O cI cL x a b (σ) τ o (vp_updL f 0 (σ (q_row w) k).toInt64) ++ (zw_M cI μ th σ κ ++ [])) := hD
      have hPm := fr_P hP7
      have hDm := fr_D hD7
      have hKm : va_K D vwCl [(cI, .int)] s := hK.sub [0] rfl
      have hF2 := zfree hDm hS hA
      refine lv_aload_n hx hb dL_law_839 rfl (lv_at hl 3 rfl) ?_
      refine lv_aload_n hx hb dL_law_840 rfl (lv_at hl 1 rfl) ?_
      refine lv_iload hx hb dL_law_841 (lv_at hl 5 rfl) ?_
      refine lv_iconst (v := 1) hx hb dL_law_843 (by decide) ?_
      refine zk_add (x := i) (y := 1) hx hb dL_law_844 ?_
      refine va_sld hx hb hX hbl hbA hS (vp_in_nI (by omega) (by omega)) dL_law_845 ?_
      rw [e1]
      refine lv_aload_n hx hb dL_law_846 rfl (lv_at hl 1 rfl) ?_
      refine lv_iload hx hb dL_law_847 (lv_at hl 5 rfl) ?_
      refine lv_iconst (v := 2) hx hb dL_law_849 (by decide) ?_
      refine zk_add (x := i) (y := 2) hx hb dL_law_850 ?_
      refine va_sld hx hb hX hbl hbA hS (vp_in_nI (by omega) (by omega)) dL_law_851 ?_
      rw [e2]
      refine zk_I (va_runV (As := [.int (nI k), .int (nI w)]) (rest := []) ⟨hx, hb, hml, hown, hts⟩ (c_X4_told l D cI μ th σ κ hC hk hw10 _) (cwV 2 hts gL_law_X4_told rfl rfl rfl zdX4_told ⟨Nat.le_of_ble_eq_true rfl, Nat.le_of_ble_eq_true rfl⟩) ⟨zbl _, va_recv hKm hPm (ci := 4) (q0 := 0) rfl rfl, zpr hKm hPm hDm⟩ rfl rfl hl.1 rfl (lv_room (Nat.le_of_ble_eq_true rfl)) dL_law_852 ⟨hc, hs⟩) hS hF2 (fun r6 H locs hr6 hkp hP1 hD1 hS => ?_)
      obtain ⟨hP, hD⟩ := fr_J hP7 hD7 hkp hF2 hP1 hD1
      subst hr6
      refine lv_istore (lv' := [(6, .int (σ (q_row w) k)), (5, .int 0), (0, .ref b0), (1, .ref x), (2, .ref (μ 0)), (3, .ref o), (4, .int (nI i))]) hx hb dL_law_855 hl (by decide) rfl (fun ls hl => ?_)
      have hP : va_P D vwCl (zw_W cI cL x a b (σ) τ o (vp_updL f 0 (σ (q_row w) k).toInt64) μ 0 κ) H := hP
      have hD : va_D (fun q => s.heap.size ≤ q) (zw_W cI cL x a b (σ) τ o (vp_updL f 0 (σ (q_row w) k).toInt64) μ 0 κ) := hD
      exact law_t_857 C0 kk hc hs (hU) (by omega) hP hD hS hl rfl (fun _ => rfl)
  · have hP8 : va_P D vwCl ([] ++ (zw_O cI cL x a b σ τ o f ++ zw_M cI μ th σ κ)) H := hP
    have hD8 : va_D (fun q => s.heap.size ≤ q) ([] ++ (zw_O cI cL x a b σ τ o f ++ zw_M cI μ th σ κ)) := hD
    have hPo := fr_P hP8
    have hDo := fr_D hD8
    refine lv_aload_n hx hb dL_law_820 rfl (lv_at hl 1 rfl) ?_
    refine lv_aload_n hx hb dL_law_821 rfl (lv_at hl 0 rfl) ?_
    refine lv_iload hx hb dL_law_822 (lv_at hl 4 rfl) ?_
    refine lv_iconst (v := 1) hx hb dL_law_824 (by decide) ?_
    refine zk_add (x := i) (y := 1) hx hb dL_law_825 ?_
    refine va_sld hx hb hX hbl hbA hS (vp_in_nI (by omega) (by omega)) dL_law_826 ?_
    rw [e1]
    refine lv_aload_n hx hb dL_law_827 rfl (lv_at hl 0 rfl) ?_
    refine lv_iload hx hb dL_law_828 (lv_at hl 4 rfl) ?_
    refine lv_iconst (v := 2) hx hb dL_law_830 (by decide) ?_
    refine zk_add (x := i) (y := 2) hx hb dL_law_831 ?_
    refine va_sld hx hb hX hbl hbA hS (vp_in_nI (by omega) (by omega)) dL_law_832 ?_
    rw [e2]
    refine lv_aload_n hx hb dL_law_833 rfl (lv_at hl 3 rfl) ?_
    refine zk_B (D := D) (vx_runSW (As := [.ref x, .int v1, .int v2, .ref o]) (rest := []) ⟨hx, hb, hml, hown, hts⟩ (t_L_told1 l hst D cI cL x a b σ τ o f v1 v2 hv _) (vx_cwSW 4 hts gL_law_L_told rfl rfl rfl zdL_told.2 ⟨Nat.le_of_ble_eq_true rfl, Nat.le_of_ble_eq_true rfl⟩) ⟨zblX _, zprX (H0 := s.heap) hK hPo hDo hL hZ hS⟩ rfl rfl hl.1 rfl (lv_room (Nat.le_of_ble_eq_true rfl)) dL_law_834 ⟨hc, hs⟩) hS (fun H locs hk1 hS => ?_)
    have hP := hk1 _ hP
    refine lv_istore (lv' := [(5, .int 1), (0, .ref b0), (1, .ref x), (2, .ref (μ 0)), (3, .ref o), (4, .int (nI i))]) hx hb dL_law_837 hl (by decide) rfl (fun ls hl => ?_)
    have hP7 : va_P D vwCl (zw_O cI cL x a b (σ) τ o f ++ (zw_M cI μ th σ κ ++ [])) H := hP
    have hD7 : va_D (fun q => s.heap.size ≤ q) (zw_O cI cL x a b (σ) τ o f ++ (zw_M cI μ th σ κ ++ [])) := hD
    have hPm := fr_P hP7
    have hDm := fr_D hD7
    have hKm : va_K D vwCl [(cI, .int)] s := hK.sub [0] rfl
    have hF2 := zfree hDm hS hA
    refine lv_aload_n hx hb dL_law_839 rfl (lv_at hl 3 rfl) ?_
    refine lv_aload_n hx hb dL_law_840 rfl (lv_at hl 1 rfl) ?_
    refine lv_iload hx hb dL_law_841 (lv_at hl 5 rfl) ?_
    refine lv_iconst (v := 1) hx hb dL_law_843 (by decide) ?_
    refine zk_add (x := i) (y := 1) hx hb dL_law_844 ?_
    refine va_sld hx hb hX hbl hbA hS (vp_in_nI (by omega) (by omega)) dL_law_845 ?_
    rw [e1]
    refine lv_aload_n hx hb dL_law_846 rfl (lv_at hl 1 rfl) ?_
    refine lv_iload hx hb dL_law_847 (lv_at hl 5 rfl) ?_
    refine lv_iconst (v := 2) hx hb dL_law_849 (by decide) ?_
    refine zk_add (x := i) (y := 2) hx hb dL_law_850 ?_
    refine va_sld hx hb hX hbl hbA hS (vp_in_nI (by omega) (by omega)) dL_law_851 ?_
    rw [e2]
    refine zk_I (va_runV (As := [.int v1, .int v2]) (rest := []) ⟨hx, hb, hml, hown, hts⟩ (b_X4_told1 l D cI μ th σ κ v1 v2 hC hv _) (cwV 2 hts gL_law_X4_told rfl rfl rfl zdX4_told ⟨Nat.le_of_ble_eq_true rfl, Nat.le_of_ble_eq_true rfl⟩) ⟨zbl _, va_recv hKm hPm (ci := 4) (q0 := 0) rfl rfl, zpr hKm hPm hDm⟩ rfl rfl hl.1 rfl (lv_room (Nat.le_of_ble_eq_true rfl)) dL_law_852 ⟨hc, hs⟩) hS hF2 (fun r6 H locs hr6 hkp hP1 hD1 hS => ?_)
    obtain ⟨hP, hD⟩ := fr_J hP7 hD7 hkp hF2 hP1 hD1
    refine lv_istore (lv' := [(6, .int (r6)), (5, .int 1), (0, .ref b0), (1, .ref x), (2, .ref (μ 0)), (3, .ref o), (4, .int (nI i))]) hx hb dL_law_855 hl (by decide) rfl (fun ls hl => ?_)
    have hP : va_P D vwCl (zw_W cI cL x a b (σ) τ o f μ 1 κ) H := hP
    have hD : va_D (fun q => s.heap.size ≤ q) (zw_W cI cL x a b (σ) τ o f μ 1 κ) := hD
    exact law_t_857 C0 kk hc hs (hU) (by omega) hP hD hS hl rfl (fun z => absurd z (by decide))

set_option maxHeartbeats 4000000 in
set_option maxRecDepth 100000 in
theorem law_t_925 {p : Program} {l : Launch} {e : Env} {s : State} {m : MethodId} {below : List Frame} {meth : Method} {c : Code} {D : va_G} {cI cL : ClassId} {b0 L : Nat} {xs : Nat → Int32} {x o : Nat} {a b μ : Nat → Nat} {Q : State → Prop} {cells slots i : Nat} (C : zLA l p s m meth c D cI cL b0 L xs) {hm : Nat} (kk : zGo p l e s m below meth c D cI cL b0 x o a b μ Q cells slots 1260 i hm) (hc : cells ≤ 1092) (hs : slots ≤ 8973) {σ τ : zS} {f : Nat → Int64} {th x5 x6 : Int32} {κ : Nat → Int32} {nb ns h : Nat} {H : Heap} {locs : List Loc} {ls : Array Slot} (hU : zU σ nb ns h) (hh : h ≤ hm) (hP : va_P D vwCl (zw_W cI cL x a b σ τ o f μ th κ) H) (hD : va_D (fun q => s.heap.size ≤ q) (zw_W cI cL x a b σ τ o f μ th κ)) (hS : va_S (fun q => s.heap.size ≤ q) s.heap H locs) (hl : lv_has ls 9 [(6, .int x6), (5, .int x5), (0, .ref b0), (1, .ref x), (2, .ref (μ 0)), (3, .ref o), (4, .int (nI i))]) (hf : th = x5) (hg : x5 = 0 → f 0 = x6.toInt64) : W p l e room_1 s m #[Value.ref b0] below meth c H locs cells slots Q (F0 m 925 ls []) := by
  obtain ⟨hx, hb, hr, hml, hown, hts, hX, hbl, hK, hL, hZ, hst, hL2⟩ := C
  have hP9 : va_P D vwCl (zw_O cI cL x a b σ τ o f ++ (zw_M cI μ th σ κ ++ [])) H := hP
  have hD9 : va_D (fun q => s.heap.size ≤ q) (zw_O cI cL x a b σ τ o f ++ (zw_M cI μ th σ κ ++ [])) := hD
  have hPm := fr_P hP9
  have hDm := fr_D hD9
  have hKm : va_K D vwCl [(cI, .int)] s := hK.sub [0] rfl
  refine lv_aload_n hx hb dL_law_925 rfl (lv_at hl 4 rfl) ?_
  refine zk_R (D := D) (va_runV (As := []) (rest := []) ⟨hx, hb, hml, hown, hts⟩ (c_X4_thrown l D cI μ th σ κ _) (cwV 0 hts gL_law_X4_thrown rfl rfl rfl zdX4_thrown ⟨Nat.le_of_ble_eq_true rfl, Nat.le_of_ble_eq_true rfl⟩) ⟨zbl _, va_recv hKm hPm (ci := 4) (q0 := 0) rfl rfl, zpr hKm hPm hDm⟩ rfl rfl hl.1 rfl (lv_room (Nat.le_of_ble_eq_true rfl)) dL_law_926 ⟨hc, hs⟩) hS (fun r H locs hr9 hk1 hS => ?_)
  have hP := hk1 _ hP
  rw [show r = x5 from hr9.trans hf]
  refine lv_iload hx hb dL_law_929 (lv_at hl 1 rfl) ?_
  refine lv_icmp_eq (tgt := 936) hx hb dL_law_931 (by decide) (fun _ => ?_) (fun c1 => absurd rfl c1)
  refine lv_iload hx hb dL_law_936 (lv_at hl 1 rfl) ?_
  refine lv_if_ne (tgt := 953) hx hb dL_law_938 (by decide) (fun c2 => ?_) (fun c2 => ?_)
  · refine lv_goto (tgt := 1260) hx hb dL_law_953 (by decide) ?_
    exact kk σ τ f th κ nb ns h _ _ ls hU hh hP hD hS (lv_sub hl [2, 3, 4, 5, 6] rfl)
  · refine lv_aload_n hx hb dL_law_941 rfl (lv_at hl 5 rfl) ?_
    refine lv_iconst (v := 0) hx hb dL_law_942 (by decide) ?_
    refine va_lald hx hb hK hP 41 1 rfl rfl vp_in01 dL_law_943 ?_
    refine lv_iload hx hb dL_law_944 (lv_at hl 0 rfl) ?_
    refine lv_i2l hx hb dL_law_946 rfl ?_
    refine W.lcmp hx hb dL_law_947 ?_
    refine lv_if_eq (tgt := 953) hx hb dL_law_948 (by decide) (fun _ => ?_) (fun c3 => absurd ((lg_cmp_eq _ _).mpr (hg c2)) c3)
    refine lv_goto (tgt := 1260) hx hb dL_law_953 (by decide) ?_
    exact kk σ τ f th κ nb ns h _ _ ls hU hh hP hD hS (lv_sub hl [2, 3, 4, 5, 6] rfl)

set_option maxHeartbeats 4000000 in
set_option maxRecDepth 100000 in
theorem law_about {p : Program} {l : Launch} {e : Env} {s : State} {m : MethodId} {below : List Frame} {meth : Method} {c : Code} {D : va_G} {cI cL : ClassId} {b0 L : Nat} {xs : Nat → Int32} {x o : Nat} {a b μ : Nat → Nat} {Q : State → Prop} {cells slots i : Nat} (C : zLA l p s m meth c D cI cL b0 L xs) {hm : Nat} (kk : zGo p l e s m below meth c D cI cL b0 x o a b μ Q (cells + 1) (slots + 6) 1260 i (hm + 72)) (hc : cells + 1 ≤ 1092) (hs : slots + 6 ≤ 8973) (hi : i + 5 ≤ L) (hm9 : hm + 80 < 2 ^ 30) : zGo p l e s m below meth c D cI cL b0 x o a b μ Q cells slots 888 i hm := by
  have C0 := C
  obtain ⟨hx, hb, hr, hml, hown, hts, hX, hbl, hK, hL, hZ, hst, hL2⟩ := C
  intro σ τ f th κ nb ns h H locs ls hU hh hP hD hS hl
  have hI := hU.1
  have hC := hI.1
  have hA : ∀ q : Nat, s.heap.size ≤ q → (fun q => s.heap.size ≤ q) q := fun _ z => z
  have hbA : ¬ (fun q => s.heap.size ≤ q) b0 := Nat.not_le.mpr hbl
  have hnb := hC.2.1
  have hns := hC.2.2.2.1
  obtain ⟨v1, e1⟩ : ∃ v, xs (nI (i + 1)).toNatClampNeg = v := ⟨_, rfl⟩
  obtain ⟨v2, e2⟩ : ∃ v, xs (nI (i + 2)).toNatClampNeg = v := ⟨_, rfl⟩
  by_cases hv : f_has σ v1
  · obtain ⟨k, hk, rfl⟩ := zhas_of hC hv
    by_cases hw : v2.toInt < 0 ∨ (4 : Int) < v2.toInt
    · have hP8 : va_P D vwCl ([] ++ (zw_O cI cL x a b σ τ o f ++ zw_M cI μ th σ κ)) H := hP
      have hD8 : va_D (fun q => s.heap.size ≤ q) ([] ++ (zw_O cI cL x a b σ τ o f ++ zw_M cI μ th σ κ)) := hD
      have hPo := fr_P hP8
      have hDo := fr_D hD8
      refine lv_aload_n hx hb dL_law_888 rfl (lv_at hl 1 rfl) ?_
      refine lv_aload_n hx hb dL_law_889 rfl (lv_at hl 0 rfl) ?_
      refine lv_iload hx hb dL_law_890 (lv_at hl 4 rfl) ?_
      refine lv_iconst (v := 1) hx hb dL_law_892 (by decide) ?_
      refine zk_add (x := i) (y := 1) hx hb dL_law_893 ?_
      refine va_sld hx hb hX hbl hbA hS (vp_in_nI (by omega) (by omega)) dL_law_894 ?_
      rw [e1]
      refine lv_aload_n hx hb dL_law_895 rfl (lv_at hl 0 rfl) ?_
      refine lv_iload hx hb dL_law_896 (lv_at hl 4 rfl) ?_
      refine lv_iconst (v := 2) hx hb dL_law_898 (by decide) ?_
      refine zk_add (x := i) (y := 2) hx hb dL_law_899 ?_
      refine va_sld hx hb hX hbl hbA hS (vp_in_nI (by omega) (by omega)) dL_law_900 ?_
      rw [e2]
      refine lv_aload_n hx hb dL_law_901 rfl (lv_at hl 3 rfl) ?_
      refine zk_B (D := D) (vx_runSW (As := [.ref x, .int (nI k), .int v2, .ref o]) (rest := []) ⟨hx, hb, hml, hown, hts⟩ (t_L_about2 l hst D cI cL x a b σ τ o f hC hk v2 hw _) (vx_cwSW 4 hts gL_law_L_about rfl rfl rfl zdL_about.2 ⟨Nat.le_of_ble_eq_true rfl, Nat.le_of_ble_eq_true rfl⟩) ⟨zblX _, zprX (H0 := s.heap) hK hPo hDo hL hZ hS⟩ rfl rfl hl.1 rfl (lv_room (Nat.le_of_ble_eq_true rfl)) dL_law_902 ⟨hc, hs⟩) hS (fun H locs hk1 hS => ?_)
      have hP := hk1 _ hP
      refine lv_istore (lv' := [(5, .int 1), (0, .ref b0), (1, .ref x), (2, .ref (μ 0)), (3, .ref o), (4, .int (nI i))]) hx hb dL_law_905 hl (by decide) rfl (fun ls hl => ?_)
      have hP7 : va_P D vwCl (zw_O cI cL x a b (σ) τ o f ++ (zw_M cI μ th σ κ ++ [])) H := hP
      have hD7 : va_D (fun q => s.heap.size ≤ q) (zw_O cI cL x a b (σ) τ o f ++ (zw_M cI μ th σ κ ++ [])) := hD
      have hPm := fr_P hP7
      have hDm := fr_D hD7
      have hKm : va_K D vwCl [(cI, .int)] s := hK.sub [0] rfl
      have hF2 := zfree hDm hS hA
      refine lv_aload_n hx hb dL_law_907 rfl (lv_at hl 3 rfl) ?_
      refine lv_aload_n hx hb dL_law_908 rfl (lv_at hl 1 rfl) ?_
      refine lv_iload hx hb dL_law_909 (lv_at hl 5 rfl) ?_
      refine lv_iconst (v := 1) hx hb dL_law_911 (by decide) ?_
      refine zk_add (x := i) (y := 1) hx hb dL_law_912 ?_
      refine va_sld hx hb hX hbl hbA hS (vp_in_nI (by omega) (by omega)) dL_law_913 ?_
      rw [e1]
      refine lv_aload_n hx hb dL_law_914 rfl (lv_at hl 1 rfl) ?_
      refine lv_iload hx hb dL_law_915 (lv_at hl 5 rfl) ?_
      refine lv_iconst (v := 2) hx hb dL_law_917 (by decide) ?_
      refine zk_add (x := i) (y := 2) hx hb dL_law_918 ?_
      refine va_sld hx hb hX hbl hbA hS (vp_in_nI (by omega) (by omega)) dL_law_919 ?_
      rw [e2]
      refine zk_I (va_runV (As := [.int (nI k), .int v2]) (rest := []) ⟨hx, hb, hml, hown, hts⟩ (b_X4_about2 l D cI μ th σ κ hC hk v2 hw _) (cwV 2 hts gL_law_X4_about rfl rfl rfl zdX4_about ⟨Nat.le_of_ble_eq_true rfl, Nat.le_of_ble_eq_true rfl⟩) ⟨zbl _, va_recv hKm hPm (ci := 4) (q0 := 0) rfl rfl, zpr hKm hPm hDm⟩ rfl rfl hl.1 rfl (lv_room (Nat.le_of_ble_eq_true rfl)) dL_law_920 ⟨hc, hs⟩) hS hF2 (fun r6 H locs hr6 hkp hP1 hD1 hS => ?_)
      obtain ⟨hP, hD⟩ := fr_J hP7 hD7 hkp hF2 hP1 hD1
      refine lv_istore (lv' := [(6, .int (r6)), (5, .int 1), (0, .ref b0), (1, .ref x), (2, .ref (μ 0)), (3, .ref o), (4, .int (nI i))]) hx hb dL_law_923 hl (by decide) rfl (fun ls hl => ?_)
      have hP : va_P D vwCl (zw_W cI cL x a b (σ) τ o f μ 1 κ) H := hP
      have hD : va_D (fun q => s.heap.size ≤ q) (zw_W cI cL x a b (σ) τ o f μ 1 κ) := hD
      exact law_t_925 C0 kk hc hs (hU) (by omega) hP hD hS hl rfl (fun z => absurd z (by decide))
    · obtain ⟨w, hw4, rfl⟩ := zn_w (n := 4) hw
      have hP8 : va_P D vwCl ([] ++ (zw_O cI cL x a b σ τ o f ++ zw_M cI μ th σ κ)) H := hP
      have hD8 : va_D (fun q => s.heap.size ≤ q) ([] ++ (zw_O cI cL x a b σ τ o f ++ zw_M cI μ th σ κ)) := hD
      have hPo := fr_P hP8
      have hDo := fr_D hD8
      refine lv_aload_n hx hb dL_law_888 rfl (lv_at hl 1 rfl) ?_
      refine lv_aload_n hx hb dL_law_889 rfl (lv_at hl 0 rfl) ?_
      refine lv_iload hx hb dL_law_890 (lv_at hl 4 rfl) ?_
      refine lv_iconst (v := 1) hx hb dL_law_892 (by decide) ?_
      refine zk_add (x := i) (y := 1) hx hb dL_law_893 ?_
      refine va_sld hx hb hX hbl hbA hS (vp_in_nI (by omega) (by omega)) dL_law_894 ?_
      rw [e1]
      refine lv_aload_n hx hb dL_law_895 rfl (lv_at hl 0 rfl) ?_
      refine lv_iload hx hb dL_law_896 (lv_at hl 4 rfl) ?_
      refine lv_iconst (v := 2) hx hb dL_law_898 (by decide) ?_
      refine zk_add (x := i) (y := 2) hx hb dL_law_899 ?_
      refine va_sld hx hb hX hbl hbA hS (vp_in_nI (by omega) (by omega)) dL_law_900 ?_
      rw [e2]
      refine lv_aload_n hx hb dL_law_901 rfl (lv_at hl 3 rfl) ?_
      have hF := zfree hDo hS hA
      refine zk_E (vx_runSW (As := [.ref x, .int (nI k), .int (nI w), .ref o]) (rest := []) ⟨hx, hb, hml, hown, hts⟩ (c_L_about l D cI cL x a b σ τ o f hC hk hw4 _) (vx_cwSW 4 hts gL_law_L_about rfl rfl rfl zdL_about.2 ⟨Nat.le_of_ble_eq_true rfl, Nat.le_of_ble_eq_true rfl⟩) ⟨zblL _, zprL hK hPo hDo hL⟩ rfl rfl hl.1 rfl (lv_room (Nat.le_of_ble_eq_true rfl)) dL_law_902 ⟨Nat.le_of_succ_le hc, Nat.le_trans (Nat.le_add_right _ 6) hs⟩) hS hF (fun r u H locs hr9 hkp hP1 hD1 hS => ?_)
      subst hr9
      obtain ⟨hP, hD⟩ := fr_J hP8 hD8 hkp hF hP1 hD1
      refine W.widen (k := cells + 1) (n := slots + 6) (by omega) (by omega) ?_
      refine lv_istore (lv' := [(5, .int 0), (0, .ref b0), (1, .ref x), (2, .ref (μ 0)), (3, .ref o), (4, .int (nI i))]) hx hb dL_law_905 hl (by decide) rfl (fun ls hl => ?_)
      have hP7 : va_P D vwCl (zw_O cI cL x a b (σ) τ o (vp_updL f 0 (σ (w + 1) k).toInt64) ++ (zw_M cI μ th σ κ ++ [])) H := hP
      have hD7 : va_D (fun q => s.heap.size ≤ q) (zw_O cI cL x a b (σ) τ o (vp_updL f 0 (σ (w + 1) k).toInt64) ++ (zw_M cI μ th σ κ ++ [])) := hD
      have hPm := fr_P hP7
      have hDm := fr_D hD7
      have hKm : va_K D vwCl [(cI, .int)] s := hK.sub [0] rfl
      have hF2 := zfree hDm hS hA
      refine lv_aload_n hx hb dL_law_907 rfl (lv_at hl 3 rfl) ?_
      refine lv_aload_n hx hb dL_law_908 rfl (lv_at hl 1 rfl) ?_
      refine lv_iload hx hb dL_law_909 (lv_at hl 5 rfl) ?_
      refine lv_iconst (v := 1) hx hb dL_law_911 (by decide) ?_
      refine zk_add (x := i) (y := 1) hx hb dL_law_912 ?_
      refine va_sld hx hb hX hbl hbA hS (vp_in_nI (by omega) (by omega)) dL_law_913 ?_
      rw [e1]
      refine lv_aload_n hx hb dL_law_914 rfl (lv_at hl 1 rfl) ?_
      refine lv_iload hx hb dL_law_915 (lv_at hl 5 rfl) ?_
      refine lv_iconst (v := 2) hx hb dL_law_917 (by decide) ?_
      refine zk_add (x := i) (y := 2) hx hb dL_law_918 ?_
      refine va_sld hx hb hX hbl hbA hS (vp_in_nI (by omega) (by omega)) dL_law_919 ?_
      rw [e2]
      refine zk_I (va_runV (As := [.int (nI k), .int (nI w)]) (rest := []) ⟨hx, hb, hml, hown, hts⟩ (c_X4_about l D cI μ th σ κ hC hk hw4 _) (cwV 2 hts gL_law_X4_about rfl rfl rfl zdX4_about ⟨Nat.le_of_ble_eq_true rfl, Nat.le_of_ble_eq_true rfl⟩) ⟨zbl _, va_recv hKm hPm (ci := 4) (q0 := 0) rfl rfl, zpr hKm hPm hDm⟩ rfl rfl hl.1 rfl (lv_room (Nat.le_of_ble_eq_true rfl)) dL_law_920 ⟨hc, hs⟩) hS hF2 (fun r6 H locs hr6 hkp hP1 hD1 hS => ?_)
      obtain ⟨hP, hD⟩ := fr_J hP7 hD7 hkp hF2 hP1 hD1
      subst hr6
      refine lv_istore (lv' := [(6, .int (σ (w + 1) k)), (5, .int 0), (0, .ref b0), (1, .ref x), (2, .ref (μ 0)), (3, .ref o), (4, .int (nI i))]) hx hb dL_law_923 hl (by decide) rfl (fun ls hl => ?_)
      have hP : va_P D vwCl (zw_W cI cL x a b (σ) τ o (vp_updL f 0 (σ (w + 1) k).toInt64) μ 0 κ) H := hP
      have hD : va_D (fun q => s.heap.size ≤ q) (zw_W cI cL x a b (σ) τ o (vp_updL f 0 (σ (w + 1) k).toInt64) μ 0 κ) := hD
      exact law_t_925 C0 kk hc hs (hU) (by omega) hP hD hS hl rfl (fun _ => rfl)
  · have hP8 : va_P D vwCl ([] ++ (zw_O cI cL x a b σ τ o f ++ zw_M cI μ th σ κ)) H := hP
    have hD8 : va_D (fun q => s.heap.size ≤ q) ([] ++ (zw_O cI cL x a b σ τ o f ++ zw_M cI μ th σ κ)) := hD
    have hPo := fr_P hP8
    have hDo := fr_D hD8
    refine lv_aload_n hx hb dL_law_888 rfl (lv_at hl 1 rfl) ?_
    refine lv_aload_n hx hb dL_law_889 rfl (lv_at hl 0 rfl) ?_
    refine lv_iload hx hb dL_law_890 (lv_at hl 4 rfl) ?_
    refine lv_iconst (v := 1) hx hb dL_law_892 (by decide) ?_
    refine zk_add (x := i) (y := 1) hx hb dL_law_893 ?_
    refine va_sld hx hb hX hbl hbA hS (vp_in_nI (by omega) (by omega)) dL_law_894 ?_
    rw [e1]
    refine lv_aload_n hx hb dL_law_895 rfl (lv_at hl 0 rfl) ?_
    refine lv_iload hx hb dL_law_896 (lv_at hl 4 rfl) ?_
    refine lv_iconst (v := 2) hx hb dL_law_898 (by decide) ?_
    refine zk_add (x := i) (y := 2) hx hb dL_law_899 ?_
    refine va_sld hx hb hX hbl hbA hS (vp_in_nI (by omega) (by omega)) dL_law_900 ?_
    rw [e2]
    refine lv_aload_n hx hb dL_law_901 rfl (lv_at hl 3 rfl) ?_
    refine zk_B (D := D) (vx_runSW (As := [.ref x, .int v1, .int v2, .ref o]) (rest := []) ⟨hx, hb, hml, hown, hts⟩ (t_L_about1 l hst D cI cL x a b σ τ o f v1 v2 hv _) (vx_cwSW 4 hts gL_law_L_about rfl rfl rfl zdL_about.2 ⟨Nat.le_of_ble_eq_true rfl, Nat.le_of_ble_eq_true rfl⟩) ⟨zblX _, zprX (H0 := s.heap) hK hPo hDo hL hZ hS⟩ rfl rfl hl.1 rfl (lv_room (Nat.le_of_ble_eq_true rfl)) dL_law_902 ⟨hc, hs⟩) hS (fun H locs hk1 hS => ?_)
    have hP := hk1 _ hP
    refine lv_istore (lv' := [(5, .int 1), (0, .ref b0), (1, .ref x), (2, .ref (μ 0)), (3, .ref o), (4, .int (nI i))]) hx hb dL_law_905 hl (by decide) rfl (fun ls hl => ?_)
    have hP7 : va_P D vwCl (zw_O cI cL x a b (σ) τ o f ++ (zw_M cI μ th σ κ ++ [])) H := hP
    have hD7 : va_D (fun q => s.heap.size ≤ q) (zw_O cI cL x a b (σ) τ o f ++ (zw_M cI μ th σ κ ++ [])) := hD
    have hPm := fr_P hP7
    have hDm := fr_D hD7
    have hKm : va_K D vwCl [(cI, .int)] s := hK.sub [0] rfl
    have hF2 := zfree hDm hS hA
    refine lv_aload_n hx hb dL_law_907 rfl (lv_at hl 3 rfl) ?_
    refine lv_aload_n hx hb dL_law_908 rfl (lv_at hl 1 rfl) ?_
    refine lv_iload hx hb dL_law_909 (lv_at hl 5 rfl) ?_
    refine lv_iconst (v := 1) hx hb dL_law_911 (by decide) ?_
    refine zk_add (x := i) (y := 1) hx hb dL_law_912 ?_
    refine va_sld hx hb hX hbl hbA hS (vp_in_nI (by omega) (by omega)) dL_law_913 ?_
    rw [e1]
    refine lv_aload_n hx hb dL_law_914 rfl (lv_at hl 1 rfl) ?_
    refine lv_iload hx hb dL_law_915 (lv_at hl 5 rfl) ?_
    refine lv_iconst (v := 2) hx hb dL_law_917 (by decide) ?_
    refine zk_add (x := i) (y := 2) hx hb dL_law_918 ?_
    refine va_sld hx hb hX hbl hbA hS (vp_in_nI (by omega) (by omega)) dL_law_919 ?_
    rw [e2]
    refine zk_I (va_runV (As := [.int v1, .int v2]) (rest := []) ⟨hx, hb, hml, hown, hts⟩ (b_X4_about1 l D cI μ th σ κ v1 v2 hC hv _) (cwV 2 hts gL_law_X4_about rfl rfl rfl zdX4_about ⟨Nat.le_of_ble_eq_true rfl, Nat.le_of_ble_eq_true rfl⟩) ⟨zbl _, va_recv hKm hPm (ci := 4) (q0 := 0) rfl rfl, zpr hKm hPm hDm⟩ rfl rfl hl.1 rfl (lv_room (Nat.le_of_ble_eq_true rfl)) dL_law_920 ⟨hc, hs⟩) hS hF2 (fun r6 H locs hr6 hkp hP1 hD1 hS => ?_)
    obtain ⟨hP, hD⟩ := fr_J hP7 hD7 hkp hF2 hP1 hD1
    refine lv_istore (lv' := [(6, .int (r6)), (5, .int 1), (0, .ref b0), (1, .ref x), (2, .ref (μ 0)), (3, .ref o), (4, .int (nI i))]) hx hb dL_law_923 hl (by decide) rfl (fun ls hl => ?_)
    have hP : va_P D vwCl (zw_W cI cL x a b (σ) τ o f μ 1 κ) H := hP
    have hD : va_D (fun q => s.heap.size ≤ q) (zw_W cI cL x a b (σ) τ o f μ 1 κ) := hD
    exact law_t_925 C0 kk hc hs (hU) (by omega) hP hD hS hl rfl (fun z => absurd z (by decide))

set_option maxHeartbeats 4000000 in
set_option maxRecDepth 100000 in
theorem law_t_981 {p : Program} {l : Launch} {e : Env} {s : State} {m : MethodId} {below : List Frame} {meth : Method} {c : Code} {D : va_G} {cI cL : ClassId} {b0 L : Nat} {xs : Nat → Int32} {x o : Nat} {a b μ : Nat → Nat} {Q : State → Prop} {cells slots i : Nat} (C : zLA l p s m meth c D cI cL b0 L xs) {hm : Nat} (kk : zGo p l e s m below meth c D cI cL b0 x o a b μ Q cells slots 1260 i hm) (hc : cells ≤ 1092) (hs : slots ≤ 8973) {σ τ : zS} {f : Nat → Int64} {th x5 x6 : Int32} {κ : Nat → Int32} {nb ns h : Nat} {H : Heap} {locs : List Loc} {ls : Array Slot} (hU : zU σ nb ns h) (hh : h ≤ hm) (hP : va_P D vwCl (zw_W cI cL x a b σ τ o f μ th κ) H) (hD : va_D (fun q => s.heap.size ≤ q) (zw_W cI cL x a b σ τ o f μ th κ)) (hS : va_S (fun q => s.heap.size ≤ q) s.heap H locs) (hl : lv_has ls 9 [(6, .int x6), (5, .int x5), (0, .ref b0), (1, .ref x), (2, .ref (μ 0)), (3, .ref o), (4, .int (nI i))]) (hf : th = x5) (hg : x5 = 0 → f 0 = x6.toInt64) : W p l e room_1 s m #[Value.ref b0] below meth c H locs cells slots Q (F0 m 981 ls []) := by
  obtain ⟨hx, hb, hr, hml, hown, hts, hX, hbl, hK, hL, hZ, hst, hL2⟩ := C
  have hP9 : va_P D vwCl (zw_O cI cL x a b σ τ o f ++ (zw_M cI μ th σ κ ++ [])) H := hP
  have hD9 : va_D (fun q => s.heap.size ≤ q) (zw_O cI cL x a b σ τ o f ++ (zw_M cI μ th σ κ ++ [])) := hD
  have hPm := fr_P hP9
  have hDm := fr_D hD9
  have hKm : va_K D vwCl [(cI, .int)] s := hK.sub [0] rfl
  refine lv_aload_n hx hb dL_law_981 rfl (lv_at hl 4 rfl) ?_
  refine zk_R (D := D) (va_runV (As := []) (rest := []) ⟨hx, hb, hml, hown, hts⟩ (c_X4_thrown l D cI μ th σ κ _) (cwV 0 hts gL_law_X4_thrown rfl rfl rfl zdX4_thrown ⟨Nat.le_of_ble_eq_true rfl, Nat.le_of_ble_eq_true rfl⟩) ⟨zbl _, va_recv hKm hPm (ci := 4) (q0 := 0) rfl rfl, zpr hKm hPm hDm⟩ rfl rfl hl.1 rfl (lv_room (Nat.le_of_ble_eq_true rfl)) dL_law_982 ⟨hc, hs⟩) hS (fun r H locs hr9 hk1 hS => ?_)
  have hP := hk1 _ hP
  rw [show r = x5 from hr9.trans hf]
  refine lv_iload hx hb dL_law_985 (lv_at hl 1 rfl) ?_
  refine lv_icmp_eq (tgt := 992) hx hb dL_law_987 (by decide) (fun _ => ?_) (fun c1 => absurd rfl c1)
  refine lv_iload hx hb dL_law_992 (lv_at hl 1 rfl) ?_
  refine lv_if_ne (tgt := 1009) hx hb dL_law_994 (by decide) (fun c2 => ?_) (fun c2 => ?_)
  · refine lv_goto (tgt := 1260) hx hb dL_law_1009 (by decide) ?_
    exact kk σ τ f th κ nb ns h _ _ ls hU hh hP hD hS (lv_sub hl [2, 3, 4, 5, 6] rfl)
  · refine lv_aload_n hx hb dL_law_997 rfl (lv_at hl 5 rfl) ?_
    refine lv_iconst (v := 0) hx hb dL_law_998 (by decide) ?_
    refine va_lald hx hb hK hP 41 1 rfl rfl vp_in01 dL_law_999 ?_
    refine lv_iload hx hb dL_law_1000 (lv_at hl 0 rfl) ?_
    refine lv_i2l hx hb dL_law_1002 rfl ?_
    refine W.lcmp hx hb dL_law_1003 ?_
    refine lv_if_eq (tgt := 1009) hx hb dL_law_1004 (by decide) (fun _ => ?_) (fun c3 => absurd ((lg_cmp_eq _ _).mpr (hg c2)) c3)
    refine lv_goto (tgt := 1260) hx hb dL_law_1009 (by decide) ?_
    exact kk σ τ f th κ nb ns h _ _ ls hU hh hP hD hS (lv_sub hl [2, 3, 4, 5, 6] rfl)

set_option maxHeartbeats 4000000 in
set_option maxRecDepth 100000 in
theorem law_count {p : Program} {l : Launch} {e : Env} {s : State} {m : MethodId} {below : List Frame} {meth : Method} {c : Code} {D : va_G} {cI cL : ClassId} {b0 L : Nat} {xs : Nat → Int32} {x o : Nat} {a b μ : Nat → Nat} {Q : State → Prop} {cells slots i : Nat} (C : zLA l p s m meth c D cI cL b0 L xs) {hm : Nat} (kk : zGo p l e s m below meth c D cI cL b0 x o a b μ Q (cells + 1) (slots + 6) 1260 i (hm + 72)) (hc : cells + 1 ≤ 1092) (hs : slots + 6 ≤ 8973) (hi : i + 5 ≤ L) (hm9 : hm + 80 < 2 ^ 30) : zGo p l e s m below meth c D cI cL b0 x o a b μ Q cells slots 956 i hm := by
  have C0 := C
  obtain ⟨hx, hb, hr, hml, hown, hts, hX, hbl, hK, hL, hZ, hst, hL2⟩ := C
  intro σ τ f th κ nb ns h H locs ls hU hh hP hD hS hl
  have hI := hU.1
  have hC := hI.1
  have hA : ∀ q : Nat, s.heap.size ≤ q → (fun q => s.heap.size ≤ q) q := fun _ z => z
  have hbA : ¬ (fun q => s.heap.size ≤ q) b0 := Nat.not_le.mpr hbl
  have hnb := hC.2.1
  have hns := hC.2.2.2.1
  obtain ⟨v1, e1⟩ : ∃ v, xs (nI (i + 1)).toNatClampNeg = v := ⟨_, rfl⟩
  by_cases hw : v1.toInt < 0 ∨ (9 : Int) < v1.toInt
  · have hP8 : va_P D vwCl ([] ++ (zw_O cI cL x a b σ τ o f ++ zw_M cI μ th σ κ)) H := hP
    have hD8 : va_D (fun q => s.heap.size ≤ q) ([] ++ (zw_O cI cL x a b σ τ o f ++ zw_M cI μ th σ κ)) := hD
    have hPo := fr_P hP8
    have hDo := fr_D hD8
    refine lv_aload_n hx hb dL_law_956 rfl (lv_at hl 1 rfl) ?_
    refine lv_aload_n hx hb dL_law_957 rfl (lv_at hl 0 rfl) ?_
    refine lv_iload hx hb dL_law_958 (lv_at hl 4 rfl) ?_
    refine lv_iconst (v := 1) hx hb dL_law_960 (by decide) ?_
    refine zk_add (x := i) (y := 1) hx hb dL_law_961 ?_
    refine va_sld hx hb hX hbl hbA hS (vp_in_nI (by omega) (by omega)) dL_law_962 ?_
    rw [e1]
    refine lv_aload_n hx hb dL_law_963 rfl (lv_at hl 3 rfl) ?_
    refine zk_B (D := D) (vx_runSW (As := [.ref x, .int v1, .ref o]) (rest := []) ⟨hx, hb, hml, hown, hts⟩ (t_L_count l hst D cI cL x a b σ τ o f v1 hw _) (vx_cwSW 3 hts gL_law_L_count rfl rfl rfl zdL_count.2 ⟨Nat.le_of_ble_eq_true rfl, Nat.le_of_ble_eq_true rfl⟩) ⟨zblX _, zprX (H0 := s.heap) hK hPo hDo hL hZ hS⟩ rfl rfl hl.1 rfl (lv_room (Nat.le_of_ble_eq_true rfl)) dL_law_964 ⟨hc, hs⟩) hS (fun H locs hk1 hS => ?_)
    have hP := hk1 _ hP
    refine lv_istore (lv' := [(5, .int 1), (0, .ref b0), (1, .ref x), (2, .ref (μ 0)), (3, .ref o), (4, .int (nI i))]) hx hb dL_law_967 hl (by decide) rfl (fun ls hl => ?_)
    have hP7 : va_P D vwCl (zw_O cI cL x a b (σ) τ o f ++ (zw_M cI μ th σ κ ++ [])) H := hP
    have hD7 : va_D (fun q => s.heap.size ≤ q) (zw_O cI cL x a b (σ) τ o f ++ (zw_M cI μ th σ κ ++ [])) := hD
    have hPm := fr_P hP7
    have hDm := fr_D hD7
    have hKm : va_K D vwCl [(cI, .int)] s := hK.sub [0] rfl
    have hF2 := zfree hDm hS hA
    refine lv_aload_n hx hb dL_law_969 rfl (lv_at hl 3 rfl) ?_
    refine lv_aload_n hx hb dL_law_970 rfl (lv_at hl 1 rfl) ?_
    refine lv_iload hx hb dL_law_971 (lv_at hl 5 rfl) ?_
    refine lv_iconst (v := 1) hx hb dL_law_973 (by decide) ?_
    refine zk_add (x := i) (y := 1) hx hb dL_law_974 ?_
    refine va_sld hx hb hX hbl hbA hS (vp_in_nI (by omega) (by omega)) dL_law_975 ?_
    rw [e1]
    refine zk_I (va_runV (As := [.int v1]) (rest := []) ⟨hx, hb, hml, hown, hts⟩ (b_X4_count l D cI μ th σ κ v1 hw _) (cwV 1 hts gL_law_X4_count rfl rfl rfl zdX4_count ⟨Nat.le_of_ble_eq_true rfl, Nat.le_of_ble_eq_true rfl⟩) ⟨zbl _, va_recv hKm hPm (ci := 4) (q0 := 0) rfl rfl, zpr hKm hPm hDm⟩ rfl rfl hl.1 rfl (lv_room (Nat.le_of_ble_eq_true rfl)) dL_law_976 ⟨hc, hs⟩) hS hF2 (fun r6 H locs hr6 hkp hP1 hD1 hS => ?_)
    obtain ⟨hP, hD⟩ := fr_J hP7 hD7 hkp hF2 hP1 hD1
    refine lv_istore (lv' := [(6, .int (r6)), (5, .int 1), (0, .ref b0), (1, .ref x), (2, .ref (μ 0)), (3, .ref o), (4, .int (nI i))]) hx hb dL_law_979 hl (by decide) rfl (fun ls hl => ?_)
    have hP : va_P D vwCl (zw_W cI cL x a b (σ) τ o f μ 1 κ) H := hP
    have hD : va_D (fun q => s.heap.size ≤ q) (zw_W cI cL x a b (σ) τ o f μ 1 κ) := hD
    exact law_t_981 C0 kk hc hs (hU) (by omega) hP hD hS hl rfl (fun z => absurd z (by decide))
  · obtain ⟨w, hw9, rfl⟩ := zn_w (n := 9) hw
    have hP8 : va_P D vwCl ([] ++ (zw_O cI cL x a b σ τ o f ++ zw_M cI μ th σ κ)) H := hP
    have hD8 : va_D (fun q => s.heap.size ≤ q) ([] ++ (zw_O cI cL x a b σ τ o f ++ zw_M cI μ th σ κ)) := hD
    have hPo := fr_P hP8
    have hDo := fr_D hD8
    refine lv_aload_n hx hb dL_law_956 rfl (lv_at hl 1 rfl) ?_
    refine lv_aload_n hx hb dL_law_957 rfl (lv_at hl 0 rfl) ?_
    refine lv_iload hx hb dL_law_958 (lv_at hl 4 rfl) ?_
    refine lv_iconst (v := 1) hx hb dL_law_960 (by decide) ?_
    refine zk_add (x := i) (y := 1) hx hb dL_law_961 ?_
    refine va_sld hx hb hX hbl hbA hS (vp_in_nI (by omega) (by omega)) dL_law_962 ?_
    rw [e1]
    refine lv_aload_n hx hb dL_law_963 rfl (lv_at hl 3 rfl) ?_
    have hF := zfree hDo hS hA
    refine zk_E (vx_runSW (As := [.ref x, .int (nI w), .ref o]) (rest := []) ⟨hx, hb, hml, hown, hts⟩ (c_L_count l D cI cL x a b σ τ o f hC hw9 _) (vx_cwSW 3 hts gL_law_L_count rfl rfl rfl zdL_count.2 ⟨Nat.le_of_ble_eq_true rfl, Nat.le_of_ble_eq_true rfl⟩) ⟨zblL _, zprL hK hPo hDo hL⟩ rfl rfl hl.1 rfl (lv_room (Nat.le_of_ble_eq_true rfl)) dL_law_964 ⟨Nat.le_of_succ_le hc, Nat.le_trans (Nat.le_add_right _ 6) hs⟩) hS hF (fun r u H locs hr9 hkp hP1 hD1 hS => ?_)
    subst hr9
    obtain ⟨hP, hD⟩ := fr_J hP8 hD8 hkp hF hP1 hD1
    refine W.widen (k := cells + 1) (n := slots + 6) (by omega) (by omega) ?_
    refine lv_istore (lv' := [(5, .int 0), (0, .ref b0), (1, .ref x), (2, .ref (μ 0)), (3, .ref o), (4, .int (nI i))]) hx hb dL_law_967 hl (by decide) rfl (fun ls hl => ?_)
    have hP7 : va_P D vwCl (zw_O cI cL x a b (σ) τ o (vp_updL f 0 (q_cnt σ nb ns h w).toInt64) ++ (zw_M cI μ th σ κ ++ [])) H := hP
    have hD7 : va_D (fun q => s.heap.size ≤ q) (zw_O cI cL x a b (σ) τ o (vp_updL f 0 (q_cnt σ nb ns h w).toInt64) ++ (zw_M cI μ th σ κ ++ [])) := hD
    have hPm := fr_P hP7
    have hDm := fr_D hD7
    have hKm : va_K D vwCl [(cI, .int)] s := hK.sub [0] rfl
    have hF2 := zfree hDm hS hA
    refine lv_aload_n hx hb dL_law_969 rfl (lv_at hl 3 rfl) ?_
    refine lv_aload_n hx hb dL_law_970 rfl (lv_at hl 1 rfl) ?_
    refine lv_iload hx hb dL_law_971 (lv_at hl 5 rfl) ?_
    refine lv_iconst (v := 1) hx hb dL_law_973 (by decide) ?_
    refine zk_add (x := i) (y := 1) hx hb dL_law_974 ?_
    refine va_sld hx hb hX hbl hbA hS (vp_in_nI (by omega) (by omega)) dL_law_975 ?_
    rw [e1]
    refine zk_I (va_runV (As := [.int (nI w)]) (rest := []) ⟨hx, hb, hml, hown, hts⟩ (c_X4_count l D cI μ th σ κ hC hw9 _) (cwV 1 hts gL_law_X4_count rfl rfl rfl zdX4_count ⟨Nat.le_of_ble_eq_true rfl, Nat.le_of_ble_eq_true rfl⟩) ⟨zbl _, va_recv hKm hPm (ci := 4) (q0 := 0) rfl rfl, zpr hKm hPm hDm⟩ rfl rfl hl.1 rfl (lv_room (Nat.le_of_ble_eq_true rfl)) dL_law_976 ⟨hc, hs⟩) hS hF2 (fun r6 H locs hr6 hkp hP1 hD1 hS => ?_)
    obtain ⟨hP, hD⟩ := fr_J hP7 hD7 hkp hF2 hP1 hD1
    subst hr6
    refine lv_istore (lv' := [(6, .int (q_cnt σ nb ns h w)), (5, .int 0), (0, .ref b0), (1, .ref x), (2, .ref (μ 0)), (3, .ref o), (4, .int (nI i))]) hx hb dL_law_979 hl (by decide) rfl (fun ls hl => ?_)
    have hP : va_P D vwCl (zw_W cI cL x a b (σ) τ o (vp_updL f 0 (q_cnt σ nb ns h w).toInt64) μ 0 κ) H := hP
    have hD : va_D (fun q => s.heap.size ≤ q) (zw_W cI cL x a b (σ) τ o (vp_updL f 0 (q_cnt σ nb ns h w).toInt64) μ 0 κ) := hD
    exact law_t_981 C0 kk hc hs (hU) (by omega) hP hD hS hl rfl (fun _ => rfl)

set_option maxHeartbeats 4000000 in
set_option maxRecDepth 100000 in
theorem law_t_1049 {p : Program} {l : Launch} {e : Env} {s : State} {m : MethodId} {below : List Frame} {meth : Method} {c : Code} {D : va_G} {cI cL : ClassId} {b0 L : Nat} {xs : Nat → Int32} {x o : Nat} {a b μ : Nat → Nat} {Q : State → Prop} {cells slots i : Nat} (C : zLA l p s m meth c D cI cL b0 L xs) {hm : Nat} (kk : zGo p l e s m below meth c D cI cL b0 x o a b μ Q cells slots 1260 i hm) (hc : cells ≤ 1092) (hs : slots ≤ 8973) {σ τ : zS} {f : Nat → Int64} {th x5 x6 : Int32} {κ : Nat → Int32} {nb ns h : Nat} {H : Heap} {locs : List Loc} {ls : Array Slot} (hU : zU σ nb ns h) (hh : h ≤ hm) (hP : va_P D vwCl (zw_W cI cL x a b σ τ o f μ th κ) H) (hD : va_D (fun q => s.heap.size ≤ q) (zw_W cI cL x a b σ τ o f μ th κ)) (hS : va_S (fun q => s.heap.size ≤ q) s.heap H locs) (hl : lv_has ls 9 [(6, .int x6), (5, .int x5), (0, .ref b0), (1, .ref x), (2, .ref (μ 0)), (3, .ref o), (4, .int (nI i))]) (hf : th = x5) (hg : x5 = 0 → f 0 = x6.toInt64) : W p l e room_1 s m #[Value.ref b0] below meth c H locs cells slots Q (F0 m 1049 ls []) := by
  obtain ⟨hx, hb, hr, hml, hown, hts, hX, hbl, hK, hL, hZ, hst, hL2⟩ := C
  have hP9 : va_P D vwCl (zw_O cI cL x a b σ τ o f ++ (zw_M cI μ th σ κ ++ [])) H := hP
  have hD9 : va_D (fun q => s.heap.size ≤ q) (zw_O cI cL x a b σ τ o f ++ (zw_M cI μ th σ κ ++ [])) := hD
  have hPm := fr_P hP9
  have hDm := fr_D hD9
  have hKm : va_K D vwCl [(cI, .int)] s := hK.sub [0] rfl
  refine lv_aload_n hx hb dL_law_1049 rfl (lv_at hl 4 rfl) ?_
  refine zk_R (D := D) (va_runV (As := []) (rest := []) ⟨hx, hb, hml, hown, hts⟩ (c_X4_thrown l D cI μ th σ κ _) (cwV 0 hts gL_law_X4_thrown rfl rfl rfl zdX4_thrown ⟨Nat.le_of_ble_eq_true rfl, Nat.le_of_ble_eq_true rfl⟩) ⟨zbl _, va_recv hKm hPm (ci := 4) (q0 := 0) rfl rfl, zpr hKm hPm hDm⟩ rfl rfl hl.1 rfl (lv_room (Nat.le_of_ble_eq_true rfl)) dL_law_1050 ⟨hc, hs⟩) hS (fun r H locs hr9 hk1 hS => ?_)
  have hP := hk1 _ hP
  rw [show r = x5 from hr9.trans hf]
  refine lv_iload hx hb dL_law_1053 (lv_at hl 1 rfl) ?_
  refine lv_icmp_eq (tgt := 1060) hx hb dL_law_1055 (by decide) (fun _ => ?_) (fun c1 => absurd rfl c1)
  refine lv_iload hx hb dL_law_1060 (lv_at hl 1 rfl) ?_
  refine lv_if_ne (tgt := 1077) hx hb dL_law_1062 (by decide) (fun c2 => ?_) (fun c2 => ?_)
  · refine lv_goto (tgt := 1260) hx hb dL_law_1077 (by decide) ?_
    exact kk σ τ f th κ nb ns h _ _ ls hU hh hP hD hS (lv_sub hl [2, 3, 4, 5, 6] rfl)
  · refine lv_aload_n hx hb dL_law_1065 rfl (lv_at hl 5 rfl) ?_
    refine lv_iconst (v := 0) hx hb dL_law_1066 (by decide) ?_
    refine va_lald hx hb hK hP 41 1 rfl rfl vp_in01 dL_law_1067 ?_
    refine lv_iload hx hb dL_law_1068 (lv_at hl 0 rfl) ?_
    refine lv_i2l hx hb dL_law_1070 rfl ?_
    refine W.lcmp hx hb dL_law_1071 ?_
    refine lv_if_eq (tgt := 1077) hx hb dL_law_1072 (by decide) (fun _ => ?_) (fun c3 => absurd ((lg_cmp_eq _ _).mpr (hg c2)) c3)
    refine lv_goto (tgt := 1260) hx hb dL_law_1077 (by decide) ?_
    exact kk σ τ f th κ nb ns h _ _ ls hU hh hP hD hS (lv_sub hl [2, 3, 4, 5, 6] rfl)

set_option maxHeartbeats 4000000 in
set_option maxRecDepth 100000 in
theorem law_would {p : Program} {l : Launch} {e : Env} {s : State} {m : MethodId} {below : List Frame} {meth : Method} {c : Code} {D : va_G} {cI cL : ClassId} {b0 L : Nat} {xs : Nat → Int32} {x o : Nat} {a b μ : Nat → Nat} {Q : State → Prop} {cells slots i : Nat} (C : zLA l p s m meth c D cI cL b0 L xs) {hm : Nat} (kk : zGo p l e s m below meth c D cI cL b0 x o a b μ Q (cells + 1) (slots + 6) 1260 i (hm + 72)) (hc : cells + 1 ≤ 1092) (hs : slots + 6 ≤ 8973) (hi : i + 5 ≤ L) (hm9 : hm + 80 < 2 ^ 30) : zGo p l e s m below meth c D cI cL b0 x o a b μ Q cells slots 1012 i hm := by
  have C0 := C
  obtain ⟨hx, hb, hr, hml, hown, hts, hX, hbl, hK, hL, hZ, hst, hL2⟩ := C
  intro σ τ f th κ nb ns h H locs ls hU hh hP hD hS hl
  have hI := hU.1
  have hC := hI.1
  have hA : ∀ q : Nat, s.heap.size ≤ q → (fun q => s.heap.size ≤ q) q := fun _ z => z
  have hbA : ¬ (fun q => s.heap.size ≤ q) b0 := Nat.not_le.mpr hbl
  have hnb := hC.2.1
  have hns := hC.2.2.2.1
  obtain ⟨v1, e1⟩ : ∃ v, xs (nI (i + 1)).toNatClampNeg = v := ⟨_, rfl⟩
  obtain ⟨v2, e2⟩ : ∃ v, xs (nI (i + 2)).toNatClampNeg = v := ⟨_, rfl⟩
  by_cases hv : f_sail σ v1
  · obtain ⟨k, hk, rfl⟩ := zsail_of hC hv
    by_cases hw : ¬ v2 < 1 ∧ v2 ≤ 72
    · obtain ⟨n, hn72, rfl⟩ := zn_72 hw.1 hw.2
      have hP8 : va_P D vwCl ([] ++ (zw_O cI cL x a b σ τ o f ++ zw_M cI μ th σ κ)) H := hP
      have hD8 : va_D (fun q => s.heap.size ≤ q) ([] ++ (zw_O cI cL x a b σ τ o f ++ zw_M cI μ th σ κ)) := hD
      have hPo := fr_P hP8
      have hDo := fr_D hD8
      refine lv_aload_n hx hb dL_law_1012 rfl (lv_at hl 1 rfl) ?_
      refine lv_aload_n hx hb dL_law_1013 rfl (lv_at hl 0 rfl) ?_
      refine lv_iload hx hb dL_law_1014 (lv_at hl 4 rfl) ?_
      refine lv_iconst (v := 1) hx hb dL_law_1016 (by decide) ?_
      refine zk_add (x := i) (y := 1) hx hb dL_law_1017 ?_
      refine va_sld hx hb hX hbl hbA hS (vp_in_nI (by omega) (by omega)) dL_law_1018 ?_
      rw [e1]
      refine lv_aload_n hx hb dL_law_1019 rfl (lv_at hl 0 rfl) ?_
      refine lv_iload hx hb dL_law_1020 (lv_at hl 4 rfl) ?_
      refine lv_iconst (v := 2) hx hb dL_law_1022 (by decide) ?_
      refine zk_add (x := i) (y := 2) hx hb dL_law_1023 ?_
      refine va_sld hx hb hX hbl hbA hS (vp_in_nI (by omega) (by omega)) dL_law_1024 ?_
      rw [e2]
      refine lv_aload_n hx hb dL_law_1025 rfl (lv_at hl 3 rfl) ?_
      have hF := zfree hDo hS hA
      refine zk_E (vx_runSW (As := [.ref x, .int (nI k), .int (nI n), .ref o]) (rest := []) ⟨hx, hb, hml, hown, hts⟩ (c_L_would l D cI cL x a b σ τ o f hC hk hw.1 hw.2 (by omega) _) (vx_cwSW 4 hts gL_law_L_would rfl rfl rfl zdL_would.2 ⟨Nat.le_of_ble_eq_true rfl, Nat.le_of_ble_eq_true rfl⟩) ⟨zblL _, zprL hK hPo hDo hL⟩ rfl rfl hl.1 rfl (lv_room (Nat.le_of_ble_eq_true rfl)) dL_law_1026 ⟨Nat.le_of_succ_le hc, Nat.le_trans (Nat.le_add_right _ 6) hs⟩) hS hF (fun r u H locs hr9 hkp hP1 hD1 hS => ?_)
      subst hr9
      obtain ⟨hP, hD⟩ := fr_J hP8 hD8 hkp hF hP1 hD1
      refine W.widen (k := cells + 1) (n := slots + 6) (by omega) (by omega) ?_
      refine lv_istore (lv' := [(5, .int 0), (0, .ref b0), (1, .ref x), (2, .ref (μ 0)), (3, .ref o), (4, .int (nI i))]) hx hb dL_law_1029 hl (by decide) rfl (fun ls hl => ?_)
      have hP7 : va_P D vwCl (zw_O cI cL x a b (σ) u o (vp_updL f 0 (f_hours σ nb ns h n 14 k - σ 14 k).toInt64) ++ (zw_M cI μ th σ κ ++ [])) H := hP
      have hD7 : va_D (fun q => s.heap.size ≤ q) (zw_O cI cL x a b (σ) u o (vp_updL f 0 (f_hours σ nb ns h n 14 k - σ 14 k).toInt64) ++ (zw_M cI μ th σ κ ++ [])) := hD
      have hPm := fr_P hP7
      have hDm := fr_D hD7
      have hKm : va_K D vwCl [(cI, .int)] s := hK.sub [0] rfl
      have hF2 := zfree hDm hS hA
      refine lv_aload_n hx hb dL_law_1031 rfl (lv_at hl 3 rfl) ?_
      refine lv_aload_n hx hb dL_law_1032 rfl (lv_at hl 1 rfl) ?_
      refine lv_iload hx hb dL_law_1033 (lv_at hl 5 rfl) ?_
      refine lv_iconst (v := 1) hx hb dL_law_1035 (by decide) ?_
      refine zk_add (x := i) (y := 1) hx hb dL_law_1036 ?_
      refine va_sld hx hb hX hbl hbA hS (vp_in_nI (by omega) (by omega)) dL_law_1037 ?_
      rw [e1]
      refine lv_aload_n hx hb dL_law_1038 rfl (lv_at hl 1 rfl) ?_
      refine lv_iload hx hb dL_law_1039 (lv_at hl 5 rfl) ?_
      refine lv_iconst (v := 2) hx hb dL_law_1041 (by decide) ?_
      refine zk_add (x := i) (y := 2) hx hb dL_law_1042 ?_
      refine va_sld hx hb hX hbl hbA hS (vp_in_nI (by omega) (by omega)) dL_law_1043 ?_
      rw [e2]
      refine zk_I (va_runV (As := [.int (nI k), .int (nI n)]) (rest := []) ⟨hx, hb, hml, hown, hts⟩ (c_X4_would l D cI μ th σ κ hI hk hw.1 hw.2 (by omega) _) (cwV 2 hts gL_law_X4_would rfl rfl rfl zdX4_would ⟨Nat.le_of_ble_eq_true rfl, Nat.le_of_ble_eq_true rfl⟩) ⟨zbl _, va_recv hKm hPm (ci := 4) (q0 := 0) rfl rfl, zpr hKm hPm hDm⟩ rfl rfl hl.1 rfl (lv_room (Nat.le_of_ble_eq_true rfl)) dL_law_1044 ⟨hc, hs⟩) hS hF2 (fun r6 H locs hr6 hkp hP1 hD1 hS => ?_)
      obtain ⟨hP, hD⟩ := fr_J hP7 hD7 hkp hF2 hP1 hD1
      subst hr6
      refine lv_istore (lv' := [(6, .int (f_hours σ nb ns h n 14 k - σ 14 k)), (5, .int 0), (0, .ref b0), (1, .ref x), (2, .ref (μ 0)), (3, .ref o), (4, .int (nI i))]) hx hb dL_law_1047 hl (by decide) rfl (fun ls hl => ?_)
      have hP : va_P D vwCl (zw_W cI cL x a b (σ) u o (vp_updL f 0 (f_hours σ nb ns h n 14 k - σ 14 k).toInt64) μ 0 (zenc σ)) H := hP
      have hD : va_D (fun q => s.heap.size ≤ q) (zw_W cI cL x a b (σ) u o (vp_updL f 0 (f_hours σ nb ns h n 14 k - σ 14 k).toInt64) μ 0 (zenc σ)) := hD
      exact law_t_1049 C0 kk hc hs (hU) (by omega) hP hD hS hl rfl (fun _ => rfl)
    · have hP8 : va_P D vwCl ([] ++ (zw_O cI cL x a b σ τ o f ++ zw_M cI μ th σ κ)) H := hP
      have hD8 : va_D (fun q => s.heap.size ≤ q) ([] ++ (zw_O cI cL x a b σ τ o f ++ zw_M cI μ th σ κ)) := hD
      have hPo := fr_P hP8
      have hDo := fr_D hD8
      refine lv_aload_n hx hb dL_law_1012 rfl (lv_at hl 1 rfl) ?_
      refine lv_aload_n hx hb dL_law_1013 rfl (lv_at hl 0 rfl) ?_
      refine lv_iload hx hb dL_law_1014 (lv_at hl 4 rfl) ?_
      refine lv_iconst (v := 1) hx hb dL_law_1016 (by decide) ?_
      refine zk_add (x := i) (y := 1) hx hb dL_law_1017 ?_
      refine va_sld hx hb hX hbl hbA hS (vp_in_nI (by omega) (by omega)) dL_law_1018 ?_
      rw [e1]
      refine lv_aload_n hx hb dL_law_1019 rfl (lv_at hl 0 rfl) ?_
      refine lv_iload hx hb dL_law_1020 (lv_at hl 4 rfl) ?_
      refine lv_iconst (v := 2) hx hb dL_law_1022 (by decide) ?_
      refine zk_add (x := i) (y := 2) hx hb dL_law_1023 ?_
      refine va_sld hx hb hX hbl hbA hS (vp_in_nI (by omega) (by omega)) dL_law_1024 ?_
      rw [e2]
      refine lv_aload_n hx hb dL_law_1025 rfl (lv_at hl 3 rfl) ?_
      refine zk_B (D := D) (vx_runSW (As := [.ref x, .int (nI k), .int v2, .ref o]) (rest := []) ⟨hx, hb, hml, hown, hts⟩ (t_L_would2 l hst D cI cL x a b σ τ o f hC hk v2 hw _) (vx_cwSW 4 hts gL_law_L_would rfl rfl rfl zdL_would.2 ⟨Nat.le_of_ble_eq_true rfl, Nat.le_of_ble_eq_true rfl⟩) ⟨zblX _, zprX (H0 := s.heap) hK hPo hDo hL hZ hS⟩ rfl rfl hl.1 rfl (lv_room (Nat.le_of_ble_eq_true rfl)) dL_law_1026 ⟨hc, hs⟩) hS (fun H locs hk1 hS => ?_)
      have hP := hk1 _ hP
      refine lv_istore (lv' := [(5, .int 2), (0, .ref b0), (1, .ref x), (2, .ref (μ 0)), (3, .ref o), (4, .int (nI i))]) hx hb dL_law_1029 hl (by decide) rfl (fun ls hl => ?_)
      have hP7 : va_P D vwCl (zw_O cI cL x a b (σ) τ o f ++ (zw_M cI μ th σ κ ++ [])) H := hP
      have hD7 : va_D (fun q => s.heap.size ≤ q) (zw_O cI cL x a b (σ) τ o f ++ (zw_M cI μ th σ κ ++ [])) := hD
      have hPm := fr_P hP7
      have hDm := fr_D hD7
      have hKm : va_K D vwCl [(cI, .int)] s := hK.sub [0] rfl
      have hF2 := zfree hDm hS hA
      refine lv_aload_n hx hb dL_law_1031 rfl (lv_at hl 3 rfl) ?_
      refine lv_aload_n hx hb dL_law_1032 rfl (lv_at hl 1 rfl) ?_
      refine lv_iload hx hb dL_law_1033 (lv_at hl 5 rfl) ?_
      refine lv_iconst (v := 1) hx hb dL_law_1035 (by decide) ?_
      refine zk_add (x := i) (y := 1) hx hb dL_law_1036 ?_
      refine va_sld hx hb hX hbl hbA hS (vp_in_nI (by omega) (by omega)) dL_law_1037 ?_
      rw [e1]
      refine lv_aload_n hx hb dL_law_1038 rfl (lv_at hl 1 rfl) ?_
      refine lv_iload hx hb dL_law_1039 (lv_at hl 5 rfl) ?_
      refine lv_iconst (v := 2) hx hb dL_law_1041 (by decide) ?_
      refine zk_add (x := i) (y := 2) hx hb dL_law_1042 ?_
      refine va_sld hx hb hX hbl hbA hS (vp_in_nI (by omega) (by omega)) dL_law_1043 ?_
      rw [e2]
      refine zk_I (va_runV (As := [.int (nI k), .int v2]) (rest := []) ⟨hx, hb, hml, hown, hts⟩ (b_X4_would2 l D cI μ th σ κ hC hk v2 hw _) (cwV 2 hts gL_law_X4_would rfl rfl rfl zdX4_would ⟨Nat.le_of_ble_eq_true rfl, Nat.le_of_ble_eq_true rfl⟩) ⟨zbl _, va_recv hKm hPm (ci := 4) (q0 := 0) rfl rfl, zpr hKm hPm hDm⟩ rfl rfl hl.1 rfl (lv_room (Nat.le_of_ble_eq_true rfl)) dL_law_1044 ⟨hc, hs⟩) hS hF2 (fun r6 H locs hr6 hkp hP1 hD1 hS => ?_)
      obtain ⟨hP, hD⟩ := fr_J hP7 hD7 hkp hF2 hP1 hD1
      refine lv_istore (lv' := [(6, .int (r6)), (5, .int 2), (0, .ref b0), (1, .ref x), (2, .ref (μ 0)), (3, .ref o), (4, .int (nI i))]) hx hb dL_law_1047 hl (by decide) rfl (fun ls hl => ?_)
      have hP : va_P D vwCl (zw_W cI cL x a b (σ) τ o f μ 2 κ) H := hP
      have hD : va_D (fun q => s.heap.size ≤ q) (zw_W cI cL x a b (σ) τ o f μ 2 κ) := hD
      exact law_t_1049 C0 kk hc hs (hU) (by omega) hP hD hS hl rfl (fun z => absurd z (by decide))
  · have hP8 : va_P D vwCl ([] ++ (zw_O cI cL x a b σ τ o f ++ zw_M cI μ th σ κ)) H := hP
    have hD8 : va_D (fun q => s.heap.size ≤ q) ([] ++ (zw_O cI cL x a b σ τ o f ++ zw_M cI μ th σ κ)) := hD
    have hPo := fr_P hP8
    have hDo := fr_D hD8
    refine lv_aload_n hx hb dL_law_1012 rfl (lv_at hl 1 rfl) ?_
    refine lv_aload_n hx hb dL_law_1013 rfl (lv_at hl 0 rfl) ?_
    refine lv_iload hx hb dL_law_1014 (lv_at hl 4 rfl) ?_
    refine lv_iconst (v := 1) hx hb dL_law_1016 (by decide) ?_
    refine zk_add (x := i) (y := 1) hx hb dL_law_1017 ?_
    refine va_sld hx hb hX hbl hbA hS (vp_in_nI (by omega) (by omega)) dL_law_1018 ?_
    rw [e1]
    refine lv_aload_n hx hb dL_law_1019 rfl (lv_at hl 0 rfl) ?_
    refine lv_iload hx hb dL_law_1020 (lv_at hl 4 rfl) ?_
    refine lv_iconst (v := 2) hx hb dL_law_1022 (by decide) ?_
    refine zk_add (x := i) (y := 2) hx hb dL_law_1023 ?_
    refine va_sld hx hb hX hbl hbA hS (vp_in_nI (by omega) (by omega)) dL_law_1024 ?_
    rw [e2]
    refine lv_aload_n hx hb dL_law_1025 rfl (lv_at hl 3 rfl) ?_
    refine zk_B (D := D) (vx_runSW (As := [.ref x, .int v1, .int v2, .ref o]) (rest := []) ⟨hx, hb, hml, hown, hts⟩ (t_L_would1 l hst D cI cL x a b σ τ o f v1 v2 hv _) (vx_cwSW 4 hts gL_law_L_would rfl rfl rfl zdL_would.2 ⟨Nat.le_of_ble_eq_true rfl, Nat.le_of_ble_eq_true rfl⟩) ⟨zblX _, zprX (H0 := s.heap) hK hPo hDo hL hZ hS⟩ rfl rfl hl.1 rfl (lv_room (Nat.le_of_ble_eq_true rfl)) dL_law_1026 ⟨hc, hs⟩) hS (fun H locs hk1 hS => ?_)
    have hP := hk1 _ hP
    refine lv_istore (lv' := [(5, .int 1), (0, .ref b0), (1, .ref x), (2, .ref (μ 0)), (3, .ref o), (4, .int (nI i))]) hx hb dL_law_1029 hl (by decide) rfl (fun ls hl => ?_)
    have hP7 : va_P D vwCl (zw_O cI cL x a b (σ) τ o f ++ (zw_M cI μ th σ κ ++ [])) H := hP
    have hD7 : va_D (fun q => s.heap.size ≤ q) (zw_O cI cL x a b (σ) τ o f ++ (zw_M cI μ th σ κ ++ [])) := hD
    have hPm := fr_P hP7
    have hDm := fr_D hD7
    have hKm : va_K D vwCl [(cI, .int)] s := hK.sub [0] rfl
    have hF2 := zfree hDm hS hA
    refine lv_aload_n hx hb dL_law_1031 rfl (lv_at hl 3 rfl) ?_
    refine lv_aload_n hx hb dL_law_1032 rfl (lv_at hl 1 rfl) ?_
    refine lv_iload hx hb dL_law_1033 (lv_at hl 5 rfl) ?_
    refine lv_iconst (v := 1) hx hb dL_law_1035 (by decide) ?_
    refine zk_add (x := i) (y := 1) hx hb dL_law_1036 ?_
    refine va_sld hx hb hX hbl hbA hS (vp_in_nI (by omega) (by omega)) dL_law_1037 ?_
    rw [e1]
    refine lv_aload_n hx hb dL_law_1038 rfl (lv_at hl 1 rfl) ?_
    refine lv_iload hx hb dL_law_1039 (lv_at hl 5 rfl) ?_
    refine lv_iconst (v := 2) hx hb dL_law_1041 (by decide) ?_
    refine zk_add (x := i) (y := 2) hx hb dL_law_1042 ?_
    refine va_sld hx hb hX hbl hbA hS (vp_in_nI (by omega) (by omega)) dL_law_1043 ?_
    rw [e2]
    refine zk_I (va_runV (As := [.int v1, .int v2]) (rest := []) ⟨hx, hb, hml, hown, hts⟩ (b_X4_would1 l D cI μ th σ κ v1 v2 hC hv _) (cwV 2 hts gL_law_X4_would rfl rfl rfl zdX4_would ⟨Nat.le_of_ble_eq_true rfl, Nat.le_of_ble_eq_true rfl⟩) ⟨zbl _, va_recv hKm hPm (ci := 4) (q0 := 0) rfl rfl, zpr hKm hPm hDm⟩ rfl rfl hl.1 rfl (lv_room (Nat.le_of_ble_eq_true rfl)) dL_law_1044 ⟨hc, hs⟩) hS hF2 (fun r6 H locs hr6 hkp hP1 hD1 hS => ?_)
    obtain ⟨hP, hD⟩ := fr_J hP7 hD7 hkp hF2 hP1 hD1
    refine lv_istore (lv' := [(6, .int (r6)), (5, .int 1), (0, .ref b0), (1, .ref x), (2, .ref (μ 0)), (3, .ref o), (4, .int (nI i))]) hx hb dL_law_1047 hl (by decide) rfl (fun ls hl => ?_)
    have hP : va_P D vwCl (zw_W cI cL x a b (σ) τ o f μ 1 κ) H := hP
    have hD : va_D (fun q => s.heap.size ≤ q) (zw_W cI cL x a b (σ) τ o f μ 1 κ) := hD
    exact law_t_1049 C0 kk hc hs (hU) (by omega) hP hD hS hl rfl (fun z => absurd z (by decide))

set_option maxHeartbeats 4000000 in
set_option maxRecDepth 100000 in
theorem law_t_1105 {p : Program} {l : Launch} {e : Env} {s : State} {m : MethodId} {below : List Frame} {meth : Method} {c : Code} {D : va_G} {cI cL : ClassId} {b0 L : Nat} {xs : Nat → Int32} {x o : Nat} {a b μ : Nat → Nat} {Q : State → Prop} {cells slots i : Nat} (C : zLA l p s m meth c D cI cL b0 L xs) {hm : Nat} (kk : zGo p l e s m below meth c D cI cL b0 x o a b μ Q cells slots 1260 i hm) (hc : cells ≤ 1092) (hs : slots ≤ 8973) {σ τ : zS} {f : Nat → Int64} {th x5 x6 : Int32} {κ : Nat → Int32} {nb ns h : Nat} {H : Heap} {locs : List Loc} {ls : Array Slot} (hU : zU σ nb ns h) (hh : h ≤ hm) (hP : va_P D vwCl (zw_W cI cL x a b σ τ o f μ th κ) H) (hD : va_D (fun q => s.heap.size ≤ q) (zw_W cI cL x a b σ τ o f μ th κ)) (hS : va_S (fun q => s.heap.size ≤ q) s.heap H locs) (hl : lv_has ls 9 [(6, .int x6), (5, .int x5), (0, .ref b0), (1, .ref x), (2, .ref (μ 0)), (3, .ref o), (4, .int (nI i))]) (hf : th = x5) (hg : x5 = 0 → f 0 = x6.toInt64) : W p l e room_1 s m #[Value.ref b0] below meth c H locs cells slots Q (F0 m 1105 ls []) := by
  obtain ⟨hx, hb, hr, hml, hown, hts, hX, hbl, hK, hL, hZ, hst, hL2⟩ := C
  have hP9 : va_P D vwCl (zw_O cI cL x a b σ τ o f ++ (zw_M cI μ th σ κ ++ [])) H := hP
  have hD9 : va_D (fun q => s.heap.size ≤ q) (zw_O cI cL x a b σ τ o f ++ (zw_M cI μ th σ κ ++ [])) := hD
  have hPm := fr_P hP9
  have hDm := fr_D hD9
  have hKm : va_K D vwCl [(cI, .int)] s := hK.sub [0] rfl
  refine lv_aload_n hx hb dL_law_1105 rfl (lv_at hl 4 rfl) ?_
  refine zk_R (D := D) (va_runV (As := []) (rest := []) ⟨hx, hb, hml, hown, hts⟩ (c_X4_thrown l D cI μ th σ κ _) (cwV 0 hts gL_law_X4_thrown rfl rfl rfl zdX4_thrown ⟨Nat.le_of_ble_eq_true rfl, Nat.le_of_ble_eq_true rfl⟩) ⟨zbl _, va_recv hKm hPm (ci := 4) (q0 := 0) rfl rfl, zpr hKm hPm hDm⟩ rfl rfl hl.1 rfl (lv_room (Nat.le_of_ble_eq_true rfl)) dL_law_1106 ⟨hc, hs⟩) hS (fun r H locs hr9 hk1 hS => ?_)
  have hP := hk1 _ hP
  rw [show r = x5 from hr9.trans hf]
  refine lv_iload hx hb dL_law_1109 (lv_at hl 1 rfl) ?_
  refine lv_icmp_eq (tgt := 1116) hx hb dL_law_1111 (by decide) (fun _ => ?_) (fun c1 => absurd rfl c1)
  refine lv_iload hx hb dL_law_1116 (lv_at hl 1 rfl) ?_
  refine lv_if_ne (tgt := 1133) hx hb dL_law_1118 (by decide) (fun c2 => ?_) (fun c2 => ?_)
  · refine lv_goto (tgt := 1260) hx hb dL_law_1133 (by decide) ?_
    exact kk σ τ f th κ nb ns h _ _ ls hU hh hP hD hS (lv_sub hl [2, 3, 4, 5, 6] rfl)
  · refine lv_aload_n hx hb dL_law_1121 rfl (lv_at hl 5 rfl) ?_
    refine lv_iconst (v := 0) hx hb dL_law_1122 (by decide) ?_
    refine va_lald hx hb hK hP 41 1 rfl rfl vp_in01 dL_law_1123 ?_
    refine lv_iload hx hb dL_law_1124 (lv_at hl 0 rfl) ?_
    refine lv_i2l hx hb dL_law_1126 rfl ?_
    refine W.lcmp hx hb dL_law_1127 ?_
    refine lv_if_eq (tgt := 1133) hx hb dL_law_1128 (by decide) (fun _ => ?_) (fun c3 => absurd ((lg_cmp_eq _ _).mpr (hg c2)) c3)
    refine lv_goto (tgt := 1260) hx hb dL_law_1133 (by decide) ?_
    exact kk σ τ f th κ nb ns h _ _ ls hU hh hP hD hS (lv_sub hl [2, 3, 4, 5, 6] rfl)

set_option maxHeartbeats 4000000 in
set_option maxRecDepth 100000 in
theorem law_until {p : Program} {l : Launch} {e : Env} {s : State} {m : MethodId} {below : List Frame} {meth : Method} {c : Code} {D : va_G} {cI cL : ClassId} {b0 L : Nat} {xs : Nat → Int32} {x o : Nat} {a b μ : Nat → Nat} {Q : State → Prop} {cells slots i : Nat} (C : zLA l p s m meth c D cI cL b0 L xs) {hm : Nat} (kk : zGo p l e s m below meth c D cI cL b0 x o a b μ Q (cells + 1) (slots + 6) 1260 i (hm + 72)) (hc : cells + 1 ≤ 1092) (hs : slots + 6 ≤ 8973) (hi : i + 5 ≤ L) (hm9 : hm + 80 < 2 ^ 30) : zGo p l e s m below meth c D cI cL b0 x o a b μ Q cells slots 1080 i hm := by
  have C0 := C
  obtain ⟨hx, hb, hr, hml, hown, hts, hX, hbl, hK, hL, hZ, hst, hL2⟩ := C
  intro σ τ f th κ nb ns h H locs ls hU hh hP hD hS hl
  have hI := hU.1
  have hC := hI.1
  have hA : ∀ q : Nat, s.heap.size ≤ q → (fun q => s.heap.size ≤ q) q := fun _ z => z
  have hbA : ¬ (fun q => s.heap.size ≤ q) b0 := Nat.not_le.mpr hbl
  have hnb := hC.2.1
  have hns := hC.2.2.2.1
  obtain ⟨v1, e1⟩ : ∃ v, xs (nI (i + 1)).toNatClampNeg = v := ⟨_, rfl⟩
  by_cases hv : f_sail σ v1
  · obtain ⟨k, hk, rfl⟩ := zsail_of hC hv
    have hP8 : va_P D vwCl ([] ++ (zw_O cI cL x a b σ τ o f ++ zw_M cI μ th σ κ)) H := hP
    have hD8 : va_D (fun q => s.heap.size ≤ q) ([] ++ (zw_O cI cL x a b σ τ o f ++ zw_M cI μ th σ κ)) := hD
    have hPo := fr_P hP8
    have hDo := fr_D hD8
    refine lv_aload_n hx hb dL_law_1080 rfl (lv_at hl 1 rfl) ?_
    refine lv_aload_n hx hb dL_law_1081 rfl (lv_at hl 0 rfl) ?_
    refine lv_iload hx hb dL_law_1082 (lv_at hl 4 rfl) ?_
    refine lv_iconst (v := 1) hx hb dL_law_1084 (by decide) ?_
    refine zk_add (x := i) (y := 1) hx hb dL_law_1085 ?_
    refine va_sld hx hb hX hbl hbA hS (vp_in_nI (by omega) (by omega)) dL_law_1086 ?_
    rw [e1]
    refine lv_aload_n hx hb dL_law_1087 rfl (lv_at hl 3 rfl) ?_
    have hF := zfree hDo hS hA
    refine zk_E (vx_runSW (As := [.ref x, .int (nI k), .ref o]) (rest := []) ⟨hx, hb, hml, hown, hts⟩ (c_L_until l D cI cL x a b σ τ o f hC hk (by omega) _) (vx_cwSW 3 hts gL_law_L_until rfl rfl rfl zdL_until.2 ⟨Nat.le_of_ble_eq_true rfl, Nat.le_of_ble_eq_true rfl⟩) ⟨zblL _, zprL hK hPo hDo hL⟩ rfl rfl hl.1 rfl (lv_room (Nat.le_of_ble_eq_true rfl)) dL_law_1088 ⟨Nat.le_of_succ_le hc, Nat.le_trans (Nat.le_add_right _ 6) hs⟩) hS hF (fun r u H locs hr9 hkp hP1 hD1 hS => ?_)
    subst hr9
    obtain ⟨hP, hD⟩ := fr_J hP8 hD8 hkp hF hP1 hD1
    refine W.widen (k := cells + 1) (n := slots + 6) (by omega) (by omega) ?_
    refine lv_istore (lv' := [(5, .int 0), (0, .ref b0), (1, .ref x), (2, .ref (μ 0)), (3, .ref o), (4, .int (nI i))]) hx hb dL_law_1091 hl (by decide) rfl (fun ls hl => ?_)
    have hP7 : va_P D vwCl (zw_O cI cL x a b (σ) u o (vp_updL f 0 (q_find (q_unt σ nb ns h k) 1 0 49).toInt64) ++ (zw_M cI μ th σ κ ++ [])) H := hP
    have hD7 : va_D (fun q => s.heap.size ≤ q) (zw_O cI cL x a b (σ) u o (vp_updL f 0 (q_find (q_unt σ nb ns h k) 1 0 49).toInt64) ++ (zw_M cI μ th σ κ ++ [])) := hD
    have hPm := fr_P hP7
    have hDm := fr_D hD7
    have hKm : va_K D vwCl [(cI, .int)] s := hK.sub [0] rfl
    have hF2 := zfree hDm hS hA
    refine lv_aload_n hx hb dL_law_1093 rfl (lv_at hl 3 rfl) ?_
    refine lv_aload_n hx hb dL_law_1094 rfl (lv_at hl 1 rfl) ?_
    refine lv_iload hx hb dL_law_1095 (lv_at hl 5 rfl) ?_
    refine lv_iconst (v := 1) hx hb dL_law_1097 (by decide) ?_
    refine zk_add (x := i) (y := 1) hx hb dL_law_1098 ?_
    refine va_sld hx hb hX hbl hbA hS (vp_in_nI (by omega) (by omega)) dL_law_1099 ?_
    rw [e1]
    refine zk_I (va_runV (As := [.int (nI k)]) (rest := []) ⟨hx, hb, hml, hown, hts⟩ (c_X4_until l D cI μ th σ κ hI hk (by omega) _) (cwV 1 hts gL_law_X4_until rfl rfl rfl zdX4_until ⟨Nat.le_of_ble_eq_true rfl, Nat.le_of_ble_eq_true rfl⟩) ⟨zbl _, va_recv hKm hPm (ci := 4) (q0 := 0) rfl rfl, zpr hKm hPm hDm⟩ rfl rfl hl.1 rfl (lv_room (Nat.le_of_ble_eq_true rfl)) dL_law_1100 ⟨hc, hs⟩) hS hF2 (fun r6 H locs hr6 hkp hP1 hD1 hS => ?_)
    obtain ⟨hP, hD⟩ := fr_J hP7 hD7 hkp hF2 hP1 hD1
    subst hr6
    refine lv_istore (lv' := [(6, .int (q_find (q_unt σ nb ns h k) 1 0 49)), (5, .int 0), (0, .ref b0), (1, .ref x), (2, .ref (μ 0)), (3, .ref o), (4, .int (nI i))]) hx hb dL_law_1103 hl (by decide) rfl (fun ls hl => ?_)
    have hP : va_P D vwCl (zw_W cI cL x a b (σ) u o (vp_updL f 0 (q_find (q_unt σ nb ns h k) 1 0 49).toInt64) μ 0 (zenc σ)) H := hP
    have hD : va_D (fun q => s.heap.size ≤ q) (zw_W cI cL x a b (σ) u o (vp_updL f 0 (q_find (q_unt σ nb ns h k) 1 0 49).toInt64) μ 0 (zenc σ)) := hD
    exact law_t_1105 C0 kk hc hs (hU) (by omega) hP hD hS hl rfl (fun _ => rfl)
  · have hP8 : va_P D vwCl ([] ++ (zw_O cI cL x a b σ τ o f ++ zw_M cI μ th σ κ)) H := hP
    have hD8 : va_D (fun q => s.heap.size ≤ q) ([] ++ (zw_O cI cL x a b σ τ o f ++ zw_M cI μ th σ κ)) := hD
    have hPo := fr_P hP8
    have hDo := fr_D hD8
    refine lv_aload_n hx hb dL_law_1080 rfl (lv_at hl 1 rfl) ?_
    refine lv_aload_n hx hb dL_law_1081 rfl (lv_at hl 0 rfl) ?_
    refine lv_iload hx hb dL_law_1082 (lv_at hl 4 rfl) ?_
    refine lv_iconst (v := 1) hx hb dL_law_1084 (by decide) ?_
    refine zk_add (x := i) (y := 1) hx hb dL_law_1085 ?_
    refine va_sld hx hb hX hbl hbA hS (vp_in_nI (by omega) (by omega)) dL_law_1086 ?_
    rw [e1]
    refine lv_aload_n hx hb dL_law_1087 rfl (lv_at hl 3 rfl) ?_
    refine zk_B (D := D) (vx_runSW (As := [.ref x, .int v1, .ref o]) (rest := []) ⟨hx, hb, hml, hown, hts⟩ (t_L_until1 l hst D cI cL x a b σ τ o f v1 hv _) (vx_cwSW 3 hts gL_law_L_until rfl rfl rfl zdL_until.2 ⟨Nat.le_of_ble_eq_true rfl, Nat.le_of_ble_eq_true rfl⟩) ⟨zblX _, zprX (H0 := s.heap) hK hPo hDo hL hZ hS⟩ rfl rfl hl.1 rfl (lv_room (Nat.le_of_ble_eq_true rfl)) dL_law_1088 ⟨hc, hs⟩) hS (fun H locs hk1 hS => ?_)
    have hP := hk1 _ hP
    refine lv_istore (lv' := [(5, .int 1), (0, .ref b0), (1, .ref x), (2, .ref (μ 0)), (3, .ref o), (4, .int (nI i))]) hx hb dL_law_1091 hl (by decide) rfl (fun ls hl => ?_)
    have hP7 : va_P D vwCl (zw_O cI cL x a b (σ) τ o f ++ (zw_M cI μ th σ κ ++ [])) H := hP
    have hD7 : va_D (fun q => s.heap.size ≤ q) (zw_O cI cL x a b (σ) τ o f ++ (zw_M cI μ th σ κ ++ [])) := hD
    have hPm := fr_P hP7
    have hDm := fr_D hD7
    have hKm : va_K D vwCl [(cI, .int)] s := hK.sub [0] rfl
    have hF2 := zfree hDm hS hA
    refine lv_aload_n hx hb dL_law_1093 rfl (lv_at hl 3 rfl) ?_
    refine lv_aload_n hx hb dL_law_1094 rfl (lv_at hl 1 rfl) ?_
    refine lv_iload hx hb dL_law_1095 (lv_at hl 5 rfl) ?_
    refine lv_iconst (v := 1) hx hb dL_law_1097 (by decide) ?_
    refine zk_add (x := i) (y := 1) hx hb dL_law_1098 ?_
    refine va_sld hx hb hX hbl hbA hS (vp_in_nI (by omega) (by omega)) dL_law_1099 ?_
    rw [e1]
    refine zk_I (va_runV (As := [.int v1]) (rest := []) ⟨hx, hb, hml, hown, hts⟩ (b_X4_until1 l D cI μ th σ κ v1 hC hv _) (cwV 1 hts gL_law_X4_until rfl rfl rfl zdX4_until ⟨Nat.le_of_ble_eq_true rfl, Nat.le_of_ble_eq_true rfl⟩) ⟨zbl _, va_recv hKm hPm (ci := 4) (q0 := 0) rfl rfl, zpr hKm hPm hDm⟩ rfl rfl hl.1 rfl (lv_room (Nat.le_of_ble_eq_true rfl)) dL_law_1100 ⟨hc, hs⟩) hS hF2 (fun r6 H locs hr6 hkp hP1 hD1 hS => ?_)
    obtain ⟨hP, hD⟩ := fr_J hP7 hD7 hkp hF2 hP1 hD1
    refine lv_istore (lv' := [(6, .int (r6)), (5, .int 1), (0, .ref b0), (1, .ref x), (2, .ref (μ 0)), (3, .ref o), (4, .int (nI i))]) hx hb dL_law_1103 hl (by decide) rfl (fun ls hl => ?_)
    have hP : va_P D vwCl (zw_W cI cL x a b (σ) τ o f μ 1 κ) H := hP
    have hD : va_D (fun q => s.heap.size ≤ q) (zw_W cI cL x a b (σ) τ o f μ 1 κ) := hD
    exact law_t_1105 C0 kk hc hs (hU) (by omega) hP hD hS hl rfl (fun z => absurd z (by decide))

set_option maxHeartbeats 4000000 in
set_option maxRecDepth 100000 in
theorem law_t_1174 {p : Program} {l : Launch} {e : Env} {s : State} {m : MethodId} {below : List Frame} {meth : Method} {c : Code} {D : va_G} {cI cL : ClassId} {b0 L : Nat} {xs : Nat → Int32} {x o : Nat} {a b μ : Nat → Nat} {Q : State → Prop} {cells slots i : Nat} (C : zLA l p s m meth c D cI cL b0 L xs) {hm : Nat} (kk : zGo p l e s m below meth c D cI cL b0 x o a b μ Q cells slots 1260 i hm) (hc : cells ≤ 1092) (hs : slots ≤ 8973) {σ τ : zS} {f : Nat → Int64} {th x5 x6 : Int32} {κ : Nat → Int32} {nb ns h : Nat} {H : Heap} {locs : List Loc} {ls : Array Slot} (hU : zU σ nb ns h) (hh : h ≤ hm) (hP : va_P D vwCl (zw_W cI cL x a b σ τ o f μ th κ) H) (hD : va_D (fun q => s.heap.size ≤ q) (zw_W cI cL x a b σ τ o f μ th κ)) (hS : va_S (fun q => s.heap.size ≤ q) s.heap H locs) (hl : lv_has ls 9 [(6, .int x6), (5, .int x5), (0, .ref b0), (1, .ref x), (2, .ref (μ 0)), (3, .ref o), (4, .int (nI i))]) (hf : th = x5) (hg : x5 = 0 → f 0 = x6.toInt64) : W p l e room_1 s m #[Value.ref b0] below meth c H locs cells slots Q (F0 m 1174 ls []) := by
  obtain ⟨hx, hb, hr, hml, hown, hts, hX, hbl, hK, hL, hZ, hst, hL2⟩ := C
  have hP9 : va_P D vwCl (zw_O cI cL x a b σ τ o f ++ (zw_M cI μ th σ κ ++ [])) H := hP
  have hD9 : va_D (fun q => s.heap.size ≤ q) (zw_O cI cL x a b σ τ o f ++ (zw_M cI μ th σ κ ++ [])) := hD
  have hPm := fr_P hP9
  have hDm := fr_D hD9
  have hKm : va_K D vwCl [(cI, .int)] s := hK.sub [0] rfl
  refine lv_aload_n hx hb dL_law_1174 rfl (lv_at hl 4 rfl) ?_
  refine zk_R (D := D) (va_runV (As := []) (rest := []) ⟨hx, hb, hml, hown, hts⟩ (c_X4_thrown l D cI μ th σ κ _) (cwV 0 hts gL_law_X4_thrown rfl rfl rfl zdX4_thrown ⟨Nat.le_of_ble_eq_true rfl, Nat.le_of_ble_eq_true rfl⟩) ⟨zbl _, va_recv hKm hPm (ci := 4) (q0 := 0) rfl rfl, zpr hKm hPm hDm⟩ rfl rfl hl.1 rfl (lv_room (Nat.le_of_ble_eq_true rfl)) dL_law_1175 ⟨hc, hs⟩) hS (fun r H locs hr9 hk1 hS => ?_)
  have hP := hk1 _ hP
  rw [show r = x5 from hr9.trans hf]
  refine lv_iload hx hb dL_law_1178 (lv_at hl 1 rfl) ?_
  refine lv_icmp_eq (tgt := 1185) hx hb dL_law_1180 (by decide) (fun _ => ?_) (fun c1 => absurd rfl c1)
  refine lv_iload hx hb dL_law_1185 (lv_at hl 1 rfl) ?_
  refine lv_if_ne (tgt := 1202) hx hb dL_law_1187 (by decide) (fun c2 => ?_) (fun c2 => ?_)
  · refine lv_goto (tgt := 1260) hx hb dL_law_1202 (by decide) ?_
    exact kk σ τ f th κ nb ns h _ _ ls hU hh hP hD hS (lv_sub hl [2, 3, 4, 5, 6] rfl)
  · refine lv_aload_n hx hb dL_law_1190 rfl (lv_at hl 5 rfl) ?_
    refine lv_iconst (v := 0) hx hb dL_law_1191 (by decide) ?_
    refine va_lald hx hb hK hP 41 1 rfl rfl vp_in01 dL_law_1192 ?_
    refine lv_iload hx hb dL_law_1193 (lv_at hl 0 rfl) ?_
    refine lv_i2l hx hb dL_law_1195 rfl ?_
    refine W.lcmp hx hb dL_law_1196 ?_
    refine lv_if_eq (tgt := 1202) hx hb dL_law_1197 (by decide) (fun _ => ?_) (fun c3 => absurd ((lg_cmp_eq _ _).mpr (hg c2)) c3)
    refine lv_goto (tgt := 1260) hx hb dL_law_1202 (by decide) ?_
    exact kk σ τ f th κ nb ns h _ _ ls hU hh hP hD hS (lv_sub hl [2, 3, 4, 5, 6] rfl)

set_option maxHeartbeats 4000000 in
set_option maxRecDepth 100000 in
theorem law_advise {p : Program} {l : Launch} {e : Env} {s : State} {m : MethodId} {below : List Frame} {meth : Method} {c : Code} {D : va_G} {cI cL : ClassId} {b0 L : Nat} {xs : Nat → Int32} {x o : Nat} {a b μ : Nat → Nat} {Q : State → Prop} {cells slots i : Nat} (C : zLA l p s m meth c D cI cL b0 L xs) {hm : Nat} (kk : zGo p l e s m below meth c D cI cL b0 x o a b μ Q (cells + 1) (slots + 6) 1260 i (hm + 72)) (hc : cells + 1 ≤ 1092) (hs : slots + 6 ≤ 8973) (hi : i + 5 ≤ L) (hm9 : hm + 80 < 2 ^ 30) : zGo p l e s m below meth c D cI cL b0 x o a b μ Q cells slots 1149 i hm := by
  have C0 := C
  obtain ⟨hx, hb, hr, hml, hown, hts, hX, hbl, hK, hL, hZ, hst, hL2⟩ := C
  intro σ τ f th κ nb ns h H locs ls hU hh hP hD hS hl
  have hI := hU.1
  have hC := hI.1
  have hA : ∀ q : Nat, s.heap.size ≤ q → (fun q => s.heap.size ≤ q) q := fun _ z => z
  have hbA : ¬ (fun q => s.heap.size ≤ q) b0 := Nat.not_le.mpr hbl
  have hnb := hC.2.1
  have hns := hC.2.2.2.1
  obtain ⟨v1, e1⟩ : ∃ v, xs (nI (i + 1)).toNatClampNeg = v := ⟨_, rfl⟩
  by_cases hv : f_sail σ v1
  · obtain ⟨k, hk, rfl⟩ := zsail_of hC hv
    by_cases hw : σ 12 k = 0
    · have hP8 : va_P D vwCl ([] ++ (zw_O cI cL x a b σ τ o f ++ zw_M cI μ th σ κ)) H := hP
      have hD8 : va_D (fun q => s.heap.size ≤ q) ([] ++ (zw_O cI cL x a b σ τ o f ++ zw_M cI μ th σ κ)) := hD
      have hPo := fr_P hP8
      have hDo := fr_D hD8
      refine lv_aload_n hx hb dL_law_1149 rfl (lv_at hl 1 rfl) ?_
      refine lv_aload_n hx hb dL_law_1150 rfl (lv_at hl 0 rfl) ?_
      refine lv_iload hx hb dL_law_1151 (lv_at hl 4 rfl) ?_
      refine lv_iconst (v := 1) hx hb dL_law_1153 (by decide) ?_
      refine zk_add (x := i) (y := 1) hx hb dL_law_1154 ?_
      refine va_sld hx hb hX hbl hbA hS (vp_in_nI (by omega) (by omega)) dL_law_1155 ?_
      rw [e1]
      refine lv_aload_n hx hb dL_law_1156 rfl (lv_at hl 3 rfl) ?_
      have hF := zfree hDo hS hA
      refine zk_E (vx_runSW (As := [.ref x, .int (nI k), .ref o]) (rest := []) ⟨hx, hb, hml, hown, hts⟩ (c_L_advise l D cI cL x a b σ τ o f hC hk hw (by omega) _) (vx_cwSW 3 hts gL_law_L_advise rfl rfl rfl zdL_advise.2 ⟨Nat.le_of_ble_eq_true rfl, Nat.le_of_ble_eq_true rfl⟩) ⟨zblL _, zprL hK hPo hDo hL⟩ rfl rfl hl.1 rfl (lv_room (Nat.le_of_ble_eq_true rfl)) dL_law_1157 ⟨Nat.le_of_succ_le hc, Nat.le_trans (Nat.le_add_right _ 6) hs⟩) hS hF (fun r u H locs hr9 hkp hP1 hD1 hS => ?_)
      subst hr9
      obtain ⟨hP, hD⟩ := fr_J hP8 hD8 hkp hF hP1 hD1
      refine W.widen (k := cells + 1) (n := slots + 6) (by omega) (by omega) ?_
      refine lv_istore (lv' := [(5, .int 0), (0, .ref b0), (1, .ref x), (2, .ref (μ 0)), (3, .ref o), (4, .int (nI i))]) hx hb dL_law_1160 hl (by decide) rfl (fun ls hl => ?_)
      have hP7 : va_P D vwCl (zw_O cI cL x a b (σ) u o (vp_updL f 0 ((q_adv (q_wat σ nb ns h k) 3).1).toInt64) ++ (zw_M cI μ th σ κ ++ [])) H := hP
      have hD7 : va_D (fun q => s.heap.size ≤ q) (zw_O cI cL x a b (σ) u o (vp_updL f 0 ((q_adv (q_wat σ nb ns h k) 3).1).toInt64) ++ (zw_M cI μ th σ κ ++ [])) := hD
      have hPm := fr_P hP7
      have hDm := fr_D hD7
      have hKm : va_K D vwCl [(cI, .int)] s := hK.sub [0] rfl
      have hF2 := zfree hDm hS hA
      refine lv_aload_n hx hb dL_law_1162 rfl (lv_at hl 3 rfl) ?_
      refine lv_aload_n hx hb dL_law_1163 rfl (lv_at hl 1 rfl) ?_
      refine lv_iload hx hb dL_law_1164 (lv_at hl 5 rfl) ?_
      refine lv_iconst (v := 1) hx hb dL_law_1166 (by decide) ?_
      refine zk_add (x := i) (y := 1) hx hb dL_law_1167 ?_
      refine va_sld hx hb hX hbl hbA hS (vp_in_nI (by omega) (by omega)) dL_law_1168 ?_
      rw [e1]
      refine zk_I (va_runV (As := [.int (nI k)]) (rest := []) ⟨hx, hb, hml, hown, hts⟩ (c_X4_advise l D cI μ th σ κ hI hk hw (by omega) _) (cwV 1 hts gL_law_X4_advise rfl rfl rfl zdX4_advise ⟨Nat.le_of_ble_eq_true rfl, Nat.le_of_ble_eq_true rfl⟩) ⟨zbl _, va_recv hKm hPm (ci := 4) (q0 := 0) rfl rfl, zpr hKm hPm hDm⟩ rfl rfl hl.1 rfl (lv_room (Nat.le_of_ble_eq_true rfl)) dL_law_1169 ⟨hc, hs⟩) hS hF2 (fun r6 H locs hr6 hkp hP1 hD1 hS => ?_)
      obtain ⟨hP, hD⟩ := fr_J hP7 hD7 hkp hF2 hP1 hD1
      subst hr6
      refine lv_istore (lv' := [(6, .int ((q_adv (q_wat σ nb ns h k) 3).1)), (5, .int 0), (0, .ref b0), (1, .ref x), (2, .ref (μ 0)), (3, .ref o), (4, .int (nI i))]) hx hb dL_law_1172 hl (by decide) rfl (fun ls hl => ?_)
      have hP : va_P D vwCl (zw_W cI cL x a b (σ) u o (vp_updL f 0 ((q_adv (q_wat σ nb ns h k) 3).1).toInt64) μ 0 (zenc σ)) H := hP
      have hD : va_D (fun q => s.heap.size ≤ q) (zw_W cI cL x a b (σ) u o (vp_updL f 0 ((q_adv (q_wat σ nb ns h k) 3).1).toInt64) μ 0 (zenc σ)) := hD
      exact law_t_1174 C0 kk hc hs (hU) (by omega) hP hD hS hl rfl (fun _ => rfl)
    · have hP8 : va_P D vwCl ([] ++ (zw_O cI cL x a b σ τ o f ++ zw_M cI μ th σ κ)) H := hP
      have hD8 : va_D (fun q => s.heap.size ≤ q) ([] ++ (zw_O cI cL x a b σ τ o f ++ zw_M cI μ th σ κ)) := hD
      have hPo := fr_P hP8
      have hDo := fr_D hD8
      refine lv_aload_n hx hb dL_law_1149 rfl (lv_at hl 1 rfl) ?_
      refine lv_aload_n hx hb dL_law_1150 rfl (lv_at hl 0 rfl) ?_
      refine lv_iload hx hb dL_law_1151 (lv_at hl 4 rfl) ?_
      refine lv_iconst (v := 1) hx hb dL_law_1153 (by decide) ?_
      refine zk_add (x := i) (y := 1) hx hb dL_law_1154 ?_
      refine va_sld hx hb hX hbl hbA hS (vp_in_nI (by omega) (by omega)) dL_law_1155 ?_
      rw [e1]
      refine lv_aload_n hx hb dL_law_1156 rfl (lv_at hl 3 rfl) ?_
      refine zk_B (D := D) (vx_runSW (As := [.ref x, .int (nI k), .ref o]) (rest := []) ⟨hx, hb, hml, hown, hts⟩ (t_L_advise2 l hst D cI cL x a b σ τ o f hC hk hw _) (vx_cwSW 3 hts gL_law_L_advise rfl rfl rfl zdL_advise.2 ⟨Nat.le_of_ble_eq_true rfl, Nat.le_of_ble_eq_true rfl⟩) ⟨zblX _, zprX (H0 := s.heap) hK hPo hDo hL hZ hS⟩ rfl rfl hl.1 rfl (lv_room (Nat.le_of_ble_eq_true rfl)) dL_law_1157 ⟨hc, hs⟩) hS (fun H locs hk1 hS => ?_)
      have hP := hk1 _ hP
      refine lv_istore (lv' := [(5, .int 2), (0, .ref b0), (1, .ref x), (2, .ref (μ 0)), (3, .ref o), (4, .int (nI i))]) hx hb dL_law_1160 hl (by decide) rfl (fun ls hl => ?_)
      have hP7 : va_P D vwCl (zw_O cI cL x a b (σ) τ o f ++ (zw_M cI μ th σ κ ++ [])) H := hP
      have hD7 : va_D (fun q => s.heap.size ≤ q) (zw_O cI cL x a b (σ) τ o f ++ (zw_M cI μ th σ κ ++ [])) := hD
      have hPm := fr_P hP7
      have hDm := fr_D hD7
      have hKm : va_K D vwCl [(cI, .int)] s := hK.sub [0] rfl
      have hF2 := zfree hDm hS hA
      refine lv_aload_n hx hb dL_law_1162 rfl (lv_at hl 3 rfl) ?_
      refine lv_aload_n hx hb dL_law_1163 rfl (lv_at hl 1 rfl) ?_
      refine lv_iload hx hb dL_law_1164 (lv_at hl 5 rfl) ?_
      refine lv_iconst (v := 1) hx hb dL_law_1166 (by decide) ?_
      refine zk_add (x := i) (y := 1) hx hb dL_law_1167 ?_
      refine va_sld hx hb hX hbl hbA hS (vp_in_nI (by omega) (by omega)) dL_law_1168 ?_
      rw [e1]
      refine zk_I (va_runV (As := [.int (nI k)]) (rest := []) ⟨hx, hb, hml, hown, hts⟩ (b_X4_advise2 l D cI μ th σ κ hC hk hw _) (cwV 1 hts gL_law_X4_advise rfl rfl rfl zdX4_advise ⟨Nat.le_of_ble_eq_true rfl, Nat.le_of_ble_eq_true rfl⟩) ⟨zbl _, va_recv hKm hPm (ci := 4) (q0 := 0) rfl rfl, zpr hKm hPm hDm⟩ rfl rfl hl.1 rfl (lv_room (Nat.le_of_ble_eq_true rfl)) dL_law_1169 ⟨hc, hs⟩) hS hF2 (fun r6 H locs hr6 hkp hP1 hD1 hS => ?_)
      obtain ⟨hP, hD⟩ := fr_J hP7 hD7 hkp hF2 hP1 hD1
      refine lv_istore (lv' := [(6, .int (r6)), (5, .int 2), (0, .ref b0), (1, .ref x), (2, .ref (μ 0)), (3, .ref o), (4, .int (nI i))]) hx hb dL_law_1172 hl (by decide) rfl (fun ls hl => ?_)
      have hP : va_P D vwCl (zw_W cI cL x a b (σ) τ o f μ 2 κ) H := hP
      have hD : va_D (fun q => s.heap.size ≤ q) (zw_W cI cL x a b (σ) τ o f μ 2 κ) := hD
      exact law_t_1174 C0 kk hc hs (hU) (by omega) hP hD hS hl rfl (fun z => absurd z (by decide))
  · have hP8 : va_P D vwCl ([] ++ (zw_O cI cL x a b σ τ o f ++ zw_M cI μ th σ κ)) H := hP
    have hD8 : va_D (fun q => s.heap.size ≤ q) ([] ++ (zw_O cI cL x a b σ τ o f ++ zw_M cI μ th σ κ)) := hD
    have hPo := fr_P hP8
    have hDo := fr_D hD8
    refine lv_aload_n hx hb dL_law_1149 rfl (lv_at hl 1 rfl) ?_
    refine lv_aload_n hx hb dL_law_1150 rfl (lv_at hl 0 rfl) ?_
    refine lv_iload hx hb dL_law_1151 (lv_at hl 4 rfl) ?_
    refine lv_iconst (v := 1) hx hb dL_law_1153 (by decide) ?_
    refine zk_add (x := i) (y := 1) hx hb dL_law_1154 ?_
    refine va_sld hx hb hX hbl hbA hS (vp_in_nI (by omega) (by omega)) dL_law_1155 ?_
    rw [e1]
    refine lv_aload_n hx hb dL_law_1156 rfl (lv_at hl 3 rfl) ?_
    refine zk_B (D := D) (vx_runSW (As := [.ref x, .int v1, .ref o]) (rest := []) ⟨hx, hb, hml, hown, hts⟩ (t_L_advise1 l hst D cI cL x a b σ τ o f v1 hv _) (vx_cwSW 3 hts gL_law_L_advise rfl rfl rfl zdL_advise.2 ⟨Nat.le_of_ble_eq_true rfl, Nat.le_of_ble_eq_true rfl⟩) ⟨zblX _, zprX (H0 := s.heap) hK hPo hDo hL hZ hS⟩ rfl rfl hl.1 rfl (lv_room (Nat.le_of_ble_eq_true rfl)) dL_law_1157 ⟨hc, hs⟩) hS (fun H locs hk1 hS => ?_)
    have hP := hk1 _ hP
    refine lv_istore (lv' := [(5, .int 1), (0, .ref b0), (1, .ref x), (2, .ref (μ 0)), (3, .ref o), (4, .int (nI i))]) hx hb dL_law_1160 hl (by decide) rfl (fun ls hl => ?_)
    have hP7 : va_P D vwCl (zw_O cI cL x a b (σ) τ o f ++ (zw_M cI μ th σ κ ++ [])) H := hP
    have hD7 : va_D (fun q => s.heap.size ≤ q) (zw_O cI cL x a b (σ) τ o f ++ (zw_M cI μ th σ κ ++ [])) := hD
    have hPm := fr_P hP7
    have hDm := fr_D hD7
    have hKm : va_K D vwCl [(cI, .int)] s := hK.sub [0] rfl
    have hF2 := zfree hDm hS hA
    refine lv_aload_n hx hb dL_law_1162 rfl (lv_at hl 3 rfl) ?_
    refine lv_aload_n hx hb dL_law_1163 rfl (lv_at hl 1 rfl) ?_
    refine lv_iload hx hb dL_law_1164 (lv_at hl 5 rfl) ?_
    refine lv_iconst (v := 1) hx hb dL_law_1166 (by decide) ?_
    refine zk_add (x := i) (y := 1) hx hb dL_law_1167 ?_
    refine va_sld hx hb hX hbl hbA hS (vp_in_nI (by omega) (by omega)) dL_law_1168 ?_
    rw [e1]
    refine zk_I (va_runV (As := [.int v1]) (rest := []) ⟨hx, hb, hml, hown, hts⟩ (b_X4_advise1 l D cI μ th σ κ v1 hC hv _) (cwV 1 hts gL_law_X4_advise rfl rfl rfl zdX4_advise ⟨Nat.le_of_ble_eq_true rfl, Nat.le_of_ble_eq_true rfl⟩) ⟨zbl _, va_recv hKm hPm (ci := 4) (q0 := 0) rfl rfl, zpr hKm hPm hDm⟩ rfl rfl hl.1 rfl (lv_room (Nat.le_of_ble_eq_true rfl)) dL_law_1169 ⟨hc, hs⟩) hS hF2 (fun r6 H locs hr6 hkp hP1 hD1 hS => ?_)
    obtain ⟨hP, hD⟩ := fr_J hP7 hD7 hkp hF2 hP1 hD1
    refine lv_istore (lv' := [(6, .int (r6)), (5, .int 1), (0, .ref b0), (1, .ref x), (2, .ref (μ 0)), (3, .ref o), (4, .int (nI i))]) hx hb dL_law_1172 hl (by decide) rfl (fun ls hl => ?_)
    have hP : va_P D vwCl (zw_W cI cL x a b (σ) τ o f μ 1 κ) H := hP
    have hD : va_D (fun q => s.heap.size ≤ q) (zw_W cI cL x a b (σ) τ o f μ 1 κ) := hD
    exact law_t_1174 C0 kk hc hs (hU) (by omega) hP hD hS hl rfl (fun z => absurd z (by decide))
