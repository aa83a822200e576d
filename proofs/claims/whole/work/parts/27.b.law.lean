/-- the law at pc, with its two worlds in step -/
def zGo (p : Program) (l : Launch) (e : Env) (s : State) (m : MethodId) (below : List Frame) (meth : Method) (c : Code) (D : va_G) (cI cL : ClassId) (b0 x o : Nat) (a b μ : Nat → Nat) (Q : State → Prop) (cells slots pc i hm : Nat) : Prop :=
  ∀ (σ τ : zS) (f : Nat → Int64) (th : Int32) (κ : Nat → Int32) (nb ns h : Nat) (H : Heap) (locs : List Loc) (ls : Array Slot), zU σ nb ns h → h ≤ hm → va_P D vwCl (zw_W cI cL x a b σ τ o f μ th κ) H → va_D (fun q => s.heap.size ≤ q) (zw_W cI cL x a b σ τ o f μ th κ) → va_S (fun q => s.heap.size ≤ q) s.heap H locs →
    lv_has ls 9 [(0, .ref b0), (1, .ref x), (2, .ref (μ 0)), (3, .ref o), (4, .int (nI i))] → W p l e room_1 s m #[Value.ref b0] below meth c H locs cells slots Q (F0 m pc ls [])

set_option maxHeartbeats 4000000 in
set_option maxRecDepth 100000 in
theorem law_t_157 {p : Program} {l : Launch} {e : Env} {s : State} {m : MethodId} {below : List Frame} {meth : Method} {c : Code} {D : va_G} {cI cL : ClassId} {b0 L : Nat} {xs : Nat → Int32} {x o : Nat} {a b μ : Nat → Nat} {Q : State → Prop} {cells slots i : Nat} (C : zLA l p s m meth c D cI cL b0 L xs) {hm : Nat} (kk : zGo p l e s m below meth c D cI cL b0 x o a b μ Q cells slots 1260 i hm) (hc : cells ≤ 1092) (hs : slots ≤ 8973) {σ τ : zS} {f : Nat → Int64} {th x5 x6 : Int32} {κ : Nat → Int32} {nb ns h : Nat} {H : Heap} {locs : List Loc} {ls : Array Slot} (hU : zU σ nb ns h) (hh : h ≤ hm) (hP : va_P D vwCl (zw_W cI cL x a b σ τ o f μ th κ) H) (hD : va_D (fun q => s.heap.size ≤ q) (zw_W cI cL x a b σ τ o f μ th κ)) (hS : va_S (fun q => s.heap.size ≤ q) s.heap H locs) (hl : lv_has ls 9 [(6, .int x6), (5, .int x5), (0, .ref b0), (1, .ref x), (2, .ref (μ 0)), (3, .ref o), (4, .int (nI i))]) (hf : th = x5) (hg : x5 = 0 → f 0 = x6.toInt64) : W p l e room_1 s m #[Value.ref b0] below meth c H locs cells slots Q (F0 m 157 ls []) := by
  obtain ⟨hx, hb, hr, hml, hown, hts, hX, hbl, hK, hL, hZ, hst, hL2⟩ := C
  have hP9 : va_P D vwCl (zw_O cI cL x a b σ τ o f ++ (zw_M cI μ th σ κ ++ [])) H := hP
  have hD9 : va_D (fun q => s.heap.size ≤ q) (zw_O cI cL x a b σ τ o f ++ (zw_M cI μ th σ κ ++ [])) := hD
  have hPm := fr_P hP9
  have hDm := fr_D hD9
  have hKm : va_K D vwCl [(cI, .int)] s := hK.sub [0] rfl
  refine lv_aload_n hx hb dL_law_157 rfl (lv_at hl 4 rfl) ?_
  refine zk_R (D := D) (va_runV (As := []) (rest := []) ⟨hx, hb, hml, hown, hts⟩ (c_X4_thrown l D cI μ th σ κ _) (cwV 0 hts gL_law_X4_thrown rfl rfl rfl zdX4_thrown ⟨Nat.le_of_ble_eq_true rfl, Nat.le_of_ble_eq_true rfl⟩) ⟨zbl _, va_recv hKm hPm (ci := 4) (q0 := 0) rfl rfl, zpr hKm hPm hDm⟩ rfl rfl hl.1 rfl (lv_room (Nat.le_of_ble_eq_true rfl)) dL_law_158 ⟨hc, hs⟩) hS (fun r H locs hr9 hk1 hS => ?_)
  have hP := hk1 _ hP
  rw [show r = x5 from hr9.trans hf]
  refine lv_iload hx hb dL_law_161 (lv_at hl 1 rfl) ?_
  refine lv_icmp_eq (tgt := 168) hx hb dL_law_163 (by decide) (fun _ => ?_) (fun c1 => absurd rfl c1)
  refine lv_iload hx hb dL_law_168 (lv_at hl 1 rfl) ?_
  refine lv_if_ne (tgt := 185) hx hb dL_law_170 (by decide) (fun c2 => ?_) (fun c2 => ?_)
  · refine lv_goto (tgt := 1260) hx hb dL_law_185 (by decide) ?_
    exact kk σ τ f th κ nb ns h _ _ ls hU hh hP hD hS (lv_sub hl [2, 3, 4, 5, 6] rfl)
  · refine lv_aload_n hx hb dL_law_173 rfl (lv_at hl 5 rfl) ?_
    refine lv_iconst (v := 0) hx hb dL_law_174 (by decide) ?_
    refine va_lald hx hb hK hP 41 1 rfl rfl vp_in01 dL_law_175 ?_
    refine lv_iload hx hb dL_law_176 (lv_at hl 0 rfl) ?_
    refine lv_i2l hx hb dL_law_178 rfl ?_
    refine W.lcmp hx hb dL_law_179 ?_
    refine lv_if_eq (tgt := 185) hx hb dL_law_180 (by decide) (fun _ => ?_) (fun c3 => absurd ((lg_cmp_eq _ _).mpr (hg c2)) c3)
    refine lv_goto (tgt := 1260) hx hb dL_law_185 (by decide) ?_
    exact kk σ τ f th κ nb ns h _ _ ls hU hh hP hD hS (lv_sub hl [2, 3, 4, 5, 6] rfl)

set_option maxHeartbeats 4000000 in
set_option maxRecDepth 100000 in
theorem law_bed {p : Program} {l : Launch} {e : Env} {s : State} {m : MethodId} {below : List Frame} {meth : Method} {c : Code} {D : va_G} {cI cL : ClassId} {b0 L : Nat} {xs : Nat → Int32} {x o : Nat} {a b μ : Nat → Nat} {Q : State → Prop} {cells slots i : Nat} (C : zLA l p s m meth c D cI cL b0 L xs) {hm : Nat} (kk : zGo p l e s m below meth c D cI cL b0 x o a b μ Q (cells + 1) (slots + 6) 1260 i (hm + 72)) (hc : cells + 1 ≤ 1092) (hs : slots + 6 ≤ 8973) (hi : i + 5 ≤ L) (hm9 : hm + 80 < 2 ^ 30) : zGo p l e s m below meth c D cI cL b0 x o a b μ Q cells slots 132 i hm := by
  have C0 := C
  obtain ⟨hx, hb, hr, hml, hown, hts, hX, hbl, hK, hL, hZ, hst, hL2⟩ := C
  intro σ τ f th κ nb ns h H locs ls hU hh hP hD hS hl
  have hI := hU.1
  have hC := hI.1
  have hA : ∀ q : Nat, s.heap.size ≤ q → (fun q => s.heap.size ≤ q) q := fun _ z => z
  have hbA : ¬ (fun q => s.heap.size ≤ q) b0 := Nat.not_le.mpr hbl
  have hnb := hC.2.1
  have hns := hC.2.2.2.1
  obtain ⟨v1, e1⟩ : ∃ v, xs (nI (i + 1)).toNatClampNeg = v := ⟨_, rfl⟩
  by_cases hv : ¬ v1 < 0 ∧ v1 ≤ 9
  · by_cases h6 : nb = 6
    · have hP8 : va_P D vwCl ([] ++ (zw_O cI cL x a b σ τ o f ++ zw_M cI μ th σ κ)) H := hP
      have hD8 : va_D (fun q => s.heap.size ≤ q) ([] ++ (zw_O cI cL x a b σ τ o f ++ zw_M cI μ th σ κ)) := hD
      have hPo := fr_P hP8
      have hDo := fr_D hD8
      refine lv_aload_n hx hb dL_law_132 rfl (lv_at hl 1 rfl) ?_
      refine lv_aload_n hx hb dL_law_133 rfl (lv_at hl 0 rfl) ?_
      refine lv_iload hx hb dL_law_134 (lv_at hl 4 rfl) ?_
      refine lv_iconst (v := 1) hx hb dL_law_136 (by decide) ?_
      refine zk_add (x := i) (y := 1) hx hb dL_law_137 ?_
      refine va_sld hx hb hX hbl hbA hS (vp_in_nI (by omega) (by omega)) dL_law_138 ?_
      rw [e1]
      refine lv_aload_n hx hb dL_law_139 rfl (lv_at hl 3 rfl) ?_
      refine zk_B (D := D) (vx_runSW (As := [.ref x, .int v1, .ref o]) (rest := []) ⟨hx, hb, hml, hown, hts⟩ (t_L_bed2 l hst D cI cL x a b σ τ o f v1 hC hv.1 hv.2 h6 _) (vx_cwSW 3 hts gL_law_L_bed rfl rfl rfl zdL_bed.2 ⟨Nat.le_of_ble_eq_true rfl, Nat.le_of_ble_eq_true rfl⟩) ⟨zblX _, zprX (H0 := s.heap) hK hPo hDo hL hZ hS⟩ rfl rfl hl.1 rfl (lv_room (Nat.le_of_ble_eq_true rfl)) dL_law_140 ⟨hc, hs⟩) hS (fun H locs hk1 hS => ?_)
      have hP := hk1 _ hP
      refine lv_istore (lv' := [(5, .int 2), (0, .ref b0), (1, .ref x), (2, .ref (μ 0)), (3, .ref o), (4, .int (nI i))]) hx hb dL_law_143 hl (by decide) rfl (fun ls hl => ?_)
      have hP7 : va_P D vwCl (zw_O cI cL x a b (σ) τ o f ++ (zw_M cI μ th σ κ ++ [])) H := hP
      have hD7 : va_D (fun q => s.heap.size ≤ q) (zw_O cI cL x a b (σ) τ o f ++ (zw_M cI μ th σ κ ++ [])) := hD
      have hPm := fr_P hP7
      have hDm := fr_D hD7
      have hKm : va_K D vwCl [(cI, .int)] s := hK.sub [0] rfl
      have hF2 := zfree hDm hS hA
      refine lv_aload_n hx hb dL_law_145 rfl (lv_at hl 3 rfl) ?_
      refine lv_aload_n hx hb dL_law_146 rfl (lv_at hl 1 rfl) ?_
      refine lv_iload hx hb dL_law_147 (lv_at hl 5 rfl) ?_
      refine lv_iconst (v := 1) hx hb dL_law_149 (by decide) ?_
      refine zk_add (x := i) (y := 1) hx hb dL_law_150 ?_
      refine va_sld hx hb hX hbl hbA hS (vp_in_nI (by omega) (by omega)) dL_law_151 ?_
      rw [e1]
      refine zk_I (va_runV (As := [.int v1]) (rest := []) ⟨hx, hb, hml, hown, hts⟩ (b_X4_bed2 l D cI μ th σ κ v1 hC hv.1 hv.2 h6 _) (cwV 1 hts gL_law_X4_bed rfl rfl rfl zdX4_bed ⟨Nat.le_of_ble_eq_true rfl, Nat.le_of_ble_eq_true rfl⟩) ⟨zbl _, va_recv hKm hPm (ci := 4) (q0 := 0) rfl rfl, zpr hKm hPm hDm⟩ rfl rfl hl.1 rfl (lv_room (Nat.le_of_ble_eq_true rfl)) dL_law_152 ⟨hc, hs⟩) hS hF2 (fun r6 H locs hr6 hkp hP1 hD1 hS => ?_)
      obtain ⟨hP, hD⟩ := fr_J hP7 hD7 hkp hF2 hP1 hD1
      refine lv_istore (lv' := [(6, .int (r6)), (5, .int 2), (0, .ref b0), (1, .ref x), (2, .ref (μ 0)), (3, .ref o), (4, .int (nI i))]) hx hb dL_law_155 hl (by decide) rfl (fun ls hl => ?_)
      have hP : va_P D vwCl (zw_W cI cL x a b (σ) τ o f μ 2 κ) H := hP
      have hD : va_D (fun q => s.heap.size ≤ q) (zw_W cI cL x a b (σ) τ o f μ 2 κ) := hD
      exact law_t_157 C0 kk hc hs (hU) (by omega) hP hD hS hl rfl (fun z => absurd z (by decide))
    · have hP8 : va_P D vwCl ([] ++ (zw_O cI cL x a b σ τ o f ++ zw_M cI μ th σ κ)) H := hP
      have hD8 : va_D (fun q => s.heap.size ≤ q) ([] ++ (zw_O cI cL x a b σ τ o f ++ zw_M cI μ th σ κ)) := hD
      have hPo := fr_P hP8
      have hDo := fr_D hD8
      refine lv_aload_n hx hb dL_law_132 rfl (lv_at hl 1 rfl) ?_
      refine lv_aload_n hx hb dL_law_133 rfl (lv_at hl 0 rfl) ?_
      refine lv_iload hx hb dL_law_134 (lv_at hl 4 rfl) ?_
      refine lv_iconst (v := 1) hx hb dL_law_136 (by decide) ?_
      refine zk_add (x := i) (y := 1) hx hb dL_law_137 ?_
      refine va_sld hx hb hX hbl hbA hS (vp_in_nI (by omega) (by omega)) dL_law_138 ?_
      rw [e1]
      refine lv_aload_n hx hb dL_law_139 rfl (lv_at hl 3 rfl) ?_
      have hF := zfree hDo hS hA
      refine zk_E (vx_runSW (As := [.ref x, .int v1, .ref o]) (rest := []) ⟨hx, hb, hml, hown, hts⟩ (c_L_bed l D cI cL x a b σ τ o f v1 hC hv.1 hv.2 (by omega) _) (vx_cwSW 3 hts gL_law_L_bed rfl rfl rfl zdL_bed.2 ⟨Nat.le_of_ble_eq_true rfl, Nat.le_of_ble_eq_true rfl⟩) ⟨zblL _, zprL hK hPo hDo hL⟩ rfl rfl hl.1 rfl (lv_room (Nat.le_of_ble_eq_true rfl)) dL_law_140 ⟨Nat.le_of_succ_le hc, Nat.le_trans (Nat.le_add_right _ 6) hs⟩) hS hF (fun r u H locs hr9 hkp hP1 hD1 hS => ?_)
      subst hr9
      obtain ⟨hP, hD⟩ := fr_J hP8 hD8 hkp hF hP1 hD1
      refine W.widen (k := cells + 1) (n := slots + 6) (by omega) (by omega) ?_
      refine lv_istore (lv' := [(5, .int 0), (0, .ref b0), (1, .ref x), (2, .ref (μ 0)), (3, .ref o), (4, .int (nI i))]) hx hb dL_law_143 hl (by decide) rfl (fun ls hl => ?_)
      have hP7 : va_P D vwCl (zw_O cI cL x a b (f_addB σ nb v1) τ o (vp_updL f 0 (nI nb).toInt64) ++ (zw_M cI μ th σ κ ++ [])) H := hP
      have hD7 : va_D (fun q => s.heap.size ≤ q) (zw_O cI cL x a b (f_addB σ nb v1) τ o (vp_updL f 0 (nI nb).toInt64) ++ (zw_M cI μ th σ κ ++ [])) := hD
      have hPm := fr_P hP7
      have hDm := fr_D hD7
      have hKm : va_K D vwCl [(cI, .int)] s := hK.sub [0] rfl
      have hF2 := zfree hDm hS hA
      refine lv_aload_n hx hb dL_law_145 rfl (lv_at hl 3 rfl) ?_
      refine lv_aload_n hx hb dL_law_146 rfl (lv_at hl 1 rfl) ?_
      refine lv_iload hx hb dL_law_147 (lv_at hl 5 rfl) ?_
      refine lv_iconst (v := 1) hx hb dL_law_149 (by decide) ?_
      refine zk_add (x := i) (y := 1) hx hb dL_law_150 ?_
      refine va_sld hx hb hX hbl hbA hS (vp_in_nI (by omega) (by omega)) dL_law_151 ?_
      rw [e1]
      refine zk_I (va_runV (As := [.int v1]) (rest := []) ⟨hx, hb, hml, hown, hts⟩ (c_X4_bed l D cI μ th σ κ v1 hC hv.1 hv.2 (by omega) _) (cwV 1 hts gL_law_X4_bed rfl rfl rfl zdX4_bed ⟨Nat.le_of_ble_eq_true rfl, Nat.le_of_ble_eq_true rfl⟩) ⟨zbl _, va_recv hKm hPm (ci := 4) (q0 := 0) rfl rfl, zpr hKm hPm hDm⟩ rfl rfl hl.1 rfl (lv_room (Nat.le_of_ble_eq_true rfl)) dL_law_152 ⟨hc, hs⟩) hS hF2 (fun r6 H locs hr6 hkp hP1 hD1 hS => ?_)
      obtain ⟨hP, hD⟩ := fr_J hP7 hD7 hkp hF2 hP1 hD1
      subst hr6
      refine lv_istore (lv' := [(6, .int (nI nb)), (5, .int 0), (0, .ref b0), (1, .ref x), (2, .ref (μ 0)), (3, .ref o), (4, .int (nI i))]) hx hb dL_law_155 hl (by decide) rfl (fun ls hl => ?_)
      have hP : va_P D vwCl (zw_W cI cL x a b (f_addB σ nb v1) τ o (vp_updL f 0 (nI nb).toInt64) μ 0 κ) H := hP
      have hD : va_D (fun q => s.heap.size ≤ q) (zw_W cI cL x a b (f_addB σ nb v1) τ o (vp_updL f 0 (nI nb).toInt64) μ 0 κ) := hD
      exact law_t_157 C0 kk hc hs (hU.addB v1 (by omega)) (by omega) hP hD hS hl rfl (fun _ => rfl)
  · have hP8 : va_P D vwCl ([] ++ (zw_O cI cL x a b σ τ o f ++ zw_M cI μ th σ κ)) H := hP
    have hD8 : va_D (fun q => s.heap.size ≤ q) ([] ++ (zw_O cI cL x a b σ τ o f ++ zw_M cI μ th σ κ)) := hD
    have hPo := fr_P hP8
    have hDo := fr_D hD8
    refine lv_aload_n hx hb dL_law_132 rfl (lv_at hl 1 rfl) ?_
    refine lv_aload_n hx hb dL_law_133 rfl (lv_at hl 0 rfl) ?_
    refine lv_iload hx hb dL_law_134 (lv_at hl 4 rfl) ?_
    refine lv_iconst (v := 1) hx hb dL_law_136 (by decide) ?_
    refine zk_add (x := i) (y := 1) hx hb dL_law_137 ?_
    refine va_sld hx hb hX hbl hbA hS (vp_in_nI (by omega) (by omega)) dL_law_138 ?_
    rw [e1]
    refine lv_aload_n hx hb dL_law_139 rfl (lv_at hl 3 rfl) ?_
    refine zk_B (D := D) (vx_runSW (As := [.ref x, .int v1, .ref o]) (rest := []) ⟨hx, hb, hml, hown, hts⟩ (t_L_bed1 l hst D cI cL x a b σ τ o f v1 hv _) (vx_cwSW 3 hts gL_law_L_bed rfl rfl rfl zdL_bed.2 ⟨Nat.le_of_ble_eq_true rfl, Nat.le_of_ble_eq_true rfl⟩) ⟨zblX _, zprX (H0 := s.heap) hK hPo hDo hL hZ hS⟩ rfl rfl hl.1 rfl (lv_room (Nat.le_of_ble_eq_true rfl)) dL_law_140 ⟨hc, hs⟩) hS (fun H locs hk1 hS => ?_)
    have hP := hk1 _ hP
    refine lv_istore (lv' := [(5, .int 1), (0, .ref b0), (1, .ref x), (2, .ref (μ 0)), (3, .ref o), (4, .int (nI i))]) hx hb dL_law_143 hl (by decide) rfl (fun ls hl => ?_)
    have hP7 : va_P D vwCl (zw_O cI cL x a b (σ) τ o f ++ (zw_M cI μ th σ κ ++ [])) H := hP
    have hD7 : va_D (fun q => s.heap.size ≤ q) (zw_O cI cL x a b (σ) τ o f ++ (zw_M cI μ th σ κ ++ [])) := hD
    have hPm := fr_P hP7
    have hDm := fr_D hD7
    have hKm : va_K D vwCl [(cI, .int)] s := hK.sub [0] rfl
    have hF2 := zfree hDm hS hA
    refine lv_aload_n hx hb dL_law_145 rfl (lv_at hl 3 rfl) ?_
    refine lv_aload_n hx hb dL_law_146 rfl (lv_at hl 1 rfl) ?_
    refine lv_iload hx hb dL_law_147 (lv_at hl 5 rfl) ?_
    refine lv_iconst (v := 1) hx hb dL_law_149 (by decide) ?_
    refine zk_add (x := i) (y := 1) hx hb dL_law_150 ?_
    refine va_sld hx hb hX hbl hbA hS (vp_in_nI (by omega) (by omega)) dL_law_151 ?_
    rw [e1]
    refine zk_I (va_runV (As := [.int v1]) (rest := []) ⟨hx, hb, hml, hown, hts⟩ (b_X4_bed1 l D cI μ th σ κ v1 hv _) (cwV 1 hts gL_law_X4_bed rfl rfl rfl zdX4_bed ⟨Nat.le_of_ble_eq_true rfl, Nat.le_of_ble_eq_true rfl⟩) ⟨zbl _, va_recv hKm hPm (ci := 4) (q0 := 0) rfl rfl, zpr hKm hPm hDm⟩ rfl rfl hl.1 rfl (lv_room (Nat.le_of_ble_eq_true rfl)) dL_law_152 ⟨hc, hs⟩) hS hF2 (fun r6 H locs hr6 hkp hP1 hD1 hS => ?_)
    obtain ⟨hP, hD⟩ := fr_J hP7 hD7 hkp hF2 hP1 hD1
    refine lv_istore (lv' := [(6, .int (r6)), (5, .int 1), (0, .ref b0), (1, .ref x), (2, .ref (μ 0)), (3, .ref o), (4, .int (nI i))]) hx hb dL_law_155 hl (by decide) rfl (fun ls hl => ?_)
    have hP : va_P D vwCl (zw_W cI cL x a b (σ) τ o f μ 1 κ) H := hP
    have hD : va_D (fun q => s.heap.size ≤ q) (zw_W cI cL x a b (σ) τ o f μ 1 κ) := hD
    exact law_t_157 C0 kk hc hs (hU) (by omega) hP hD hS hl rfl (fun z => absurd z (by decide))

set_option maxHeartbeats 4000000 in
set_option maxRecDepth 100000 in
theorem law_t_249 {p : Program} {l : Launch} {e : Env} {s : State} {m : MethodId} {below : List Frame} {meth : Method} {c : Code} {D : va_G} {cI cL : ClassId} {b0 L : Nat} {xs : Nat → Int32} {x o : Nat} {a b μ : Nat → Nat} {Q : State → Prop} {cells slots i : Nat} (C : zLA l p s m meth c D cI cL b0 L xs) {hm : Nat} (kk : zGo p l e s m below meth c D cI cL b0 x o a b μ Q cells slots 1260 i hm) (hc : cells ≤ 1092) (hs : slots ≤ 8973) {σ τ : zS} {f : Nat → Int64} {th x5 x6 : Int32} {κ : Nat → Int32} {nb ns h : Nat} {H : Heap} {locs : List Loc} {ls : Array Slot} (hU : zU σ nb ns h) (hh : h ≤ hm) (hP : va_P D vwCl (zw_W cI cL x a b σ τ o f μ th κ) H) (hD : va_D (fun q => s.heap.size ≤ q) (zw_W cI cL x a b σ τ o f μ th κ)) (hS : va_S (fun q => s.heap.size ≤ q) s.heap H locs) (hl : lv_has ls 9 [(6, .int x6), (5, .int x5), (0, .ref b0), (1, .ref x), (2, .ref (μ 0)), (3, .ref o), (4, .int (nI i))]) (hf : th = x5) (hg : x5 = 0 → f 0 = x6.toInt64) : W p l e room_1 s m #[Value.ref b0] below meth c H locs cells slots Q (F0 m 249 ls []) := by
  obtain ⟨hx, hb, hr, hml, hown, hts, hX, hbl, hK, hL, hZ, hst, hL2⟩ := C
  have hP9 : va_P D vwCl (zw_O cI cL x a b σ τ o f ++ (zw_M cI μ th σ κ ++ [])) H := hP
  have hD9 : va_D (fun q => s.heap.size ≤ q) (zw_O cI cL x a b σ τ o f ++ (zw_M cI μ th σ κ ++ [])) := hD
  have hPm := fr_P hP9
  have hDm := fr_D hD9
  have hKm : va_K D vwCl [(cI, .int)] s := hK.sub [0] rfl
  refine lv_aload_n hx hb dL_law_249 rfl (lv_at hl 4 rfl) ?_
  refine zk_R (D := D) (va_runV (As := []) (rest := []) ⟨hx, hb, hml, hown, hts⟩ (c_X4_thrown l D cI μ th σ κ _) (cwV 0 hts gL_law_X4_thrown rfl rfl rfl zdX4_thrown ⟨Nat.le_of_ble_eq_true rfl, Nat.le_of_ble_eq_true rfl⟩) ⟨zbl _, va_recv hKm hPm (ci := 4) (q0 := 0) rfl rfl, zpr hKm hPm hDm⟩ rfl rfl hl.1 rfl (lv_room (Nat.le_of_ble_eq_true rfl)) dL_law_250 ⟨hc, hs⟩) hS (fun r H locs hr9 hk1 hS => ?_)
  have hP := hk1 _ hP
  rw [show r = x5 from hr9.trans hf]
  refine lv_iload hx hb dL_law_253 (lv_at hl 1 rfl) ?_
  refine lv_icmp_eq (tgt := 260) hx hb dL_law_255 (by decide) (fun _ => ?_) (fun c1 => absurd rfl c1)
  refine lv_iload hx hb dL_law_260 (lv_at hl 1 rfl) ?_
  refine lv_if_ne (tgt := 277) hx hb dL_law_262 (by decide) (fun c2 => ?_) (fun c2 => ?_)
  · refine lv_goto (tgt := 1260) hx hb dL_law_277 (by decide) ?_
    exact kk σ τ f th κ nb ns h _ _ ls hU hh hP hD hS (lv_sub hl [2, 3, 4, 5, 6] rfl)
  · refine lv_aload_n hx hb dL_law_265 rfl (lv_at hl 5 rfl) ?_
    refine lv_iconst (v := 0) hx hb dL_law_266 (by decide) ?_
    refine va_lald hx hb hK hP 41 1 rfl rfl vp_in01 dL_law_267 ?_
    refine lv_iload hx hb dL_law_268 (lv_at hl 0 rfl) ?_
    refine lv_i2l hx hb dL_law_270 rfl ?_
    refine W.lcmp hx hb dL_law_271 ?_
    refine lv_if_eq (tgt := 277) hx hb dL_law_272 (by decide) (fun _ => ?_) (fun c3 => absurd ((lg_cmp_eq _ _).mpr (hg c2)) c3)
    refine lv_goto (tgt := 1260) hx hb dL_law_277 (by decide) ?_
    exact kk σ τ f th κ nb ns h _ _ ls hU hh hP hD hS (lv_sub hl [2, 3, 4, 5, 6] rfl)

set_option maxHeartbeats 4000000 in
set_option maxRecDepth 100000 in
theorem law_sailor {p : Program} {l : Launch} {e : Env} {s : State} {m : MethodId} {below : List Frame} {meth : Method} {c : Code} {D : va_G} {cI cL : ClassId} {b0 L : Nat} {xs : Nat → Int32} {x o : Nat} {a b μ : Nat → Nat} {Q : State → Prop} {cells slots i : Nat} (C : zLA l p s m meth c D cI cL b0 L xs) {hm : Nat} (kk : zGo p l e s m below meth c D cI cL b0 x o a b μ Q (cells + 1) (slots + 6) 1260 i (hm + 72)) (hc : cells + 1 ≤ 1092) (hs : slots + 6 ≤ 8973) (hi : i + 5 ≤ L) (hm9 : hm + 80 < 2 ^ 30) : zGo p l e s m below meth c D cI cL b0 x o a b μ Q cells slots 188 i hm := by
  have C0 := C
  obtain ⟨hx, hb, hr, hml, hown, hts, hX, hbl, hK, hL, hZ, hst, hL2⟩ := C
  intro σ τ f th κ nb ns h H locs ls hU hh hP hD hS hl
  have hI := hU.1
  have hC := hI.1
  have hA : ∀ q : Nat, s.heap.size ≤ q → (fun q => s.heap.size ≤ q) q := fun _ z => z
  have hbA : ¬ (fun q => s.heap.size ≤ q) b0 := Nat.not_le.mpr hbl
  have hnb := hC.2.1
  have hns := hC.2.2.2.1
  obtain ⟨v1, e1⟩ : ∃ v, xs (nI (i + 1)).toNatClampNeg = v := ⟨_, rfl⟩
  obtain ⟨v2, e2⟩ : ∃ v, xs (nI (i + 2)).toNatClampNeg = v := ⟨_, rfl⟩
  obtain ⟨v3, e3⟩ : ∃ v, xs (nI (i + 3)).toNatClampNeg = v := ⟨_, rfl⟩
  obtain ⟨v4, e4⟩ : ∃ v, xs (nI (i + 4)).toNatClampNeg = v := ⟨_, rfl⟩
  by_cases hw : ¬ v1 < 0 ∧ v1 < 3
  · by_cases hv : ¬ v2 < 0 ∧ v2 ≤ 9 ∧ ¬ v3 < 0 ∧ v3 ≤ 20 ∧ ¬ v4 < 0 ∧ v4 ≤ 99
    · by_cases h10 : ns = 10
      · have hP8 : va_P D vwCl ([] ++ (zw_O cI cL x a b σ τ o f ++ zw_M cI μ th σ κ)) H := hP
        have hD8 : va_D (fun q => s.heap.size ≤ q) ([] ++ (zw_O cI cL x a b σ τ o f ++ zw_M cI μ th σ κ)) := hD
        have hPo := fr_P hP8
        have hDo := fr_D hD8
        refine lv_aload_n hx hb dL_law_188 rfl (lv_at hl 1 rfl) ?_
        refine lv_aload_n hx hb dL_law_189 rfl (lv_at hl 0 rfl) ?_
        refine lv_iload hx hb dL_law_190 (lv_at hl 4 rfl) ?_
        refine lv_iconst (v := 1) hx hb dL_law_192 (by decide) ?_
        refine zk_add (x := i) (y := 1) hx hb dL_law_193 ?_
        refine va_sld hx hb hX hbl hbA hS (vp_in_nI (by omega) (by omega)) dL_law_194 ?_
        rw [e1]
        refine lv_aload_n hx hb dL_law_195 rfl (lv_at hl 0 rfl) ?_
        refine lv_iload hx hb dL_law_196 (lv_at hl 4 rfl) ?_
        refine lv_iconst (v := 2) hx hb dL_law_198 (by decide) ?_
        refine zk_add (x := i) (y := 2) hx hb dL_law_199 ?_
        refine va_sld hx hb hX hbl hbA hS (vp_in_nI (by omega) (by omega)) dL_law_200 ?_
        rw [e2]
        refine lv_aload_n hx hb dL_law_201 rfl (lv_at hl 0 rfl) ?_
        refine lv_iload hx hb dL_law_202 (lv_at hl 4 rfl) ?_
        refine lv_iconst (v := 3) hx hb dL_law_204 (by decide) ?_
        refine zk_add (x := i) (y := 3) hx hb dL_law_205 ?_
        refine va_sld hx hb hX hbl hbA hS (vp_in_nI (by omega) (by omega)) dL_law_206 ?_
        rw [e3]
        refine lv_aload_n hx hb dL_law_207 rfl (lv_at hl 0 rfl) ?_
        refine lv_iload hx hb dL_law_208 (lv_at hl 4 rfl) ?_
        refine lv_iconst (v := 4) hx hb dL_law_210 (by decide) ?_
        refine zk_add (x := i) (y := 4) hx hb dL_law_211 ?_
        refine va_sld hx hb hX hbl hbA hS (vp_in_nI (by omega) (by omega)) dL_law_212 ?_
        rw [e4]
        refine lv_aload_n hx hb dL_law_213 rfl (lv_at hl 3 rfl) ?_
        refine zk_B (D := D) (vx_runSW (As := [.ref x, .int v1, .int v2, .int v3, .int v4, .ref o]) (rest := []) ⟨hx, hb, hml, hown, hts⟩ (t_L_sailor3 l hst D cI cL x a b σ τ o f v1 v2 v3 v4 hC hw.1 hw.2 hv.1 hv.2.1 hv.2.2.1 hv.2.2.2.1 hv.2.2.2.2.1 hv.2.2.2.2.2 h10 _) (vx_cwSW 6 hts gL_law_L_sailor rfl rfl rfl zdL_sailor.2 ⟨Nat.le_of_ble_eq_true rfl, Nat.le_of_ble_eq_true rfl⟩) ⟨zblX _, zprX (H0 := s.heap) hK hPo hDo hL hZ hS⟩ rfl rfl hl.1 rfl (lv_room (Nat.le_of_ble_eq_true rfl)) dL_law_214 ⟨hc, hs⟩) hS (fun H locs hk1 hS => ?_)
        have hP := hk1 _ hP
        refine lv_istore (lv' := [(5, .int 3), (0, .ref b0), (1, .ref x), (2, .ref (μ 0)), (3, .ref o), (4, .int (nI i))]) hx hb dL_law_217 hl (by decide) rfl (fun ls hl => ?_)
        have hP7 : va_P D vwCl (zw_O cI cL x a b (σ) τ o f ++ (zw_M cI μ th σ κ ++ [])) H := hP
        have hD7 : va_D (fun q => s.heap.size ≤ q) (zw_O cI cL x a b (σ) τ o f ++ (zw_M cI μ th σ κ ++ [])) := hD
        have hPm := fr_P hP7
        have hDm := fr_D hD7
        have hKm : va_K D vwCl [(cI, .int)] s := hK.sub [0] rfl
        have hF2 := zfree hDm hS hA
        refine lv_aload_n hx hb dL_law_219 rfl (lv_at hl 3 rfl) ?_
        refine lv_aload_n hx hb dL_law_220 rfl (lv_at hl 1 rfl) ?_
        refine lv_iload hx hb dL_law_221 (lv_at hl 5 rfl) ?_
        refine lv_iconst (v := 1) hx hb dL_law_223 (by decide) ?_
        refine zk_add (x := i) (y := 1) hx hb dL_law_224 ?_
        refine va_sld hx hb hX hbl hbA hS (vp_in_nI (by omega) (by omega)) dL_law_225 ?_
        rw [e1]
        refine lv_aload_n hx hb dL_law_226 rfl (lv_at hl 1 rfl) ?_
        refine lv_iload hx hb dL_law_227 (lv_at hl 5 rfl) ?_
        refine lv_iconst (v := 2) hx hb dL_law_229 (by decide) ?_
        refine zk_add (x := i) (y := 2) hx hb dL_law_230 ?_
        refine va_sld hx hb hX hbl hbA hS (vp_in_nI (by omega) (by omega)) dL_law_231 ?_
        rw [e2]
        refine lv_aload_n hx hb dL_law_232 rfl (lv_at hl 1 rfl) ?_
        refine lv_iload hx hb dL_law_233 (lv_at hl 5 rfl) ?_
        refine lv_iconst (v := 3) hx hb dL_law_235 (by decide) ?_
        refine zk_add (x := i) (y := 3) hx hb dL_law_236 ?_
        refine va_sld hx hb hX hbl hbA hS (vp_in_nI (by omega) (by omega)) dL_law_237 ?_
        rw [e3]
        refine lv_aload_n hx hb dL_law_238 rfl (lv_at hl 1 rfl) ?_
        refine lv_iload hx hb dL_law_239 (lv_at hl 5 rfl) ?_
        refine lv_iconst (v := 4) hx hb dL_law_241 (by decide) ?_
        refine zk_add (x := i) (y := 4) hx hb dL_law_242 ?_
        refine va_sld hx hb hX hbl hbA hS (vp_in_nI (by omega) (by omega)) dL_law_243 ?_
        rw [e4]
        refine zk_I (va_runV (As := [.int v1, .int v2, .int v3, .int v4]) (rest := []) ⟨hx, hb, hml, hown, hts⟩ (b_X4_sailor3 l D cI μ th σ κ v1 v2 v3 v4 hC hw.1 hw.2 hv.1 hv.2.1 hv.2.2.1 hv.2.2.2.1 hv.2.2.2.2.1 hv.2.2.2.2.2 h10 _) (cwV 4 hts gL_law_X4_sailor rfl rfl rfl zdX4_sailor ⟨Nat.le_of_ble_eq_true rfl, Nat.le_of_ble_eq_true rfl⟩) ⟨zbl _, va_recv hKm hPm (ci := 4) (q0 := 0) rfl rfl, zpr hKm hPm hDm⟩ rfl rfl hl.1 rfl (lv_room (Nat.le_of_ble_eq_true rfl)) dL_law_244 ⟨hc, hs⟩) hS hF2 (fun r6 H locs hr6 hkp hP1 hD1 hS => ?_)
        obtain ⟨hP, hD⟩ := fr_J hP7 hD7 hkp hF2 hP1 hD1
        refine lv_istore (lv' := [(6, .int (r6)), (5, .int 3), (0, .ref b0), (1, .ref x), (2, .ref (μ 0)), (3, .ref o), (4, .int (nI i))]) hx hb dL_law_247 hl (by decide) rfl (fun ls hl => ?_)
        have hP : va_P D vwCl (zw_W cI cL x a b (σ) τ o f μ 3 κ) H := hP
        have hD : va_D (fun q => s.heap.size ≤ q) (zw_W cI cL x a b (σ) τ o f μ 3 κ) := hD
        exact law_t_249 C0 kk hc hs (hU) (by omega) hP hD hS hl rfl (fun z => absurd z (by decide))
      · have hP8 : va_P D vwCl ([] ++ (zw_O cI cL x a b σ τ o f ++ zw_M cI μ th σ κ)) H := hP
        have hD8 : va_D (fun q => s.heap.size ≤ q) ([] ++ (zw_O cI cL x a b σ τ o f ++ zw_M cI μ th σ κ)) := hD
        have hPo := fr_P hP8
        have hDo := fr_D hD8
        refine lv_aload_n hx hb dL_law_188 rfl (lv_at hl 1 rfl) ?_
        refine lv_aload_n hx hb dL_law_189 rfl (lv_at hl 0 rfl) ?_
        refine lv_iload hx hb dL_law_190 (lv_at hl 4 rfl) ?_
        refine lv_iconst (v := 1) hx hb dL_law_192 (by decide) ?_
        refine zk_add (x := i) (y := 1) hx hb dL_law_193 ?_
        refine va_sld hx hb hX hbl hbA hS (vp_in_nI (by omega) (by omega)) dL_law_194 ?_
        rw [e1]
        refine lv_aload_n hx hb dL_law_195 rfl (lv_at hl 0 rfl) ?_
        refine lv_iload hx hb dL_law_196 (lv_at hl 4 rfl) ?_
        refine lv_iconst (v := 2) hx hb dL_law_198 (by decide) ?_
        refine zk_add (x := i) (y := 2) hx hb dL_law_199 ?_
        refine va_sld hx hb hX hbl hbA hS (vp_in_nI (by omega) (by omega)) dL_law_200 ?_
        rw [e2]
        refine lv_aload_n hx hb dL_law_201 rfl (lv_at hl 0 rfl) ?_
        refine lv_iload hx hb dL_law_202 (lv_at hl 4 rfl) ?_
        refine lv_iconst (v := 3) hx hb dL_law_204 (by decide) ?_
        refine zk_add (x := i) (y := 3) hx hb dL_law_205 ?_
        refine va_sld hx hb hX hbl hbA hS (vp_in_nI (by omega) (by omega)) dL_law_206 ?_
        rw [e3]
        refine lv_aload_n hx hb dL_law_207 rfl (lv_at hl 0 rfl) ?_
        refine lv_iload hx hb dL_law_208 (lv_at hl 4 rfl) ?_
        refine lv_iconst (v := 4) hx hb dL_law_210 (by decide) ?_
        refine zk_add (x := i) (y := 4) hx hb dL_law_211 ?_
        refine va_sld hx hb hX hbl hbA hS (vp_in_nI (by omega) (by omega)) dL_law_212 ?_
        rw [e4]
        refine lv_aload_n hx hb dL_law_213 rfl (lv_at hl 3 rfl) ?_
        have hF := zfree hDo hS hA
        refine zk_E (vx_runSW (As := [.ref x, .int v1, .int v2, .int v3, .int v4, .ref o]) (rest := []) ⟨hx, hb, hml, hown, hts⟩ (c_L_sailor l D cI cL x a b σ τ o f v1 v2 v3 v4 hC hw.1 hw.2 hv.1 hv.2.1 hv.2.2.1 hv.2.2.2.1 hv.2.2.2.2.1 hv.2.2.2.2.2 (by omega) _) (vx_cwSW 6 hts gL_law_L_sailor rfl rfl rfl zdL_sailor.2 ⟨Nat.le_of_ble_eq_true rfl, Nat.le_of_ble_eq_true rfl⟩) ⟨zblL _, zprL hK hPo hDo hL⟩ rfl rfl hl.1 rfl (lv_room (Nat.le_of_ble_eq_true rfl)) dL_law_214 ⟨Nat.le_of_succ_le hc, Nat.le_trans (Nat.le_add_right _ 6) hs⟩) hS hF (fun r u H locs hr9 hkp hP1 hD1 hS => ?_)
        subst hr9
        obtain ⟨hP, hD⟩ := fr_J hP8 hD8 hkp hF hP1 hD1
        refine W.widen (k := cells + 1) (n := slots + 6) (by omega) (by omega) ?_
        refine lv_istore (lv' := [(5, .int 0), (0, .ref b0), (1, .ref x), (2, .ref (μ 0)), (3, .ref o), (4, .int (nI i))]) hx hb dL_law_217 hl (by decide) rfl (fun ls hl => ?_)
        have hP7 : va_P D vwCl (zw_O cI cL x a b (f_addS σ ns v1 v2 v3 v4) τ o (vp_updL f 0 (nI ns).toInt64) ++ (zw_M cI μ th σ κ ++ [])) H := hP
        have hD7 : va_D (fun q => s.heap.size ≤ q) (zw_O cI cL x a b (f_addS σ ns v1 v2 v3 v4) τ o (vp_updL f 0 (nI ns).toInt64) ++ (zw_M cI μ th σ κ ++ [])) := hD
        have hPm := fr_P hP7
        have hDm := fr_D hD7
        have hKm : va_K D vwCl [(cI, .int)] s := hK.sub [0] rfl
        have hF2 := zfree hDm hS hA
        refine lv_aload_n hx hb dL_law_219 rfl (lv_at hl 3 rfl) ?_
        refine lv_aload_n hx hb dL_law_220 rfl (lv_at hl 1 rfl) ?_
        refine lv_iload hx hb dL_law_221 (lv_at hl 5 rfl) ?_
        refine lv_iconst (v := 1) hx hb dL_law_223 (by decide) ?_
        refine zk_add (x := i) (y := 1) hx hb dL_law_224 ?_
        refine va_sld hx hb hX hbl hbA hS (vp_in_nI (by omega) (by omega)) dL_law_225 ?_
        rw [e1]
        refine lv_aload_n hx hb dL_law_226 rfl (lv_at hl 1 rfl) ?_
        refine lv_iload hx hb dL_law_227 (lv_at hl 5 rfl) ?_
        refine lv_iconst (v := 2) hx hb dL_law_229 (by decide) ?_
        refine zk_add (x := i) (y := 2) hx hb dL_law_230 ?_
        refine va_sld hx hb hX hbl hbA hS (vp_in_nI (by omega) (by omega)) dL_law_231 ?_
        rw [e2]
        refine lv_aload_n hx hb dL_law_232 rfl (lv_at hl 1 rfl) ?_
        refine lv_iload hx hb dL_law_233 (lv_at hl 5 rfl) ?_
        refine lv_iconst (v := 3) hx hb dL_law_235 (by decide) ?_
        refine zk_add (x := i) (y := 3) hx hb dL_law_236 ?_
        refine va_sld hx hb hX hbl hbA hS (vp_in_nI (by omega) (by omega)) dL_law_237 ?_
        rw [e3]
        refine lv_aload_n hx hb dL_law_238 rfl (lv_at hl 1 rfl) ?_
        refine lv_iload hx hb dL_law_239 (lv_at hl 5 rfl) ?_
        refine lv_iconst (v := 4) hx hb dL_law_241 (by decide) ?_
        refine zk_add (x := i) (y := 4) hx hb dL_law_242 ?_
        refine va_sld hx hb hX hbl hbA hS (vp_in_nI (by omega) (by omega)) dL_law_243 ?_
        rw [e4]
        refine zk_I (va_runV (As := [.int v1, .int v2, .int v3, .int v4]) (rest := []) ⟨hx, hb, hml, hown, hts⟩ (c_X4_sailor l D cI μ th σ κ v1 v2 v3 v4 hC hw.1 hw.2 hv.1 hv.2.1 hv.2.2.1 hv.2.2.2.1 hv.2.2.2.2.1 hv.2.2.2.2.2 (by omega) (hU.2 ns (Nat.le_refl ns)).1 _) (cwV 4 hts gL_law_X4_sailor rfl rfl rfl zdX4_sailor ⟨Nat.le_of_ble_eq_true rfl, Nat.le_of_ble_eq_true rfl⟩) ⟨zbl _, va_recv hKm hPm (ci := 4) (q0 := 0) rfl rfl, zpr hKm hPm hDm⟩ rfl rfl hl.1 rfl (lv_room (Nat.le_of_ble_eq_true rfl)) dL_law_244 ⟨hc, hs⟩) hS hF2 (fun r6 H locs hr6 hkp hP1 hD1 hS => ?_)
        obtain ⟨hP, hD⟩ := fr_J hP7 hD7 hkp hF2 hP1 hD1
        subst hr6
        refine lv_istore (lv' := [(6, .int (nI ns)), (5, .int 0), (0, .ref b0), (1, .ref x), (2, .ref (μ 0)), (3, .ref o), (4, .int (nI i))]) hx hb dL_law_247 hl (by decide) rfl (fun ls hl => ?_)
        have hP : va_P D vwCl (zw_W cI cL x a b (f_addS σ ns v1 v2 v3 v4) τ o (vp_updL f 0 (nI ns).toInt64) μ 0 κ) H := hP
        have hD : va_D (fun q => s.heap.size ≤ q) (zw_W cI cL x a b (f_addS σ ns v1 v2 v3 v4) τ o (vp_updL f 0 (nI ns).toInt64) μ 0 κ) := hD
        exact law_t_249 C0 kk hc hs (hU.addS v2 v3 v4 hw.1 hw.2 (by omega)) (by omega) hP hD hS hl rfl (fun _ => rfl)
    · have hP8 : va_P D vwCl ([] ++ (zw_O cI cL x a b σ τ o f ++ zw_M cI μ th σ κ)) H := hP
      have hD8 : va_D (fun q => s.heap.size ≤ q) ([] ++ (zw_O cI cL x a b σ τ o f ++ zw_M cI μ th σ κ)) := hD
      have hPo := fr_P hP8
      have hDo := fr_D hD8
      refine lv_aload_n hx hb dL_law_188 rfl (lv_at hl 1 rfl) ?_
      refine lv_aload_n hx hb dL_law_189 rfl (lv_at hl 0 rfl) ?_
      refine lv_iload hx hb dL_law_190 (lv_at hl 4 rfl) ?_
      refine lv_iconst (v := 1) hx hb dL_law_192 (by decide) ?_
      refine zk_add (x := i) (y := 1) hx hb dL_law_193 ?_
      refine va_sld hx hb hX hbl hbA hS (vp_in_nI (by omega) (by omega)) dL_law_194 ?_
      rw [e1]
      refine lv_aload_n hx hb dL_law_195 rfl (lv_at hl 0 rfl) ?_
      refine lv_iload hx hb dL_law_196 (lv_at hl 4 rfl) ?_
      refine lv_iconst (v := 2) hx hb dL_law_198 (by decide) ?_
      refine zk_add (x := i) (y := 2) hx hb dL_law_199 ?_
      refine va_sld hx hb hX hbl hbA hS (vp_in_nI (by omega) (by omega)) dL_law_200 ?_
      rw [e2]
      refine lv_aload_n hx hb dL_law_201 rfl (lv_at hl 0 rfl) ?_
      refine lv_iload hx hb dL_law_202 (lv_at hl 4 rfl) ?_
      refine lv_iconst (v := 3) hx hb dL_law_204 (by decide) ?_
      refine zk_add (x := i) (y := 3) hx hb dL_law_205 ?_
      refine va_sld hx hb hX hbl hbA hS (vp_in_nI (by omega) (by omega)) dL_law_206 ?_
      rw [e3]
      refine lv_aload_n hx hb dL_law_207 rfl (lv_at hl 0 rfl) ?_
      refine lv_iload hx hb dL_law_208 (lv_at hl 4 rfl) ?_
      refine lv_iconst (v := 4) hx hb dL_law_210 (by decide) ?_
      refine zk_add (x := i) (y := 4) hx hb dL_law_211 ?_
      refine va_sld hx hb hX hbl hbA hS (vp_in_nI (by omega) (by omega)) dL_law_212 ?_
      rw [e4]
      refine lv_aload_n hx hb dL_law_213 rfl (lv_at hl 3 rfl) ?_
      refine zk_B (D := D) (vx_runSW (As := [.ref x, .int v1, .int v2, .int v3, .int v4, .ref o]) (rest := []) ⟨hx, hb, hml, hown, hts⟩ (t_L_sailor2 l hst D cI cL x a b σ τ o f v1 v2 v3 v4 hw.1 hw.2 hv _) (vx_cwSW 6 hts gL_law_L_sailor rfl rfl rfl zdL_sailor.2 ⟨Nat.le_of_ble_eq_true rfl, Nat.le_of_ble_eq_true rfl⟩) ⟨zblX _, zprX (H0 := s.heap) hK hPo hDo hL hZ hS⟩ rfl rfl hl.1 rfl (lv_room (Nat.le_of_ble_eq_true rfl)) dL_law_214 ⟨hc, hs⟩) hS (fun H locs hk1 hS => ?_)
      have hP := hk1 _ hP
      refine lv_istore (lv' := [(5, .int 2), (0, .ref b0), (1, .ref x), (2, .ref (μ 0)), (3, .ref o), (4, .int (nI i))]) hx hb dL_law_217 hl (by decide) rfl (fun ls hl => ?_)
      have hP7 : va_P D vwCl (zw_O cI cL x a b (σ) τ o f ++ (zw_M cI μ th σ κ ++ [])) H := hP
      have hD7 : va_D (fun q => s.heap.size ≤ q) (zw_O cI cL x a b (σ) τ o f ++ (zw_M cI μ th σ κ ++ [])) := hD
      have hPm := fr_P hP7
      have hDm := fr_D hD7
      have hKm : va_K D vwCl [(cI, .int)] s := hK.sub [0] rfl
      have hF2 := zfree hDm hS hA
      refine lv_aload_n hx hb dL_law_219 rfl (lv_at hl 3 rfl) ?_
      refine lv_aload_n hx hb dL_law_220 rfl (lv_at hl 1 rfl) ?_
      refine lv_iload hx hb dL_law_221 (lv_at hl 5 rfl) ?_
      refine lv_iconst (v := 1) hx hb dL_law_223 (by decide) ?_
      refine zk_add (x := i) (y := 1) hx hb dL_law_224 ?_
      refine va_sld hx hb hX hbl hbA hS (vp_in_nI (by omega) (by omega)) dL_law_225 ?_
      rw [e1]
      refine lv_aload_n hx hb dL_law_226 rfl (lv_at hl 1 rfl) ?_
      refine lv_iload hx hb dL_law_227 (lv_at hl 5 rfl) ?_
      refine lv_iconst (v := 2) hx hb dL_law_229 (by decide) ?_
      refine zk_add (x := i) (y := 2) hx hb dL_law_230 ?_
      refine va_sld hx hb hX hbl hbA hS (vp_in_nI (by omega) (by omega)) dL_law_231 ?_
      rw [e2]
      refine lv_aload_n hx hb dL_law_232 rfl (lv_at hl 1 rfl) ?_
      refine lv_iload hx hb dL_law_233 (lv_at hl 5 rfl) ?_
      refine lv_iconst (v := 3) hx hb dL_law_235 (by decide) ?_
      refine zk_add (x := i) (y := 3) hx hb dL_law_236 ?_
      refine va_sld hx hb hX hbl hbA hS (vp_in_nI (by omega) (by omega)) dL_law_237 ?_
      rw [e3]
      refine lv_aload_n hx hb dL_law_238 rfl (lv_at hl 1 rfl) ?_
      refine lv_iload hx hb dL_law_239 (lv_at hl 5 rfl) ?_
      refine lv_iconst (v := 4) hx hb dL_law_241 (by decide) ?_
      refine zk_add (x := i) (y := 4) hx hb dL_law_242 ?_
      refine va_sld hx hb hX hbl hbA hS (vp_in_nI (by omega) (by omega)) dL_law_243 ?_
      rw [e4]
      refine zk_I (va_runV (As := [.int v1, .int v2, .int v3, .int v4]) (rest := []) ⟨hx, hb, hml, hown, hts⟩ (b_X4_sailor2 l D cI μ th σ κ v1 v2 v3 v4 hw.1 hw.2 hv _) (cwV 4 hts gL_law_X4_sailor rfl rfl rfl zdX4_sailor ⟨Nat.le_of_ble_eq_true rfl, Nat.le_of_ble_eq_true rfl⟩) ⟨zbl _, va_recv hKm hPm (ci := 4) (q0 := 0) rfl rfl, zpr hKm hPm hDm⟩ rfl rfl hl.1 rfl (lv_room (Nat.le_of_ble_eq_true rfl)) dL_law_244 ⟨hc, hs⟩) hS hF2 (fun r6 H locs hr6 hkp hP1 hD1 hS => ?_)
      obtain ⟨hP, hD⟩ := fr_J hP7 hD7 hkp hF2 hP1 hD1
      refine lv_istore (lv' := [(6, .int (r6)), (5, .int 2), (0, .ref b0), (1, .ref x), (2, .ref (μ 0)), (3, .ref o), (4, .int (nI i))]) hx hb dL_law_247 hl (by decide) rfl (fun ls hl => ?_)
      have hP : va_P D vwCl (zw_W cI cL x a b (σ) τ o f μ 2 κ) H := hP
      have hD : va_D (fun q => s.heap.size ≤ q) (zw_W cI cL x a b (σ) τ o f μ 2 κ) := hD
      exact law_t_249 C0 kk hc hs (hU) (by omega) hP hD hS hl rfl (fun z => absurd z (by decide))
  · have hP8 : va_P D vwCl ([] ++ (zw_O cI cL x a b σ τ o f ++ zw_M cI μ th σ κ)) H := hP
    have hD8 : va_D (fun q => s.heap.size ≤ q) ([] ++ (zw_O cI cL x a b σ τ o f ++ zw_M cI μ th σ κ)) := hD
    have hPo := fr_P hP8
    have hDo := fr_D hD8
    refine lv_aload_n hx hb dL_law_188 rfl (lv_at hl 1 rfl) ?_
    refine lv_aload_n hx hb dL_law_189 rfl (lv_at hl 0 rfl) ?_
    refine lv_iload hx hb dL_law_190 (lv_at hl 4 rfl) ?_
    refine lv_iconst (v := 1) hx hb dL_law_192 (by decide) ?_
    refine zk_add (x := i) (y := 1) hx hb dL_law_193 ?_
    refine va_sld hx hb hX hbl hbA hS (vp_in_nI (by omega) (by omega)) dL_law_194 ?_
    rw [e1]
    refine lv_aload_n hx hb dL_law_195 rfl (lv_at hl 0 rfl) ?_
    refine lv_iload hx hb dL_law_196 (lv_at hl 4 rfl) ?_
    refine lv_iconst (v := 2) hx hb dL_law_198 (by decide) ?_
    refine zk_add (x := i) (y := 2) hx hb dL_law_199 ?_
    refine va_sld hx hb hX hbl hbA hS (vp_in_nI (by omega) (by omega)) dL_law_200 ?_
    rw [e2]
    refine lv_aload_n hx hb dL_law_201 rfl (lv_at hl 0 rfl) ?_
    refine lv_iload hx hb dL_law_202 (lv_at hl 4 rfl) ?_
    refine lv_iconst (v := 3) hx hb dL_law_204 (by decide) ?_
    refine zk_add (x := i) (y := 3) hx hb dL_law_205 ?_
    refine va_sld hx hb hX hbl hbA hS (vp_in_nI (by omega) (by omega)) dL_law_206 ?_
    rw [e3]
    refine lv_aload_n hx hb dL_law_207 rfl (lv_at hl 0 rfl) ?_
    refine lv_iload hx hb dL_law_208 (lv_at hl 4 rfl) ?_
    refine lv_iconst (v := 4) hx hb dL_law_210 (by decide) ?_
    refine zk_add (x := i) (y := 4) hx hb dL_law_211 ?_
    refine va_sld hx hb hX hbl hbA hS (vp_in_nI (by omega) (by omega)) dL_law_212 ?_
    rw [e4]
    refine lv_aload_n hx hb dL_law_213 rfl (lv_at hl 3 rfl) ?_
    refine zk_B (D := D) (vx_runSW (As := [.ref x, .int v1, .int v2, .int v3, .int v4, .ref o]) (rest := []) ⟨hx, hb, hml, hown, hts⟩ (t_L_sailor1 l hst D cI cL x a b σ τ o f v1 v2 v3 v4 hw _) (vx_cwSW 6 hts gL_law_L_sailor rfl rfl rfl zdL_sailor.2 ⟨Nat.le_of_ble_eq_true rfl, Nat.le_of_ble_eq_true rfl⟩) ⟨zblX _, zprX (H0 := s.heap) hK hPo hDo hL hZ hS⟩ rfl rfl hl.1 rfl (lv_room (Nat.le_of_ble_eq_true rfl)) dL_law_214 ⟨hc, hs⟩) hS (fun H locs hk1 hS => ?_)
    have hP := hk1 _ hP
    refine lv_istore (lv' := [(5, .int 1), (0, .ref b0), (1, .ref x), (2, .ref (μ 0)), (3, .ref o), (4, .int (nI i))]) hx hb dL_law_217 hl (by decide) rfl (fun ls hl => ?_)
    have hP7 : va_P D vwCl (zw_O cI cL x a b (σ) τ o f ++ (zw_M cI μ th σ κ ++ [])) H := hP
    have hD7 : va_D (fun q => s.heap.size ≤ q) (zw_O cI cL x a b (σ) τ o f ++ (zw_M cI μ th σ κ ++ [])) := hD
    have hPm := fr_P hP7
    have hDm := fr_D hD7
    have hKm : va_K D vwCl [(cI, .int)] s := hK.sub [0] rfl
    have hF2 := zfree hDm hS hA
    refine lv_aload_n hx hb dL_law_219 rfl (lv_at hl 3 rfl) ?_
    refine lv_aload_n hx hb dL_law_220 rfl (lv_at hl 1 rfl) ?_
    refine lv_iload hx hb dL_law_221 (lv_at hl 5 rfl) ?_
    refine lv_iconst (v := 1) hx hb dL_law_223 (by decide) ?_
    refine zk_add (x := i) (y := 1) hx hb dL_law_224 ?_
    refine va_sld hx hb hX hbl hbA hS (vp_in_nI (by omega) (by omega)) dL_law_225 ?_
    rw [e1]
    refine lv_aload_n hx hb dL_law_226 rfl (lv_at hl 1 rfl) ?_
    refine lv_iload hx hb dL_law_227 (lv_at hl 5 rfl) ?_
    refine lv_iconst (v := 2) hx hb dL_law_229 (by decide) ?_
    refine zk_add (x := i) (y := 2) hx hb dL_law_230 ?_
    refine va_sld hx hb hX hbl hbA hS (vp_in_nI (by omega) (by omega)) dL_law_231 ?_
    rw [e2]
    refine lv_aload_n hx hb dL_law_232 rfl (lv_at hl 1 rfl) ?_
    refine lv_iload hx hb dL_law_233 (lv_at hl 5 rfl) ?_
    refine lv_iconst (v := 3) hx hb dL_law_235 (by decide) ?_
    refine zk_add (x := i) (y := 3) hx hb dL_law_236 ?_
    refine va_sld hx hb hX hbl hbA hS (vp_in_nI (by omega) (by omega)) dL_law_237 ?_
    rw [e3]
    refine lv_aload_n hx hb dL_law_238 rfl (lv_at hl 1 rfl) ?_
    refine lv_iload hx hb dL_law_239 (lv_at hl 5 rfl) ?_
    refine lv_iconst (v := 4) hx hb dL_law_241 (by decide) ?_
    refine zk_add (x := i) (y := 4) hx hb dL_law_242 ?_
    refine va_sld hx hb hX hbl hbA hS (vp_in_nI (by omega) (by omega)) dL_law_243 ?_
    rw [e4]
    refine zk_I (va_runV (As := [.int v1, .int v2, .int v3, .int v4]) (rest := []) ⟨hx, hb, hml, hown, hts⟩ (b_X4_sailor1 l D cI μ th σ κ v1 v2 v3 v4 hw _) (cwV 4 hts gL_law_X4_sailor rfl rfl rfl zdX4_sailor ⟨Nat.le_of_ble_eq_true rfl, Nat.le_of_ble_eq_true rfl⟩) ⟨zbl _, va_recv hKm hPm (ci := 4) (q0 := 0) rfl rfl, zpr hKm hPm hDm⟩ rfl rfl hl.1 rfl (lv_room (Nat.le_of_ble_eq_true rfl)) dL_law_244 ⟨hc, hs⟩) hS hF2 (fun r6 H locs hr6 hkp hP1 hD1 hS => ?_)
    obtain ⟨hP, hD⟩ := fr_J hP7 hD7 hkp hF2 hP1 hD1
    refine lv_istore (lv' := [(6, .int (r6)), (5, .int 1), (0, .ref b0), (1, .ref x), (2, .ref (μ 0)), (3, .ref o), (4, .int (nI i))]) hx hb dL_law_247 hl (by decide) rfl (fun ls hl => ?_)
    have hP : va_P D vwCl (zw_W cI cL x a b (σ) τ o f μ 1 κ) H := hP
    have hD : va_D (fun q => s.heap.size ≤ q) (zw_W cI cL x a b (σ) τ o f μ 1 κ) := hD
    exact law_t_249 C0 kk hc hs (hU) (by omega) hP hD hS hl rfl (fun z => absurd z (by decide))

set_option maxHeartbeats 4000000 in
set_option maxRecDepth 100000 in
theorem law_t_317 {p : Program} {l : Launch} {e : Env} {s : State} {m : MethodId} {below : List Frame} {meth : Method} {c : Code} {D : va_G} {cI cL : ClassId} {b0 L : Nat} {xs : Nat → Int32} {x o : Nat} {a b μ : Nat → Nat} {Q : State → Prop} {cells slots i : Nat} (C : zLA l p s m meth c D cI cL b0 L xs) {hm : Nat} (kk : zGo p l e s m below meth c D cI cL b0 x o a b μ Q cells slots 1260 i hm) (hc : cells ≤ 1092) (hs : slots ≤ 8973) {σ τ : zS} {f : Nat → Int64} {th x5 x6 : Int32} {κ : Nat → Int32} {nb ns h : Nat} {H : Heap} {locs : List Loc} {ls : Array Slot} (hU : zU σ nb ns h) (hh : h ≤ hm) (hP : va_P D vwCl (zw_W cI cL x a b σ τ o f μ th κ) H) (hD : va_D (fun q => s.heap.size ≤ q) (zw_W cI cL x a b σ τ o f μ th κ)) (hS : va_S (fun q => s.heap.size ≤ q) s.heap H locs) (hl : lv_has ls 9 [(6, .int x6), (5, .int x5), (0, .ref b0), (1, .ref x), (2, .ref (μ 0)), (3, .ref o), (4, .int (nI i))]) (hf : th = x5) (hg : x5 = 0 → f 0 = x6.toInt64) : W p l e room_1 s m #[Value.ref b0] below meth c H locs cells slots Q (F0 m 317 ls []) := by
  obtain ⟨hx, hb, hr, hml, hown, hts, hX, hbl, hK, hL, hZ, hst, hL2⟩ := C
  have hP9 : va_P D vwCl (zw_O cI cL x a b σ τ o f ++ (zw_M cI μ th σ κ ++ [])) H := hP
  have hD9 : va_D (fun q => s.heap.size ≤ q) (zw_O cI cL x a b σ τ o f ++ (zw_M cI μ th σ κ ++ [])) := hD
  have hPm := fr_P hP9
  have hDm := fr_D hD9
  have hKm : va_K D vwCl [(cI, .int)] s := hK.sub [0] rfl
  refine lv_aload_n hx hb dL_law_317 rfl (lv_at hl 4 rfl) ?_
  refine zk_R (D := D) (va_runV (As := []) (rest := []) ⟨hx, hb, hml, hown, hts⟩ (c_X4_thrown l D cI μ th σ κ _) (cwV 0 hts gL_law_X4_thrown rfl rfl rfl zdX4_thrown ⟨Nat.le_of_ble_eq_true rfl, Nat.le_of_ble_eq_true rfl⟩) ⟨zbl _, va_recv hKm hPm (ci := 4) (q0 := 0) rfl rfl, zpr hKm hPm hDm⟩ rfl rfl hl.1 rfl (lv_room (Nat.le_of_ble_eq_true rfl)) dL_law_318 ⟨hc, hs⟩) hS (fun r H locs hr9 hk1 hS => ?_)
  have hP := hk1 _ hP
  rw [show r = x5 from hr9.trans hf]
  refine lv_iload hx hb dL_law_321 (lv_at hl 1 rfl) ?_
  refine lv_icmp_eq (tgt := 328) hx hb dL_law_323 (by decide) (fun _ => ?_) (fun c1 => absurd rfl c1)
  refine lv_iload hx hb dL_law_328 (lv_at hl 1 rfl) ?_
  refine lv_if_ne (tgt := 345) hx hb dL_law_330 (by decide) (fun c2 => ?_) (fun c2 => ?_)
  · refine lv_goto (tgt := 1260) hx hb dL_law_345 (by decide) ?_
    exact kk σ τ f th κ nb ns h _ _ ls hU hh hP hD hS (lv_sub hl [2, 3, 4, 5, 6] rfl)
  · refine lv_aload_n hx hb dL_law_333 rfl (lv_at hl 5 rfl) ?_
    refine lv_iconst (v := 0) hx hb dL_law_334 (by decide) ?_
    refine va_lald hx hb hK hP 41 1 rfl rfl vp_in01 dL_law_335 ?_
    refine lv_iload hx hb dL_law_336 (lv_at hl 0 rfl) ?_
    refine lv_i2l hx hb dL_law_338 rfl ?_
    refine W.lcmp hx hb dL_law_339 ?_
    refine lv_if_eq (tgt := 345) hx hb dL_law_340 (by decide) (fun _ => ?_) (fun c3 => absurd ((lg_cmp_eq _ _).mpr (hg c2)) c3)
    refine lv_goto (tgt := 1260) hx hb dL_law_345 (by decide) ?_
    exact kk σ τ f th κ nb ns h _ _ ls hU hh hP hD hS (lv_sub hl [2, 3, 4, 5, 6] rfl)

set_option maxHeartbeats 4000000 in
set_option maxRecDepth 100000 in
theorem law_keep {p : Program} {l : Launch} {e : Env} {s : State} {m : MethodId} {below : List Frame} {meth : Method} {c : Code} {D : va_G} {cI cL : ClassId} {b0 L : Nat} {xs : Nat → Int32} {x o : Nat} {a b μ : Nat → Nat} {Q : State → Prop} {cells slots i : Nat} (C : zLA l p s m meth c D cI cL b0 L xs) {hm : Nat} (kk : zGo p l e s m below meth c D cI cL b0 x o a b μ Q (cells + 1) (slots + 6) 1260 i (hm + 72)) (hc : cells + 1 ≤ 1092) (hs : slots + 6 ≤ 8973) (hi : i + 5 ≤ L) (hm9 : hm + 80 < 2 ^ 30) : zGo p l e s m below meth c D cI cL b0 x o a b μ Q cells slots 280 i hm := by
  have C0 := C
  obtain ⟨hx, hb, hr, hml, hown, hts, hX, hbl, hK, hL, hZ, hst, hL2⟩ := C
  intro σ τ f th κ nb ns h H locs ls hU hh hP hD hS hl
  have hI := hU.1
  have hC := hI.1
  have hA : ∀ q : Nat, s.heap.size ≤ q → (fun q => s.heap.size ≤ q) q := fun _ z => z
  have hbA : ¬ (fun q => s.heap.size ≤ q) b0 := Nat.not_le.mpr hbl
  have hnb := hC.2.1
  have hns := hC.2.2.2.1
  obtain ⟨v1, e1⟩ : ∃ v, xs (nI (i + 1)).toNatClampNeg = v := ⟨_, rfl⟩
  obtain ⟨v2, e2⟩ : ∃ v, xs (nI (i + 2)).toNatClampNeg = v := ⟨_, rfl⟩
  by_cases hv : f_sail σ v1
  · obtain ⟨k, hk, rfl⟩ := zsail_of hC hv
    by_cases hm1 : v2 = -1
    · have hb9 : v2 = -1 ∨ ∃ b9, b9 < nb ∧ v2 = nI b9 := Or.inl hm1
      have hP8 : va_P D vwCl ([] ++ (zw_O cI cL x a b σ τ o f ++ zw_M cI μ th σ κ)) H := hP
      have hD8 : va_D (fun q => s.heap.size ≤ q) ([] ++ (zw_O cI cL x a b σ τ o f ++ zw_M cI μ th σ κ)) := hD
      have hPo := fr_P hP8
      have hDo := fr_D hD8
      refine lv_aload_n hx hb dL_law_280 rfl (lv_at hl 1 rfl) ?_
      refine lv_aload_n hx hb dL_law_281 rfl (lv_at hl 0 rfl) ?_
      refine lv_iload hx hb dL_law_282 (lv_at hl 4 rfl) ?_
      refine lv_iconst (v := 1) hx hb dL_law_284 (by decide) ?_
      refine zk_add (x := i) (y := 1) hx hb dL_law_285 ?_
      refine va_sld hx hb hX hbl hbA hS (vp_in_nI (by omega) (by omega)) dL_law_286 ?_
      rw [e1]
      refine lv_aload_n hx hb dL_law_287 rfl (lv_at hl 0 rfl) ?_
      refine lv_iload hx hb dL_law_288 (lv_at hl 4 rfl) ?_
      refine lv_iconst (v := 2) hx hb dL_law_290 (by decide) ?_
      refine zk_add (x := i) (y := 2) hx hb dL_law_291 ?_
      refine va_sld hx hb hX hbl hbA hS (vp_in_nI (by omega) (by omega)) dL_law_292 ?_
      rw [e2]
      refine lv_aload_n hx hb dL_law_293 rfl (lv_at hl 3 rfl) ?_
      have hF := zfree hDo hS hA
      refine zk_E (vx_runSW (As := [.ref x, .int (nI k), .int v2, .ref o]) (rest := []) ⟨hx, hb, hml, hown, hts⟩ (c_L_keep l D cI cL x a b σ τ o f hC hk v2 hb9 _) (vx_cwSW 4 hts gL_law_L_keep rfl rfl rfl zdL_keep.2 ⟨Nat.le_of_ble_eq_true rfl, Nat.le_of_ble_eq_true rfl⟩) ⟨zblL _, zprL hK hPo hDo hL⟩ rfl rfl hl.1 rfl (lv_room (Nat.le_of_ble_eq_true rfl)) dL_law_294 ⟨Nat.le_of_succ_le hc, Nat.le_trans (Nat.le_add_right _ 6) hs⟩) hS hF (fun r u H locs hr9 hkp hP1 hD1 hS => ?_)
      subst hr9
      obtain ⟨hP, hD⟩ := fr_J hP8 hD8 hkp hF hP1 hD1
      refine W.widen (k := cells + 1) (n := slots + 6) (by omega) (by omega) ?_
      refine lv_istore (lv' := [(5, .int 0), (0, .ref b0), (1, .ref x), (2, .ref (μ 0)), (3, .ref o), (4, .int (nI i))]) hx hb dL_law_297 hl (by decide) rfl (fun ls hl => ?_)
      have hP7 : va_P D vwCl (zw_O cI cL x a b (zs σ 11 k v2) τ o (vp_updL f 0 (σ 11 k).toInt64) ++ (zw_M cI μ th σ κ ++ [])) H := hP
      have hD7 : va_D (fun q => s.heap.size ≤ q) (zw_O cI cL x a b (zs σ 11 k v2) τ o (vp_updL f 0 (σ 11 k).toInt64) ++ (zw_M cI μ th σ κ ++ [])) := hD
      have hPm := fr_P hP7
      have hDm := fr_D hD7
      have hKm : va_K D vwCl [(cI, .int)] s := hK.sub [0] rfl
      have hF2 := zfree hDm hS hA
      refine lv_aload_n hx hb dL_law_299 rfl (lv_at hl 3 rfl) ?_
      refine lv_aload_n hx hb dL_law_300 rfl (lv_at hl 1 rfl) ?_
      refine lv_iload hx hb dL_law_301 (lv_at hl 5 rfl) ?_
      refine lv_iconst (v := 1) hx hb dL_law_303 (by decide) ?_
      refine zk_add (x := i) (y := 1) hx hb dL_law_304 ?_
      refine va_sld hx hb hX hbl hbA hS (vp_in_nI (by omega) (by omega)) dL_law_305 ?_
      rw [e1]
      refine lv_aload_n hx hb dL_law_306 rfl (lv_at hl 1 rfl) ?_
      refine lv_iload hx hb dL_law_307 (lv_at hl 5 rfl) ?_
      refine lv_iconst (v := 2) hx hb dL_law_309 (by decide) ?_
      refine zk_add (x := i) (y := 2) hx hb dL_law_310 ?_
      refine va_sld hx hb hX hbl hbA hS (vp_in_nI (by omega) (by omega)) dL_law_311 ?_
      rw [e2]
      refine zk_I (va_runV (As := [.int (nI k), .int v2]) (rest := []) ⟨hx, hb, hml, hown, hts⟩ (c_X4_keep_ l D cI μ th σ κ hC hk v2 hb9 _) (cwV 2 hts gL_law_X4_keep_ rfl rfl rfl zdX4_keep_ ⟨Nat.le_of_ble_eq_true rfl, Nat.le_of_ble_eq_true rfl⟩) ⟨zbl _, va_recv hKm hPm (ci := 4) (q0 := 0) rfl rfl, zpr hKm hPm hDm⟩ rfl rfl hl.1 rfl (lv_room (Nat.le_of_ble_eq_true rfl)) dL_law_312 ⟨hc, hs⟩) hS hF2 (fun r6 H locs hr6 hkp hP1 hD1 hS => ?_)
      obtain ⟨hP, hD⟩ := fr_J hP7 hD7 hkp hF2 hP1 hD1
      subst hr6
      refine lv_istore (lv' := [(6, .int (σ 11 k)), (5, .int 0), (0, .ref b0), (1, .ref x), (2, .ref (μ 0)), (3, .ref o), (4, .int (nI i))]) hx hb dL_law_315 hl (by decide) rfl (fun ls hl => ?_)
      have hP : va_P D vwCl (zw_W cI cL x a b (zs σ 11 k v2) τ o (vp_updL f 0 (σ 11 k).toInt64) μ 0 κ) H := hP
      have hD : va_D (fun q => s.heap.size ≤ q) (zw_W cI cL x a b (zs σ 11 k v2) τ o (vp_updL f 0 (σ 11 k).toInt64) μ 0 κ) := hD
      exact law_t_317 C0 kk hc hs (hU.keep hk hb9) (by omega) hP hD hS hl rfl (fun _ => rfl)
    · by_cases hh2 : f_has σ v2
      · have hb9 : v2 = -1 ∨ ∃ b9, b9 < nb ∧ v2 = nI b9 := Or.inr (zhas_of hC hh2)
        have hP8 : va_P D vwCl ([] ++ (zw_O cI cL x a b σ τ o f ++ zw_M cI μ th σ κ)) H := hP
        have hD8 : va_D (fun q => s.heap.size ≤ q) ([] ++ (zw_O cI cL x a b σ τ o f ++ zw_M cI μ th σ κ)) := hD
        have hPo := fr_P hP8
        have hDo := fr_D hD8
        refine lv_aload_n hx hb dL_law_280 rfl (lv_at hl 1 rfl) ?_
        refine lv_aload_n hx hb dL_law_281 rfl (lv_at hl 0 rfl) ?_
        refine lv_iload hx hb dL_law_282 (lv_at hl 4 rfl) ?_
        refine lv_iconst (v := 1) hx hb dL_law_284 (by decide) ?_
        refine zk_add (x := i) (y := 1) hx hb dL_law_285 ?_
        refine va_sld hx hb hX hbl hbA hS (vp_in_nI (by omega) (by omega)) dL_law_286 ?_
        rw [e1]
        refine lv_aload_n hx hb dL_law_287 rfl (lv_at hl 0 rfl) ?_
        refine lv_iload hx hb dL_law_288 (lv_at hl 4 rfl) ?_
        refine lv_iconst (v := 2) hx hb dL_law_290 (by decide) ?_
        refine zk_add (x := i) (y := 2) hx hb dL_law_291 ?_
        refine va_sld hx hb hX hbl hbA hS (vp_in_nI (by omega) (by omega)) dL_law_292 ?_
        rw [e2]
        refine lv_aload_n hx hb dL_law_293 rfl (lv_at hl 3 rfl) ?_
        have hF := zfree hDo hS hA
        refine zk_E (vx_runSW (As := [.ref x, .int (nI k), .int v2, .ref o]) (rest := []) ⟨hx, hb, hml, hown, hts⟩ (c_L_keep l D cI cL x a b σ τ o f hC hk v2 hb9 _) (vx_cwSW 4 hts gL_law_L_keep rfl rfl rfl zdL_keep.2 ⟨Nat.le_of_ble_eq_true rfl, Nat.le_of_ble_eq_true rfl⟩) ⟨zblL _, zprL hK hPo hDo hL⟩ rfl rfl hl.1 rfl (lv_room (Nat.le_of_ble_eq_true rfl)) dL_law_294 ⟨Nat.le_of_succ_le hc, Nat.le_trans (Nat.le_add_right _ 6) hs⟩) hS hF (fun r u H locs hr9 hkp hP1 hD1 hS => ?_)
        subst hr9
        obtain ⟨hP, hD⟩ := fr_J hP8 hD8 hkp hF hP1 hD1
        refine W.widen (k := cells + 1) (n := slots + 6) (by omega) (by omega) ?_
        refine lv_istore (lv' := [(5, .int 0), (0, .ref b0), (1, .ref x), (2, .ref (μ 0)), (3, .ref o), (4, .int (nI i))]) hx hb dL_law_297 hl (by decide) rfl (fun ls hl => ?_)
        have hP7 : va_P D vwCl (zw_O cI cL x a b (zs σ 11 k v2) τ o (vp_updL f 0 (σ 11 k).toInt64) ++ (zw_M cI μ th σ κ ++ [])) H := hP
        have hD7 : va_D (fun q => s.heap.size ≤ q) (zw_O cI cL x a b (zs σ 11 k v2) τ o (vp_updL f 0 (σ 11 k).toInt64) ++ (zw_M cI μ th σ κ ++ [])) := hD
        have hPm := fr_P hP7
        have hDm := fr_D hD7
        have hKm : va_K D vwCl [(cI, .int)] s := hK.sub [0] rfl
        have hF2 := zfree hDm hS hA
        refine lv_aload_n hx hb dL_law_299 rfl (lv_at hl 3 rfl) ?_
        refine lv_aload_n hx hb dL_law_300 rfl (lv_at hl 1 rfl) ?_
        refine lv_iload hx hb dL_law_301 (lv_at hl 5 rfl) ?_
        refine lv_iconst (v := 1) hx hb dL_law_303 (by decide) ?_
        refine zk_add (x := i) (y := 1) hx hb dL_law_304 ?_
        refine va_sld hx hb hX hbl hbA hS (vp_in_nI (by omega) (by omega)) dL_law_305 ?_
        rw [e1]
        refine lv_aload_n hx hb dL_law_306 rfl (lv_at hl 1 rfl) ?_
        refine lv_iload hx hb dL_law_307 (lv_at hl 5 rfl) ?_
        refine lv_iconst (v := 2) hx hb dL_law_309 (by decide) ?_
        refine zk_add (x := i) (y := 2) hx hb dL_law_310 ?_
        refine va_sld hx hb hX hbl hbA hS (vp_in_nI (by omega) (by omega)) dL_law_311 ?_
        rw [e2]
        refine zk_I (va_runV (As := [.int (nI k), .int v2]) (rest := []) ⟨hx, hb, hml, hown, hts⟩ (c_X4_keep_ l D cI μ th σ κ hC hk v2 hb9 _) (cwV 2 hts gL_law_X4_keep_ rfl rfl rfl zdX4_keep_ ⟨Nat.le_of_ble_eq_true rfl, Nat.le_of_ble_eq_true rfl⟩) ⟨zbl _, va_recv hKm hPm (ci := 4) (q0 := 0) rfl rfl, zpr hKm hPm hDm⟩ rfl rfl hl.1 rfl (lv_room (Nat.le_of_ble_eq_true rfl)) dL_law_312 ⟨hc, hs⟩) hS hF2 (fun r6 H locs hr6 hkp hP1 hD1 hS => ?_)
        obtain ⟨hP, hD⟩ := fr_J hP7 hD7 hkp hF2 hP1 hD1
        subst hr6
        refine lv_istore (lv' := [(6, .int (σ 11 k)), (5, .int 0), (0, .ref b0), (1, .ref x), (2, .ref (μ 0)), (3, .ref o), (4, .int (nI i))]) hx hb dL_law_315 hl (by decide) rfl (fun ls hl => ?_)
        have hP : va_P D vwCl (zw_W cI cL x a b (zs σ 11 k v2) τ o (vp_updL f 0 (σ 11 k).toInt64) μ 0 κ) H := hP
        have hD : va_D (fun q => s.heap.size ≤ q) (zw_W cI cL x a b (zs σ 11 k v2) τ o (vp_updL f 0 (σ 11 k).toInt64) μ 0 κ) := hD
        exact law_t_317 C0 kk hc hs (hU.keep hk hb9) (by omega) hP hD hS hl rfl (fun _ => rfl)
      · have hP8 : va_P D vwCl ([] ++ (zw_O cI cL x a b σ τ o f ++ zw_M cI μ th σ κ)) H := hP
        have hD8 : va_D (fun q => s.heap.size ≤ q) ([] ++ (zw_O cI cL x a b σ τ o f ++ zw_M cI μ th σ κ)) := hD
        have hPo := fr_P hP8
        have hDo := fr_D hD8
        refine lv_aload_n hx hb dL_law_280 rfl (lv_at hl 1 rfl) ?_
        refine lv_aload_n hx hb dL_law_281 rfl (lv_at hl 0 rfl) ?_
        refine lv_iload hx hb dL_law_282 (lv_at hl 4 rfl) ?_
        refine lv_iconst (v := 1) hx hb dL_law_284 (by decide) ?_
        refine zk_add (x := i) (y := 1) hx hb dL_law_285 ?_
        refine va_sld hx hb hX hbl hbA hS (vp_in_nI (by omega) (by omega)) dL_law_286 ?_
        rw [e1]
        refine lv_aload_n hx hb dL_law_287 rfl (lv_at hl 0 rfl) ?_
        refine lv_iload hx hb dL_law_288 (lv_at hl 4 rfl) ?_
        refine lv_iconst (v := 2) hx hb dL_law_290 (by decide) ?_
        refine zk_add (x := i) (y := 2) hx hb dL_law_291 ?_
        refine va_sld hx hb hX hbl hbA hS (vp_in_nI (by omega) (by omega)) dL_law_292 ?_
        rw [e2]
        refine lv_aload_n hx hb dL_law_293 rfl (lv_at hl 3 rfl) ?_
        refine zk_B (D := D) (vx_runSW (As := [.ref x, .int (nI k), .int v2, .ref o]) (rest := []) ⟨hx, hb, hml, hown, hts⟩ (t_L_keep2 l hst D cI cL x a b σ τ o f hC hk v2 hm1 hh2 _) (vx_cwSW 4 hts gL_law_L_keep rfl rfl rfl zdL_keep.2 ⟨Nat.le_of_ble_eq_true rfl, Nat.le_of_ble_eq_true rfl⟩) ⟨zblX _, zprX (H0 := s.heap) hK hPo hDo hL hZ hS⟩ rfl rfl hl.1 rfl (lv_room (Nat.le_of_ble_eq_true rfl)) dL_law_294 ⟨hc, hs⟩) hS (fun H locs hk1 hS => ?_)
        have hP := hk1 _ hP
        refine lv_istore (lv' := [(5, .int 1), (0, .ref b0), (1, .ref x), (2, .ref (μ 0)), (3, .ref o), (4, .int (nI i))]) hx hb dL_law_297 hl (by decide) rfl (fun ls hl => ?_)
        have hP7 : va_P D vwCl (zw_O cI cL x a b (σ) τ o f ++ (zw_M cI μ th σ κ ++ [])) H := hP
        have hD7 : va_D (fun q => s.heap.size ≤ q) (zw_O cI cL x a b (σ) τ o f ++ (zw_M cI μ th σ κ ++ [])) := hD
        have hPm := fr_P hP7
        have hDm := fr_D hD7
        have hKm : va_K D vwCl [(cI, .int)] s := hK.sub [0] rfl
        have hF2 := zfree hDm hS hA
        refine lv_aload_n hx hb dL_law_299 rfl (lv_at hl 3 rfl) ?_
        refine lv_aload_n hx hb dL_law_300 rfl (lv_at hl 1 rfl) ?_
        refine lv_iload hx hb dL_law_301 (lv_at hl 5 rfl) ?_
        refine lv_iconst (v := 1) hx hb dL_law_303 (by decide) ?_
        refine zk_add (x := i) (y := 1) hx hb dL_law_304 ?_
        refine va_sld hx hb hX hbl hbA hS (vp_in_nI (by omega) (by omega)) dL_law_305 ?_
        rw [e1]
        refine lv_aload_n hx hb dL_law_306 rfl (lv_at hl 1 rfl) ?_
        refine lv_iload hx hb dL_law_307 (lv_at hl 5 rfl) ?_
        refine lv_iconst (v := 2) hx hb dL_law_309 (by decide) ?_
        refine zk_add (x := i) (y := 2) hx hb dL_law_310 ?_
        refine va_sld hx hb hX hbl hbA hS (vp_in_nI (by omega) (by omega)) dL_law_311 ?_
        rw [e2]
        refine zk_I (va_runV (As := [.int (nI k), .int v2]) (rest := []) ⟨hx, hb, hml, hown, hts⟩ (b_X4_keep_2 l D cI μ th σ κ hC hk v2 hm1 hh2 _) (cwV 2 hts gL_law_X4_keep_ rfl rfl rfl zdX4_keep_ ⟨Nat.le_of_ble_eq_true rfl, Nat.le_of_ble_eq_true rfl⟩) ⟨zbl _, va_recv hKm hPm (ci := 4) (q0 := 0) rfl rfl, zpr hKm hPm hDm⟩ rfl rfl hl.1 rfl (lv_room (Nat.le_of_ble_eq_true rfl)) dL_law_312 ⟨hc, hs⟩) hS hF2 (fun r6 H locs hr6 hkp hP1 hD1 hS => ?_)
        obtain ⟨hP, hD⟩ := fr_J hP7 hD7 hkp hF2 hP1 hD1
        refine lv_istore (lv' := [(6, .int (r6)), (5, .int 1), (0, .ref b0), (1, .ref x), (2, .ref (μ 0)), (3, .ref o), (4, .int (nI i))]) hx hb dL_law_315 hl (by decide) rfl (fun ls hl => ?_)
        have hP : va_P D vwCl (zw_W cI cL x a b (σ) τ o f μ 1 κ) H := hP
        have hD : va_D (fun q => s.heap.size ≤ q) (zw_W cI cL x a b (σ) τ o f μ 1 κ) := hD
        exact law_t_317 C0 kk hc hs (hU) (by omega) hP hD hS hl rfl (fun z => absurd z (by decide))
  · have hP8 : va_P D vwCl ([] ++ (zw_O cI cL x a b σ τ o f ++ zw_M cI μ th σ κ)) H := hP
    have hD8 : va_D (fun q => s.heap.size ≤ q) ([] ++ (zw_O cI cL x a b σ τ o f ++ zw_M cI μ th σ κ)) := hD
    have hPo := fr_P hP8
    have hDo := fr_D hD8
    refine lv_aload_n hx hb dL_law_280 rfl (lv_at hl 1 rfl) ?_
    refine lv_aload_n hx hb dL_law_281 rfl (lv_at hl 0 rfl) ?_
    refine lv_iload hx hb dL_law_282 (lv_at hl 4 rfl) ?_
    refine lv_iconst (v := 1) hx hb dL_law_284 (by decide) ?_
    refine zk_add (x := i) (y := 1) hx hb dL_law_285 ?_
    refine va_sld hx hb hX hbl hbA hS (vp_in_nI (by omega) (by omega)) dL_law_286 ?_
    rw [e1]
    refine lv_aload_n hx hb dL_law_287 rfl (lv_at hl 0 rfl) ?_
    refine lv_iload hx hb dL_law_288 (lv_at hl 4 rfl) ?_
    refine lv_iconst (v := 2) hx hb dL_law_290 (by decide) ?_
    refine zk_add (x := i) (y := 2) hx hb dL_law_291 ?_
    refine va_sld hx hb hX hbl hbA hS (vp_in_nI (by omega) (by omega)) dL_law_292 ?_
    rw [e2]
    refine lv_aload_n hx hb dL_law_293 rfl (lv_at hl 3 rfl) ?_
    refine zk_B (D := D) (vx_runSW (As := [.ref x, .int v1, .int v2, .ref o]) (rest := []) ⟨hx, hb, hml, hown, hts⟩ (t_L_keep1 l hst D cI cL x a b σ τ o f v1 v2 hv _) (vx_cwSW 4 hts gL_law_L_keep rfl rfl rfl zdL_keep.2 ⟨Nat.le_of_ble_eq_true rfl, Nat.le_of_ble_eq_true rfl⟩) ⟨zblX _, zprX (H0 := s.heap) hK hPo hDo hL hZ hS⟩ rfl rfl hl.1 rfl (lv_room (Nat.le_of_ble_eq_true rfl)) dL_law_294 ⟨hc, hs⟩) hS (fun H locs hk1 hS => ?_)
    have hP := hk1 _ hP
    refine lv_istore (lv' := [(5, .int 1), (0, .ref b0), (1, .ref x), (2, .ref (μ 0)), (3, .ref o), (4, .int (nI i))]) hx hb dL_law_297 hl (by decide) rfl (fun ls hl => ?_)
    have hP7 : va_P D vwCl (zw_O cI cL x a b (σ) τ o f ++ (zw_M cI μ th σ κ ++ [])) H := hP
    have hD7 : va_D (fun q => s.heap.size ≤ q) (zw_O cI cL x a b (σ) τ o f ++ (zw_M cI μ th σ κ ++ [])) := hD
    have hPm := fr_P hP7
    have hDm := fr_D hD7
    have hKm : va_K D vwCl [(cI, .int)] s := hK.sub [0] rfl
    have hF2 := zfree hDm hS hA
    refine lv_aload_n hx hb dL_law_299 rfl (lv_at hl 3 rfl) ?_
    refine lv_aload_n hx hb dL_law_300 rfl (lv_at hl 1 rfl) ?_
    refine lv_iload hx hb dL_law_301 (lv_at hl 5 rfl) ?_
    refine lv_iconst (v := 1) hx hb dL_law_303 (by decide) ?_
    refine zk_add (x := i) (y := 1) hx hb dL_law_304 ?_
    refine va_sld hx hb hX hbl hbA hS (vp_in_nI (by omega) (by omega)) dL_law_305 ?_
    rw [e1]
    refine lv_aload_n hx hb dL_law_306 rfl (lv_at hl 1 rfl) ?_
    refine lv_iload hx hb dL_law_307 (lv_at hl 5 rfl) ?_
    refine lv_iconst (v := 2) hx hb dL_law_309 (by decide) ?_
    refine zk_add (x := i) (y := 2) hx hb dL_law_310 ?_
    refine va_sld hx hb hX hbl hbA hS (vp_in_nI (by omega) (by omega)) dL_law_311 ?_
    rw [e2]
    refine zk_I (va_runV (As := [.int v1, .int v2]) (rest := []) ⟨hx, hb, hml, hown, hts⟩ (b_X4_keep_1 l D cI μ th σ κ v1 v2 hC hv _) (cwV 2 hts gL_law_X4_keep_ rfl rfl rfl zdX4_keep_ ⟨Nat.le_of_ble_eq_true rfl, Nat.le_of_ble_eq_true rfl⟩) ⟨zbl _, va_recv hKm hPm (ci := 4) (q0 := 0) rfl rfl, zpr hKm hPm hDm⟩ rfl rfl hl.1 rfl (lv_room (Nat.le_of_ble_eq_true rfl)) dL_law_312 ⟨hc, hs⟩) hS hF2 (fun r6 H locs hr6 hkp hP1 hD1 hS => ?_)
    obtain ⟨hP, hD⟩ := fr_J hP7 hD7 hkp hF2 hP1 hD1
    refine lv_istore (lv' := [(6, .int (r6)), (5, .int 1), (0, .ref b0), (1, .ref x), (2, .ref (μ 0)), (3, .ref o), (4, .int (nI i))]) hx hb dL_law_315 hl (by decide) rfl (fun ls hl => ?_)
    have hP : va_P D vwCl (zw_W cI cL x a b (σ) τ o f μ 1 κ) H := hP
    have hD : va_D (fun q => s.heap.size ≤ q) (zw_W cI cL x a b (σ) τ o f μ 1 κ) := hD
    exact law_t_317 C0 kk hc hs (hU) (by omega) hP hD hS hl rfl (fun z => absurd z (by decide))

set_option maxHeartbeats 4000000 in
set_option maxRecDepth 100000 in
theorem law_t_373 {p : Program} {l : Launch} {e : Env} {s : State} {m : MethodId} {below : List Frame} {meth : Method} {c : Code} {D : va_G} {cI cL : ClassId} {b0 L : Nat} {xs : Nat → Int32} {x o : Nat} {a b μ : Nat → Nat} {Q : State → Prop} {cells slots i : Nat} (C : zLA l p s m meth c D cI cL b0 L xs) {hm : Nat} (kk : zGo p l e s m below meth c D cI cL b0 x o a b μ Q cells slots 1260 i hm) (hc : cells ≤ 1092) (hs : slots ≤ 8973) {σ τ : zS} {f : Nat → Int64} {th x5 x6 : Int32} {κ : Nat → Int32} {nb ns h : Nat} {H : Heap} {locs : List Loc} {ls : Array Slot} (hU : zU σ nb ns h) (hh : h ≤ hm) (hP : va_P D vwCl (zw_W cI cL x a b σ τ o f μ th κ) H) (hD : va_D (fun q => s.heap.size ≤ q) (zw_W cI cL x a b σ τ o f μ th κ)) (hS : va_S (fun q => s.heap.size ≤ q) s.heap H locs) (hl : lv_has ls 9 [(6, .int x6), (5, .int x5), (0, .ref b0), (1, .ref x), (2, .ref (μ 0)), (3, .ref o), (4, .int (nI i))]) (hf : th = x5) (hg : x5 = 0 → f 0 = x6.toInt64) : W p l e room_1 s m #[Value.ref b0] below meth c H locs cells slots Q (F0 m 373 ls []) := by
  obtain ⟨hx, hb, hr, hml, hown, hts, hX, hbl, hK, hL, hZ, hst, hL2⟩ := C
  have hP9 : va_P D vwCl (zw_O cI cL x a b σ τ o f ++ (zw_M cI μ th σ κ ++ [])) H := hP
  have hD9 : va_D (fun q => s.heap.size ≤ q) (zw_O cI cL x a b σ τ o f ++ (zw_M cI μ th σ κ ++ [])) := hD
  have hPm := fr_P hP9
  have hDm := fr_D hD9
  have hKm : va_K D vwCl [(cI, .int)] s := hK.sub [0] rfl
  refine lv_aload_n hx hb dL_law_373 rfl (lv_at hl 4 rfl) ?_
  refine zk_R (D := D) (va_runV (As := []) (rest := []) ⟨hx, hb, hml, hown, hts⟩ (c_X4_thrown l D cI μ th σ κ _) (cwV 0 hts gL_law_X4_thrown rfl rfl rfl zdX4_thrown ⟨Nat.le_of_ble_eq_true rfl, Nat.le_of_ble_eq_true rfl⟩) ⟨zbl _, va_recv hKm hPm (ci := 4) (q0 := 0) rfl rfl, zpr hKm hPm hDm⟩ rfl rfl hl.1 rfl (lv_room (Nat.le_of_ble_eq_true rfl)) dL_law_374 ⟨hc, hs⟩) hS (fun r H locs hr9 hk1 hS => ?_)
  have hP := hk1 _ hP
  rw [show r = x5 from hr9.trans hf]
  refine lv_iload hx hb dL_law_377 (lv_at hl 1 rfl) ?_
  refine lv_icmp_eq (tgt := 384) hx hb dL_law_379 (by decide) (fun _ => ?_) (fun c1 => absurd rfl c1)
  refine lv_iload hx hb dL_law_384 (lv_at hl 1 rfl) ?_
  refine lv_if_ne (tgt := 401) hx hb dL_law_386 (by decide) (fun c2 => ?_) (fun c2 => ?_)
  · refine lv_goto (tgt := 1260) hx hb dL_law_401 (by decide) ?_
    exact kk σ τ f th κ nb ns h _ _ ls hU hh hP hD hS (lv_sub hl [2, 3, 4, 5, 6] rfl)
  · refine lv_aload_n hx hb dL_law_389 rfl (lv_at hl 5 rfl) ?_
    refine lv_iconst (v := 0) hx hb dL_law_390 (by decide) ?_
    refine va_lald hx hb hK hP 41 1 rfl rfl vp_in01 dL_law_391 ?_
    refine lv_iload hx hb dL_law_392 (lv_at hl 0 rfl) ?_
    refine lv_i2l hx hb dL_law_394 rfl ?_
    refine W.lcmp hx hb dL_law_395 ?_
    refine lv_if_eq (tgt := 401) hx hb dL_law_396 (by decide) (fun _ => ?_) (fun c3 => absurd ((lg_cmp_eq _ _).mpr (hg c2)) c3)
    refine lv_goto (tgt := 1260) hx hb dL_law_401 (by decide) ?_
    exact kk σ τ f th κ nb ns h _ _ ls hU hh hP hD hS (lv_sub hl [2, 3, 4, 5, 6] rfl)

set_option maxHeartbeats 4000000 in
set_option maxRecDepth 100000 in
theorem law_setBell {p : Program} {l : Launch} {e : Env} {s : State} {m : MethodId} {below : List Frame} {meth : Method} {c : Code} {D : va_G} {cI cL : ClassId} {b0 L : Nat} {xs : Nat → Int32} {x o : Nat} {a b μ : Nat → Nat} {Q : State → Prop} {cells slots i : Nat} (C : zLA l p s m meth c D cI cL b0 L xs) {hm : Nat} (kk : zGo p l e s m below meth c D cI cL b0 x o a b μ Q (cells + 1) (slots + 6) 1260 i (hm + 72)) (hc : cells + 1 ≤ 1092) (hs : slots + 6 ≤ 8973) (hi : i + 5 ≤ L) (hm9 : hm + 80 < 2 ^ 30) : zGo p l e s m below meth c D cI cL b0 x o a b μ Q cells slots 348 i hm := by
  have C0 := C
  obtain ⟨hx, hb, hr, hml, hown, hts, hX, hbl, hK, hL, hZ, hst, hL2⟩ := C
  intro σ τ f th κ nb ns h H locs ls hU hh hP hD hS hl
  have hI := hU.1
  have hC := hI.1
  have hA : ∀ q : Nat, s.heap.size ≤ q → (fun q => s.heap.size ≤ q) q := fun _ z => z
  have hbA : ¬ (fun q => s.heap.size ≤ q) b0 := Nat.not_le.mpr hbl
  have hnb := hC.2.1
  have hns := hC.2.2.2.1
  obtain ⟨v1, e1⟩ : ∃ v, xs (nI (i + 1)).toNatClampNeg = v := ⟨_, rfl⟩
  by_cases hv : ¬ v1 < 0 ∧ v1 ≤ 9
  · have hP8 : va_P D vwCl ([] ++ (zw_O cI cL x a b σ τ o f ++ zw_M cI μ th σ κ)) H := hP
    have hD8 : va_D (fun q => s.heap.size ≤ q) ([] ++ (zw_O cI cL x a b σ τ o f ++ zw_M cI μ th σ κ)) := hD
    have hPo := fr_P hP8
    have hDo := fr_D hD8
    refine lv_aload_n hx hb dL_law_348 rfl (lv_at hl 1 rfl) ?_
    refine lv_aload_n hx hb dL_law_349 rfl (lv_at hl 0 rfl) ?_
    refine lv_iload hx hb dL_law_350 (lv_at hl 4 rfl) ?_
    refine lv_iconst (v := 1) hx hb dL_law_352 (by decide) ?_
    refine zk_add (x := i) (y := 1) hx hb dL_law_353 ?_
    refine va_sld hx hb hX hbl hbA hS (vp_in_nI (by omega) (by omega)) dL_law_354 ?_
    rw [e1]
    refine lv_aload_n hx hb dL_law_355 rfl (lv_at hl 3 rfl) ?_
    have hF := zfree hDo hS hA
    refine zk_E (vx_runSW (As := [.ref x, .int v1, .ref o]) (rest := []) ⟨hx, hb, hml, hown, hts⟩ (c_L_setBell l D cI cL x a b σ τ o f v1 hv.1 hv.2 _) (vx_cwSW 3 hts gL_law_L_setBell rfl rfl rfl zdL_setBell.2 ⟨Nat.le_of_ble_eq_true rfl, Nat.le_of_ble_eq_true rfl⟩) ⟨zblL _, zprL hK hPo hDo hL⟩ rfl rfl hl.1 rfl (lv_room (Nat.le_of_ble_eq_true rfl)) dL_law_356 ⟨Nat.le_of_succ_le hc, Nat.le_trans (Nat.le_add_right _ 6) hs⟩) hS hF (fun r u H locs hr9 hkp hP1 hD1 hS => ?_)
    subst hr9
    obtain ⟨hP, hD⟩ := fr_J hP8 hD8 hkp hF hP1 hD1
    refine W.widen (k := cells + 1) (n := slots + 6) (by omega) (by omega) ?_
    refine lv_istore (lv' := [(5, .int 0), (0, .ref b0), (1, .ref x), (2, .ref (μ 0)), (3, .ref o), (4, .int (nI i))]) hx hb dL_law_359 hl (by decide) rfl (fun ls hl => ?_)
    have hP7 : va_P D vwCl (zw_O cI cL x a b (zs σ 0 1 v1) τ o (vp_updL f 0 (σ 0 1).toInt64) ++ (zw_M cI μ th σ κ ++ [])) H := hP
    have hD7 : va_D (fun q => s.heap.size ≤ q) (zw_O cI cL x a b (zs σ 0 1 v1) τ o (vp_updL f 0 (σ 0 1).toInt64) ++ (zw_M cI μ th σ κ ++ [])) := hD
    have hPm := fr_P hP7
    have hDm := fr_D hD7
    have hKm : va_K D vwCl [(cI, .int)] s := hK.sub [0] rfl
    have hF2 := zfree hDm hS hA
    refine lv_aload_n hx hb dL_law_361 rfl (lv_at hl 3 rfl) ?_
    refine lv_aload_n hx hb dL_law_362 rfl (lv_at hl 1 rfl) ?_
    refine lv_iload hx hb dL_law_363 (lv_at hl 5 rfl) ?_
    refine lv_iconst (v := 1) hx hb dL_law_365 (by decide) ?_
    refine zk_add (x := i) (y := 1) hx hb dL_law_366 ?_
    refine va_sld hx hb hX hbl hbA hS (vp_in_nI (by omega) (by omega)) dL_law_367 ?_
    rw [e1]
    refine zk_I (va_runV (As := [.int v1]) (rest := []) ⟨hx, hb, hml, hown, hts⟩ (c_X4_setBell l D cI μ th σ κ v1 hv.1 hv.2 _) (cwV 1 hts gL_law_X4_setBell rfl rfl rfl zdX4_setBell ⟨Nat.le_of_ble_eq_true rfl, Nat.le_of_ble_eq_true rfl⟩) ⟨zbl _, va_recv hKm hPm (ci := 4) (q0 := 0) rfl rfl, zpr hKm hPm hDm⟩ rfl rfl hl.1 rfl (lv_room (Nat.le_of_ble_eq_true rfl)) dL_law_368 ⟨hc, hs⟩) hS hF2 (fun r6 H locs hr6 hkp hP1 hD1 hS => ?_)
    obtain ⟨hP, hD⟩ := fr_J hP7 hD7 hkp hF2 hP1 hD1
    subst hr6
    refine lv_istore (lv' := [(6, .int (σ 0 1)), (5, .int 0), (0, .ref b0), (1, .ref x), (2, .ref (μ 0)), (3, .ref o), (4, .int (nI i))]) hx hb dL_law_371 hl (by decide) rfl (fun ls hl => ?_)
    have hP : va_P D vwCl (zw_W cI cL x a b (zs σ 0 1 v1) τ o (vp_updL f 0 (σ 0 1).toInt64) μ 0 κ) H := hP
    have hD : va_D (fun q => s.heap.size ≤ q) (zw_W cI cL x a b (zs σ 0 1 v1) τ o (vp_updL f 0 (σ 0 1).toInt64) μ 0 κ) := hD
    exact law_t_373 C0 kk hc hs (hU.bell v1) (by omega) hP hD hS hl rfl (fun _ => rfl)
  · have hP8 : va_P D vwCl ([] ++ (zw_O cI cL x a b σ τ o f ++ zw_M cI μ th σ κ)) H := hP
    have hD8 : va_D (fun q => s.heap.size ≤ q) ([] ++ (zw_O cI cL x a b σ τ o f ++ zw_M cI μ th σ κ)) := hD
    have hPo := fr_P hP8
    have hDo := fr_D hD8
    refine lv_aload_n hx hb dL_law_348 rfl (lv_at hl 1 rfl) ?_
    refine lv_aload_n hx hb dL_law_349 rfl (lv_at hl 0 rfl) ?_
    refine lv_iload hx hb dL_law_350 (lv_at hl 4 rfl) ?_
    refine lv_iconst (v := 1) hx hb dL_law_352 (by decide) ?_
    refine zk_add (x := i) (y := 1) hx hb dL_law_353 ?_
    refine va_sld hx hb hX hbl hbA hS (vp_in_nI (by omega) (by omega)) dL_law_354 ?_
    rw [e1]
    refine lv_aload_n hx hb dL_law_355 rfl (lv_at hl 3 rfl) ?_
    refine zk_B (D := D) (vx_runSW (As := [.ref x, .int v1, .ref o]) (rest := []) ⟨hx, hb, hml, hown, hts⟩ (t_L_setBell l hst D cI cL x a b σ τ o f v1 hv _) (vx_cwSW 3 hts gL_law_L_setBell rfl rfl rfl zdL_setBell.2 ⟨Nat.le_of_ble_eq_true rfl, Nat.le_of_ble_eq_true rfl⟩) ⟨zblX _, zprX (H0 := s.heap) hK hPo hDo hL hZ hS⟩ rfl rfl hl.1 rfl (lv_room (Nat.le_of_ble_eq_true rfl)) dL_law_356 ⟨hc, hs⟩) hS (fun H locs hk1 hS => ?_)
    have hP := hk1 _ hP
    refine lv_istore (lv' := [(5, .int 1), (0, .ref b0), (1, .ref x), (2, .ref (μ 0)), (3, .ref o), (4, .int (nI i))]) hx hb dL_law_359 hl (by decide) rfl (fun ls hl => ?_)
    have hP7 : va_P D vwCl (zw_O cI cL x a b (σ) τ o f ++ (zw_M cI μ th σ κ ++ [])) H := hP
    have hD7 : va_D (fun q => s.heap.size ≤ q) (zw_O cI cL x a b (σ) τ o f ++ (zw_M cI μ th σ κ ++ [])) := hD
    have hPm := fr_P hP7
    have hDm := fr_D hD7
    have hKm : va_K D vwCl [(cI, .int)] s := hK.sub [0] rfl
    have hF2 := zfree hDm hS hA
    refine lv_aload_n hx hb dL_law_361 rfl (lv_at hl 3 rfl) ?_
    refine lv_aload_n hx hb dL_law_362 rfl (lv_at hl 1 rfl) ?_
    refine lv_iload hx hb dL_law_363 (lv_at hl 5 rfl) ?_
    refine lv_iconst (v := 1) hx hb dL_law_365 (by decide) ?_
    refine zk_add (x := i) (y := 1) hx hb dL_law_366 ?_
    refine va_sld hx hb hX hbl hbA hS (vp_in_nI (by omega) (by omega)) dL_law_367 ?_
    rw [e1]
    refine zk_I (va_runV (As := [.int v1]) (rest := []) ⟨hx, hb, hml, hown, hts⟩ (b_X4_setBell l D cI μ th σ κ v1 hv _) (cwV 1 hts gL_law_X4_setBell rfl rfl rfl zdX4_setBell ⟨Nat.le_of_ble_eq_true rfl, Nat.le_of_ble_eq_true rfl⟩) ⟨zbl _, va_recv hKm hPm (ci := 4) (q0 := 0) rfl rfl, zpr hKm hPm hDm⟩ rfl rfl hl.1 rfl (lv_room (Nat.le_of_ble_eq_true rfl)) dL_law_368 ⟨hc, hs⟩) hS hF2 (fun r6 H locs hr6 hkp hP1 hD1 hS => ?_)
    obtain ⟨hP, hD⟩ := fr_J hP7 hD7 hkp hF2 hP1 hD1
    refine lv_istore (lv' := [(6, .int (r6)), (5, .int 1), (0, .ref b0), (1, .ref x), (2, .ref (μ 0)), (3, .ref o), (4, .int (nI i))]) hx hb dL_law_371 hl (by decide) rfl (fun ls hl => ?_)
    have hP : va_P D vwCl (zw_W cI cL x a b (σ) τ o f μ 1 κ) H := hP
    have hD : va_D (fun q => s.heap.size ≤ q) (zw_W cI cL x a b (σ) τ o f μ 1 κ) := hD
    exact law_t_373 C0 kk hc hs (hU) (by omega) hP hD hS hl rfl (fun z => absurd z (by decide))

set_option maxHeartbeats 4000000 in
set_option maxRecDepth 100000 in
theorem law_t_429 {p : Program} {l : Launch} {e : Env} {s : State} {m : MethodId} {below : List Frame} {meth : Method} {c : Code} {D : va_G} {cI cL : ClassId} {b0 L : Nat} {xs : Nat → Int32} {x o : Nat} {a b μ : Nat → Nat} {Q : State → Prop} {cells slots i : Nat} (C : zLA l p s m meth c D cI cL b0 L xs) {hm : Nat} (kk : zGo p l e s m below meth c D cI cL b0 x o a b μ Q cells slots 1260 i hm) (hc : cells ≤ 1092) (hs : slots ≤ 8973) {σ τ : zS} {f : Nat → Int64} {th x5 x6 : Int32} {κ : Nat → Int32} {nb ns h : Nat} {H : Heap} {locs : List Loc} {ls : Array Slot} (hU : zU σ nb ns h) (hh : h ≤ hm) (hP : va_P D vwCl (zw_W cI cL x a b σ τ o f μ th κ) H) (hD : va_D (fun q => s.heap.size ≤ q) (zw_W cI cL x a b σ τ o f μ th κ)) (hS : va_S (fun q => s.heap.size ≤ q) s.heap H locs) (hl : lv_has ls 9 [(6, .int x6), (5, .int x5), (0, .ref b0), (1, .ref x), (2, .ref (μ 0)), (3, .ref o), (4, .int (nI i))]) (hf : th = x5) (hg : x5 = 0 → f 0 = x6.toInt64) : W p l e room_1 s m #[Value.ref b0] below meth c H locs cells slots Q (F0 m 429 ls []) := by
  obtain ⟨hx, hb, hr, hml, hown, hts, hX, hbl, hK, hL, hZ, hst, hL2⟩ := C
  have hP9 : va_P D vwCl (zw_O cI cL x a b σ τ o f ++ (zw_M cI μ th σ κ ++ [])) H := hP
  have hD9 : va_D (fun q => s.heap.size ≤ q) (zw_O cI cL x a b σ τ o f ++ (zw_M cI μ th σ κ ++ [])) := hD
  have hPm := fr_P hP9
  have hDm := fr_D hD9
  have hKm : va_K D vwCl [(cI, .int)] s := hK.sub [0] rfl
  refine lv_aload_n hx hb dL_law_429 rfl (lv_at hl 4 rfl) ?_
  refine zk_R (D := D) (va_runV (As := []) (rest := []) ⟨hx, hb, hml, hown, hts⟩ (c_X4_thrown l D cI μ th σ κ _) (cwV 0 hts gL_law_X4_thrown rfl rfl rfl zdX4_thrown ⟨Nat.le_of_ble_eq_true rfl, Nat.le_of_ble_eq_true rfl⟩) ⟨zbl _, va_recv hKm hPm (ci := 4) (q0 := 0) rfl rfl, zpr hKm hPm hDm⟩ rfl rfl hl.1 rfl (lv_room (Nat.le_of_ble_eq_true rfl)) dL_law_430 ⟨hc, hs⟩) hS (fun r H locs hr9 hk1 hS => ?_)
  have hP := hk1 _ hP
  rw [show r = x5 from hr9.trans hf]
  refine lv_iload hx hb dL_law_433 (lv_at hl 1 rfl) ?_
  refine lv_icmp_eq (tgt := 440) hx hb dL_law_435 (by decide) (fun _ => ?_) (fun c1 => absurd rfl c1)
  refine lv_iload hx hb dL_law_440 (lv_at hl 1 rfl) ?_
  refine lv_if_ne (tgt := 457) hx hb dL_law_442 (by decide) (fun c2 => ?_) (fun c2 => ?_)
  · refine lv_goto (tgt := 1260) hx hb dL_law_457 (by decide) ?_
    exact kk σ τ f th κ nb ns h _ _ ls hU hh hP hD hS (lv_sub hl [2, 3, 4, 5, 6] rfl)
  · refine lv_aload_n hx hb dL_law_445 rfl (lv_at hl 5 rfl) ?_
    refine lv_iconst (v := 0) hx hb dL_law_446 (by decide) ?_
    refine va_lald hx hb hK hP 41 1 rfl rfl vp_in01 dL_law_447 ?_
    refine lv_iload hx hb dL_law_448 (lv_at hl 0 rfl) ?_
    refine lv_i2l hx hb dL_law_450 rfl ?_
    refine W.lcmp hx hb dL_law_451 ?_
    refine lv_if_eq (tgt := 457) hx hb dL_law_452 (by decide) (fun _ => ?_) (fun c3 => absurd ((lg_cmp_eq _ _).mpr (hg c2)) c3)
    refine lv_goto (tgt := 1260) hx hb dL_law_457 (by decide) ?_
    exact kk σ τ f th κ nb ns h _ _ ls hU hh hP hD hS (lv_sub hl [2, 3, 4, 5, 6] rfl)

set_option maxHeartbeats 4000000 in
set_option maxRecDepth 100000 in
theorem law_setPawn {p : Program} {l : Launch} {e : Env} {s : State} {m : MethodId} {below : List Frame} {meth : Method} {c : Code} {D : va_G} {cI cL : ClassId} {b0 L : Nat} {xs : Nat → Int32} {x o : Nat} {a b μ : Nat → Nat} {Q : State → Prop} {cells slots i : Nat} (C : zLA l p s m meth c D cI cL b0 L xs) {hm : Nat} (kk : zGo p l e s m below meth c D cI cL b0 x o a b μ Q (cells + 1) (slots + 6) 1260 i (hm + 72)) (hc : cells + 1 ≤ 1092) (hs : slots + 6 ≤ 8973) (hi : i + 5 ≤ L) (hm9 : hm + 80 < 2 ^ 30) : zGo p l e s m below meth c D cI cL b0 x o a b μ Q cells slots 404 i hm := by
  have C0 := C
  obtain ⟨hx, hb, hr, hml, hown, hts, hX, hbl, hK, hL, hZ, hst, hL2⟩ := C
  intro σ τ f th κ nb ns h H locs ls hU hh hP hD hS hl
  have hI := hU.1
  have hC := hI.1
  have hA : ∀ q : Nat, s.heap.size ≤ q → (fun q => s.heap.size ≤ q) q := fun _ z => z
  have hbA : ¬ (fun q => s.heap.size ≤ q) b0 := Nat.not_le.mpr hbl
  have hnb := hC.2.1
  have hns := hC.2.2.2.1
  obtain ⟨v1, e1⟩ : ∃ v, xs (nI (i + 1)).toNatClampNeg = v := ⟨_, rfl⟩
  by_cases hv : ¬ v1 < 1 ∧ v1 ≤ 20
  · have hP8 : va_P D vwCl ([] ++ (zw_O cI cL x a b σ τ o f ++ zw_M cI μ th σ κ)) H := hP
    have hD8 : va_D (fun q => s.heap.size ≤ q) ([] ++ (zw_O cI cL x a b σ τ o f ++ zw_M cI μ th σ κ)) := hD
    have hPo := fr_P hP8
    have hDo := fr_D hD8
    refine lv_aload_n hx hb dL_law_404 rfl (lv_at hl 1 rfl) ?_
    refine lv_aload_n hx hb dL_law_405 rfl (lv_at hl 0 rfl) ?_
    refine lv_iload hx hb dL_law_406 (lv_at hl 4 rfl) ?_
    refine lv_iconst (v := 1) hx hb dL_law_408 (by decide) ?_
    refine zk_add (x := i) (y := 1) hx hb dL_law_409 ?_
    refine va_sld hx hb hX hbl hbA hS (vp_in_nI (by omega) (by omega)) dL_law_410 ?_
    rw [e1]
    refine lv_aload_n hx hb dL_law_411 rfl (lv_at hl 3 rfl) ?_
    have hF := zfree hDo hS hA
    refine zk_E (vx_runSW (As := [.ref x, .int v1, .ref o]) (rest := []) ⟨hx, hb, hml, hown, hts⟩ (c_L_setPawn l D cI cL x a b σ τ o f v1 hv.1 hv.2 _) (vx_cwSW 3 hts gL_law_L_setPawn rfl rfl rfl zdL_setPawn.2 ⟨Nat.le_of_ble_eq_true rfl, Nat.le_of_ble_eq_true rfl⟩) ⟨zblL _, zprL hK hPo hDo hL⟩ rfl rfl hl.1 rfl (lv_room (Nat.le_of_ble_eq_true rfl)) dL_law_412 ⟨Nat.le_of_succ_le hc, Nat.le_trans (Nat.le_add_right _ 6) hs⟩) hS hF (fun r u H locs hr9 hkp hP1 hD1 hS => ?_)
    subst hr9
    obtain ⟨hP, hD⟩ := fr_J hP8 hD8 hkp hF hP1 hD1
    refine W.widen (k := cells + 1) (n := slots + 6) (by omega) (by omega) ?_
    refine lv_istore (lv' := [(5, .int 0), (0, .ref b0), (1, .ref x), (2, .ref (μ 0)), (3, .ref o), (4, .int (nI i))]) hx hb dL_law_415 hl (by decide) rfl (fun ls hl => ?_)
    have hP7 : va_P D vwCl (zw_O cI cL x a b (zs σ 0 2 v1) τ o (vp_updL f 0 (σ 0 2).toInt64) ++ (zw_M cI μ th σ κ ++ [])) H := hP
    have hD7 : va_D (fun q => s.heap.size ≤ q) (zw_O cI cL x a b (zs σ 0 2 v1) τ o (vp_updL f 0 (σ 0 2).toInt64) ++ (zw_M cI μ th σ κ ++ [])) := hD
    have hPm := fr_P hP7
    have hDm := fr_D hD7
    have hKm : va_K D vwCl [(cI, .int)] s := hK.sub [0] rfl
    have hF2 := zfree hDm hS hA
    refine lv_aload_n hx hb dL_law_417 rfl (lv_at hl 3 rfl) ?_
    refine lv_aload_n hx hb dL_law_418 rfl (lv_at hl 1 rfl) ?_
    refine lv_iload hx hb dL_law_419 (lv_at hl 5 rfl) ?_
    refine lv_iconst (v := 1) hx hb dL_law_421 (by decide) ?_
    refine zk_add (x := i) (y := 1) hx hb dL_law_422 ?_
    refine va_sld hx hb hX hbl hbA hS (vp_in_nI (by omega) (by omega)) dL_law_423 ?_
    rw [e1]
    refine zk_I (va_runV (As := [.int v1]) (rest := []) ⟨hx, hb, hml, hown, hts⟩ (c_X4_setPawn l D cI μ th σ κ v1 hv.1 hv.2 _) (cwV 1 hts gL_law_X4_setPawn rfl rfl rfl zdX4_setPawn ⟨Nat.le_of_ble_eq_true rfl, Nat.le_of_ble_eq_true rfl⟩) ⟨zbl _, va_recv hKm hPm (ci := 4) (q0 := 0) rfl rfl, zpr hKm hPm hDm⟩ rfl rfl hl.1 rfl (lv_room (Nat.le_of_ble_eq_true rfl)) dL_law_424 ⟨hc, hs⟩) hS hF2 (fun r6 H locs hr6 hkp hP1 hD1 hS => ?_)
    obtain ⟨hP, hD⟩ := fr_J hP7 hD7 hkp hF2 hP1 hD1
    subst hr6
    refine lv_istore (lv' := [(6, .int (σ 0 2)), (5, .int 0), (0, .ref b0), (1, .ref x), (2, .ref (μ 0)), (3, .ref o), (4, .int (nI i))]) hx hb dL_law_427 hl (by decide) rfl (fun ls hl => ?_)
    have hP : va_P D vwCl (zw_W cI cL x a b (zs σ 0 2 v1) τ o (vp_updL f 0 (σ 0 2).toInt64) μ 0 κ) H := hP
    have hD : va_D (fun q => s.heap.size ≤ q) (zw_W cI cL x a b (zs σ 0 2 v1) τ o (vp_updL f 0 (σ 0 2).toInt64) μ 0 κ) := hD
    exact law_t_429 C0 kk hc hs (hU.pawn v1) (by omega) hP hD hS hl rfl (fun _ => rfl)
  · have hP8 : va_P D vwCl ([] ++ (zw_O cI cL x a b σ τ o f ++ zw_M cI μ th σ κ)) H := hP
    have hD8 : va_D (fun q => s.heap.size ≤ q) ([] ++ (zw_O cI cL x a b σ τ o f ++ zw_M cI μ th σ κ)) := hD
    have hPo := fr_P hP8
    have hDo := fr_D hD8
    refine lv_aload_n hx hb dL_law_404 rfl (lv_at hl 1 rfl) ?_
    refine lv_aload_n hx hb dL_law_405 rfl (lv_at hl 0 rfl) ?_
    refine lv_iload hx hb dL_law_406 (lv_at hl 4 rfl) ?_
    refine lv_iconst (v := 1) hx hb dL_law_408 (by decide) ?_
    refine zk_add (x := i) (y := 1) hx hb dL_law_409 ?_
    refine va_sld hx hb hX hbl hbA hS (vp_in_nI (by omega) (by omega)) dL_law_410 ?_
    rw [e1]
    refine lv_aload_n hx hb dL_law_411 rfl (lv_at hl 3 rfl) ?_
    refine zk_B (D := D) (vx_runSW (As := [.ref x, .int v1, .ref o]) (rest := []) ⟨hx, hb, hml, hown, hts⟩ (t_L_setPawn l hst D cI cL x a b σ τ o f v1 hv _) (vx_cwSW 3 hts gL_law_L_setPawn rfl rfl rfl zdL_setPawn.2 ⟨Nat.le_of_ble_eq_true rfl, Nat.le_of_ble_eq_true rfl⟩) ⟨zblX _, zprX (H0 := s.heap) hK hPo hDo hL hZ hS⟩ rfl rfl hl.1 rfl (lv_room (Nat.le_of_ble_eq_true rfl)) dL_law_412 ⟨hc, hs⟩) hS (fun H locs hk1 hS => ?_)
    have hP := hk1 _ hP
    refine lv_istore (lv' := [(5, .int 1), (0, .ref b0), (1, .ref x), (2, .ref (μ 0)), (3, .ref o), (4, .int (nI i))]) hx hb dL_law_415 hl (by decide) rfl (fun ls hl => ?_)
    have hP7 : va_P D vwCl (zw_O cI cL x a b (σ) τ o f ++ (zw_M cI μ th σ κ ++ [])) H := hP
    have hD7 : va_D (fun q => s.heap.size ≤ q) (zw_O cI cL x a b (σ) τ o f ++ (zw_M cI μ th σ κ ++ [])) := hD
    have hPm := fr_P hP7
    have hDm := fr_D hD7
    have hKm : va_K D vwCl [(cI, .int)] s := hK.sub [0] rfl
    have hF2 := zfree hDm hS hA
    refine lv_aload_n hx hb dL_law_417 rfl (lv_at hl 3 rfl) ?_
    refine lv_aload_n hx hb dL_law_418 rfl (lv_at hl 1 rfl) ?_
    refine lv_iload hx hb dL_law_419 (lv_at hl 5 rfl) ?_
    refine lv_iconst (v := 1) hx hb dL_law_421 (by decide) ?_
    refine zk_add (x := i) (y := 1) hx hb dL_law_422 ?_
    refine va_sld hx hb hX hbl hbA hS (vp_in_nI (by omega) (by omega)) dL_law_423 ?_
    rw [e1]
    refine zk_I (va_runV (As := [.int v1]) (rest := []) ⟨hx, hb, hml, hown, hts⟩ (b_X4_setPawn l D cI μ th σ κ v1 hv _) (cwV 1 hts gL_law_X4_setPawn rfl rfl rfl zdX4_setPawn ⟨Nat.le_of_ble_eq_true rfl, Nat.le_of_ble_eq_true rfl⟩) ⟨zbl _, va_recv hKm hPm (ci := 4) (q0 := 0) rfl rfl, zpr hKm hPm hDm⟩ rfl rfl hl.1 rfl (lv_room (Nat.le_of_ble_eq_true rfl)) dL_law_424 ⟨hc, hs⟩) hS hF2 (fun r6 H locs hr6 hkp hP1 hD1 hS => ?_)
    obtain ⟨hP, hD⟩ := fr_J hP7 hD7 hkp hF2 hP1 hD1
    refine lv_istore (lv' := [(6, .int (r6)), (5, .int 1), (0, .ref b0), (1, .ref x), (2, .ref (μ 0)), (3, .ref o), (4, .int (nI i))]) hx hb dL_law_427 hl (by decide) rfl (fun ls hl => ?_)
    have hP : va_P D vwCl (zw_W cI cL x a b (σ) τ o f μ 1 κ) H := hP
    have hD : va_D (fun q => s.heap.size ≤ q) (zw_W cI cL x a b (σ) τ o f μ 1 κ) := hD
    exact law_t_429 C0 kk hc hs (hU) (by omega) hP hD hS hl rfl (fun z => absurd z (by decide))

set_option maxHeartbeats 4000000 in
set_option maxRecDepth 100000 in
theorem law_t_497 {p : Program} {l : Launch} {e : Env} {s : State} {m : MethodId} {below : List Frame} {meth : Method} {c : Code} {D : va_G} {cI cL : ClassId} {b0 L : Nat} {xs : Nat → Int32} {x o : Nat} {a b μ : Nat → Nat} {Q : State → Prop} {cells slots i : Nat} (C : zLA l p s m meth c D cI cL b0 L xs) {hm : Nat} (kk : zGo p l e s m below meth c D cI cL b0 x o a b μ Q cells slots 1260 i hm) (hc : cells ≤ 1092) (hs : slots ≤ 8973) {σ τ : zS} {f : Nat → Int64} {th x5 x6 : Int32} {κ : Nat → Int32} {nb ns h : Nat} {H : Heap} {locs : List Loc} {ls : Array Slot} (hU : zU σ nb ns h) (hh : h ≤ hm) (hP : va_P D vwCl (zw_W cI cL x a b σ τ o f μ th κ) H) (hD : va_D (fun q => s.heap.size ≤ q) (zw_W cI cL x a b σ τ o f μ th κ)) (hS : va_S (fun q => s.heap.size ≤ q) s.heap H locs) (hl : lv_has ls 9 [(6, .int x6), (5, .int x5), (0, .ref b0), (1, .ref x), (2, .ref (μ 0)), (3, .ref o), (4, .int (nI i))]) (hf : th = x5) (hg : x5 = 0 → f 0 = x6.toInt64) : W p l e room_1 s m #[Value.ref b0] below meth c H locs cells slots Q (F0 m 497 ls []) := by
  obtain ⟨hx, hb, hr, hml, hown, hts, hX, hbl, hK, hL, hZ, hst, hL2⟩ := C
  have hP9 : va_P D vwCl (zw_O cI cL x a b σ τ o f ++ (zw_M cI μ th σ κ ++ [])) H := hP
  have hD9 : va_D (fun q => s.heap.size ≤ q) (zw_O cI cL x a b σ τ o f ++ (zw_M cI μ th σ κ ++ [])) := hD
  have hPm := fr_P hP9
  have hDm := fr_D hD9
  have hKm : va_K D vwCl [(cI, .int)] s := hK.sub [0] rfl
  refine lv_aload_n hx hb dL_law_497 rfl (lv_at hl 4 rfl) ?_
  refine zk_R (D := D) (va_runV (As := []) (rest := []) ⟨hx, hb, hml, hown, hts⟩ (c_X4_thrown l D cI μ th σ κ _) (cwV 0 hts gL_law_X4_thrown rfl rfl rfl zdX4_thrown ⟨Nat.le_of_ble_eq_true rfl, Nat.le_of_ble_eq_true rfl⟩) ⟨zbl _, va_recv hKm hPm (ci := 4) (q0 := 0) rfl rfl, zpr hKm hPm hDm⟩ rfl rfl hl.1 rfl (lv_room (Nat.le_of_ble_eq_true rfl)) dL_law_498 ⟨hc, hs⟩) hS (fun r H locs hr9 hk1 hS => ?_)
  have hP := hk1 _ hP
  rw [show r = x5 from hr9.trans hf]
  refine lv_iload hx hb dL_law_501 (lv_at hl 1 rfl) ?_
  refine lv_icmp_eq (tgt := 508) hx hb dL_law_503 (by decide) (fun _ => ?_) (fun c1 => absurd rfl c1)
  refine lv_iload hx hb dL_law_508 (lv_at hl 1 rfl) ?_
  refine lv_if_ne (tgt := 525) hx hb dL_law_510 (by decide) (fun c2 => ?_) (fun c2 => ?_)
  · refine lv_goto (tgt := 1260) hx hb dL_law_525 (by decide) ?_
    exact kk σ τ f th κ nb ns h _ _ ls hU hh hP hD hS (lv_sub hl [2, 3, 4, 5, 6] rfl)
  · refine lv_aload_n hx hb dL_law_513 rfl (lv_at hl 5 rfl) ?_
    refine lv_iconst (v := 0) hx hb dL_law_514 (by decide) ?_
    refine va_lald hx hb hK hP 41 1 rfl rfl vp_in01 dL_law_515 ?_
    refine lv_iload hx hb dL_law_516 (lv_at hl 0 rfl) ?_
    refine lv_i2l hx hb dL_law_518 rfl ?_
    refine W.lcmp hx hb dL_law_519 ?_
    refine lv_if_eq (tgt := 525) hx hb dL_law_520 (by decide) (fun _ => ?_) (fun c3 => absurd ((lg_cmp_eq _ _).mpr (hg c2)) c3)
    refine lv_goto (tgt := 1260) hx hb dL_law_525 (by decide) ?_
    exact kk σ τ f th κ nb ns h _ _ ls hU hh hP hD hS (lv_sub hl [2, 3, 4, 5, 6] rfl)

set_option maxHeartbeats 4000000 in
set_option maxRecDepth 100000 in
theorem law_give {p : Program} {l : Launch} {e : Env} {s : State} {m : MethodId} {below : List Frame} {meth : Method} {c : Code} {D : va_G} {cI cL : ClassId} {b0 L : Nat} {xs : Nat → Int32} {x o : Nat} {a b μ : Nat → Nat} {Q : State → Prop} {cells slots i : Nat} (C : zLA l p s m meth c D cI cL b0 L xs) {hm : Nat} (kk : zGo p l e s m below meth c D cI cL b0 x o a b μ Q (cells + 1) (slots + 6) 1260 i (hm + 72)) (hc : cells + 1 ≤ 1092) (hs : slots + 6 ≤ 8973) (hi : i + 5 ≤ L) (hm9 : hm + 80 < 2 ^ 30) : zGo p l e s m below meth c D cI cL b0 x o a b μ Q cells slots 460 i hm := by
  have C0 := C
  obtain ⟨hx, hb, hr, hml, hown, hts, hX, hbl, hK, hL, hZ, hst, hL2⟩ := C
  intro σ τ f th κ nb ns h H locs ls hU hh hP hD hS hl
  have hI := hU.1
  have hC := hI.1
  have hA : ∀ q : Nat, s.heap.size ≤ q → (fun q => s.heap.size ≤ q) q := fun _ z => z
  have hbA : ¬ (fun q => s.heap.size ≤ q) b0 := Nat.not_le.mpr hbl
  have hnb := hC.2.1
  have hns := hC.2.2.2.1
  obtain ⟨v1, e1⟩ : ∃ v, xs (nI (i + 1)).toNatClampNeg = v := ⟨_, rfl⟩
  obtain ⟨v2, e2⟩ : ∃ v, xs (nI (i + 2)).toNatClampNeg = v := ⟨_, rfl⟩
  by_cases hv : f_sail σ v1
  · obtain ⟨k, hk, rfl⟩ := zsail_of hC hv
    by_cases hw : ¬ v2 < 1 ∧ v2 ≤ 99
    · have hP8 : va_P D vwCl ([] ++ (zw_O cI cL x a b σ τ o f ++ zw_M cI μ th σ κ)) H := hP
      have hD8 : va_D (fun q => s.heap.size ≤ q) ([] ++ (zw_O cI cL x a b σ τ o f ++ zw_M cI μ th σ κ)) := hD
      have hPo := fr_P hP8
      have hDo := fr_D hD8
      refine lv_aload_n hx hb dL_law_460 rfl (lv_at hl 1 rfl) ?_
      refine lv_aload_n hx hb dL_law_461 rfl (lv_at hl 0 rfl) ?_
      refine lv_iload hx hb dL_law_462 (lv_at hl 4 rfl) ?_
      refine lv_iconst (v := 1) hx hb dL_law_464 (by decide) ?_
      refine zk_add (x := i) (y := 1) hx hb dL_law_465 ?_
      refine va_sld hx hb hX hbl hbA hS (vp_in_nI (by omega) (by omega)) dL_law_466 ?_
      rw [e1]
      refine lv_aload_n hx hb dL_law_467 rfl (lv_at hl 0 rfl) ?_
      refine lv_iload hx hb dL_law_468 (lv_at hl 4 rfl) ?_
      refine lv_iconst (v := 2) hx hb dL_law_470 (by decide) ?_
      refine zk_add (x := i) (y := 2) hx hb dL_law_471 ?_
      refine va_sld hx hb hX hbl hbA hS (vp_in_nI (by omega) (by omega)) dL_law_472 ?_
      rw [e2]
      refine lv_aload_n hx hb dL_law_473 rfl (lv_at hl 3 rfl) ?_
      have hF := zfree hDo hS hA
      refine zk_E (vx_runSW (As := [.ref x, .int (nI k), .int v2, .ref o]) (rest := []) ⟨hx, hb, hml, hown, hts⟩ (c_L_give l D cI cL x a b σ τ o f hC hk v2 hw.1 hw.2 _) (vx_cwSW 4 hts gL_law_L_give rfl rfl rfl zdL_give.2 ⟨Nat.le_of_ble_eq_true rfl, Nat.le_of_ble_eq_true rfl⟩) ⟨zblL _, zprL hK hPo hDo hL⟩ rfl rfl hl.1 rfl (lv_room (Nat.le_of_ble_eq_true rfl)) dL_law_474 ⟨Nat.le_of_succ_le hc, Nat.le_trans (Nat.le_add_right _ 6) hs⟩) hS hF (fun r u H locs hr9 hkp hP1 hD1 hS => ?_)
      subst hr9
      obtain ⟨hP, hD⟩ := fr_J hP8 hD8 hkp hF hP1 hD1
      refine W.widen (k := cells + 1) (n := slots + 6) (by omega) (by omega) ?_
      refine lv_istore (lv' := [(5, .int 0), (0, .ref b0), (1, .ref x), (2, .ref (μ 0)), (3, .ref o), (4, .int (nI i))]) hx hb dL_law_477 hl (by decide) rfl (fun ls hl => ?_)
      have hP7 : va_P D vwCl (zw_O cI cL x a b (f_earn σ k v2) τ o (vp_updL f 0 ((f_earn σ k v2) 9 k).toInt64) ++ (zw_M cI μ th σ κ ++ [])) H := hP
      have hD7 : va_D (fun q => s.heap.size ≤ q) (zw_O cI cL x a b (f_earn σ k v2) τ o (vp_updL f 0 ((f_earn σ k v2) 9 k).toInt64) ++ (zw_M cI μ th σ κ ++ [])) := hD
      have hPm := fr_P hP7
      have hDm := fr_D hD7
      have hKm : va_K D vwCl [(cI, .int)] s := hK.sub [0] rfl
      have hF2 := zfree hDm hS hA
      refine lv_aload_n hx hb dL_law_479 rfl (lv_at hl 3 rfl) ?_
      refine lv_aload_n hx hb dL_law_480 rfl (lv_at hl 1 rfl) ?_
      refine lv_iload hx hb dL_law_481 (lv_at hl 5 rfl) ?_
      refine lv_iconst (v := 1) hx hb dL_law_483 (by decide) ?_
      refine zk_add (x := i) (y := 1) hx hb dL_law_484 ?_
      refine va_sld hx hb hX hbl hbA hS (vp_in_nI (by omega) (by omega)) dL_law_485 ?_
      rw [e1]
      refine lv_aload_n hx hb dL_law_486 rfl (lv_at hl 1 rfl) ?_
      refine lv_iload hx hb dL_law_487 (lv_at hl 5 rfl) ?_
      refine lv_iconst (v := 2) hx hb dL_law_489 (by decide) ?_
      refine zk_add (x := i) (y := 2) hx hb dL_law_490 ?_
      refine va_sld hx hb hX hbl hbA hS (vp_in_nI (by omega) (by omega)) dL_law_491 ?_
      rw [e2]
      refine zk_I (va_runV (As := [.int (nI k), .int v2]) (rest := []) ⟨hx, hb, hml, hown, hts⟩ (c_X4_give l D cI μ th σ κ hC hk v2 hw.1 hw.2 _) (cwV 2 hts gL_law_X4_give rfl rfl rfl zdX4_give ⟨Nat.le_of_ble_eq_true rfl, Nat.le_of_ble_eq_true rfl⟩) ⟨zbl _, va_recv hKm hPm (ci := 4) (q0 := 0) rfl rfl, zpr hKm hPm hDm⟩ rfl rfl hl.1 rfl (lv_room (Nat.le_of_ble_eq_true rfl)) dL_law_492 ⟨hc, hs⟩) hS hF2 (fun r6 H locs hr6 hkp hP1 hD1 hS => ?_)
      obtain ⟨hP, hD⟩ := fr_J hP7 hD7 hkp hF2 hP1 hD1
      subst hr6
      refine lv_istore (lv' := [(6, .int ((f_earn σ k v2) 9 k)), (5, .int 0), (0, .ref b0), (1, .ref x), (2, .ref (μ 0)), (3, .ref o), (4, .int (nI i))]) hx hb dL_law_495 hl (by decide) rfl (fun ls hl => ?_)
      have hP : va_P D vwCl (zw_W cI cL x a b (f_earn σ k v2) τ o (vp_updL f 0 ((f_earn σ k v2) 9 k).toInt64) μ 0 κ) H := hP
      have hD : va_D (fun q => s.heap.size ≤ q) (zw_W cI cL x a b (f_earn σ k v2) τ o (vp_updL f 0 ((f_earn σ k v2) 9 k).toInt64) μ 0 κ) := hD
      exact law_t_497 C0 kk hc hs (hU.earn hk v2) (by omega) hP hD hS hl rfl (fun _ => rfl)
    · have hP8 : va_P D vwCl ([] ++ (zw_O cI cL x a b σ τ o f ++ zw_M cI μ th σ κ)) H := hP
      have hD8 : va_D (fun q => s.heap.size ≤ q) ([] ++ (zw_O cI cL x a b σ τ o f ++ zw_M cI μ th σ κ)) := hD
      have hPo := fr_P hP8
      have hDo := fr_D hD8
      refine lv_aload_n hx hb dL_law_460 rfl (lv_at hl 1 rfl) ?_
      refine lv_aload_n hx hb dL_law_461 rfl (lv_at hl 0 rfl) ?_
      refine lv_iload hx hb dL_law_462 (lv_at hl 4 rfl) ?_
      refine lv_iconst (v := 1) hx hb dL_law_464 (by decide) ?_
      refine zk_add (x := i) (y := 1) hx hb dL_law_465 ?_
      refine va_sld hx hb hX hbl hbA hS (vp_in_nI (by omega) (by omega)) dL_law_466 ?_
      rw [e1]
      refine lv_aload_n hx hb dL_law_467 rfl (lv_at hl 0 rfl) ?_
      refine lv_iload hx hb dL_law_468 (lv_at hl 4 rfl) ?_
      refine lv_iconst (v := 2) hx hb dL_law_470 (by decide) ?_
      refine zk_add (x := i) (y := 2) hx hb dL_law_471 ?_
      refine va_sld hx hb hX hbl hbA hS (vp_in_nI (by omega) (by omega)) dL_law_472 ?_
      rw [e2]
      refine lv_aload_n hx hb dL_law_473 rfl (lv_at hl 3 rfl) ?_
      refine zk_B (D := D) (vx_runSW (As := [.ref x, .int (nI k), .int v2, .ref o]) (rest := []) ⟨hx, hb, hml, hown, hts⟩ (t_L_give2 l hst D cI cL x a b σ τ o f hC hk v2 hw _) (vx_cwSW 4 hts gL_law_L_give rfl rfl rfl zdL_give.2 ⟨Nat.le_of_ble_eq_true rfl, Nat.le_of_ble_eq_true rfl⟩) ⟨zblX _, zprX (H0 := s.heap) hK hPo hDo hL hZ hS⟩ rfl rfl hl.1 rfl (lv_room (Nat.le_of_ble_eq_true rfl)) dL_law_474 ⟨hc, hs⟩) hS (fun H locs hk1 hS => ?_)
      have hP := hk1 _ hP
      refine lv_istore (lv' := [(5, .int 2), (0, .ref b0), (1, .ref x), (2, .ref (μ 0)), (3, .ref o), (4, .int (nI i))]) hx hb dL_law_477 hl (by decide) rfl (fun ls hl => ?_)
      have hP7 : va_P D vwCl (zw_O cI cL x a b (σ) τ o f ++ (zw_M cI μ th σ κ ++ [])) H := hP
      have hD7 : va_D (fun q => s.heap.size ≤ q) (zw_O cI cL x a b (σ) τ o f ++ (zw_M cI μ th σ κ ++ [])) := hD
      have hPm := fr_P hP7
      have hDm := fr_D hD7
      have hKm : va_K D vwCl [(cI, .int)] s := hK.sub [0] rfl
      have hF2 := zfree hDm hS hA
      refine lv_aload_n hx hb dL_law_479 rfl (lv_at hl 3 rfl) ?_
      refine lv_aload_n hx hb dL_law_480 rfl (lv_at hl 1 rfl) ?_
      refine lv_iload hx hb dL_law_481 (lv_at hl 5 rfl) ?_
      refine lv_iconst (v := 1) hx hb dL_law_483 (by decide) ?_
      refine zk_add (x := i) (y := 1) hx hb dL_law_484 ?_
      refine va_sld hx hb hX hbl hbA hS (vp_in_nI (by omega) (by omega)) dL_law_485 ?_
      rw [e1]
      refine lv_aload_n hx hb dL_law_486 rfl (lv_at hl 1 rfl) ?_
      refine lv_iload hx hb dL_law_487 (lv_at hl 5 rfl) ?_
      refine lv_iconst (v := 2) hx hb dL_law_489 (by decide) ?_
      refine zk_add (x := i) (y := 2) hx hb dL_law_490 ?_
      refine va_sld hx hb hX hbl hbA hS (vp_in_nI (by omega) (by omega)) dL_law_491 ?_
      rw [e2]
      refine zk_I (va_runV (As := [.int (nI k), .int v2]) (rest := []) ⟨hx, hb, hml, hown, hts⟩ (b_X4_give2 l D cI μ th σ κ hC hk v2 hw _) (cwV 2 hts gL_law_X4_give rfl rfl rfl zdX4_give ⟨Nat.le_of_ble_eq_true rfl, Nat.le_of_ble_eq_true rfl⟩) ⟨zbl _, va_recv hKm hPm (ci := 4) (q0 := 0) rfl rfl, zpr hKm hPm hDm⟩ rfl rfl hl.1 rfl (lv_room (Nat.le_of_ble_eq_true rfl)) dL_law_492 ⟨hc, hs⟩) hS hF2 (fun r6 H locs hr6 hkp hP1 hD1 hS => ?_)
      obtain ⟨hP, hD⟩ := fr_J hP7 hD7 hkp hF2 hP1 hD1
      refine lv_istore (lv' := [(6, .int (r6)), (5, .int 2), (0, .ref b0), (1, .ref x), (2, .ref (μ 0)), (3, .ref o), (4, .int (nI i))]) hx hb dL_law_495 hl (by decide) rfl (fun ls hl => ?_)
      have hP : va_P D vwCl (zw_W cI cL x a b (σ) τ o f μ 2 κ) H := hP
      have hD : va_D (fun q => s.heap.size ≤ q) (zw_W cI cL x a b (σ) τ o f μ 2 κ) := hD
      exact law_t_497 C0 kk hc hs (hU) (by omega) hP hD hS hl rfl (fun z => absurd z (by decide))
  · have hP8 : va_P D vwCl ([] ++ (zw_O cI cL x a b σ τ o f ++ zw_M cI μ th σ κ)) H := hP
    have hD8 : va_D (fun q => s.heap.size ≤ q) ([] ++ (zw_O cI cL x a b σ τ o f ++ zw_M cI μ th σ κ)) := hD
    have hPo := fr_P hP8
    have hDo := fr_D hD8
    refine lv_aload_n hx hb dL_law_460 rfl (lv_at hl 1 rfl) ?_
    refine lv_aload_n hx hb dL_law_461 rfl (lv_at hl 0 rfl) ?_
    refine lv_iload hx hb dL_law_462 (lv_at hl 4 rfl) ?_
    refine lv_iconst (v := 1) hx hb dL_law_464 (by decide) ?_
    refine zk_add (x := i) (y := 1) hx hb dL_law_465 ?_
    refine va_sld hx hb hX hbl hbA hS (vp_in_nI (by omega) (by omega)) dL_law_466 ?_
    rw [e1]
    refine lv_aload_n hx hb dL_law_467 rfl (lv_at hl 0 rfl) ?_
    refine lv_iload hx hb dL_law_468 (lv_at hl 4 rfl) ?_
    refine lv_iconst (v := 2) hx hb dL_law_470 (by decide) ?_
    refine zk_add (x := i) (y := 2) hx hb dL_law_471 ?_
    refine va_sld hx hb hX hbl hbA hS (vp_in_nI (by omega) (by omega)) dL_law_472 ?_
    rw [e2]
    refine lv_aload_n hx hb dL_law_473 rfl (lv_at hl 3 rfl) ?_
    refine zk_B (D := D) (vx_runSW (As := [.ref x, .int v1, .int v2, .ref o]) (rest := []) ⟨hx, hb, hml, hown, hts⟩ (t_L_give1 l hst D cI cL x a b σ τ o f v1 v2 hv _) (vx_cwSW 4 hts gL_law_L_give rfl rfl rfl zdL_give.2 ⟨Nat.le_of_ble_eq_true rfl, Nat.le_of_ble_eq_true rfl⟩) ⟨zblX _, zprX (H0 := s.heap) hK hPo hDo hL hZ hS⟩ rfl rfl hl.1 rfl (lv_room (Nat.le_of_ble_eq_true rfl)) dL_law_474 ⟨hc, hs⟩) hS (fun H locs hk1 hS => ?_)
    have hP := hk1 _ hP
    refine lv_istore (lv' := [(5, .int 1), (0, .ref b0), (1, .ref x), (2, .ref (μ 0)), (3, .ref o), (4, .int (nI i))]) hx hb dL_law_477 hl (by decide) rfl (fun ls hl => ?_)
    have hP7 : va_P D vwCl (zw_O cI cL x a b (σ) τ o f ++ (zw_M cI μ th σ κ ++ [])) H := hP
    have hD7 : va_D (fun q => s.heap.size ≤ q) (zw_O cI cL x a b (σ) τ o f ++ (zw_M cI μ th σ κ ++ [])) := hD
    have hPm := fr_P hP7
    have hDm := fr_D hD7
    have hKm : va_K D vwCl [(cI, .int)] s := hK.sub [0] rfl
    have hF2 := zfree hDm hS hA
    refine lv_aload_n hx hb dL_law_479 rfl (lv_at hl 3 rfl) ?_
    refine lv_aload_n hx hb dL_law_480 rfl (lv_at hl 1 rfl) ?_
    refine lv_iload hx hb dL_law_481 (lv_at hl 5 rfl) ?_
    refine lv_iconst (v := 1) hx hb dL_law_483 (by decide) ?_
    refine zk_add (x := i) (y := 1) hx hb dL_law_484 ?_
    refine va_sld hx hb hX hbl hbA hS (vp_in_nI (by omega) (by omega)) dL_law_485 ?_
    rw [e1]
    refine lv_aload_n hx hb dL_law_486 rfl (lv_at hl 1 rfl) ?_
    refine lv_iload hx hb dL_law_487 (lv_at hl 5 rfl) ?_
    refine lv_iconst (v := 2) hx hb dL_law_489 (by decide) ?_
    refine zk_add (x := i) (y := 2) hx hb dL_law_490 ?_
    refine va_sld hx hb hX hbl hbA hS (vp_in_nI (by omega) (by omega)) dL_law_491 ?_
    rw [e2]
    refine zk_I (va_runV (As := [.int v1, .int v2]) (rest := []) ⟨hx, hb, hml, hown, hts⟩ (b_X4_give1 l D cI μ th σ κ v1 v2 hC hv _) (cwV 2 hts gL_law_X4_give rfl rfl rfl zdX4_give ⟨Nat.le_of_ble_eq_true rfl, Nat.le_of_ble_eq_true rfl⟩) ⟨zbl _, va_recv hKm hPm (ci := 4) (q0 := 0) rfl rfl, zpr hKm hPm hDm⟩ rfl rfl hl.1 rfl (lv_room (Nat.le_of_ble_eq_true rfl)) dL_law_492 ⟨hc, hs⟩) hS hF2 (fun r6 H locs hr6 hkp hP1 hD1 hS => ?_)
    obtain ⟨hP, hD⟩ := fr_J hP7 hD7 hkp hF2 hP1 hD1
    refine lv_istore (lv' := [(6, .int (r6)), (5, .int 1), (0, .ref b0), (1, .ref x), (2, .ref (μ 0)), (3, .ref o), (4, .int (nI i))]) hx hb dL_law_495 hl (by decide) rfl (fun ls hl => ?_)
    have hP : va_P D vwCl (zw_W cI cL x a b (σ) τ o f μ 1 κ) H := hP
    have hD : va_D (fun q => s.heap.size ≤ q) (zw_W cI cL x a b (σ) τ o f μ 1 κ) := hD
    exact law_t_497 C0 kk hc hs (hU) (by omega) hP hD hS hl rfl (fun z => absurd z (by decide))
