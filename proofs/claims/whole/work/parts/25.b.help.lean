theorem vp_in01 : vp_in 0 1 := by unfold vp_in; decide

set_option maxHeartbeats 4000000 in
set_option maxRecDepth 100000 in
theorem c_L_bed (l : Launch) (D : va_G) (cI cL : ClassId) (x : Nat) (a b : Nat → Nat) (σ τ : zS) (o : Nat) (f : Nat → Int64) (v : Int32) {nb ns h : Nat} (hC : zC σ nb ns h) (h1 : ¬ v < 0) (h2 : v ≤ 9) (hb6 : nb < 6) : zHO l yL_bed wsL_bed ({ frames := 2, cells := 0, slots := 0, locals := 43 }) [.ref x, .int v, .ref o] D (zT2 cI cL) (zw_O cI cL x a b σ τ o f) (fun u => zw_O cI cL x a b (f_addB σ nb v) τ o (vp_updL f 0 (nI nb).toInt64)) := by
  intro sz
  refine zk_ofWH (cc := cL_bed) (maxL := 4) (ret := (some .int)) (by decide) rfl ?_
  intro p e s m args below meth c s₁ B hml hv
  obtain ⟨rfl, ⟨hsz, hP, hK, hD⟩, hL⟩ := hv
  have hx := B.exec
  have hb := B.bytes
  have hr := B.returns
  have hts := atoms_spec (ws := wsL_bed) B.pre
  have hown : s.vm.findClass RL = some m.cls := findClass_of_methodNamed B.named
  subst hsz
  have hD := hD.self (sz := s.heap.size)
  generalize hAe : va_A (zw_O cI cL x a b σ τ o f) s.heap.size = A at hD ⊢
  have hA : ∀ q : Nat, s.heap.size ≤ q → A q := fun q h => by rw [← hAe]; exact Or.inr h
  have hS : va_S A s.heap s.heap [] := va_S.rf
  have hP : va_P D vwCl ([] ++ (zw_X cI x a b σ τ ++ [(o, .inl (cL, 1, .inr (.inl f)))])) s.heap := hP
  have hD : va_D A ([] ++ (zw_X cI x a b σ τ ++ [(o, .inl (cL, 1, .inr (.inl f)))])) := hD
  have hP2 := fr_P hP
  have hD2 := fr_D hD
  have hK2 : va_K D vwCl [(cI, .int)] s := hK.sub [0] rfl
  have hl := lv_entry ([.ref x, .int v, .ref o]) (n := 4) (Nat.le_of_ble_eq_true rfl)
  rw [lg_entry_eq]
  generalize (lg_sl ([.ref x, .int v, .ref o]) ++ List.replicate (4 - (lg_sl ([.ref x, .int v, .ref o])).length) Slot.unset).toArray = ls at hl ⊢
  have hl : lv_has ls 4 [(0, .ref x), (1, .int v), (2, .ref o)] := hl
  refine lv_aload_n hx hb dL_bed_0 rfl (lv_at hl 2 rfl) ?_
  refine lv_iconst (v := 0) hx hb dL_bed_1 (by decide) ?_
  refine lv_aload_n hx hb dL_bed_2 rfl (lv_at hl 0 rfl) ?_
  refine lv_iload_n hx hb dL_bed_3 rfl (lv_at hl 1 rfl) ?_
  have hF := zfree hD2 hS hA
  refine zk_I (va_runV (As := [.int v]) (rest := [.int 0, .ref o]) ⟨hx, hb, hml, hown, hts⟩ (c_X3_bed l D cI x a b σ τ v hC h1 h2 hb6 _) (cwV 1 hts gL_bed_X3_bed rfl rfl rfl zdX3_bed ⟨Nat.le_of_ble_eq_true rfl, Nat.le_of_ble_eq_true rfl⟩) ⟨zbl _, va_recv hK hP2 (ci := 3) (q0 := 0) rfl rfl, zpr hK2 hP2 hD2⟩ rfl rfl hl.1 rfl (lv_room (Nat.le_of_ble_eq_true rfl)) dL_bed_4 ⟨Nat.zero_le _, Nat.zero_le _⟩) hS hF (fun r H1 locs1 hr9 hkp hP1 hD1 hS => ?_)
  obtain ⟨hP, hD⟩ := fr_J hP hD hkp hF hP1 hD1
  subst hr9
  refine lv_i2l hx hb dL_bed_7 rfl ?_
  refine va_last hx hb hK hP hD hS 41 1 rfl rfl vp_in01 dL_bed_8 (fun H locs hP hD hS => ?_)
  refine lv_goto (tgt := 18) hx hb dL_bed_9 (by decide) ?_
  refine lv_iconst (v := 0) hx hb dL_bed_18 (by decide) ?_
  exact W.iret (v := 0) hx hb hr (fun t ht hW => ⟨⟨0, τ, rfl, rfl, by rw [ht]; exact hP, va_K.moved hW.alike hK, hD⟩, hS.F ht⟩) hS.2.2 dL_bed_19

set_option maxHeartbeats 4000000 in
set_option maxRecDepth 100000 in
theorem t_L_bed1 (l : Launch) (hst : l.stackTraces = false) (D : va_G) (cI cL : ClassId) (x : Nat) (a b : Nat → Nat) (σ τ : zS) (o : Nat) (f : Nat → Int64) (v : Int32) (hv : ¬ (¬ v < 0 ∧ v ≤ 9)) : zHB l yL_bed wsL_bed ({ frames := 7, cells := 1, slots := 6, locals := 103 }) [.ref x, .int v, .ref o] D (zT2 cI cL) (zw_O cI cL x a b σ τ o f) 1 := by
  intro sz
  refine zk_ofWH (cc := cL_bed) (maxL := 4) (ret := (some .int)) (by decide) rfl ?_
  intro p e s m args below meth c s₁ B hml hv
  obtain ⟨rfl, ⟨hsz, hP, hK, hD⟩, hL, hZ⟩ := hv
  have hx := B.exec
  have hb := B.bytes
  have hr := B.returns
  have hts := atoms_spec (ws := wsL_bed) B.pre
  have hown : s.vm.findClass RL = some m.cls := findClass_of_methodNamed B.named
  have hS : va_S (fun _ => False) s.heap s.heap [] := va_S.rf
  have hP : va_P D vwCl ([] ++ (zw_X cI x a b σ τ ++ [(o, .inl (cL, 1, .inr (.inl f)))])) s.heap := hP
  have hD : va_D (fun _ => True) ([] ++ (zw_X cI x a b σ τ ++ [(o, .inl (cL, 1, .inr (.inl f)))])) := hD
  have hP2 := fr_P hP
  have hD2 := fr_D hD
  have hK2 : va_K D vwCl [(cI, .int)] s := hK.sub [0] rfl
  have hl := lv_entry ([.ref x, .int v, .ref o]) (n := 4) (Nat.le_of_ble_eq_true rfl)
  rw [lg_entry_eq]
  generalize (lg_sl ([.ref x, .int v, .ref o]) ++ List.replicate (4 - (lg_sl ([.ref x, .int v, .ref o])).length) Slot.unset).toArray = ls at hl ⊢
  have hl : lv_has ls 4 [(0, .ref x), (1, .int v), (2, .ref o)] := hl
  have htb := vx_table (x := yL_bed) B (hts _ List.mem_cons_self)
  refine lv_aload_n hx hb dL_bed_0 rfl (lv_at hl 2 rfl) ?_
  refine lv_iconst (v := 0) hx hb dL_bed_1 (by decide) ?_
  refine lv_aload_n hx hb dL_bed_2 rfl (lv_at hl 0 rfl) ?_
  refine lv_iload_n hx hb dL_bed_3 rfl (lv_at hl 1 rfl) ?_
  refine vx_calli (vx_runV (As := [.int v]) (rest := [.int 0, .ref o]) ⟨hx, hb, hml, hown, hts⟩ (t_X3_bed1 l hst D cI x a b σ τ v hv _) (cwV 1 hts gL_bed_X3_bed rfl rfl rfl zdX3_bed ⟨Nat.le_of_ble_eq_true rfl, Nat.le_of_ble_eq_true rfl⟩) ⟨zblX _, va_recv hK hP2 (ci := 3) (q0 := 0) rfl rfl, zprX (H0 := s.heap) hK2 hP2 hD2 hL hZ hS⟩ rfl rfl hl.1 rfl (lv_room (Nat.le_of_ble_eq_true rfl)) dL_bed_4 ⟨Nat.le_of_ble_eq_true rfl, Nat.le_of_ble_eq_true rfl⟩) hS (fun q _ h => h.elim) (fun q h => h.elim) (fun q _ h => h.elim) (fun X ce q9 u t H1 locs1 _ hvm _ hBX _ _ hS hce hcv hcl => ?_) (fun r u t H1 locs1 _ _ hw _ _ _ _ => hw.elim)
  have hBX : X = "java/lang/IllegalArgumentException" := hBX
  subst hBX
  refine vx_catch (name := "java/lang/IllegalArgumentException") hown [] ⟨0, 9, 12, 13⟩ [⟨0, 9, 15, 15⟩] htb (fun z hz => by cases hz) (by decide) (by decide) (hts _ (by decide +kernel)) (va_Nw.use rfl (hL.2.1 "java/lang/IllegalArgumentException" (by decide +kernel))) hce hcv hcl ?_
  refine lv_astore_n (lv' := [(3, .ref q9), (0, .ref x), (1, .int v), (2, .ref o)]) hx hb dL_bed_12 rfl hl (by decide) rfl (fun ls hl => ?_)
  refine lv_iconst (v := 1) hx hb dL_bed_13 (by decide) ?_
  exact W.iret (v := 1) hx hb hr (fun t ht hW => ⟨⟨1, (), rfl, rfl, trivial⟩, hS.F ht⟩) hS.2.2 dL_bed_14

set_option maxHeartbeats 4000000 in
set_option maxRecDepth 100000 in
theorem t_L_bed2 (l : Launch) (hst : l.stackTraces = false) (D : va_G) (cI cL : ClassId) (x : Nat) (a b : Nat → Nat) (σ τ : zS) (o : Nat) (f : Nat → Int64) (v : Int32) {nb ns h : Nat} (hC : zC σ nb ns h) (h1 : ¬ v < 0) (h2 : v ≤ 9) (h6 : nb = 6) : zHB l yL_bed wsL_bed ({ frames := 8, cells := 1, slots := 6, locals := 125 }) [.ref x, .int v, .ref o] D (zT2 cI cL) (zw_O cI cL x a b σ τ o f) 2 := by
  intro sz
  refine zk_ofWH (cc := cL_bed) (maxL := 4) (ret := (some .int)) (by decide) rfl ?_
  intro p e s m args below meth c s₁ B hml hv
  obtain ⟨rfl, ⟨hsz, hP, hK, hD⟩, hL, hZ⟩ := hv
  have hx := B.exec
  have hb := B.bytes
  have hr := B.returns
  have hts := atoms_spec (ws := wsL_bed) B.pre
  have hown : s.vm.findClass RL = some m.cls := findClass_of_methodNamed B.named
  have hS : va_S (fun _ => False) s.heap s.heap [] := va_S.rf
  have hP : va_P D vwCl ([] ++ (zw_X cI x a b σ τ ++ [(o, .inl (cL, 1, .inr (.inl f)))])) s.heap := hP
  have hD : va_D (fun _ => True) ([] ++ (zw_X cI x a b σ τ ++ [(o, .inl (cL, 1, .inr (.inl f)))])) := hD
  have hP2 := fr_P hP
  have hD2 := fr_D hD
  have hK2 : va_K D vwCl [(cI, .int)] s := hK.sub [0] rfl
  have hl := lv_entry ([.ref x, .int v, .ref o]) (n := 4) (Nat.le_of_ble_eq_true rfl)
  rw [lg_entry_eq]
  generalize (lg_sl ([.ref x, .int v, .ref o]) ++ List.replicate (4 - (lg_sl ([.ref x, .int v, .ref o])).length) Slot.unset).toArray = ls at hl ⊢
  have hl : lv_has ls 4 [(0, .ref x), (1, .int v), (2, .ref o)] := hl
  have htb := vx_table (x := yL_bed) B (hts _ List.mem_cons_self)
  refine lv_aload_n hx hb dL_bed_0 rfl (lv_at hl 2 rfl) ?_
  refine lv_iconst (v := 0) hx hb dL_bed_1 (by decide) ?_
  refine lv_aload_n hx hb dL_bed_2 rfl (lv_at hl 0 rfl) ?_
  refine lv_iload_n hx hb dL_bed_3 rfl (lv_at hl 1 rfl) ?_
  refine vx_calli (vx_runV (As := [.int v]) (rest := [.int 0, .ref o]) ⟨hx, hb, hml, hown, hts⟩ (t_X3_bed2 l hst D cI x a b σ τ v hC h1 h2 h6 _) (cwV 1 hts gL_bed_X3_bed rfl rfl rfl zdX3_bed ⟨Nat.le_of_ble_eq_true rfl, Nat.le_of_ble_eq_true rfl⟩) ⟨zblX _, va_recv hK hP2 (ci := 3) (q0 := 0) rfl rfl, zprX (H0 := s.heap) hK2 hP2 hD2 hL hZ hS⟩ rfl rfl hl.1 rfl (lv_room (Nat.le_of_ble_eq_true rfl)) dL_bed_4 ⟨Nat.le_of_ble_eq_true rfl, Nat.le_of_ble_eq_true rfl⟩) hS (fun q _ h => h.elim) (fun q h => h.elim) (fun q _ h => h.elim) (fun X ce q9 u t H1 locs1 _ hvm _ hBX _ _ hS hce hcv hcl => ?_) (fun r u t H1 locs1 _ _ hw _ _ _ _ => hw.elim)
  have hBX : X = "java/lang/IllegalStateException" := hBX
  subst hBX
  refine vx_catch (name := "java/lang/IllegalStateException") hown [⟨0, 9, 12, 13⟩] ⟨0, 9, 15, 15⟩ [] htb (fun z hz => by
      simp only [List.mem_cons, List.not_mem_nil, or_false] at hz
      subst hz
      exact Or.inr ⟨by decide, "java/lang/IllegalArgumentException", hts _ (by decide +kernel), hL.2.2.2.2 ("java/lang/IllegalStateException", "java/lang/IllegalArgumentException") (by decide +kernel)⟩) (by decide) (by decide) (hts _ (by decide +kernel)) (va_Nw.use rfl (hL.2.1 "java/lang/IllegalStateException" (by decide +kernel))) hce hcv hcl ?_
  refine lv_astore_n (lv' := [(3, .ref q9), (0, .ref x), (1, .int v), (2, .ref o)]) hx hb dL_bed_15 rfl hl (by decide) rfl (fun ls hl => ?_)
  refine lv_iconst (v := 2) hx hb dL_bed_16 (by decide) ?_
  exact W.iret (v := 2) hx hb hr (fun t ht hW => ⟨⟨2, (), rfl, rfl, trivial⟩, hS.F ht⟩) hS.2.2 dL_bed_17

set_option maxHeartbeats 4000000 in
set_option maxRecDepth 100000 in
theorem c_L_sailor (l : Launch) (D : va_G) (cI cL : ClassId) (x : Nat) (a b : Nat → Nat) (σ τ : zS) (o : Nat) (f : Nat → Int64) (v1 v2 v3 v4 : Int32) {nb ns h : Nat} (hC : zC σ nb ns h) (hw1 : ¬ v1 < 0) (hw2 : v1 < 3) (h1 : ¬ v2 < 0) (h2 : v2 ≤ 9) (h3 : ¬ v3 < 0) (h4 : v3 ≤ 20) (h5 : ¬ v4 < 0) (h6 : v4 ≤ 99) (hs10 : ns < 10) : zHO l yL_sailor wsL_sailor ({ frames := 2, cells := 0, slots := 0, locals := 49 }) [.ref x, .int v1, .int v2, .int v3, .int v4, .ref o] D (zT2 cI cL) (zw_O cI cL x a b σ τ o f) (fun u => zw_O cI cL x a b (f_addS σ ns v1 v2 v3 v4) τ o (vp_updL f 0 (nI ns).toInt64)) := by
  intro sz
  refine zk_ofWH (cc := cL_sailor) (maxL := 7) (ret := (some .int)) (by decide) rfl ?_
  intro p e s m args below meth c s₁ B hml hv
  obtain ⟨rfl, ⟨hsz, hP, hK, hD⟩, hL⟩ := hv
  have hx := B.exec
  have hb := B.bytes
  have hr := B.returns
  have hts := atoms_spec (ws := wsL_sailor) B.pre
  have hown : s.vm.findClass RL = some m.cls := findClass_of_methodNamed B.named
  subst hsz
  have hD := hD.self (sz := s.heap.size)
  generalize hAe : va_A (zw_O cI cL x a b σ τ o f) s.heap.size = A at hD ⊢
  have hA : ∀ q : Nat, s.heap.size ≤ q → A q := fun q h => by rw [← hAe]; exact Or.inr h
  have hS : va_S A s.heap s.heap [] := va_S.rf
  have hP : va_P D vwCl ([] ++ (zw_X cI x a b σ τ ++ [(o, .inl (cL, 1, .inr (.inl f)))])) s.heap := hP
  have hD : va_D A ([] ++ (zw_X cI x a b σ τ ++ [(o, .inl (cL, 1, .inr (.inl f)))])) := hD
  have hP2 := fr_P hP
  have hD2 := fr_D hD
  have hK2 : va_K D vwCl [(cI, .int)] s := hK.sub [0] rfl
  have hl := lv_entry ([.ref x, .int v1, .int v2, .int v3, .int v4, .ref o]) (n := 7) (Nat.le_of_ble_eq_true rfl)
  rw [lg_entry_eq]
  generalize (lg_sl ([.ref x, .int v1, .int v2, .int v3, .int v4, .ref o]) ++ List.replicate (7 - (lg_sl ([.ref x, .int v1, .int v2, .int v3, .int v4, .ref o])).length) Slot.unset).toArray = ls at hl ⊢
  have hl : lv_has ls 7 [(0, .ref x), (1, .int v1), (2, .int v2), (3, .int v3), (4, .int v4), (5, .ref o)] := hl
  refine lv_aload hx hb dL_sailor_0 (lv_at hl 5 rfl) ?_
  refine lv_iconst (v := 0) hx hb dL_sailor_2 (by decide) ?_
  refine lv_aload_n hx hb dL_sailor_3 rfl (lv_at hl 0 rfl) ?_
  refine lv_iload_n hx hb dL_sailor_4 rfl (lv_at hl 1 rfl) ?_
  refine lv_iload_n hx hb dL_sailor_5 rfl (lv_at hl 2 rfl) ?_
  refine lv_iload_n hx hb dL_sailor_6 rfl (lv_at hl 3 rfl) ?_
  refine lv_iload hx hb dL_sailor_7 (lv_at hl 4 rfl) ?_
  have hF := zfree hD2 hS hA
  refine zk_I (va_runV (As := [.int v1, .int v2, .int v3, .int v4]) (rest := [.int 0, .ref o]) ⟨hx, hb, hml, hown, hts⟩ (c_X3_sailor l D cI x a b σ τ v1 v2 v3 v4 hC hw1 hw2 h1 h2 h3 h4 h5 h6 hs10 _) (cwV 4 hts gL_sailor_X3_sailor rfl rfl rfl zdX3_sailor ⟨Nat.le_of_ble_eq_true rfl, Nat.le_of_ble_eq_true rfl⟩) ⟨zbl _, va_recv hK hP2 (ci := 3) (q0 := 0) rfl rfl, zpr hK2 hP2 hD2⟩ rfl rfl hl.1 rfl (lv_room (Nat.le_of_ble_eq_true rfl)) dL_sailor_9 ⟨Nat.zero_le _, Nat.zero_le _⟩) hS hF (fun r H1 locs1 hr9 hkp hP1 hD1 hS => ?_)
  obtain ⟨hP, hD⟩ := fr_J hP hD hkp hF hP1 hD1
  subst hr9
  refine lv_i2l hx hb dL_sailor_12 rfl ?_
  refine va_last hx hb hK hP hD hS 41 1 rfl rfl vp_in01 dL_sailor_13 (fun H locs hP hD hS => ?_)
  refine lv_goto (tgt := 29) hx hb dL_sailor_14 (by decide) ?_
  refine lv_iconst (v := 0) hx hb dL_sailor_29 (by decide) ?_
  exact W.iret (v := 0) hx hb hr (fun t ht hW => ⟨⟨0, τ, rfl, rfl, by rw [ht]; exact hP, va_K.moved hW.alike hK, hD⟩, hS.F ht⟩) hS.2.2 dL_sailor_30

set_option maxHeartbeats 4000000 in
set_option maxRecDepth 100000 in
theorem t_L_sailor1 (l : Launch) (hst : l.stackTraces = false) (D : va_G) (cI cL : ClassId) (x : Nat) (a b : Nat → Nat) (σ τ : zS) (o : Nat) (f : Nat → Int64) (v1 v2 v3 v4 : Int32) (hv : ¬ (¬ v1 < 0 ∧ v1 < 3)) : zHB l yL_sailor wsL_sailor ({ frames := 8, cells := 1, slots := 6, locals := 126 }) [.ref x, .int v1, .int v2, .int v3, .int v4, .ref o] D (zT2 cI cL) (zw_O cI cL x a b σ τ o f) 1 := by
  intro sz
  refine zk_ofWH (cc := cL_sailor) (maxL := 7) (ret := (some .int)) (by decide) rfl ?_
  intro p e s m args below meth c s₁ B hml hv
  obtain ⟨rfl, ⟨hsz, hP, hK, hD⟩, hL, hZ⟩ := hv
  have hx := B.exec
  have hb := B.bytes
  have hr := B.returns
  have hts := atoms_spec (ws := wsL_sailor) B.pre
  have hown : s.vm.findClass RL = some m.cls := findClass_of_methodNamed B.named
  have hS : va_S (fun _ => False) s.heap s.heap [] := va_S.rf
  have hP : va_P D vwCl ([] ++ (zw_X cI x a b σ τ ++ [(o, .inl (cL, 1, .inr (.inl f)))])) s.heap := hP
  have hD : va_D (fun _ => True) ([] ++ (zw_X cI x a b σ τ ++ [(o, .inl (cL, 1, .inr (.inl f)))])) := hD
  have hP2 := fr_P hP
  have hD2 := fr_D hD
  have hK2 : va_K D vwCl [(cI, .int)] s := hK.sub [0] rfl
  have hl := lv_entry ([.ref x, .int v1, .int v2, .int v3, .int v4, .ref o]) (n := 7) (Nat.le_of_ble_eq_true rfl)
  rw [lg_entry_eq]
  generalize (lg_sl ([.ref x, .int v1, .int v2, .int v3, .int v4, .ref o]) ++ List.replicate (7 - (lg_sl ([.ref x, .int v1, .int v2, .int v3, .int v4, .ref o])).length) Slot.unset).toArray = ls at hl ⊢
  have hl : lv_has ls 7 [(0, .ref x), (1, .int v1), (2, .int v2), (3, .int v3), (4, .int v4), (5, .ref o)] := hl
  have htb := vx_table (x := yL_sailor) B (hts _ List.mem_cons_self)
  refine lv_aload hx hb dL_sailor_0 (lv_at hl 5 rfl) ?_
  refine lv_iconst (v := 0) hx hb dL_sailor_2 (by decide) ?_
  refine lv_aload_n hx hb dL_sailor_3 rfl (lv_at hl 0 rfl) ?_
  refine lv_iload_n hx hb dL_sailor_4 rfl (lv_at hl 1 rfl) ?_
  refine lv_iload_n hx hb dL_sailor_5 rfl (lv_at hl 2 rfl) ?_
  refine lv_iload_n hx hb dL_sailor_6 rfl (lv_at hl 3 rfl) ?_
  refine lv_iload hx hb dL_sailor_7 (lv_at hl 4 rfl) ?_
  refine vx_calli (vx_runV (As := [.int v1, .int v2, .int v3, .int v4]) (rest := [.int 0, .ref o]) ⟨hx, hb, hml, hown, hts⟩ (t_X3_sailor1 l hst D cI x a b σ τ v1 v2 v3 v4 hv _) (cwV 4 hts gL_sailor_X3_sailor rfl rfl rfl zdX3_sailor ⟨Nat.le_of_ble_eq_true rfl, Nat.le_of_ble_eq_true rfl⟩) ⟨zblX _, va_recv hK hP2 (ci := 3) (q0 := 0) rfl rfl, zprX (H0 := s.heap) hK2 hP2 hD2 hL hZ hS⟩ rfl rfl hl.1 rfl (lv_room (Nat.le_of_ble_eq_true rfl)) dL_sailor_9 ⟨Nat.le_of_ble_eq_true rfl, Nat.le_of_ble_eq_true rfl⟩) hS (fun q _ h => h.elim) (fun q h => h.elim) (fun q _ h => h.elim) (fun X ce q9 u t H1 locs1 _ hvm _ hBX _ _ hS hce hcv hcl => ?_) (fun r u t H1 locs1 _ _ hw _ _ _ _ => hw.elim)
  have hBX : X = "java/lang/IndexOutOfBoundsException" := hBX
  subst hBX
  refine vx_catch (name := "java/lang/IndexOutOfBoundsException") hown [] ⟨0, 14, 17, 21⟩ [⟨0, 14, 21, 13⟩, ⟨0, 14, 25, 15⟩] htb (fun z hz => by cases hz) (by decide) (by decide) (hts _ (by decide +kernel)) (va_Nw.use rfl (hL.2.1 "java/lang/IndexOutOfBoundsException" (by decide +kernel))) hce hcv hcl ?_
  refine lv_astore (lv' := [(6, .ref q9), (0, .ref x), (1, .int v1), (2, .int v2), (3, .int v3), (4, .int v4), (5, .ref o)]) hx hb dL_sailor_17 hl (by decide) rfl (fun ls hl => ?_)
  refine lv_iconst (v := 1) hx hb dL_sailor_19 (by decide) ?_
  exact W.iret (v := 1) hx hb hr (fun t ht hW => ⟨⟨1, (), rfl, rfl, trivial⟩, hS.F ht⟩) hS.2.2 dL_sailor_20

set_option maxHeartbeats 4000000 in
set_option maxRecDepth 100000 in
theorem t_L_sailor2 (l : Launch) (hst : l.stackTraces = false) (D : va_G) (cI cL : ClassId) (x : Nat) (a b : Nat → Nat) (σ τ : zS) (o : Nat) (f : Nat → Int64) (v1 v2 v3 v4 : Int32) (hw1 : ¬ v1 < 0) (hw2 : v1 < 3) (hv : ¬ (¬ v2 < 0 ∧ v2 ≤ 9 ∧ ¬ v3 < 0 ∧ v3 ≤ 20 ∧ ¬ v4 < 0 ∧ v4 ≤ 99)) : zHB l yL_sailor wsL_sailor ({ frames := 7, cells := 1, slots := 6, locals := 106 }) [.ref x, .int v1, .int v2, .int v3, .int v4, .ref o] D (zT2 cI cL) (zw_O cI cL x a b σ τ o f) 2 := by
  intro sz
  refine zk_ofWH (cc := cL_sailor) (maxL := 7) (ret := (some .int)) (by decide) rfl ?_
  intro p e s m args below meth c s₁ B hml hv
  obtain ⟨rfl, ⟨hsz, hP, hK, hD⟩, hL, hZ⟩ := hv
  have hx := B.exec
  have hb := B.bytes
  have hr := B.returns
  have hts := atoms_spec (ws := wsL_sailor) B.pre
  have hown : s.vm.findClass RL = some m.cls := findClass_of_methodNamed B.named
  have hS : va_S (fun _ => False) s.heap s.heap [] := va_S.rf
  have hP : va_P D vwCl ([] ++ (zw_X cI x a b σ τ ++ [(o, .inl (cL, 1, .inr (.inl f)))])) s.heap := hP
  have hD : va_D (fun _ => True) ([] ++ (zw_X cI x a b σ τ ++ [(o, .inl (cL, 1, .inr (.inl f)))])) := hD
  have hP2 := fr_P hP
  have hD2 := fr_D hD
  have hK2 : va_K D vwCl [(cI, .int)] s := hK.sub [0] rfl
  have hl := lv_entry ([.ref x, .int v1, .int v2, .int v3, .int v4, .ref o]) (n := 7) (Nat.le_of_ble_eq_true rfl)
  rw [lg_entry_eq]
  generalize (lg_sl ([.ref x, .int v1, .int v2, .int v3, .int v4, .ref o]) ++ List.replicate (7 - (lg_sl ([.ref x, .int v1, .int v2, .int v3, .int v4, .ref o])).length) Slot.unset).toArray = ls at hl ⊢
  have hl : lv_has ls 7 [(0, .ref x), (1, .int v1), (2, .int v2), (3, .int v3), (4, .int v4), (5, .ref o)] := hl
  have htb := vx_table (x := yL_sailor) B (hts _ List.mem_cons_self)
  refine lv_aload hx hb dL_sailor_0 (lv_at hl 5 rfl) ?_
  refine lv_iconst (v := 0) hx hb dL_sailor_2 (by decide) ?_
  refine lv_aload_n hx hb dL_sailor_3 rfl (lv_at hl 0 rfl) ?_
  refine lv_iload_n hx hb dL_sailor_4 rfl (lv_at hl 1 rfl) ?_
  refine lv_iload_n hx hb dL_sailor_5 rfl (lv_at hl 2 rfl) ?_
  refine lv_iload_n hx hb dL_sailor_6 rfl (lv_at hl 3 rfl) ?_
  refine lv_iload hx hb dL_sailor_7 (lv_at hl 4 rfl) ?_
  refine vx_calli (vx_runV (As := [.int v1, .int v2, .int v3, .int v4]) (rest := [.int 0, .ref o]) ⟨hx, hb, hml, hown, hts⟩ (t_X3_sailor2 l hst D cI x a b σ τ v1 v2 v3 v4 hw1 hw2 hv _) (cwV 4 hts gL_sailor_X3_sailor rfl rfl rfl zdX3_sailor ⟨Nat.le_of_ble_eq_true rfl, Nat.le_of_ble_eq_true rfl⟩) ⟨zblX _, va_recv hK hP2 (ci := 3) (q0 := 0) rfl rfl, zprX (H0 := s.heap) hK2 hP2 hD2 hL hZ hS⟩ rfl rfl hl.1 rfl (lv_room (Nat.le_of_ble_eq_true rfl)) dL_sailor_9 ⟨Nat.le_of_ble_eq_true rfl, Nat.le_of_ble_eq_true rfl⟩) hS (fun q _ h => h.elim) (fun q h => h.elim) (fun q _ h => h.elim) (fun X ce q9 u t H1 locs1 _ hvm _ hBX _ _ hS hce hcv hcl => ?_) (fun r u t H1 locs1 _ _ hw _ _ _ _ => hw.elim)
  have hBX : X = "java/lang/IllegalArgumentException" := hBX
  subst hBX
  refine vx_catch (name := "java/lang/IllegalArgumentException") hown [⟨0, 14, 17, 21⟩] ⟨0, 14, 21, 13⟩ [⟨0, 14, 25, 15⟩] htb (fun z hz => by
      simp only [List.mem_cons, List.not_mem_nil, or_false] at hz
      subst hz
      exact Or.inr ⟨by decide, "java/lang/IndexOutOfBoundsException", hts _ (by decide +kernel), hL.2.2.2.2 ("java/lang/IllegalArgumentException", "java/lang/IndexOutOfBoundsException") (by decide +kernel)⟩) (by decide) (by decide) (hts _ (by decide +kernel)) (va_Nw.use rfl (hL.2.1 "java/lang/IllegalArgumentException" (by decide +kernel))) hce hcv hcl ?_
  refine lv_astore (lv' := [(6, .ref q9), (0, .ref x), (1, .int v1), (2, .int v2), (3, .int v3), (4, .int v4), (5, .ref o)]) hx hb dL_sailor_21 hl (by decide) rfl (fun ls hl => ?_)
  refine lv_iconst (v := 2) hx hb dL_sailor_23 (by decide) ?_
  exact W.iret (v := 2) hx hb hr (fun t ht hW => ⟨⟨2, (), rfl, rfl, trivial⟩, hS.F ht⟩) hS.2.2 dL_sailor_24

set_option maxHeartbeats 4000000 in
set_option maxRecDepth 100000 in
theorem t_L_sailor3 (l : Launch) (hst : l.stackTraces = false) (D : va_G) (cI cL : ClassId) (x : Nat) (a b : Nat → Nat) (σ τ : zS) (o : Nat) (f : Nat → Int64) (v1 v2 v3 v4 : Int32) {nb ns h : Nat} (hC : zC σ nb ns h) (hw1 : ¬ v1 < 0) (hw2 : v1 < 3) (h1 : ¬ v2 < 0) (h2 : v2 ≤ 9) (h3 : ¬ v3 < 0) (h4 : v3 ≤ 20) (h5 : ¬ v4 < 0) (h6 : v4 ≤ 99) (h10 : ns = 10) : zHB l yL_sailor wsL_sailor ({ frames := 8, cells := 1, slots := 6, locals := 131 }) [.ref x, .int v1, .int v2, .int v3, .int v4, .ref o] D (zT2 cI cL) (zw_O cI cL x a b σ τ o f) 3 := by
  intro sz
  refine zk_ofWH (cc := cL_sailor) (maxL := 7) (ret := (some .int)) (by decide) rfl ?_
  intro p e s m args below meth c s₁ B hml hv
  obtain ⟨rfl, ⟨hsz, hP, hK, hD⟩, hL, hZ⟩ := hv
  have hx := B.exec
  have hb := B.bytes
  have hr := B.returns
  have hts := atoms_spec (ws := wsL_sailor) B.pre
  have hown : s.vm.findClass RL = some m.cls := findClass_of_methodNamed B.named
  have hS : va_S (fun _ => False) s.heap s.heap [] := va_S.rf
  have hP : va_P D vwCl ([] ++ (zw_X cI x a b σ τ ++ [(o, .inl (cL, 1, .inr (.inl f)))])) s.heap := hP
  have hD : va_D (fun _ => True) ([] ++ (zw_X cI x a b σ τ ++ [(o, .inl (cL, 1, .inr (.inl f)))])) := hD
  have hP2 := fr_P hP
  have hD2 := fr_D hD
  have hK2 : va_K D vwCl [(cI, .int)] s := hK.sub [0] rfl
  have hl := lv_entry ([.ref x, .int v1, .int v2, .int v3, .int v4, .ref o]) (n := 7) (Nat.le_of_ble_eq_true rfl)
  rw [lg_entry_eq]
  generalize (lg_sl ([.ref x, .int v1, .int v2, .int v3, .int v4, .ref o]) ++ List.replicate (7 - (lg_sl ([.ref x, .int v1, .int v2, .int v3, .int v4, .ref o])).length) Slot.unset).toArray = ls at hl ⊢
  have hl : lv_has ls 7 [(0, .ref x), (1, .int v1), (2, .int v2), (3, .int v3), (4, .int v4), (5, .ref o)] := hl
  have htb := vx_table (x := yL_sailor) B (hts _ List.mem_cons_self)
  refine lv_aload hx hb dL_sailor_0 (lv_at hl 5 rfl) ?_
  refine lv_iconst (v := 0) hx hb dL_sailor_2 (by decide) ?_
  refine lv_aload_n hx hb dL_sailor_3 rfl (lv_at hl 0 rfl) ?_
  refine lv_iload_n hx hb dL_sailor_4 rfl (lv_at hl 1 rfl) ?_
  refine lv_iload_n hx hb dL_sailor_5 rfl (lv_at hl 2 rfl) ?_
  refine lv_iload_n hx hb dL_sailor_6 rfl (lv_at hl 3 rfl) ?_
  refine lv_iload hx hb dL_sailor_7 (lv_at hl 4 rfl) ?_
  refine vx_calli (vx_runV (As := [.int v1, .int v2, .int v3, .int v4]) (rest := [.int 0, .ref o]) ⟨hx, hb, hml, hown, hts⟩ (t_X3_sailor3 l hst D cI x a b σ τ v1 v2 v3 v4 hC hw1 hw2 h1 h2 h3 h4 h5 h6 h10 _) (cwV 4 hts gL_sailor_X3_sailor rfl rfl rfl zdX3_sailor ⟨Nat.le_of_ble_eq_true rfl, Nat.le_of_ble_eq_true rfl⟩) ⟨zblX _, va_recv hK hP2 (ci := 3) (q0 := 0) rfl rfl, zprX (H0 := s.heap) hK2 hP2 hD2 hL hZ hS⟩ rfl rfl hl.1 rfl (lv_room (Nat.le_of_ble_eq_true rfl)) dL_sailor_9 ⟨Nat.le_of_ble_eq_true rfl, Nat.le_of_ble_eq_true rfl⟩) hS (fun q _ h => h.elim) (fun q h => h.elim) (fun q _ h => h.elim) (fun X ce q9 u t H1 locs1 _ hvm _ hBX _ _ hS hce hcv hcl => ?_) (fun r u t H1 locs1 _ _ hw _ _ _ _ => hw.elim)
  have hBX : X = "java/lang/IllegalStateException" := hBX
  subst hBX
  refine vx_catch (name := "java/lang/IllegalStateException") hown [⟨0, 14, 17, 21⟩, ⟨0, 14, 21, 13⟩] ⟨0, 14, 25, 15⟩ [] htb (fun z hz => by
      simp only [List.mem_cons, List.not_mem_nil, or_false] at hz
      rcases hz with rfl | rfl
      · exact Or.inr ⟨by decide, "java/lang/IndexOutOfBoundsException", hts _ (by decide +kernel), hL.2.2.2.2 ("java/lang/IllegalStateException", "java/lang/IndexOutOfBoundsException") (by decide +kernel)⟩
      · exact Or.inr ⟨by decide, "java/lang/IllegalArgumentException", hts _ (by decide +kernel), hL.2.2.2.2 ("java/lang/IllegalStateException", "java/lang/IllegalArgumentException") (by decide +kernel)⟩) (by decide) (by decide) (hts _ (by decide +kernel)) (va_Nw.use rfl (hL.2.1 "java/lang/IllegalStateException" (by decide +kernel))) hce hcv hcl ?_
  refine lv_astore (lv' := [(6, .ref q9), (0, .ref x), (1, .int v1), (2, .int v2), (3, .int v3), (4, .int v4), (5, .ref o)]) hx hb dL_sailor_25 hl (by decide) rfl (fun ls hl => ?_)
  refine lv_iconst (v := 3) hx hb dL_sailor_27 (by decide) ?_
  exact W.iret (v := 3) hx hb hr (fun t ht hW => ⟨⟨3, (), rfl, rfl, trivial⟩, hS.F ht⟩) hS.2.2 dL_sailor_28

set_option maxHeartbeats 4000000 in
set_option maxRecDepth 100000 in
theorem c_L_keep (l : Launch) (D : va_G) (cI cL : ClassId) (x : Nat) (a b : Nat → Nat) (σ τ : zS) (o : Nat) (f : Nat → Int64) {k : Nat} {nb ns h : Nat} (hC : zC σ nb ns h) (hk : k < ns) (v : Int32) (hv : v = -1 ∨ ∃ b9, b9 < nb ∧ v = nI b9) : zHO l yL_keep wsL_keep ({ frames := 3, cells := 0, slots := 0, locals := 65 }) [.ref x, .int (nI k), .int v, .ref o] D (zT2 cI cL) (zw_O cI cL x a b σ τ o f) (fun u => zw_O cI cL x a b (zs σ 11 k v) τ o (vp_updL f 0 (σ 11 k).toInt64)) := by
  intro sz
  refine zk_ofWH (cc := cL_keep) (maxL := 5) (ret := (some .int)) (by decide) rfl ?_
  intro p e s m args below meth c s₁ B hml hv
  obtain ⟨rfl, ⟨hsz, hP, hK, hD⟩, hL⟩ := hv
  have hx := B.exec
  have hb := B.bytes
  have hr := B.returns
  have hts := atoms_spec (ws := wsL_keep) B.pre
  have hown : s.vm.findClass RL = some m.cls := findClass_of_methodNamed B.named
  subst hsz
  have hD := hD.self (sz := s.heap.size)
  generalize hAe : va_A (zw_O cI cL x a b σ τ o f) s.heap.size = A at hD ⊢
  have hA : ∀ q : Nat, s.heap.size ≤ q → A q := fun q h => by rw [← hAe]; exact Or.inr h
  have hS : va_S A s.heap s.heap [] := va_S.rf
  have hP : va_P D vwCl ([] ++ (zw_X cI x a b σ τ ++ [(o, .inl (cL, 1, .inr (.inl f)))])) s.heap := hP
  have hD : va_D A ([] ++ (zw_X cI x a b σ τ ++ [(o, .inl (cL, 1, .inr (.inl f)))])) := hD
  have hP2 := fr_P hP
  have hD2 := fr_D hD
  have hK2 : va_K D vwCl [(cI, .int)] s := hK.sub [0] rfl
  have hl := lv_entry ([.ref x, .int (nI k), .int v, .ref o]) (n := 5) (Nat.le_of_ble_eq_true rfl)
  rw [lg_entry_eq]
  generalize (lg_sl ([.ref x, .int (nI k), .int v, .ref o]) ++ List.replicate (5 - (lg_sl ([.ref x, .int (nI k), .int v, .ref o])).length) Slot.unset).toArray = ls at hl ⊢
  have hl : lv_has ls 5 [(0, .ref x), (1, .int (nI k)), (2, .int v), (3, .ref o)] := hl
  refine lv_aload_n hx hb dL_keep_0 rfl (lv_at hl 3 rfl) ?_
  refine lv_iconst (v := 0) hx hb dL_keep_1 (by decide) ?_
  refine lv_aload_n hx hb dL_keep_2 rfl (lv_at hl 0 rfl) ?_
  refine lv_iload_n hx hb dL_keep_3 rfl (lv_at hl 1 rfl) ?_
  refine lv_iload_n hx hb dL_keep_4 rfl (lv_at hl 2 rfl) ?_
  have hF := zfree hD2 hS hA
  refine zk_I (va_runV (As := [.int (nI k), .int v]) (rest := [.int 0, .ref o]) ⟨hx, hb, hml, hown, hts⟩ (c_X3_keep l D cI x a b σ τ hC hk v hv _) (cwV 2 hts gL_keep_X3_keep rfl rfl rfl zdX3_keep ⟨Nat.le_of_ble_eq_true rfl, Nat.le_of_ble_eq_true rfl⟩) ⟨zbl _, va_recv hK hP2 (ci := 3) (q0 := 0) rfl rfl, zpr hK2 hP2 hD2⟩ rfl rfl hl.1 rfl (lv_room (Nat.le_of_ble_eq_true rfl)) dL_keep_5 ⟨Nat.zero_le _, Nat.zero_le _⟩) hS hF (fun r H1 locs1 hr9 hkp hP1 hD1 hS => ?_)
  obtain ⟨hP, hD⟩ := fr_J hP hD hkp hF hP1 hD1
  subst hr9
  refine lv_i2l hx hb dL_keep_8 rfl ?_
  refine va_last hx hb hK hP hD hS 41 1 rfl rfl vp_in01 dL_keep_9 (fun H locs hP hD hS => ?_)
  refine lv_goto (tgt := 17) hx hb dL_keep_10 (by decide) ?_
  refine lv_iconst (v := 0) hx hb dL_keep_17 (by decide) ?_
  exact W.iret (v := 0) hx hb hr (fun t ht hW => ⟨⟨0, τ, rfl, rfl, by rw [ht]; exact hP, va_K.moved hW.alike hK, hD⟩, hS.F ht⟩) hS.2.2 dL_keep_18

set_option maxHeartbeats 4000000 in
set_option maxRecDepth 100000 in
theorem t_L_keep1 (l : Launch) (hst : l.stackTraces = false) (D : va_G) (cI cL : ClassId) (x : Nat) (a b : Nat → Nat) (σ τ : zS) (o : Nat) (f : Nat → Int64) (v v2 : Int32) (hv : ¬ f_sail σ v) : zHB l yL_keep wsL_keep ({ frames := 8, cells := 1, slots := 6, locals := 126 }) [.ref x, .int v, .int v2, .ref o] D (zT2 cI cL) (zw_O cI cL x a b σ τ o f) 1 := by
  intro sz
  refine zk_ofWH (cc := cL_keep) (maxL := 5) (ret := (some .int)) (by decide) rfl ?_
  intro p e s m args below meth c s₁ B hml hv
  obtain ⟨rfl, ⟨hsz, hP, hK, hD⟩, hL, hZ⟩ := hv
  have hx := B.exec
  have hb := B.bytes
  have hr := B.returns
  have hts := atoms_spec (ws := wsL_keep) B.pre
  have hown : s.vm.findClass RL = some m.cls := findClass_of_methodNamed B.named
  have hS : va_S (fun _ => False) s.heap s.heap [] := va_S.rf
  have hP : va_P D vwCl ([] ++ (zw_X cI x a b σ τ ++ [(o, .inl (cL, 1, .inr (.inl f)))])) s.heap := hP
  have hD : va_D (fun _ => True) ([] ++ (zw_X cI x a b σ τ ++ [(o, .inl (cL, 1, .inr (.inl f)))])) := hD
  have hP2 := fr_P hP
  have hD2 := fr_D hD
  have hK2 : va_K D vwCl [(cI, .int)] s := hK.sub [0] rfl
  have hl := lv_entry ([.ref x, .int v, .int v2, .ref o]) (n := 5) (Nat.le_of_ble_eq_true rfl)
  rw [lg_entry_eq]
  generalize (lg_sl ([.ref x, .int v, .int v2, .ref o]) ++ List.replicate (5 - (lg_sl ([.ref x, .int v, .int v2, .ref o])).length) Slot.unset).toArray = ls at hl ⊢
  have hl : lv_has ls 5 [(0, .ref x), (1, .int v), (2, .int v2), (3, .ref o)] := hl
  have htb := vx_table (x := yL_keep) B (hts _ List.mem_cons_self)
  refine lv_aload_n hx hb dL_keep_0 rfl (lv_at hl 3 rfl) ?_
  refine lv_iconst (v := 0) hx hb dL_keep_1 (by decide) ?_
  refine lv_aload_n hx hb dL_keep_2 rfl (lv_at hl 0 rfl) ?_
  refine lv_iload_n hx hb dL_keep_3 rfl (lv_at hl 1 rfl) ?_
  refine lv_iload_n hx hb dL_keep_4 rfl (lv_at hl 2 rfl) ?_
  refine vx_calli (vx_runV (As := [.int v, .int v2]) (rest := [.int 0, .ref o]) ⟨hx, hb, hml, hown, hts⟩ (t_X3_keep1 l hst D cI x a b σ τ v v2 hv _) (cwV 2 hts gL_keep_X3_keep rfl rfl rfl zdX3_keep ⟨Nat.le_of_ble_eq_true rfl, Nat.le_of_ble_eq_true rfl⟩) ⟨zblX _, va_recv hK hP2 (ci := 3) (q0 := 0) rfl rfl, zprX (H0 := s.heap) hK2 hP2 hD2 hL hZ hS⟩ rfl rfl hl.1 rfl (lv_room (Nat.le_of_ble_eq_true rfl)) dL_keep_5 ⟨Nat.le_of_ble_eq_true rfl, Nat.le_of_ble_eq_true rfl⟩) hS (fun q _ h => h.elim) (fun q h => h.elim) (fun q _ h => h.elim) (fun X ce q9 u t H1 locs1 _ hvm _ hBX _ _ hS hce hcv hcl => ?_) (fun r u t H1 locs1 _ _ hw _ _ _ _ => hw.elim)
  have hBX : X = "java/lang/IndexOutOfBoundsException" := hBX
  subst hBX
  refine vx_catch (name := "java/lang/IndexOutOfBoundsException") hown [] ⟨0, 10, 13, 21⟩ [] htb (fun z hz => by cases hz) (by decide) (by decide) (hts _ (by decide +kernel)) (va_Nw.use rfl (hL.2.1 "java/lang/IndexOutOfBoundsException" (by decide +kernel))) hce hcv hcl ?_
  refine lv_astore (lv' := [(4, .ref q9), (0, .ref x), (1, .int v), (2, .int v2), (3, .ref o)]) hx hb dL_keep_13 hl (by decide) rfl (fun ls hl => ?_)
  refine lv_iconst (v := 1) hx hb dL_keep_15 (by decide) ?_
  exact W.iret (v := 1) hx hb hr (fun t ht hW => ⟨⟨1, (), rfl, rfl, trivial⟩, hS.F ht⟩) hS.2.2 dL_keep_16

set_option maxHeartbeats 4000000 in
set_option maxRecDepth 100000 in
theorem t_L_keep2 (l : Launch) (hst : l.stackTraces = false) (D : va_G) (cI cL : ClassId) (x : Nat) (a b : Nat → Nat) (σ τ : zS) (o : Nat) (f : Nat → Int64) {k : Nat} {nb ns h : Nat} (hC : zC σ nb ns h) (hk : k < ns) (v : Int32) (h1 : ¬ v = -1) (hv : ¬ f_has σ v) : zHB l yL_keep wsL_keep ({ frames := 8, cells := 1, slots := 6, locals := 126 }) [.ref x, .int (nI k), .int v, .ref o] D (zT2 cI cL) (zw_O cI cL x a b σ τ o f) 1 := by
  intro sz
  refine zk_ofWH (cc := cL_keep) (maxL := 5) (ret := (some .int)) (by decide) rfl ?_
  intro p e s m args below meth c s₁ B hml hv
  obtain ⟨rfl, ⟨hsz, hP, hK, hD⟩, hL, hZ⟩ := hv
  have hx := B.exec
  have hb := B.bytes
  have hr := B.returns
  have hts := atoms_spec (ws := wsL_keep) B.pre
  have hown : s.vm.findClass RL = some m.cls := findClass_of_methodNamed B.named
  have hS : va_S (fun _ => False) s.heap s.heap [] := va_S.rf
  have hP : va_P D vwCl ([] ++ (zw_X cI x a b σ τ ++ [(o, .inl (cL, 1, .inr (.inl f)))])) s.heap := hP
  have hD : va_D (fun _ => True) ([] ++ (zw_X cI x a b σ τ ++ [(o, .inl (cL, 1, .inr (.inl f)))])) := hD
  have hP2 := fr_P hP
  have hD2 := fr_D hD
  have hK2 : va_K D vwCl [(cI, .int)] s := hK.sub [0] rfl
  have hl := lv_entry ([.ref x, .int (nI k), .int v, .ref o]) (n := 5) (Nat.le_of_ble_eq_true rfl)
  rw [lg_entry_eq]
  generalize (lg_sl ([.ref x, .int (nI k), .int v, .ref o]) ++ List.replicate (5 - (lg_sl ([.ref x, .int (nI k), .int v, .ref o])).length) Slot.unset).toArray = ls at hl ⊢
  have hl : lv_has ls 5 [(0, .ref x), (1, .int (nI k)), (2, .int v), (3, .ref o)] := hl
  have htb := vx_table (x := yL_keep) B (hts _ List.mem_cons_self)
  refine lv_aload_n hx hb dL_keep_0 rfl (lv_at hl 3 rfl) ?_
  refine lv_iconst (v := 0) hx hb dL_keep_1 (by decide) ?_
  refine lv_aload_n hx hb dL_keep_2 rfl (lv_at hl 0 rfl) ?_
  refine lv_iload_n hx hb dL_keep_3 rfl (lv_at hl 1 rfl) ?_
  refine lv_iload_n hx hb dL_keep_4 rfl (lv_at hl 2 rfl) ?_
  refine vx_calli (vx_runV (As := [.int (nI k), .int v]) (rest := [.int 0, .ref o]) ⟨hx, hb, hml, hown, hts⟩ (t_X3_keep2 l hst D cI x a b σ τ hC hk v h1 hv _) (cwV 2 hts gL_keep_X3_keep rfl rfl rfl zdX3_keep ⟨Nat.le_of_ble_eq_true rfl, Nat.le_of_ble_eq_true rfl⟩) ⟨zblX _, va_recv hK hP2 (ci := 3) (q0 := 0) rfl rfl, zprX (H0 := s.heap) hK2 hP2 hD2 hL hZ hS⟩ rfl rfl hl.1 rfl (lv_room (Nat.le_of_ble_eq_true rfl)) dL_keep_5 ⟨Nat.le_of_ble_eq_true rfl, Nat.le_of_ble_eq_true rfl⟩) hS (fun q _ h => h.elim) (fun q h => h.elim) (fun q _ h => h.elim) (fun X ce q9 u t H1 locs1 _ hvm _ hBX _ _ hS hce hcv hcl => ?_) (fun r u t H1 locs1 _ _ hw _ _ _ _ => hw.elim)
  have hBX : X = "java/lang/IndexOutOfBoundsException" := hBX
  subst hBX
  refine vx_catch (name := "java/lang/IndexOutOfBoundsException") hown [] ⟨0, 10, 13, 21⟩ [] htb (fun z hz => by cases hz) (by decide) (by decide) (hts _ (by decide +kernel)) (va_Nw.use rfl (hL.2.1 "java/lang/IndexOutOfBoundsException" (by decide +kernel))) hce hcv hcl ?_
  refine lv_astore (lv' := [(4, .ref q9), (0, .ref x), (1, .int (nI k)), (2, .int v), (3, .ref o)]) hx hb dL_keep_13 hl (by decide) rfl (fun ls hl => ?_)
  refine lv_iconst (v := 1) hx hb dL_keep_15 (by decide) ?_
  exact W.iret (v := 1) hx hb hr (fun t ht hW => ⟨⟨1, (), rfl, rfl, trivial⟩, hS.F ht⟩) hS.2.2 dL_keep_16

set_option maxHeartbeats 4000000 in
set_option maxRecDepth 100000 in
theorem c_L_setBell (l : Launch) (D : va_G) (cI cL : ClassId) (x : Nat) (a b : Nat → Nat) (σ τ : zS) (o : Nat) (f : Nat → Int64) (v : Int32) (h1 : ¬ v < 0) (h2 : v ≤ 9) : zHO l yL_setBell wsL_setBell ({ frames := 1, cells := 0, slots := 0, locals := 22 }) [.ref x, .int v, .ref o] D (zT2 cI cL) (zw_O cI cL x a b σ τ o f) (fun u => zw_O cI cL x a b (zs σ 0 1 v) τ o (vp_updL f 0 (σ 0 1).toInt64)) := by
  intro sz
  refine zk_ofWH (cc := cL_setBell) (maxL := 4) (ret := (some .int)) (by decide) rfl ?_
  intro p e s m args below meth c s₁ B hml hv
  obtain ⟨rfl, ⟨hsz, hP, hK, hD⟩, hL⟩ := hv
  have hx := B.exec
  have hb := B.bytes
  have hr := B.returns
  have hts := atoms_spec (ws := wsL_setBell) B.pre
  have hown : s.vm.findClass RL = some m.cls := findClass_of_methodNamed B.named
  subst hsz
  have hD := hD.self (sz := s.heap.size)
  generalize hAe : va_A (zw_O cI cL x a b σ τ o f) s.heap.size = A at hD ⊢
  have hA : ∀ q : Nat, s.heap.size ≤ q → A q := fun q h => by rw [← hAe]; exact Or.inr h
  have hS : va_S A s.heap s.heap [] := va_S.rf
  have hP : va_P D vwCl ([] ++ (zw_X cI x a b σ τ ++ [(o, .inl (cL, 1, .inr (.inl f)))])) s.heap := hP
  have hD : va_D A ([] ++ (zw_X cI x a b σ τ ++ [(o, .inl (cL, 1, .inr (.inl f)))])) := hD
  have hP2 := fr_P hP
  have hD2 := fr_D hD
  have hK2 : va_K D vwCl [(cI, .int)] s := hK.sub [0] rfl
  have hl := lv_entry ([.ref x, .int v, .ref o]) (n := 4) (Nat.le_of_ble_eq_true rfl)
  rw [lg_entry_eq]
  generalize (lg_sl ([.ref x, .int v, .ref o]) ++ List.replicate (4 - (lg_sl ([.ref x, .int v, .ref o])).length) Slot.unset).toArray = ls at hl ⊢
  have hl : lv_has ls 4 [(0, .ref x), (1, .int v), (2, .ref o)] := hl
  refine lv_aload_n hx hb dL_setBell_0 rfl (lv_at hl 2 rfl) ?_
  refine lv_iconst (v := 0) hx hb dL_setBell_1 (by decide) ?_
  refine lv_aload_n hx hb dL_setBell_2 rfl (lv_at hl 0 rfl) ?_
  refine lv_iload_n hx hb dL_setBell_3 rfl (lv_at hl 1 rfl) ?_
  have hF := zfree hD2 hS hA
  refine zk_I (va_runV (As := [.int v]) (rest := [.int 0, .ref o]) ⟨hx, hb, hml, hown, hts⟩ (c_X3_setBell l D cI x a b σ τ v h1 h2 _) (cwV 1 hts gL_setBell_X3_setBell rfl rfl rfl zdX3_setBell ⟨Nat.le_of_ble_eq_true rfl, Nat.le_of_ble_eq_true rfl⟩) ⟨zbl _, va_recv hK hP2 (ci := 3) (q0 := 0) rfl rfl, zpr hK2 hP2 hD2⟩ rfl rfl hl.1 rfl (lv_room (Nat.le_of_ble_eq_true rfl)) dL_setBell_4 ⟨Nat.zero_le _, Nat.zero_le _⟩) hS hF (fun r H1 locs1 hr9 hkp hP1 hD1 hS => ?_)
  obtain ⟨hP, hD⟩ := fr_J hP hD hkp hF hP1 hD1
  subst hr9
  refine lv_i2l hx hb dL_setBell_7 rfl ?_
  refine va_last hx hb hK hP hD hS 41 1 rfl rfl vp_in01 dL_setBell_8 (fun H locs hP hD hS => ?_)
  refine lv_goto (tgt := 15) hx hb dL_setBell_9 (by decide) ?_
  refine lv_iconst (v := 0) hx hb dL_setBell_15 (by decide) ?_
  exact W.iret (v := 0) hx hb hr (fun t ht hW => ⟨⟨0, τ, rfl, rfl, by rw [ht]; exact hP, va_K.moved hW.alike hK, hD⟩, hS.F ht⟩) hS.2.2 dL_setBell_16

set_option maxHeartbeats 4000000 in
set_option maxRecDepth 100000 in
theorem t_L_setBell (l : Launch) (hst : l.stackTraces = false) (D : va_G) (cI cL : ClassId) (x : Nat) (a b : Nat → Nat) (σ τ : zS) (o : Nat) (f : Nat → Int64) (v : Int32) (hv : ¬ (¬ v < 0 ∧ v ≤ 9)) : zHB l yL_setBell wsL_setBell ({ frames := 7, cells := 1, slots := 6, locals := 104 }) [.ref x, .int v, .ref o] D (zT2 cI cL) (zw_O cI cL x a b σ τ o f) 1 := by
  intro sz
  refine zk_ofWH (cc := cL_setBell) (maxL := 4) (ret := (some .int)) (by decide) rfl ?_
  intro p e s m args below meth c s₁ B hml hv
  obtain ⟨rfl, ⟨hsz, hP, hK, hD⟩, hL, hZ⟩ := hv
  have hx := B.exec
  have hb := B.bytes
  have hr := B.returns
  have hts := atoms_spec (ws := wsL_setBell) B.pre
  have hown : s.vm.findClass RL = some m.cls := findClass_of_methodNamed B.named
  have hS : va_S (fun _ => False) s.heap s.heap [] := va_S.rf
  have hP : va_P D vwCl ([] ++ (zw_X cI x a b σ τ ++ [(o, .inl (cL, 1, .inr (.inl f)))])) s.heap := hP
  have hD : va_D (fun _ => True) ([] ++ (zw_X cI x a b σ τ ++ [(o, .inl (cL, 1, .inr (.inl f)))])) := hD
  have hP2 := fr_P hP
  have hD2 := fr_D hD
  have hK2 : va_K D vwCl [(cI, .int)] s := hK.sub [0] rfl
  have hl := lv_entry ([.ref x, .int v, .ref o]) (n := 4) (Nat.le_of_ble_eq_true rfl)
  rw [lg_entry_eq]
  generalize (lg_sl ([.ref x, .int v, .ref o]) ++ List.replicate (4 - (lg_sl ([.ref x, .int v, .ref o])).length) Slot.unset).toArray = ls at hl ⊢
  have hl : lv_has ls 4 [(0, .ref x), (1, .int v), (2, .ref o)] := hl
  have htb := vx_table (x := yL_setBell) B (hts _ List.mem_cons_self)
  refine lv_aload_n hx hb dL_setBell_0 rfl (lv_at hl 2 rfl) ?_
  refine lv_iconst (v := 0) hx hb dL_setBell_1 (by decide) ?_
  refine lv_aload_n hx hb dL_setBell_2 rfl (lv_at hl 0 rfl) ?_
  refine lv_iload_n hx hb dL_setBell_3 rfl (lv_at hl 1 rfl) ?_
  refine vx_calli (vx_runV (As := [.int v]) (rest := [.int 0, .ref o]) ⟨hx, hb, hml, hown, hts⟩ (t_X3_setBell l hst D cI x a b σ τ v hv _) (cwV 1 hts gL_setBell_X3_setBell rfl rfl rfl zdX3_setBell ⟨Nat.le_of_ble_eq_true rfl, Nat.le_of_ble_eq_true rfl⟩) ⟨zblX _, va_recv hK hP2 (ci := 3) (q0 := 0) rfl rfl, zprX (H0 := s.heap) hK2 hP2 hD2 hL hZ hS⟩ rfl rfl hl.1 rfl (lv_room (Nat.le_of_ble_eq_true rfl)) dL_setBell_4 ⟨Nat.le_of_ble_eq_true rfl, Nat.le_of_ble_eq_true rfl⟩) hS (fun q _ h => h.elim) (fun q h => h.elim) (fun q _ h => h.elim) (fun X ce q9 u t H1 locs1 _ hvm _ hBX _ _ hS hce hcv hcl => ?_) (fun r u t H1 locs1 _ _ hw _ _ _ _ => hw.elim)
  have hBX : X = "java/lang/IllegalArgumentException" := hBX
  subst hBX
  refine vx_catch (name := "java/lang/IllegalArgumentException") hown [] ⟨0, 9, 12, 13⟩ [] htb (fun z hz => by cases hz) (by decide) (by decide) (hts _ (by decide +kernel)) (va_Nw.use rfl (hL.2.1 "java/lang/IllegalArgumentException" (by decide +kernel))) hce hcv hcl ?_
  refine lv_astore_n (lv' := [(3, .ref q9), (0, .ref x), (1, .int v), (2, .ref o)]) hx hb dL_setBell_12 rfl hl (by decide) rfl (fun ls hl => ?_)
  refine lv_iconst (v := 1) hx hb dL_setBell_13 (by decide) ?_
  exact W.iret (v := 1) hx hb hr (fun t ht hW => ⟨⟨1, (), rfl, rfl, trivial⟩, hS.F ht⟩) hS.2.2 dL_setBell_14

set_option maxHeartbeats 4000000 in
set_option maxRecDepth 100000 in
theorem c_L_setPawn (l : Launch) (D : va_G) (cI cL : ClassId) (x : Nat) (a b : Nat → Nat) (σ τ : zS) (o : Nat) (f : Nat → Int64) (v : Int32) (h1 : ¬ v < 1) (h2 : v ≤ 20) : zHO l yL_setPawn wsL_setPawn ({ frames := 1, cells := 0, slots := 0, locals := 22 }) [.ref x, .int v, .ref o] D (zT2 cI cL) (zw_O cI cL x a b σ τ o f) (fun u => zw_O cI cL x a b (zs σ 0 2 v) τ o (vp_updL f 0 (σ 0 2).toInt64)) := by
  intro sz
  refine zk_ofWH (cc := cL_setPawn) (maxL := 4) (ret := (some .int)) (by decide) rfl ?_
  intro p e s m args below meth c s₁ B hml hv
  obtain ⟨rfl, ⟨hsz, hP, hK, hD⟩, hL⟩ := hv
  have hx := B.exec
  have hb := B.bytes
  have hr := B.returns
  have hts := atoms_spec (ws := wsL_setPawn) B.pre
  have hown : s.vm.findClass RL = some m.cls := findClass_of_methodNamed B.named
  subst hsz
  have hD := hD.self (sz := s.heap.size)
  generalize hAe : va_A (zw_O cI cL x a b σ τ o f) s.heap.size = A at hD ⊢
  have hA : ∀ q : Nat, s.heap.size ≤ q → A q := fun q h => by rw [← hAe]; exact Or.inr h
  have hS : va_S A s.heap s.heap [] := va_S.rf
  have hP : va_P D vwCl ([] ++ (zw_X cI x a b σ τ ++ [(o, .inl (cL, 1, .inr (.inl f)))])) s.heap := hP
  have hD : va_D A ([] ++ (zw_X cI x a b σ τ ++ [(o, .inl (cL, 1, .inr (.inl f)))])) := hD
  have hP2 := fr_P hP
  have hD2 := fr_D hD
  have hK2 : va_K D vwCl [(cI, .int)] s := hK.sub [0] rfl
  have hl := lv_entry ([.ref x, .int v, .ref o]) (n := 4) (Nat.le_of_ble_eq_true rfl)
  rw [lg_entry_eq]
  generalize (lg_sl ([.ref x, .int v, .ref o]) ++ List.replicate (4 - (lg_sl ([.ref x, .int v, .ref o])).length) Slot.unset).toArray = ls at hl ⊢
  have hl : lv_has ls 4 [(0, .ref x), (1, .int v), (2, .ref o)] := hl
  refine lv_aload_n hx hb dL_setPawn_0 rfl (lv_at hl 2 rfl) ?_
  refine lv_iconst (v := 0) hx hb dL_setPawn_1 (by decide) ?_
  refine lv_aload_n hx hb dL_setPawn_2 rfl (lv_at hl 0 rfl) ?_
  refine lv_iload_n hx hb dL_setPawn_3 rfl (lv_at hl 1 rfl) ?_
  have hF := zfree hD2 hS hA
  refine zk_I (va_runV (As := [.int v]) (rest := [.int 0, .ref o]) ⟨hx, hb, hml, hown, hts⟩ (c_X3_setPawn l D cI x a b σ τ v h1 h2 _) (cwV 1 hts gL_setPawn_X3_setPawn rfl rfl rfl zdX3_setPawn ⟨Nat.le_of_ble_eq_true rfl, Nat.le_of_ble_eq_true rfl⟩) ⟨zbl _, va_recv hK hP2 (ci := 3) (q0 := 0) rfl rfl, zpr hK2 hP2 hD2⟩ rfl rfl hl.1 rfl (lv_room (Nat.le_of_ble_eq_true rfl)) dL_setPawn_4 ⟨Nat.zero_le _, Nat.zero_le _⟩) hS hF (fun r H1 locs1 hr9 hkp hP1 hD1 hS => ?_)
  obtain ⟨hP, hD⟩ := fr_J hP hD hkp hF hP1 hD1
  subst hr9
  refine lv_i2l hx hb dL_setPawn_7 rfl ?_
  refine va_last hx hb hK hP hD hS 41 1 rfl rfl vp_in01 dL_setPawn_8 (fun H locs hP hD hS => ?_)
  refine lv_goto (tgt := 15) hx hb dL_setPawn_9 (by decide) ?_
  refine lv_iconst (v := 0) hx hb dL_setPawn_15 (by decide) ?_
  exact W.iret (v := 0) hx hb hr (fun t ht hW => ⟨⟨0, τ, rfl, rfl, by rw [ht]; exact hP, va_K.moved hW.alike hK, hD⟩, hS.F ht⟩) hS.2.2 dL_setPawn_16

set_option maxHeartbeats 4000000 in
set_option maxRecDepth 100000 in
theorem t_L_setPawn (l : Launch) (hst : l.stackTraces = false) (D : va_G) (cI cL : ClassId) (x : Nat) (a b : Nat → Nat) (σ τ : zS) (o : Nat) (f : Nat → Int64) (v : Int32) (hv : ¬ (¬ v < 1 ∧ v ≤ 20)) : zHB l yL_setPawn wsL_setPawn ({ frames := 7, cells := 1, slots := 6, locals := 104 }) [.ref x, .int v, .ref o] D (zT2 cI cL) (zw_O cI cL x a b σ τ o f) 1 := by
  intro sz
  refine zk_ofWH (cc := cL_setPawn) (maxL := 4) (ret := (some .int)) (by decide) rfl ?_
  intro p e s m args below meth c s₁ B hml hv
  obtain ⟨rfl, ⟨hsz, hP, hK, hD⟩, hL, hZ⟩ := hv
  have hx := B.exec
  have hb := B.bytes
  have hr := B.returns
  have hts := atoms_spec (ws := wsL_setPawn) B.pre
  have hown : s.vm.findClass RL = some m.cls := findClass_of_methodNamed B.named
  have hS : va_S (fun _ => False) s.heap s.heap [] := va_S.rf
  have hP : va_P D vwCl ([] ++ (zw_X cI x a b σ τ ++ [(o, .inl (cL, 1, .inr (.inl f)))])) s.heap := hP
  have hD : va_D (fun _ => True) ([] ++ (zw_X cI x a b σ τ ++ [(o, .inl (cL, 1, .inr (.inl f)))])) := hD
  have hP2 := fr_P hP
  have hD2 := fr_D hD
  have hK2 : va_K D vwCl [(cI, .int)] s := hK.sub [0] rfl
  have hl := lv_entry ([.ref x, .int v, .ref o]) (n := 4) (Nat.le_of_ble_eq_true rfl)
  rw [lg_entry_eq]
  generalize (lg_sl ([.ref x, .int v, .ref o]) ++ List.replicate (4 - (lg_sl ([.ref x, .int v, .ref o])).length) Slot.unset).toArray = ls at hl ⊢
  have hl : lv_has ls 4 [(0, .ref x), (1, .int v), (2, .ref o)] := hl
  have htb := vx_table (x := yL_setPawn) B (hts _ List.mem_cons_self)
  refine lv_aload_n hx hb dL_setPawn_0 rfl (lv_at hl 2 rfl) ?_
  refine lv_iconst (v := 0) hx hb dL_setPawn_1 (by decide) ?_
  refine lv_aload_n hx hb dL_setPawn_2 rfl (lv_at hl 0 rfl) ?_
  refine lv_iload_n hx hb dL_setPawn_3 rfl (lv_at hl 1 rfl) ?_
  refine vx_calli (vx_runV (As := [.int v]) (rest := [.int 0, .ref o]) ⟨hx, hb, hml, hown, hts⟩ (t_X3_setPawn l hst D cI x a b σ τ v hv _) (cwV 1 hts gL_setPawn_X3_setPawn rfl rfl rfl zdX3_setPawn ⟨Nat.le_of_ble_eq_true rfl, Nat.le_of_ble_eq_true rfl⟩) ⟨zblX _, va_recv hK hP2 (ci := 3) (q0 := 0) rfl rfl, zprX (H0 := s.heap) hK2 hP2 hD2 hL hZ hS⟩ rfl rfl hl.1 rfl (lv_room (Nat.le_of_ble_eq_true rfl)) dL_setPawn_4 ⟨Nat.le_of_ble_eq_true rfl, Nat.le_of_ble_eq_true rfl⟩) hS (fun q _ h => h.elim) (fun q h => h.elim) (fun q _ h => h.elim) (fun X ce q9 u t H1 locs1 _ hvm _ hBX _ _ hS hce hcv hcl => ?_) (fun r u t H1 locs1 _ _ hw _ _ _ _ => hw.elim)
  have hBX : X = "java/lang/IllegalArgumentException" := hBX
  subst hBX
  refine vx_catch (name := "java/lang/IllegalArgumentException") hown [] ⟨0, 9, 12, 13⟩ [] htb (fun z hz => by cases hz) (by decide) (by decide) (hts _ (by decide +kernel)) (va_Nw.use rfl (hL.2.1 "java/lang/IllegalArgumentException" (by decide +kernel))) hce hcv hcl ?_
  refine lv_astore_n (lv' := [(3, .ref q9), (0, .ref x), (1, .int v), (2, .ref o)]) hx hb dL_setPawn_12 rfl hl (by decide) rfl (fun ls hl => ?_)
  refine lv_iconst (v := 1) hx hb dL_setPawn_13 (by decide) ?_
  exact W.iret (v := 1) hx hb hr (fun t ht hW => ⟨⟨1, (), rfl, rfl, trivial⟩, hS.F ht⟩) hS.2.2 dL_setPawn_14

set_option maxHeartbeats 4000000 in
set_option maxRecDepth 100000 in
theorem c_L_give (l : Launch) (D : va_G) (cI cL : ClassId) (x : Nat) (a b : Nat → Nat) (σ τ : zS) (o : Nat) (f : Nat → Int64) {k : Nat} {nb ns h : Nat} (hC : zC σ nb ns h) (hk : k < ns) (v : Int32) (h1 : ¬ v < 1) (h2 : v ≤ 99) : zHO l yL_give wsL_give ({ frames := 3, cells := 0, slots := 0, locals := 59 }) [.ref x, .int (nI k), .int v, .ref o] D (zT2 cI cL) (zw_O cI cL x a b σ τ o f) (fun u => zw_O cI cL x a b (f_earn σ k v) τ o (vp_updL f 0 ((f_earn σ k v) 9 k).toInt64)) := by
  intro sz
  refine zk_ofWH (cc := cL_give) (maxL := 5) (ret := (some .int)) (by decide) rfl ?_
  intro p e s m args below meth c s₁ B hml hv
  obtain ⟨rfl, ⟨hsz, hP, hK, hD⟩, hL⟩ := hv
  have hx := B.exec
  have hb := B.bytes
  have hr := B.returns
  have hts := atoms_spec (ws := wsL_give) B.pre
  have hown : s.vm.findClass RL = some m.cls := findClass_of_methodNamed B.named
  subst hsz
  have hD := hD.self (sz := s.heap.size)
  generalize hAe : va_A (zw_O cI cL x a b σ τ o f) s.heap.size = A at hD ⊢
  have hA : ∀ q : Nat, s.heap.size ≤ q → A q := fun q h => by rw [← hAe]; exact Or.inr h
  have hS : va_S A s.heap s.heap [] := va_S.rf
  have hP : va_P D vwCl ([] ++ (zw_X cI x a b σ τ ++ [(o, .inl (cL, 1, .inr (.inl f)))])) s.heap := hP
  have hD : va_D A ([] ++ (zw_X cI x a b σ τ ++ [(o, .inl (cL, 1, .inr (.inl f)))])) := hD
  have hP2 := fr_P hP
  have hD2 := fr_D hD
  have hK2 : va_K D vwCl [(cI, .int)] s := hK.sub [0] rfl
  have hl := lv_entry ([.ref x, .int (nI k), .int v, .ref o]) (n := 5) (Nat.le_of_ble_eq_true rfl)
  rw [lg_entry_eq]
  generalize (lg_sl ([.ref x, .int (nI k), .int v, .ref o]) ++ List.replicate (5 - (lg_sl ([.ref x, .int (nI k), .int v, .ref o])).length) Slot.unset).toArray = ls at hl ⊢
  have hl : lv_has ls 5 [(0, .ref x), (1, .int (nI k)), (2, .int v), (3, .ref o)] := hl
  refine lv_aload_n hx hb dL_give_0 rfl (lv_at hl 3 rfl) ?_
  refine lv_iconst (v := 0) hx hb dL_give_1 (by decide) ?_
  refine lv_aload_n hx hb dL_give_2 rfl (lv_at hl 0 rfl) ?_
  refine lv_iload_n hx hb dL_give_3 rfl (lv_at hl 1 rfl) ?_
  refine lv_iload_n hx hb dL_give_4 rfl (lv_at hl 2 rfl) ?_
  have hF := zfree hD2 hS hA
  refine zk_I (va_runV (As := [.int (nI k), .int v]) (rest := [.int 0, .ref o]) ⟨hx, hb, hml, hown, hts⟩ (c_X3_give l D cI x a b σ τ hC hk v h1 h2 _) (cwV 2 hts gL_give_X3_give rfl rfl rfl zdX3_give ⟨Nat.le_of_ble_eq_true rfl, Nat.le_of_ble_eq_true rfl⟩) ⟨zbl _, va_recv hK hP2 (ci := 3) (q0 := 0) rfl rfl, zpr hK2 hP2 hD2⟩ rfl rfl hl.1 rfl (lv_room (Nat.le_of_ble_eq_true rfl)) dL_give_5 ⟨Nat.zero_le _, Nat.zero_le _⟩) hS hF (fun r H1 locs1 hr9 hkp hP1 hD1 hS => ?_)
  obtain ⟨hP, hD⟩ := fr_J hP hD hkp hF hP1 hD1
  subst hr9
  refine lv_i2l hx hb dL_give_8 rfl ?_
  refine va_last hx hb hK hP hD hS 41 1 rfl rfl vp_in01 dL_give_9 (fun H locs hP hD hS => ?_)
  refine lv_goto (tgt := 21) hx hb dL_give_10 (by decide) ?_
  refine lv_iconst (v := 0) hx hb dL_give_21 (by decide) ?_
  exact W.iret (v := 0) hx hb hr (fun t ht hW => ⟨⟨0, τ, rfl, rfl, by rw [ht]; exact hP, va_K.moved hW.alike hK, hD⟩, hS.F ht⟩) hS.2.2 dL_give_22

set_option maxHeartbeats 4000000 in
set_option maxRecDepth 100000 in
theorem t_L_give1 (l : Launch) (hst : l.stackTraces = false) (D : va_G) (cI cL : ClassId) (x : Nat) (a b : Nat → Nat) (σ τ : zS) (o : Nat) (f : Nat → Int64) (v v2 : Int32) (hv : ¬ f_sail σ v) : zHB l yL_give wsL_give ({ frames := 8, cells := 1, slots := 6, locals := 125 }) [.ref x, .int v, .int v2, .ref o] D (zT2 cI cL) (zw_O cI cL x a b σ τ o f) 1 := by
  intro sz
  refine zk_ofWH (cc := cL_give) (maxL := 5) (ret := (some .int)) (by decide) rfl ?_
  intro p e s m args below meth c s₁ B hml hv
  obtain ⟨rfl, ⟨hsz, hP, hK, hD⟩, hL, hZ⟩ := hv
  have hx := B.exec
  have hb := B.bytes
  have hr := B.returns
  have hts := atoms_spec (ws := wsL_give) B.pre
  have hown : s.vm.findClass RL = some m.cls := findClass_of_methodNamed B.named
  have hS : va_S (fun _ => False) s.heap s.heap [] := va_S.rf
  have hP : va_P D vwCl ([] ++ (zw_X cI x a b σ τ ++ [(o, .inl (cL, 1, .inr (.inl f)))])) s.heap := hP
  have hD : va_D (fun _ => True) ([] ++ (zw_X cI x a b σ τ ++ [(o, .inl (cL, 1, .inr (.inl f)))])) := hD
  have hP2 := fr_P hP
  have hD2 := fr_D hD
  have hK2 : va_K D vwCl [(cI, .int)] s := hK.sub [0] rfl
  have hl := lv_entry ([.ref x, .int v, .int v2, .ref o]) (n := 5) (Nat.le_of_ble_eq_true rfl)
  rw [lg_entry_eq]
  generalize (lg_sl ([.ref x, .int v, .int v2, .ref o]) ++ List.replicate (5 - (lg_sl ([.ref x, .int v, .int v2, .ref o])).length) Slot.unset).toArray = ls at hl ⊢
  have hl : lv_has ls 5 [(0, .ref x), (1, .int v), (2, .int v2), (3, .ref o)] := hl
  have htb := vx_table (x := yL_give) B (hts _ List.mem_cons_self)
  refine lv_aload_n hx hb dL_give_0 rfl (lv_at hl 3 rfl) ?_
  refine lv_iconst (v := 0) hx hb dL_give_1 (by decide) ?_
  refine lv_aload_n hx hb dL_give_2 rfl (lv_at hl 0 rfl) ?_
  refine lv_iload_n hx hb dL_give_3 rfl (lv_at hl 1 rfl) ?_
  refine lv_iload_n hx hb dL_give_4 rfl (lv_at hl 2 rfl) ?_
  refine vx_calli (vx_runV (As := [.int v, .int v2]) (rest := [.int 0, .ref o]) ⟨hx, hb, hml, hown, hts⟩ (t_X3_give1 l hst D cI x a b σ τ v v2 hv _) (cwV 2 hts gL_give_X3_give rfl rfl rfl zdX3_give ⟨Nat.le_of_ble_eq_true rfl, Nat.le_of_ble_eq_true rfl⟩) ⟨zblX _, va_recv hK hP2 (ci := 3) (q0 := 0) rfl rfl, zprX (H0 := s.heap) hK2 hP2 hD2 hL hZ hS⟩ rfl rfl hl.1 rfl (lv_room (Nat.le_of_ble_eq_true rfl)) dL_give_5 ⟨Nat.le_of_ble_eq_true rfl, Nat.le_of_ble_eq_true rfl⟩) hS (fun q _ h => h.elim) (fun q h => h.elim) (fun q _ h => h.elim) (fun X ce q9 u t H1 locs1 _ hvm _ hBX _ _ hS hce hcv hcl => ?_) (fun r u t H1 locs1 _ _ hw _ _ _ _ => hw.elim)
  have hBX : X = "java/lang/IndexOutOfBoundsException" := hBX
  subst hBX
  refine vx_catch (name := "java/lang/IndexOutOfBoundsException") hown [] ⟨0, 10, 13, 21⟩ [⟨0, 10, 17, 13⟩] htb (fun z hz => by cases hz) (by decide) (by decide) (hts _ (by decide +kernel)) (va_Nw.use rfl (hL.2.1 "java/lang/IndexOutOfBoundsException" (by decide +kernel))) hce hcv hcl ?_
  refine lv_astore (lv' := [(4, .ref q9), (0, .ref x), (1, .int v), (2, .int v2), (3, .ref o)]) hx hb dL_give_13 hl (by decide) rfl (fun ls hl => ?_)
  refine lv_iconst (v := 1) hx hb dL_give_15 (by decide) ?_
  exact W.iret (v := 1) hx hb hr (fun t ht hW => ⟨⟨1, (), rfl, rfl, trivial⟩, hS.F ht⟩) hS.2.2 dL_give_16

set_option maxHeartbeats 4000000 in
set_option maxRecDepth 100000 in
theorem t_L_give2 (l : Launch) (hst : l.stackTraces = false) (D : va_G) (cI cL : ClassId) (x : Nat) (a b : Nat → Nat) (σ τ : zS) (o : Nat) (f : Nat → Int64) {k : Nat} {nb ns h : Nat} (hC : zC σ nb ns h) (hk : k < ns) (v : Int32) (hv : ¬ (¬ v < 1 ∧ v ≤ 99)) : zHB l yL_give wsL_give ({ frames := 7, cells := 1, slots := 6, locals := 104 }) [.ref x, .int (nI k), .int v, .ref o] D (zT2 cI cL) (zw_O cI cL x a b σ τ o f) 2 := by
  intro sz
  refine zk_ofWH (cc := cL_give) (maxL := 5) (ret := (some .int)) (by decide) rfl ?_
  intro p e s m args below meth c s₁ B hml hv
  obtain ⟨rfl, ⟨hsz, hP, hK, hD⟩, hL, hZ⟩ := hv
  have hx := B.exec
  have hb := B.bytes
  have hr := B.returns
  have hts := atoms_spec (ws := wsL_give) B.pre
  have hown : s.vm.findClass RL = some m.cls := findClass_of_methodNamed B.named
  have hS : va_S (fun _ => False) s.heap s.heap [] := va_S.rf
  have hP : va_P D vwCl ([] ++ (zw_X cI x a b σ τ ++ [(o, .inl (cL, 1, .inr (.inl f)))])) s.heap := hP
  have hD : va_D (fun _ => True) ([] ++ (zw_X cI x a b σ τ ++ [(o, .inl (cL, 1, .inr (.inl f)))])) := hD
  have hP2 := fr_P hP
  have hD2 := fr_D hD
  have hK2 : va_K D vwCl [(cI, .int)] s := hK.sub [0] rfl
  have hl := lv_entry ([.ref x, .int (nI k), .int v, .ref o]) (n := 5) (Nat.le_of_ble_eq_true rfl)
  rw [lg_entry_eq]
  generalize (lg_sl ([.ref x, .int (nI k), .int v, .ref o]) ++ List.replicate (5 - (lg_sl ([.ref x, .int (nI k), .int v, .ref o])).length) Slot.unset).toArray = ls at hl ⊢
  have hl : lv_has ls 5 [(0, .ref x), (1, .int (nI k)), (2, .int v), (3, .ref o)] := hl
  have htb := vx_table (x := yL_give) B (hts _ List.mem_cons_self)
  refine lv_aload_n hx hb dL_give_0 rfl (lv_at hl 3 rfl) ?_
  refine lv_iconst (v := 0) hx hb dL_give_1 (by decide) ?_
  refine lv_aload_n hx hb dL_give_2 rfl (lv_at hl 0 rfl) ?_
  refine lv_iload_n hx hb dL_give_3 rfl (lv_at hl 1 rfl) ?_
  refine lv_iload_n hx hb dL_give_4 rfl (lv_at hl 2 rfl) ?_
  refine vx_calli (vx_runV (As := [.int (nI k), .int v]) (rest := [.int 0, .ref o]) ⟨hx, hb, hml, hown, hts⟩ (t_X3_give2 l hst D cI x a b σ τ hC hk v hv _) (cwV 2 hts gL_give_X3_give rfl rfl rfl zdX3_give ⟨Nat.le_of_ble_eq_true rfl, Nat.le_of_ble_eq_true rfl⟩) ⟨zblX _, va_recv hK hP2 (ci := 3) (q0 := 0) rfl rfl, zprX (H0 := s.heap) hK2 hP2 hD2 hL hZ hS⟩ rfl rfl hl.1 rfl (lv_room (Nat.le_of_ble_eq_true rfl)) dL_give_5 ⟨Nat.le_of_ble_eq_true rfl, Nat.le_of_ble_eq_true rfl⟩) hS (fun q _ h => h.elim) (fun q h => h.elim) (fun q _ h => h.elim) (fun X ce q9 u t H1 locs1 _ hvm _ hBX _ _ hS hce hcv hcl => ?_) (fun r u t H1 locs1 _ _ hw _ _ _ _ => hw.elim)
  have hBX : X = "java/lang/IllegalArgumentException" := hBX
  subst hBX
  refine vx_catch (name := "java/lang/IllegalArgumentException") hown [⟨0, 10, 13, 21⟩] ⟨0, 10, 17, 13⟩ [] htb (fun z hz => by
      simp only [List.mem_cons, List.not_mem_nil, or_false] at hz
      subst hz
      exact Or.inr ⟨by decide, "java/lang/IndexOutOfBoundsException", hts _ (by decide +kernel), hL.2.2.2.2 ("java/lang/IllegalArgumentException", "java/lang/IndexOutOfBoundsException") (by decide +kernel)⟩) (by decide) (by decide) (hts _ (by decide +kernel)) (va_Nw.use rfl (hL.2.1 "java/lang/IllegalArgumentException" (by decide +kernel))) hce hcv hcl ?_
  refine lv_astore (lv' := [(4, .ref q9), (0, .ref x), (1, .int (nI k)), (2, .int v), (3, .ref o)]) hx hb dL_give_17 hl (by decide) rfl (fun ls hl => ?_)
  refine lv_iconst (v := 2) hx hb dL_give_19 (by decide) ?_
  exact W.iret (v := 2) hx hb hr (fun t ht hW => ⟨⟨2, (), rfl, rfl, trivial⟩, hS.F ht⟩) hS.2.2 dL_give_20

set_option maxHeartbeats 4000000 in
set_option maxRecDepth 100000 in
theorem c_L_pawn (l : Launch) (D : va_G) (cI cL : ClassId) (x : Nat) (a b : Nat → Nat) (σ τ : zS) (o : Nat) (f : Nat → Int64) {k : Nat} {nb ns h : Nat} (hC : zC σ nb ns h) (hk : k < ns) (hbo : σ 10 k = 1) : zHO l yL_pawn wsL_pawn ({ frames := 4, cells := 0, slots := 0, locals := 79 }) [.ref x, .int (nI k), .ref o] D (zT2 cI cL) (zw_O cI cL x a b σ τ o f) (fun u => zw_O cI cL x a b (f_pawnB σ k) τ o (vp_updL f 0 ((f_pawnB σ k) 9 k).toInt64)) := by
  intro sz
  refine zk_ofWH (cc := cL_pawn) (maxL := 4) (ret := (some .int)) (by decide) rfl ?_
  intro p e s m args below meth c s₁ B hml hv
  obtain ⟨rfl, ⟨hsz, hP, hK, hD⟩, hL⟩ := hv
  have hx := B.exec
  have hb := B.bytes
  have hr := B.returns
  have hts := atoms_spec (ws := wsL_pawn) B.pre
  have hown : s.vm.findClass RL = some m.cls := findClass_of_methodNamed B.named
  subst hsz
  have hD := hD.self (sz := s.heap.size)
  generalize hAe : va_A (zw_O cI cL x a b σ τ o f) s.heap.size = A at hD ⊢
  have hA : ∀ q : Nat, s.heap.size ≤ q → A q := fun q h => by rw [← hAe]; exact Or.inr h
  have hS : va_S A s.heap s.heap [] := va_S.rf
  have hP : va_P D vwCl ([] ++ (zw_X cI x a b σ τ ++ [(o, .inl (cL, 1, .inr (.inl f)))])) s.heap := hP
  have hD : va_D A ([] ++ (zw_X cI x a b σ τ ++ [(o, .inl (cL, 1, .inr (.inl f)))])) := hD
  have hP2 := fr_P hP
  have hD2 := fr_D hD
  have hK2 : va_K D vwCl [(cI, .int)] s := hK.sub [0] rfl
  have hl := lv_entry ([.ref x, .int (nI k), .ref o]) (n := 4) (Nat.le_of_ble_eq_true rfl)
  rw [lg_entry_eq]
  generalize (lg_sl ([.ref x, .int (nI k), .ref o]) ++ List.replicate (4 - (lg_sl ([.ref x, .int (nI k), .ref o])).length) Slot.unset).toArray = ls at hl ⊢
  have hl : lv_has ls 4 [(0, .ref x), (1, .int (nI k)), (2, .ref o)] := hl
  refine lv_aload_n hx hb dL_pawn_0 rfl (lv_at hl 2 rfl) ?_
  refine lv_iconst (v := 0) hx hb dL_pawn_1 (by decide) ?_
  refine lv_aload_n hx hb dL_pawn_2 rfl (lv_at hl 0 rfl) ?_
  refine lv_iload_n hx hb dL_pawn_3 rfl (lv_at hl 1 rfl) ?_
  have hF := zfree hD2 hS hA
  refine zk_I (va_runV (As := [.int (nI k)]) (rest := [.int 0, .ref o]) ⟨hx, hb, hml, hown, hts⟩ (c_X3_pawn l D cI x a b σ τ hC hk hbo _) (cwV 1 hts gL_pawn_X3_pawn rfl rfl rfl zdX3_pawn ⟨Nat.le_of_ble_eq_true rfl, Nat.le_of_ble_eq_true rfl⟩) ⟨zbl _, va_recv hK hP2 (ci := 3) (q0 := 0) rfl rfl, zpr hK2 hP2 hD2⟩ rfl rfl hl.1 rfl (lv_room (Nat.le_of_ble_eq_true rfl)) dL_pawn_4 ⟨Nat.zero_le _, Nat.zero_le _⟩) hS hF (fun r H1 locs1 hr9 hkp hP1 hD1 hS => ?_)
  obtain ⟨hP, hD⟩ := fr_J hP hD hkp hF hP1 hD1
  subst hr9
  refine lv_i2l hx hb dL_pawn_7 rfl ?_
  refine va_last hx hb hK hP hD hS 41 1 rfl rfl vp_in01 dL_pawn_8 (fun H locs hP hD hS => ?_)
  refine lv_goto (tgt := 18) hx hb dL_pawn_9 (by decide) ?_
  refine lv_iconst (v := 0) hx hb dL_pawn_18 (by decide) ?_
  exact W.iret (v := 0) hx hb hr (fun t ht hW => ⟨⟨0, τ, rfl, rfl, by rw [ht]; exact hP, va_K.moved hW.alike hK, hD⟩, hS.F ht⟩) hS.2.2 dL_pawn_19

set_option maxHeartbeats 4000000 in
set_option maxRecDepth 100000 in
theorem t_L_pawn1 (l : Launch) (hst : l.stackTraces = false) (D : va_G) (cI cL : ClassId) (x : Nat) (a b : Nat → Nat) (σ τ : zS) (o : Nat) (f : Nat → Int64) (v : Int32) (hv : ¬ f_sail σ v) : zHB l yL_pawn wsL_pawn ({ frames := 8, cells := 1, slots := 6, locals := 124 }) [.ref x, .int v, .ref o] D (zT2 cI cL) (zw_O cI cL x a b σ τ o f) 1 := by
  intro sz
  refine zk_ofWH (cc := cL_pawn) (maxL := 4) (ret := (some .int)) (by decide) rfl ?_
  intro p e s m args below meth c s₁ B hml hv
  obtain ⟨rfl, ⟨hsz, hP, hK, hD⟩, hL, hZ⟩ := hv
  have hx := B.exec
  have hb := B.bytes
  have hr := B.returns
  have hts := atoms_spec (ws := wsL_pawn) B.pre
  have hown : s.vm.findClass RL = some m.cls := findClass_of_methodNamed B.named
  have hS : va_S (fun _ => False) s.heap s.heap [] := va_S.rf
  have hP : va_P D vwCl ([] ++ (zw_X cI x a b σ τ ++ [(o, .inl (cL, 1, .inr (.inl f)))])) s.heap := hP
  have hD : va_D (fun _ => True) ([] ++ (zw_X cI x a b σ τ ++ [(o, .inl (cL, 1, .inr (.inl f)))])) := hD
  have hP2 := fr_P hP
  have hD2 := fr_D hD
  have hK2 : va_K D vwCl [(cI, .int)] s := hK.sub [0] rfl
  have hl := lv_entry ([.ref x, .int v, .ref o]) (n := 4) (Nat.le_of_ble_eq_true rfl)
  rw [lg_entry_eq]
  generalize (lg_sl ([.ref x, .int v, .ref o]) ++ List.replicate (4 - (lg_sl ([.ref x, .int v, .ref o])).length) Slot.unset).toArray = ls at hl ⊢
  have hl : lv_has ls 4 [(0, .ref x), (1, .int v), (2, .ref o)] := hl
  have htb := vx_table (x := yL_pawn) B (hts _ List.mem_cons_self)
  refine lv_aload_n hx hb dL_pawn_0 rfl (lv_at hl 2 rfl) ?_
  refine lv_iconst (v := 0) hx hb dL_pawn_1 (by decide) ?_
  refine lv_aload_n hx hb dL_pawn_2 rfl (lv_at hl 0 rfl) ?_
  refine lv_iload_n hx hb dL_pawn_3 rfl (lv_at hl 1 rfl) ?_
  refine vx_calli (vx_runV (As := [.int v]) (rest := [.int 0, .ref o]) ⟨hx, hb, hml, hown, hts⟩ (t_X3_pawn1 l hst D cI x a b σ τ v hv _) (cwV 1 hts gL_pawn_X3_pawn rfl rfl rfl zdX3_pawn ⟨Nat.le_of_ble_eq_true rfl, Nat.le_of_ble_eq_true rfl⟩) ⟨zblX _, va_recv hK hP2 (ci := 3) (q0 := 0) rfl rfl, zprX (H0 := s.heap) hK2 hP2 hD2 hL hZ hS⟩ rfl rfl hl.1 rfl (lv_room (Nat.le_of_ble_eq_true rfl)) dL_pawn_4 ⟨Nat.le_of_ble_eq_true rfl, Nat.le_of_ble_eq_true rfl⟩) hS (fun q _ h => h.elim) (fun q h => h.elim) (fun q _ h => h.elim) (fun X ce q9 u t H1 locs1 _ hvm _ hBX _ _ hS hce hcv hcl => ?_) (fun r u t H1 locs1 _ _ hw _ _ _ _ => hw.elim)
  have hBX : X = "java/lang/IndexOutOfBoundsException" := hBX
  subst hBX
  refine vx_catch (name := "java/lang/IndexOutOfBoundsException") hown [] ⟨0, 9, 12, 21⟩ [⟨0, 9, 15, 15⟩] htb (fun z hz => by cases hz) (by decide) (by decide) (hts _ (by decide +kernel)) (va_Nw.use rfl (hL.2.1 "java/lang/IndexOutOfBoundsException" (by decide +kernel))) hce hcv hcl ?_
  refine lv_astore_n (lv' := [(3, .ref q9), (0, .ref x), (1, .int v), (2, .ref o)]) hx hb dL_pawn_12 rfl hl (by decide) rfl (fun ls hl => ?_)
  refine lv_iconst (v := 1) hx hb dL_pawn_13 (by decide) ?_
  exact W.iret (v := 1) hx hb hr (fun t ht hW => ⟨⟨1, (), rfl, rfl, trivial⟩, hS.F ht⟩) hS.2.2 dL_pawn_14

set_option maxHeartbeats 4000000 in
set_option maxRecDepth 100000 in
theorem t_L_pawn2 (l : Launch) (hst : l.stackTraces = false) (D : va_G) (cI cL : ClassId) (x : Nat) (a b : Nat → Nat) (σ τ : zS) (o : Nat) (f : Nat → Int64) {k : Nat} {nb ns h : Nat} (hC : zC σ nb ns h) (hk : k < ns) (hbo : ¬ σ 10 k = 1) : zHB l yL_pawn wsL_pawn ({ frames := 7, cells := 1, slots := 6, locals := 103 }) [.ref x, .int (nI k), .ref o] D (zT2 cI cL) (zw_O cI cL x a b σ τ o f) 2 := by
  intro sz
  refine zk_ofWH (cc := cL_pawn) (maxL := 4) (ret := (some .int)) (by decide) rfl ?_
  intro p e s m args below meth c s₁ B hml hv
  obtain ⟨rfl, ⟨hsz, hP, hK, hD⟩, hL, hZ⟩ := hv
  have hx := B.exec
  have hb := B.bytes
  have hr := B.returns
  have hts := atoms_spec (ws := wsL_pawn) B.pre
  have hown : s.vm.findClass RL = some m.cls := findClass_of_methodNamed B.named
  have hS : va_S (fun _ => False) s.heap s.heap [] := va_S.rf
  have hP : va_P D vwCl ([] ++ (zw_X cI x a b σ τ ++ [(o, .inl (cL, 1, .inr (.inl f)))])) s.heap := hP
  have hD : va_D (fun _ => True) ([] ++ (zw_X cI x a b σ τ ++ [(o, .inl (cL, 1, .inr (.inl f)))])) := hD
  have hP2 := fr_P hP
  have hD2 := fr_D hD
  have hK2 : va_K D vwCl [(cI, .int)] s := hK.sub [0] rfl
  have hl := lv_entry ([.ref x, .int (nI k), .ref o]) (n := 4) (Nat.le_of_ble_eq_true rfl)
  rw [lg_entry_eq]
  generalize (lg_sl ([.ref x, .int (nI k), .ref o]) ++ List.replicate (4 - (lg_sl ([.ref x, .int (nI k), .ref o])).length) Slot.unset).toArray = ls at hl ⊢
  have hl : lv_has ls 4 [(0, .ref x), (1, .int (nI k)), (2, .ref o)] := hl
  have htb := vx_table (x := yL_pawn) B (hts _ List.mem_cons_self)
  refine lv_aload_n hx hb dL_pawn_0 rfl (lv_at hl 2 rfl) ?_
  refine lv_iconst (v := 0) hx hb dL_pawn_1 (by decide) ?_
  refine lv_aload_n hx hb dL_pawn_2 rfl (lv_at hl 0 rfl) ?_
  refine lv_iload_n hx hb dL_pawn_3 rfl (lv_at hl 1 rfl) ?_
  refine vx_calli (vx_runV (As := [.int (nI k)]) (rest := [.int 0, .ref o]) ⟨hx, hb, hml, hown, hts⟩ (t_X3_pawn2 l hst D cI x a b σ τ hC hk hbo _) (cwV 1 hts gL_pawn_X3_pawn rfl rfl rfl zdX3_pawn ⟨Nat.le_of_ble_eq_true rfl, Nat.le_of_ble_eq_true rfl⟩) ⟨zblX _, va_recv hK hP2 (ci := 3) (q0 := 0) rfl rfl, zprX (H0 := s.heap) hK2 hP2 hD2 hL hZ hS⟩ rfl rfl hl.1 rfl (lv_room (Nat.le_of_ble_eq_true rfl)) dL_pawn_4 ⟨Nat.le_of_ble_eq_true rfl, Nat.le_of_ble_eq_true rfl⟩) hS (fun q _ h => h.elim) (fun q h => h.elim) (fun q _ h => h.elim) (fun X ce q9 u t H1 locs1 _ hvm _ hBX _ _ hS hce hcv hcl => ?_) (fun r u t H1 locs1 _ _ hw _ _ _ _ => hw.elim)
  have hBX : X = "java/lang/IllegalStateException" := hBX
  subst hBX
  refine vx_catch (name := "java/lang/IllegalStateException") hown [⟨0, 9, 12, 21⟩] ⟨0, 9, 15, 15⟩ [] htb (fun z hz => by
      simp only [List.mem_cons, List.not_mem_nil, or_false] at hz
      subst hz
      exact Or.inr ⟨by decide, "java/lang/IndexOutOfBoundsException", hts _ (by decide +kernel), hL.2.2.2.2 ("java/lang/IllegalStateException", "java/lang/IndexOutOfBoundsException") (by decide +kernel)⟩) (by decide) (by decide) (hts _ (by decide +kernel)) (va_Nw.use rfl (hL.2.1 "java/lang/IllegalStateException" (by decide +kernel))) hce hcv hcl ?_
  refine lv_astore_n (lv' := [(3, .ref q9), (0, .ref x), (1, .int (nI k)), (2, .ref o)]) hx hb dL_pawn_15 rfl hl (by decide) rfl (fun ls hl => ?_)
  refine lv_iconst (v := 2) hx hb dL_pawn_16 (by decide) ?_
  exact W.iret (v := 2) hx hb hr (fun t ht hW => ⟨⟨2, (), rfl, rfl, trivial⟩, hS.F ht⟩) hS.2.2 dL_pawn_17

set_option maxHeartbeats 4000000 in
set_option maxRecDepth 100000 in
theorem c_L_redeem (l : Launch) (D : va_G) (cI cL : ClassId) (x : Nat) (a b : Nat → Nat) (σ τ : zS) (o : Nat) (f : Nat → Int64) {k : Nat} {nb ns h : Nat} (hC : zC σ nb ns h) (hk : k < ns) (hcan : f_can σ k) : zHO l yL_redeem wsL_redeem ({ frames := 3, cells := 0, slots := 0, locals := 63 }) [.ref x, .int (nI k), .ref o] D (zT2 cI cL) (zw_O cI cL x a b σ τ o f) (fun u => zw_O cI cL x a b (f_red σ k) τ o (vp_updL f 0 ((f_red σ k) 9 k).toInt64)) := by
  intro sz
  refine zk_ofWH (cc := cL_redeem) (maxL := 4) (ret := (some .int)) (by decide) rfl ?_
  intro p e s m args below meth c s₁ B hml hv
  obtain ⟨rfl, ⟨hsz, hP, hK, hD⟩, hL⟩ := hv
  have hx := B.exec
  have hb := B.bytes
  have hr := B.returns
  have hts := atoms_spec (ws := wsL_redeem) B.pre
  have hown : s.vm.findClass RL = some m.cls := findClass_of_methodNamed B.named
  subst hsz
  have hD := hD.self (sz := s.heap.size)
  generalize hAe : va_A (zw_O cI cL x a b σ τ o f) s.heap.size = A at hD ⊢
  have hA : ∀ q : Nat, s.heap.size ≤ q → A q := fun q h => by rw [← hAe]; exact Or.inr h
  have hS : va_S A s.heap s.heap [] := va_S.rf
  have hP : va_P D vwCl ([] ++ (zw_X cI x a b σ τ ++ [(o, .inl (cL, 1, .inr (.inl f)))])) s.heap := hP
  have hD : va_D A ([] ++ (zw_X cI x a b σ τ ++ [(o, .inl (cL, 1, .inr (.inl f)))])) := hD
  have hP2 := fr_P hP
  have hD2 := fr_D hD
  have hK2 : va_K D vwCl [(cI, .int)] s := hK.sub [0] rfl
  have hl := lv_entry ([.ref x, .int (nI k), .ref o]) (n := 4) (Nat.le_of_ble_eq_true rfl)
  rw [lg_entry_eq]
  generalize (lg_sl ([.ref x, .int (nI k), .ref o]) ++ List.replicate (4 - (lg_sl ([.ref x, .int (nI k), .ref o])).length) Slot.unset).toArray = ls at hl ⊢
  have hl : lv_has ls 4 [(0, .ref x), (1, .int (nI k)), (2, .ref o)] := hl
  refine lv_aload_n hx hb dL_redeem_0 rfl (lv_at hl 2 rfl) ?_
  refine lv_iconst (v := 0) hx hb dL_redeem_1 (by decide) ?_
  refine lv_aload_n hx hb dL_redeem_2 rfl (lv_at hl 0 rfl) ?_
  refine lv_iload_n hx hb dL_redeem_3 rfl (lv_at hl 1 rfl) ?_
  have hF := zfree hD2 hS hA
  refine zk_I (va_runV (As := [.int (nI k)]) (rest := [.int 0, .ref o]) ⟨hx, hb, hml, hown, hts⟩ (c_X3_redeem l D cI x a b σ τ hC hk hcan _) (cwV 1 hts gL_redeem_X3_redeem rfl rfl rfl zdX3_redeem ⟨Nat.le_of_ble_eq_true rfl, Nat.le_of_ble_eq_true rfl⟩) ⟨zbl _, va_recv hK hP2 (ci := 3) (q0 := 0) rfl rfl, zpr hK2 hP2 hD2⟩ rfl rfl hl.1 rfl (lv_room (Nat.le_of_ble_eq_true rfl)) dL_redeem_4 ⟨Nat.zero_le _, Nat.zero_le _⟩) hS hF (fun r H1 locs1 hr9 hkp hP1 hD1 hS => ?_)
  obtain ⟨hP, hD⟩ := fr_J hP hD hkp hF hP1 hD1
  subst hr9
  refine lv_i2l hx hb dL_redeem_7 rfl ?_
  refine va_last hx hb hK hP hD hS 41 1 rfl rfl vp_in01 dL_redeem_8 (fun H locs hP hD hS => ?_)
  refine lv_goto (tgt := 18) hx hb dL_redeem_9 (by decide) ?_
  refine lv_iconst (v := 0) hx hb dL_redeem_18 (by decide) ?_
  exact W.iret (v := 0) hx hb hr (fun t ht hW => ⟨⟨0, τ, rfl, rfl, by rw [ht]; exact hP, va_K.moved hW.alike hK, hD⟩, hS.F ht⟩) hS.2.2 dL_redeem_19

set_option maxHeartbeats 4000000 in
set_option maxRecDepth 100000 in
theorem t_L_redeem1 (l : Launch) (hst : l.stackTraces = false) (D : va_G) (cI cL : ClassId) (x : Nat) (a b : Nat → Nat) (σ τ : zS) (o : Nat) (f : Nat → Int64) (v : Int32) (hv : ¬ f_sail σ v) : zHB l yL_redeem wsL_redeem ({ frames := 8, cells := 1, slots := 6, locals := 124 }) [.ref x, .int v, .ref o] D (zT2 cI cL) (zw_O cI cL x a b σ τ o f) 1 := by
  intro sz
  refine zk_ofWH (cc := cL_redeem) (maxL := 4) (ret := (some .int)) (by decide) rfl ?_
  intro p e s m args below meth c s₁ B hml hv
  obtain ⟨rfl, ⟨hsz, hP, hK, hD⟩, hL, hZ⟩ := hv
  have hx := B.exec
  have hb := B.bytes
  have hr := B.returns
  have hts := atoms_spec (ws := wsL_redeem) B.pre
  have hown : s.vm.findClass RL = some m.cls := findClass_of_methodNamed B.named
  have hS : va_S (fun _ => False) s.heap s.heap [] := va_S.rf
  have hP : va_P D vwCl ([] ++ (zw_X cI x a b σ τ ++ [(o, .inl (cL, 1, .inr (.inl f)))])) s.heap := hP
  have hD : va_D (fun _ => True) ([] ++ (zw_X cI x a b σ τ ++ [(o, .inl (cL, 1, .inr (.inl f)))])) := hD
  have hP2 := fr_P hP
  have hD2 := fr_D hD
  have hK2 : va_K D vwCl [(cI, .int)] s := hK.sub [0] rfl
  have hl := lv_entry ([.ref x, .int v, .ref o]) (n := 4) (Nat.le_of_ble_eq_true rfl)
  rw [lg_entry_eq]
  generalize (lg_sl ([.ref x, .int v, .ref o]) ++ List.replicate (4 - (lg_sl ([.ref x, .int v, .ref o])).length) Slot.unset).toArray = ls at hl ⊢
  have hl : lv_has ls 4 [(0, .ref x), (1, .int v), (2, .ref o)] := hl
  have htb := vx_table (x := yL_redeem) B (hts _ List.mem_cons_self)
  refine lv_aload_n hx hb dL_redeem_0 rfl (lv_at hl 2 rfl) ?_
  refine lv_iconst (v := 0) hx hb dL_redeem_1 (by decide) ?_
  refine lv_aload_n hx hb dL_redeem_2 rfl (lv_at hl 0 rfl) ?_
  refine lv_iload_n hx hb dL_redeem_3 rfl (lv_at hl 1 rfl) ?_
  refine vx_calli (vx_runV (As := [.int v]) (rest := [.int 0, .ref o]) ⟨hx, hb, hml, hown, hts⟩ (t_X3_redeem1 l hst D cI x a b σ τ v hv _) (cwV 1 hts gL_redeem_X3_redeem rfl rfl rfl zdX3_redeem ⟨Nat.le_of_ble_eq_true rfl, Nat.le_of_ble_eq_true rfl⟩) ⟨zblX _, va_recv hK hP2 (ci := 3) (q0 := 0) rfl rfl, zprX (H0 := s.heap) hK2 hP2 hD2 hL hZ hS⟩ rfl rfl hl.1 rfl (lv_room (Nat.le_of_ble_eq_true rfl)) dL_redeem_4 ⟨Nat.le_of_ble_eq_true rfl, Nat.le_of_ble_eq_true rfl⟩) hS (fun q _ h => h.elim) (fun q h => h.elim) (fun q _ h => h.elim) (fun X ce q9 u t H1 locs1 _ hvm _ hBX _ _ hS hce hcv hcl => ?_) (fun r u t H1 locs1 _ _ hw _ _ _ _ => hw.elim)
  have hBX : X = "java/lang/IndexOutOfBoundsException" := hBX
  subst hBX
  refine vx_catch (name := "java/lang/IndexOutOfBoundsException") hown [] ⟨0, 9, 12, 21⟩ [⟨0, 9, 15, 15⟩] htb (fun z hz => by cases hz) (by decide) (by decide) (hts _ (by decide +kernel)) (va_Nw.use rfl (hL.2.1 "java/lang/IndexOutOfBoundsException" (by decide +kernel))) hce hcv hcl ?_
  refine lv_astore_n (lv' := [(3, .ref q9), (0, .ref x), (1, .int v), (2, .ref o)]) hx hb dL_redeem_12 rfl hl (by decide) rfl (fun ls hl => ?_)
  refine lv_iconst (v := 1) hx hb dL_redeem_13 (by decide) ?_
  exact W.iret (v := 1) hx hb hr (fun t ht hW => ⟨⟨1, (), rfl, rfl, trivial⟩, hS.F ht⟩) hS.2.2 dL_redeem_14

set_option maxHeartbeats 4000000 in
set_option maxRecDepth 100000 in
theorem t_L_redeem2 (l : Launch) (hst : l.stackTraces = false) (D : va_G) (cI cL : ClassId) (x : Nat) (a b : Nat → Nat) (σ τ : zS) (o : Nat) (f : Nat → Int64) {k : Nat} {nb ns h : Nat} (hC : zC σ nb ns h) (hk : k < ns) (hcan : ¬ f_can σ k) : zHB l yL_redeem wsL_redeem ({ frames := 7, cells := 1, slots := 6, locals := 103 }) [.ref x, .int (nI k), .ref o] D (zT2 cI cL) (zw_O cI cL x a b σ τ o f) 2 := by
  intro sz
  refine zk_ofWH (cc := cL_redeem) (maxL := 4) (ret := (some .int)) (by decide) rfl ?_
  intro p e s m args below meth c s₁ B hml hv
  obtain ⟨rfl, ⟨hsz, hP, hK, hD⟩, hL, hZ⟩ := hv
  have hx := B.exec
  have hb := B.bytes
  have hr := B.returns
  have hts := atoms_spec (ws := wsL_redeem) B.pre
  have hown : s.vm.findClass RL = some m.cls := findClass_of_methodNamed B.named
  have hS : va_S (fun _ => False) s.heap s.heap [] := va_S.rf
  have hP : va_P D vwCl ([] ++ (zw_X cI x a b σ τ ++ [(o, .inl (cL, 1, .inr (.inl f)))])) s.heap := hP
  have hD : va_D (fun _ => True) ([] ++ (zw_X cI x a b σ τ ++ [(o, .inl (cL, 1, .inr (.inl f)))])) := hD
  have hP2 := fr_P hP
  have hD2 := fr_D hD
  have hK2 : va_K D vwCl [(cI, .int)] s := hK.sub [0] rfl
  have hl := lv_entry ([.ref x, .int (nI k), .ref o]) (n := 4) (Nat.le_of_ble_eq_true rfl)
  rw [lg_entry_eq]
  generalize (lg_sl ([.ref x, .int (nI k), .ref o]) ++ List.replicate (4 - (lg_sl ([.ref x, .int (nI k), .ref o])).length) Slot.unset).toArray = ls at hl ⊢
  have hl : lv_has ls 4 [(0, .ref x), (1, .int (nI k)), (2, .ref o)] := hl
  have htb := vx_table (x := yL_redeem) B (hts _ List.mem_cons_self)
  refine lv_aload_n hx hb dL_redeem_0 rfl (lv_at hl 2 rfl) ?_
  refine lv_iconst (v := 0) hx hb dL_redeem_1 (by decide) ?_
  refine lv_aload_n hx hb dL_redeem_2 rfl (lv_at hl 0 rfl) ?_
  refine lv_iload_n hx hb dL_redeem_3 rfl (lv_at hl 1 rfl) ?_
  refine vx_calli (vx_runV (As := [.int (nI k)]) (rest := [.int 0, .ref o]) ⟨hx, hb, hml, hown, hts⟩ (t_X3_redeem2 l hst D cI x a b σ τ hC hk hcan _) (cwV 1 hts gL_redeem_X3_redeem rfl rfl rfl zdX3_redeem ⟨Nat.le_of_ble_eq_true rfl, Nat.le_of_ble_eq_true rfl⟩) ⟨zblX _, va_recv hK hP2 (ci := 3) (q0 := 0) rfl rfl, zprX (H0 := s.heap) hK2 hP2 hD2 hL hZ hS⟩ rfl rfl hl.1 rfl (lv_room (Nat.le_of_ble_eq_true rfl)) dL_redeem_4 ⟨Nat.le_of_ble_eq_true rfl, Nat.le_of_ble_eq_true rfl⟩) hS (fun q _ h => h.elim) (fun q h => h.elim) (fun q _ h => h.elim) (fun X ce q9 u t H1 locs1 _ hvm _ hBX _ _ hS hce hcv hcl => ?_) (fun r u t H1 locs1 _ _ hw _ _ _ _ => hw.elim)
  have hBX : X = "java/lang/IllegalStateException" := hBX
  subst hBX
  refine vx_catch (name := "java/lang/IllegalStateException") hown [⟨0, 9, 12, 21⟩] ⟨0, 9, 15, 15⟩ [] htb (fun z hz => by
      simp only [List.mem_cons, List.not_mem_nil, or_false] at hz
      subst hz
      exact Or.inr ⟨by decide, "java/lang/IndexOutOfBoundsException", hts _ (by decide +kernel), hL.2.2.2.2 ("java/lang/IllegalStateException", "java/lang/IndexOutOfBoundsException") (by decide +kernel)⟩) (by decide) (by decide) (hts _ (by decide +kernel)) (va_Nw.use rfl (hL.2.1 "java/lang/IllegalStateException" (by decide +kernel))) hce hcv hcl ?_
  refine lv_astore_n (lv' := [(3, .ref q9), (0, .ref x), (1, .int (nI k)), (2, .ref o)]) hx hb dL_redeem_15 rfl hl (by decide) rfl (fun ls hl => ?_)
  refine lv_iconst (v := 2) hx hb dL_redeem_16 (by decide) ?_
  exact W.iret (v := 2) hx hb hr (fun t ht hW => ⟨⟨2, (), rfl, rfl, trivial⟩, hS.F ht⟩) hS.2.2 dL_redeem_17

set_option maxHeartbeats 4000000 in
set_option maxRecDepth 100000 in
theorem c_L_call (l : Launch) (D : va_G) (cI cL : ClassId) (x : Nat) (a b : Nat → Nat) (σ τ : zS) (o : Nat) (f : Nat → Int64) {k : Nat} {nb ns h : Nat} (hC : zC σ nb ns h) (hk : k < ns) (hup : ¬ σ 12 k = 0) : zHO l yL_call wsL_call ({ frames := 3, cells := 0, slots := 0, locals := 65 }) [.ref x, .int (nI k), .ref o] D (zT2 cI cL) (zw_O cI cL x a b σ τ o f) (fun u => zw_O cI cL x a b (f_getUp σ k) τ o (vp_updL f 0 (σ 13 k).toInt64)) := by
  intro sz
  refine zk_ofWH (cc := cL_call) (maxL := 4) (ret := (some .int)) (by decide) rfl ?_
  intro p e s m args below meth c s₁ B hml hv
  obtain ⟨rfl, ⟨hsz, hP, hK, hD⟩, hL⟩ := hv
  have hx := B.exec
  have hb := B.bytes
  have hr := B.returns
  have hts := atoms_spec (ws := wsL_call) B.pre
  have hown : s.vm.findClass RL = some m.cls := findClass_of_methodNamed B.named
  subst hsz
  have hD := hD.self (sz := s.heap.size)
  generalize hAe : va_A (zw_O cI cL x a b σ τ o f) s.heap.size = A at hD ⊢
  have hA : ∀ q : Nat, s.heap.size ≤ q → A q := fun q h => by rw [← hAe]; exact Or.inr h
  have hS : va_S A s.heap s.heap [] := va_S.rf
  have hP : va_P D vwCl ([] ++ (zw_X cI x a b σ τ ++ [(o, .inl (cL, 1, .inr (.inl f)))])) s.heap := hP
  have hD : va_D A ([] ++ (zw_X cI x a b σ τ ++ [(o, .inl (cL, 1, .inr (.inl f)))])) := hD
  have hP2 := fr_P hP
  have hD2 := fr_D hD
  have hK2 : va_K D vwCl [(cI, .int)] s := hK.sub [0] rfl
  have hl := lv_entry ([.ref x, .int (nI k), .ref o]) (n := 4) (Nat.le_of_ble_eq_true rfl)
  rw [lg_entry_eq]
  generalize (lg_sl ([.ref x, .int (nI k), .ref o]) ++ List.replicate (4 - (lg_sl ([.ref x, .int (nI k), .ref o])).length) Slot.unset).toArray = ls at hl ⊢
  have hl : lv_has ls 4 [(0, .ref x), (1, .int (nI k)), (2, .ref o)] := hl
  refine lv_aload_n hx hb dL_call_0 rfl (lv_at hl 2 rfl) ?_
  refine lv_iconst (v := 0) hx hb dL_call_1 (by decide) ?_
  refine lv_aload_n hx hb dL_call_2 rfl (lv_at hl 0 rfl) ?_
  refine lv_iload_n hx hb dL_call_3 rfl (lv_at hl 1 rfl) ?_
  have hF := zfree hD2 hS hA
  refine zk_I (va_runV (As := [.int (nI k)]) (rest := [.int 0, .ref o]) ⟨hx, hb, hml, hown, hts⟩ (c_X3_call l D cI x a b σ τ hC hk hup _) (cwV 1 hts gL_call_X3_call rfl rfl rfl zdX3_call ⟨Nat.le_of_ble_eq_true rfl, Nat.le_of_ble_eq_true rfl⟩) ⟨zbl _, va_recv hK hP2 (ci := 3) (q0 := 0) rfl rfl, zpr hK2 hP2 hD2⟩ rfl rfl hl.1 rfl (lv_room (Nat.le_of_ble_eq_true rfl)) dL_call_4 ⟨Nat.zero_le _, Nat.zero_le _⟩) hS hF (fun r H1 locs1 hr9 hkp hP1 hD1 hS => ?_)
  obtain ⟨hP, hD⟩ := fr_J hP hD hkp hF hP1 hD1
  subst hr9
  refine lv_i2l hx hb dL_call_7 rfl ?_
  refine va_last hx hb hK hP hD hS 41 1 rfl rfl vp_in01 dL_call_8 (fun H locs hP hD hS => ?_)
  refine lv_goto (tgt := 18) hx hb dL_call_9 (by decide) ?_
  refine lv_iconst (v := 0) hx hb dL_call_18 (by decide) ?_
  exact W.iret (v := 0) hx hb hr (fun t ht hW => ⟨⟨0, τ, rfl, rfl, by rw [ht]; exact hP, va_K.moved hW.alike hK, hD⟩, hS.F ht⟩) hS.2.2 dL_call_19

set_option maxHeartbeats 4000000 in
set_option maxRecDepth 100000 in
theorem t_L_call1 (l : Launch) (hst : l.stackTraces = false) (D : va_G) (cI cL : ClassId) (x : Nat) (a b : Nat → Nat) (σ τ : zS) (o : Nat) (f : Nat → Int64) (v : Int32) (hv : ¬ f_sail σ v) : zHB l yL_call wsL_call ({ frames := 8, cells := 1, slots := 6, locals := 125 }) [.ref x, .int v, .ref o] D (zT2 cI cL) (zw_O cI cL x a b σ τ o f) 1 := by
  intro sz
  refine zk_ofWH (cc := cL_call) (maxL := 4) (ret := (some .int)) (by decide) rfl ?_
  intro p e s m args below meth c s₁ B hml hv
  obtain ⟨rfl, ⟨hsz, hP, hK, hD⟩, hL, hZ⟩ := hv
  have hx := B.exec
  have hb := B.bytes
  have hr := B.returns
  have hts := atoms_spec (ws := wsL_call) B.pre
  have hown : s.vm.findClass RL = some m.cls := findClass_of_methodNamed B.named
  have hS : va_S (fun _ => False) s.heap s.heap [] := va_S.rf
  have hP : va_P D vwCl ([] ++ (zw_X cI x a b σ τ ++ [(o, .inl (cL, 1, .inr (.inl f)))])) s.heap := hP
  have hD : va_D (fun _ => True) ([] ++ (zw_X cI x a b σ τ ++ [(o, .inl (cL, 1, .inr (.inl f)))])) := hD
  have hP2 := fr_P hP
  have hD2 := fr_D hD
  have hK2 : va_K D vwCl [(cI, .int)] s := hK.sub [0] rfl
  have hl := lv_entry ([.ref x, .int v, .ref o]) (n := 4) (Nat.le_of_ble_eq_true rfl)
  rw [lg_entry_eq]
  generalize (lg_sl ([.ref x, .int v, .ref o]) ++ List.replicate (4 - (lg_sl ([.ref x, .int v, .ref o])).length) Slot.unset).toArray = ls at hl ⊢
  have hl : lv_has ls 4 [(0, .ref x), (1, .int v), (2, .ref o)] := hl
  have htb := vx_table (x := yL_call) B (hts _ List.mem_cons_self)
  refine lv_aload_n hx hb dL_call_0 rfl (lv_at hl 2 rfl) ?_
  refine lv_iconst (v := 0) hx hb dL_call_1 (by decide) ?_
  refine lv_aload_n hx hb dL_call_2 rfl (lv_at hl 0 rfl) ?_
  refine lv_iload_n hx hb dL_call_3 rfl (lv_at hl 1 rfl) ?_
  refine vx_calli (vx_runV (As := [.int v]) (rest := [.int 0, .ref o]) ⟨hx, hb, hml, hown, hts⟩ (t_X3_call1 l hst D cI x a b σ τ v hv _) (cwV 1 hts gL_call_X3_call rfl rfl rfl zdX3_call ⟨Nat.le_of_ble_eq_true rfl, Nat.le_of_ble_eq_true rfl⟩) ⟨zblX _, va_recv hK hP2 (ci := 3) (q0 := 0) rfl rfl, zprX (H0 := s.heap) hK2 hP2 hD2 hL hZ hS⟩ rfl rfl hl.1 rfl (lv_room (Nat.le_of_ble_eq_true rfl)) dL_call_4 ⟨Nat.le_of_ble_eq_true rfl, Nat.le_of_ble_eq_true rfl⟩) hS (fun q _ h => h.elim) (fun q h => h.elim) (fun q _ h => h.elim) (fun X ce q9 u t H1 locs1 _ hvm _ hBX _ _ hS hce hcv hcl => ?_) (fun r u t H1 locs1 _ _ hw _ _ _ _ => hw.elim)
  have hBX : X = "java/lang/IndexOutOfBoundsException" := hBX
  subst hBX
  refine vx_catch (name := "java/lang/IndexOutOfBoundsException") hown [] ⟨0, 9, 12, 21⟩ [⟨0, 9, 15, 15⟩] htb (fun z hz => by cases hz) (by decide) (by decide) (hts _ (by decide +kernel)) (va_Nw.use rfl (hL.2.1 "java/lang/IndexOutOfBoundsException" (by decide +kernel))) hce hcv hcl ?_
  refine lv_astore_n (lv' := [(3, .ref q9), (0, .ref x), (1, .int v), (2, .ref o)]) hx hb dL_call_12 rfl hl (by decide) rfl (fun ls hl => ?_)
  refine lv_iconst (v := 1) hx hb dL_call_13 (by decide) ?_
  exact W.iret (v := 1) hx hb hr (fun t ht hW => ⟨⟨1, (), rfl, rfl, trivial⟩, hS.F ht⟩) hS.2.2 dL_call_14

set_option maxHeartbeats 4000000 in
set_option maxRecDepth 100000 in
theorem t_L_call2 (l : Launch) (hst : l.stackTraces = false) (D : va_G) (cI cL : ClassId) (x : Nat) (a b : Nat → Nat) (σ τ : zS) (o : Nat) (f : Nat → Int64) {k : Nat} {nb ns h : Nat} (hC : zC σ nb ns h) (hk : k < ns) (hup : σ 12 k = 0) : zHB l yL_call wsL_call ({ frames := 7, cells := 1, slots := 6, locals := 104 }) [.ref x, .int (nI k), .ref o] D (zT2 cI cL) (zw_O cI cL x a b σ τ o f) 2 := by
  intro sz
  refine zk_ofWH (cc := cL_call) (maxL := 4) (ret := (some .int)) (by decide) rfl ?_
  intro p e s m args below meth c s₁ B hml hv
  obtain ⟨rfl, ⟨hsz, hP, hK, hD⟩, hL, hZ⟩ := hv
  have hx := B.exec
  have hb := B.bytes
  have hr := B.returns
  have hts := atoms_spec (ws := wsL_call) B.pre
  have hown : s.vm.findClass RL = some m.cls := findClass_of_methodNamed B.named
  have hS : va_S (fun _ => False) s.heap s.heap [] := va_S.rf
  have hP : va_P D vwCl ([] ++ (zw_X cI x a b σ τ ++ [(o, .inl (cL, 1, .inr (.inl f)))])) s.heap := hP
  have hD : va_D (fun _ => True) ([] ++ (zw_X cI x a b σ τ ++ [(o, .inl (cL, 1, .inr (.inl f)))])) := hD
  have hP2 := fr_P hP
  have hD2 := fr_D hD
  have hK2 : va_K D vwCl [(cI, .int)] s := hK.sub [0] rfl
  have hl := lv_entry ([.ref x, .int (nI k), .ref o]) (n := 4) (Nat.le_of_ble_eq_true rfl)
  rw [lg_entry_eq]
  generalize (lg_sl ([.ref x, .int (nI k), .ref o]) ++ List.replicate (4 - (lg_sl ([.ref x, .int (nI k), .ref o])).length) Slot.unset).toArray = ls at hl ⊢
  have hl : lv_has ls 4 [(0, .ref x), (1, .int (nI k)), (2, .ref o)] := hl
  have htb := vx_table (x := yL_call) B (hts _ List.mem_cons_self)
  refine lv_aload_n hx hb dL_call_0 rfl (lv_at hl 2 rfl) ?_
  refine lv_iconst (v := 0) hx hb dL_call_1 (by decide) ?_
  refine lv_aload_n hx hb dL_call_2 rfl (lv_at hl 0 rfl) ?_
  refine lv_iload_n hx hb dL_call_3 rfl (lv_at hl 1 rfl) ?_
  refine vx_calli (vx_runV (As := [.int (nI k)]) (rest := [.int 0, .ref o]) ⟨hx, hb, hml, hown, hts⟩ (t_X3_call2 l hst D cI x a b σ τ hC hk hup _) (cwV 1 hts gL_call_X3_call rfl rfl rfl zdX3_call ⟨Nat.le_of_ble_eq_true rfl, Nat.le_of_ble_eq_true rfl⟩) ⟨zblX _, va_recv hK hP2 (ci := 3) (q0 := 0) rfl rfl, zprX (H0 := s.heap) hK2 hP2 hD2 hL hZ hS⟩ rfl rfl hl.1 rfl (lv_room (Nat.le_of_ble_eq_true rfl)) dL_call_4 ⟨Nat.le_of_ble_eq_true rfl, Nat.le_of_ble_eq_true rfl⟩) hS (fun q _ h => h.elim) (fun q h => h.elim) (fun q _ h => h.elim) (fun X ce q9 u t H1 locs1 _ hvm _ hBX _ _ hS hce hcv hcl => ?_) (fun r u t H1 locs1 _ _ hw _ _ _ _ => hw.elim)
  have hBX : X = "java/lang/IllegalStateException" := hBX
  subst hBX
  refine vx_catch (name := "java/lang/IllegalStateException") hown [⟨0, 9, 12, 21⟩] ⟨0, 9, 15, 15⟩ [] htb (fun z hz => by
      simp only [List.mem_cons, List.not_mem_nil, or_false] at hz
      subst hz
      exact Or.inr ⟨by decide, "java/lang/IndexOutOfBoundsException", hts _ (by decide +kernel), hL.2.2.2.2 ("java/lang/IllegalStateException", "java/lang/IndexOutOfBoundsException") (by decide +kernel)⟩) (by decide) (by decide) (hts _ (by decide +kernel)) (va_Nw.use rfl (hL.2.1 "java/lang/IllegalStateException" (by decide +kernel))) hce hcv hcl ?_
  refine lv_astore_n (lv' := [(3, .ref q9), (0, .ref x), (1, .int (nI k)), (2, .ref o)]) hx hb dL_call_15 rfl hl (by decide) rfl (fun ls hl => ?_)
  refine lv_iconst (v := 2) hx hb dL_call_16 (by decide) ?_
  exact W.iret (v := 2) hx hb hr (fun t ht hW => ⟨⟨2, (), rfl, rfl, trivial⟩, hS.F ht⟩) hS.2.2 dL_call_17
