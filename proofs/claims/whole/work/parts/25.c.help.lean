set_option maxHeartbeats 4000000 in
set_option maxRecDepth 100000 in
theorem c_L_shift (l : Launch) (D : va_G) (cI cL : ClassId) (x : Nat) (a b : Nat → Nat) (σ τ : zS) (o : Nat) (f : Nat → Int64) {k : Nat} {nb ns h : Nat} (hC : zC σ nb ns h) (hk : k < ns) (v : Int32) (hw1 : ¬ v < 0) (hw2 : v < 3) (hup : σ 12 k = 0) : zHO l yL_shift wsL_shift ({ frames := 3, cells := 0, slots := 0, locals := 65 }) [.ref x, .int (nI k), .int v, .ref o] D (zT2 cI cL) (zw_O cI cL x a b σ τ o f) (fun u => zw_O cI cL x a b (zs σ 6 k v) τ o (vp_updL f 0 (σ 6 k).toInt64)) := by
  intro sz
  refine zk_ofWH (cc := cL_shift) (maxL := 5) (ret := (some .int)) (by decide) rfl ?_
  intro p e s m args below meth c s₁ B hml hv
  obtain ⟨rfl, ⟨hsz, hP, hK, hD⟩, hL⟩ := hv
  have hx := B.exec
  have hb := B.bytes
  have hr := B.returns
  have hts := atoms_spec (ws := wsL_shift) B.pre
  have hown : s.vm.findClass RL = some m.cls := findClass_of_methodNamed B.named
  subst hsz
  have hD := hD.self (sz := s.heap.size)
  generalize hAe : va_A (zw_O cI cL x a b σ τ o f) s.heap.size = A at hD ⊢
  have hA : ∀ q : Nat, s.heap.size ≤ q → A q := fun q h => by rw [← hAe]; exact Or.inr h
  have hS : va_S A s.heap s.heap [] := va_S.rf
  have hP : va_P D vwCl ([] ++ (zw_X cI x a b σ τ ++ [(o, .inl (cL, 1, .inr (.inl f)))])) s.heap := hP
  have hD : va_D A ([] ++ (zw_X cI x a b σ τ ++ [(o, .inl (cL, 1, .inr (.inl f)))])) := hD
  have hP2 := fr_P hP
  have hD2 := fr_D hD
  have hK2 : va_K D vwCl [(cI, .int)] s := hK.sub [0] rfl
  have hl := lv_entry ([.ref x, .int (nI k), .int v, .ref o]) (n := 5) (Nat.le_of_ble_eq_true rfl)
  rw [lg_entry_eq]
  generalize (lg_sl ([.ref x, .int (nI k), .int v, .ref o]) ++ List.replicate (5 - (lg_sl ([.ref x, .int (nI k), .int v, .ref o])).length) Slot.unset).toArray = ls at hl ⊢
  have hl : lv_has ls 5 [(0, .ref x), (1, .int (nI k)), (2, .int v), (3, .ref o)] := hl
  refine lv_aload_n hx hb dL_shift_0 rfl (lv_at hl 3 rfl) ?_
  refine lv_iconst (v := 0) hx hb dL_shift_1 (by decide) ?_
  refine lv_aload_n hx hb dL_shift_2 rfl (lv_at hl 0 rfl) ?_
  refine lv_iload_n hx hb dL_shift_3 rfl (lv_at hl 1 rfl) ?_
  refine lv_iload_n hx hb dL_shift_4 rfl (lv_at hl 2 rfl) ?_
  have hF := zfree hD2 hS hA
  refine zk_I (va_runV (As := [.int (nI k), .int v]) (rest := [.int 0, .ref o]) ⟨hx, hb, hml, hown, hts⟩ (c_X3_shift l D cI x a b σ τ hC hk v hw1 hw2 hup _) (cwV 2 hts gL_shift_X3_shift rfl rfl rfl zdX3_shift ⟨Nat.le_of_ble_eq_true rfl, Nat.le_of_ble_eq_true rfl⟩) ⟨zbl _, va_recv hK hP2 (ci := 3) (q0 := 0) rfl rfl, zpr hK2 hP2 hD2⟩ rfl rfl hl.1 rfl (lv_room (Nat.le_of_ble_eq_true rfl)) dL_shift_5 ⟨Nat.zero_le _, Nat.zero_le _⟩) hS hF (fun r H1 locs1 hr9 hkp hP1 hD1 hS => ?_)
  obtain ⟨hP, hD⟩ := fr_J hP hD hkp hF hP1 hD1
  subst hr9
  refine lv_i2l hx hb dL_shift_8 rfl ?_
  refine va_last hx hb hK hP hD hS 41 1 rfl rfl vp_in01 dL_shift_9 (fun H locs hP hD hS => ?_)
  refine lv_goto (tgt := 21) hx hb dL_shift_10 (by decide) ?_
  refine lv_iconst (v := 0) hx hb dL_shift_21 (by decide) ?_
  exact W.iret (v := 0) hx hb hr (fun t ht hW => ⟨⟨0, τ, rfl, rfl, by rw [ht]; exact hP, va_K.moved hW.alike hK, hD⟩, hS.F ht⟩) hS.2.2 dL_shift_22

set_option maxHeartbeats 4000000 in
set_option maxRecDepth 100000 in
theorem t_L_shift1 (l : Launch) (hst : l.stackTraces = false) (D : va_G) (cI cL : ClassId) (x : Nat) (a b : Nat → Nat) (σ τ : zS) (o : Nat) (f : Nat → Int64) (v v2 : Int32) (hv : ¬ f_sail σ v) : zHB l yL_shift wsL_shift ({ frames := 8, cells := 1, slots := 6, locals := 126 }) [.ref x, .int v, .int v2, .ref o] D (zT2 cI cL) (zw_O cI cL x a b σ τ o f) 1 := by
  intro sz
  refine zk_ofWH (cc := cL_shift) (maxL := 5) (ret := (some .int)) (by decide) rfl ?_
  intro p e s m args below meth c s₁ B hml hv
  obtain ⟨rfl, ⟨hsz, hP, hK, hD⟩, hL, hZ⟩ := hv
  have hx := B.exec
  have hb := B.bytes
  have hr := B.returns
  have hts := atoms_spec (ws := wsL_shift) B.pre
  have hown : s.vm.findClass RL = some m.cls := findClass_of_methodNamed B.named
  have hS : va_S (fun _ => False) s.heap s.heap [] := va_S.rf
  have hP : va_P D vwCl ([] ++ (zw_X cI x a b σ τ ++ [(o, .inl (cL, 1, .inr (.inl f)))])) s.heap := hP
  have hD : va_D (fun _ => True) ([] ++ (zw_X cI x a b σ τ ++ [(o, .inl (cL, 1, .inr (.inl f)))])) := hD
  have hP2 := fr_P hP
  have hD2 := fr_D hD
  have hK2 : va_K D vwCl [(cI, .int)] s := hK.sub [0] rfl
  have hl := lv_entry ([.ref x, .int v, .int v2, .ref o]) (n := 5) (Nat.le_of_ble_eq_true rfl)
  rw [lg_entry_eq]
  generalize (lg_sl ([.ref x, .int v, .int v2, .ref o]) ++ List.replicate (5 - (lg_sl ([.ref x, .int v, .int v2, .ref o])).length) Slot.unset).toArray = ls at hl ⊢
  have hl : lv_has ls 5 [(0, .ref x), (1, .int v), (2, .int v2), (3, .ref o)] := hl
  have htb := vx_table (x := yL_shift) B (hts _ List.mem_cons_self)
  refine lv_aload_n hx hb dL_shift_0 rfl (lv_at hl 3 rfl) ?_
  refine lv_iconst (v := 0) hx hb dL_shift_1 (by decide) ?_
  refine lv_aload_n hx hb dL_shift_2 rfl (lv_at hl 0 rfl) ?_
  refine lv_iload_n hx hb dL_shift_3 rfl (lv_at hl 1 rfl) ?_
  refine lv_iload_n hx hb dL_shift_4 rfl (lv_at hl 2 rfl) ?_
  refine vx_calli (vx_runV (As := [.int v, .int v2]) (rest := [.int 0, .ref o]) ⟨hx, hb, hml, hown, hts⟩ (t_X3_shift1 l hst D cI x a b σ τ v v2 hv _) (cwV 2 hts gL_shift_X3_shift rfl rfl rfl zdX3_shift ⟨Nat.le_of_ble_eq_true rfl, Nat.le_of_ble_eq_true rfl⟩) ⟨zblX _, va_recv hK hP2 (ci := 3) (q0 := 0) rfl rfl, zprX (H0 := s.heap) hK2 hP2 hD2 hL hZ hS⟩ rfl rfl hl.1 rfl (lv_room (Nat.le_of_ble_eq_true rfl)) dL_shift_5 ⟨Nat.le_of_ble_eq_true rfl, Nat.le_of_ble_eq_true rfl⟩) hS (fun q _ h => h.elim) (fun q h => h.elim) (fun q _ h => h.elim) (fun X ce q9 u t H1 locs1 _ hvm _ hBX _ _ hS hce hcv hcl => ?_) (fun r u t H1 locs1 _ _ hw _ _ _ _ => hw.elim)
  have hBX : X = "java/lang/IndexOutOfBoundsException" := hBX
  subst hBX
  refine vx_catch (name := "java/lang/IndexOutOfBoundsException") hown [] ⟨0, 10, 13, 21⟩ [⟨0, 10, 17, 15⟩] htb (fun z hz => by cases hz) (by decide) (by decide) (hts _ (by decide +kernel)) (va_Nw.use rfl (hL.2.1 "java/lang/IndexOutOfBoundsException" (by decide +kernel))) hce hcv hcl ?_
  refine lv_astore (lv' := [(4, .ref q9), (0, .ref x), (1, .int v), (2, .int v2), (3, .ref o)]) hx hb dL_shift_13 hl (by decide) rfl (fun ls hl => ?_)
  refine lv_iconst (v := 1) hx hb dL_shift_15 (by decide) ?_
  exact W.iret (v := 1) hx hb hr (fun t ht hW => ⟨⟨1, (), rfl, rfl, trivial⟩, hS.F ht⟩) hS.2.2 dL_shift_16

set_option maxHeartbeats 4000000 in
set_option maxRecDepth 100000 in
theorem t_L_shift2 (l : Launch) (hst : l.stackTraces = false) (D : va_G) (cI cL : ClassId) (x : Nat) (a b : Nat → Nat) (σ τ : zS) (o : Nat) (f : Nat → Int64) {k : Nat} {nb ns h : Nat} (hC : zC σ nb ns h) (hk : k < ns) (v : Int32) (hv : ¬ (¬ v < 0 ∧ v < 3)) : zHB l yL_shift wsL_shift ({ frames := 8, cells := 1, slots := 6, locals := 125 }) [.ref x, .int (nI k), .int v, .ref o] D (zT2 cI cL) (zw_O cI cL x a b σ τ o f) 1 := by
  intro sz
  refine zk_ofWH (cc := cL_shift) (maxL := 5) (ret := (some .int)) (by decide) rfl ?_
  intro p e s m args below meth c s₁ B hml hv
  obtain ⟨rfl, ⟨hsz, hP, hK, hD⟩, hL, hZ⟩ := hv
  have hx := B.exec
  have hb := B.bytes
  have hr := B.returns
  have hts := atoms_spec (ws := wsL_shift) B.pre
  have hown : s.vm.findClass RL = some m.cls := findClass_of_methodNamed B.named
  have hS : va_S (fun _ => False) s.heap s.heap [] := va_S.rf
  have hP : va_P D vwCl ([] ++ (zw_X cI x a b σ τ ++ [(o, .inl (cL, 1, .inr (.inl f)))])) s.heap := hP
  have hD : va_D (fun _ => True) ([] ++ (zw_X cI x a b σ τ ++ [(o, .inl (cL, 1, .inr (.inl f)))])) := hD
  have hP2 := fr_P hP
  have hD2 := fr_D hD
  have hK2 : va_K D vwCl [(cI, .int)] s := hK.sub [0] rfl
  have hl := lv_entry ([.ref x, .int (nI k), .int v, .ref o]) (n := 5) (Nat.le_of_ble_eq_true rfl)
  rw [lg_entry_eq]
  generalize (lg_sl ([.ref x, .int (nI k), .int v, .ref o]) ++ List.replicate (5 - (lg_sl ([.ref x, .int (nI k), .int v, .ref o])).length) Slot.unset).toArray = ls at hl ⊢
  have hl : lv_has ls 5 [(0, .ref x), (1, .int (nI k)), (2, .int v), (3, .ref o)] := hl
  have htb := vx_table (x := yL_shift) B (hts _ List.mem_cons_self)
  refine lv_aload_n hx hb dL_shift_0 rfl (lv_at hl 3 rfl) ?_
  refine lv_iconst (v := 0) hx hb dL_shift_1 (by decide) ?_
  refine lv_aload_n hx hb dL_shift_2 rfl (lv_at hl 0 rfl) ?_
  refine lv_iload_n hx hb dL_shift_3 rfl (lv_at hl 1 rfl) ?_
  refine lv_iload_n hx hb dL_shift_4 rfl (lv_at hl 2 rfl) ?_
  refine vx_calli (vx_runV (As := [.int (nI k), .int v]) (rest := [.int 0, .ref o]) ⟨hx, hb, hml, hown, hts⟩ (t_X3_shift2 l hst D cI x a b σ τ hC hk v hv _) (cwV 2 hts gL_shift_X3_shift rfl rfl rfl zdX3_shift ⟨Nat.le_of_ble_eq_true rfl, Nat.le_of_ble_eq_true rfl⟩) ⟨zblX _, va_recv hK hP2 (ci := 3) (q0 := 0) rfl rfl, zprX (H0 := s.heap) hK2 hP2 hD2 hL hZ hS⟩ rfl rfl hl.1 rfl (lv_room (Nat.le_of_ble_eq_true rfl)) dL_shift_5 ⟨Nat.le_of_ble_eq_true rfl, Nat.le_of_ble_eq_true rfl⟩) hS (fun q _ h => h.elim) (fun q h => h.elim) (fun q _ h => h.elim) (fun X ce q9 u t H1 locs1 _ hvm _ hBX _ _ hS hce hcv hcl => ?_) (fun r u t H1 locs1 _ _ hw _ _ _ _ => hw.elim)
  have hBX : X = "java/lang/IndexOutOfBoundsException" := hBX
  subst hBX
  refine vx_catch (name := "java/lang/IndexOutOfBoundsException") hown [] ⟨0, 10, 13, 21⟩ [⟨0, 10, 17, 15⟩] htb (fun z hz => by cases hz) (by decide) (by decide) (hts _ (by decide +kernel)) (va_Nw.use rfl (hL.2.1 "java/lang/IndexOutOfBoundsException" (by decide +kernel))) hce hcv hcl ?_
  refine lv_astore (lv' := [(4, .ref q9), (0, .ref x), (1, .int (nI k)), (2, .int v), (3, .ref o)]) hx hb dL_shift_13 hl (by decide) rfl (fun ls hl => ?_)
  refine lv_iconst (v := 1) hx hb dL_shift_15 (by decide) ?_
  exact W.iret (v := 1) hx hb hr (fun t ht hW => ⟨⟨1, (), rfl, rfl, trivial⟩, hS.F ht⟩) hS.2.2 dL_shift_16

set_option maxHeartbeats 4000000 in
set_option maxRecDepth 100000 in
theorem t_L_shift3 (l : Launch) (hst : l.stackTraces = false) (D : va_G) (cI cL : ClassId) (x : Nat) (a b : Nat → Nat) (σ τ : zS) (o : Nat) (f : Nat → Int64) {k : Nat} {nb ns h : Nat} (hC : zC σ nb ns h) (hk : k < ns) (v : Int32) (hw1 : ¬ v < 0) (hw2 : v < 3) (hup : ¬ σ 12 k = 0) : zHB l yL_shift wsL_shift ({ frames := 8, cells := 1, slots := 6, locals := 126 }) [.ref x, .int (nI k), .int v, .ref o] D (zT2 cI cL) (zw_O cI cL x a b σ τ o f) 2 := by
  intro sz
  refine zk_ofWH (cc := cL_shift) (maxL := 5) (ret := (some .int)) (by decide) rfl ?_
  intro p e s m args below meth c s₁ B hml hv
  obtain ⟨rfl, ⟨hsz, hP, hK, hD⟩, hL, hZ⟩ := hv
  have hx := B.exec
  have hb := B.bytes
  have hr := B.returns
  have hts := atoms_spec (ws := wsL_shift) B.pre
  have hown : s.vm.findClass RL = some m.cls := findClass_of_methodNamed B.named
  have hS : va_S (fun _ => False) s.heap s.heap [] := va_S.rf
  have hP : va_P D vwCl ([] ++ (zw_X cI x a b σ τ ++ [(o, .inl (cL, 1, .inr (.inl f)))])) s.heap := hP
  have hD : va_D (fun _ => True) ([] ++ (zw_X cI x a b σ τ ++ [(o, .inl (cL, 1, .inr (.inl f)))])) := hD
  have hP2 := fr_P hP
  have hD2 := fr_D hD
  have hK2 : va_K D vwCl [(cI, .int)] s := hK.sub [0] rfl
  have hl := lv_entry ([.ref x, .int (nI k), .int v, .ref o]) (n := 5) (Nat.le_of_ble_eq_true rfl)
  rw [lg_entry_eq]
  generalize (lg_sl ([.ref x, .int (nI k), .int v, .ref o]) ++ List.replicate (5 - (lg_sl ([.ref x, .int (nI k), .int v, .ref o])).length) Slot.unset).toArray = ls at hl ⊢
  have hl : lv_has ls 5 [(0, .ref x), (1, .int (nI k)), (2, .int v), (3, .ref o)] := hl
  have htb := vx_table (x := yL_shift) B (hts _ List.mem_cons_self)
  refine lv_aload_n hx hb dL_shift_0 rfl (lv_at hl 3 rfl) ?_
  refine lv_iconst (v := 0) hx hb dL_shift_1 (by decide) ?_
  refine lv_aload_n hx hb dL_shift_2 rfl (lv_at hl 0 rfl) ?_
  refine lv_iload_n hx hb dL_shift_3 rfl (lv_at hl 1 rfl) ?_
  refine lv_iload_n hx hb dL_shift_4 rfl (lv_at hl 2 rfl) ?_
  refine vx_calli (vx_runV (As := [.int (nI k), .int v]) (rest := [.int 0, .ref o]) ⟨hx, hb, hml, hown, hts⟩ (t_X3_shift3 l hst D cI x a b σ τ hC hk v hw1 hw2 hup _) (cwV 2 hts gL_shift_X3_shift rfl rfl rfl zdX3_shift ⟨Nat.le_of_ble_eq_true rfl, Nat.le_of_ble_eq_true rfl⟩) ⟨zblX _, va_recv hK hP2 (ci := 3) (q0 := 0) rfl rfl, zprX (H0 := s.heap) hK2 hP2 hD2 hL hZ hS⟩ rfl rfl hl.1 rfl (lv_room (Nat.le_of_ble_eq_true rfl)) dL_shift_5 ⟨Nat.le_of_ble_eq_true rfl, Nat.le_of_ble_eq_true rfl⟩) hS (fun q _ h => h.elim) (fun q h => h.elim) (fun q _ h => h.elim) (fun X ce q9 u t H1 locs1 _ hvm _ hBX _ _ hS hce hcv hcl => ?_) (fun r u t H1 locs1 _ _ hw _ _ _ _ => hw.elim)
  have hBX : X = "java/lang/IllegalStateException" := hBX
  subst hBX
  refine vx_catch (name := "java/lang/IllegalStateException") hown [⟨0, 10, 13, 21⟩] ⟨0, 10, 17, 15⟩ [] htb (fun z hz => by
      simp only [List.mem_cons, List.not_mem_nil, or_false] at hz
      subst hz
      exact Or.inr ⟨by decide, "java/lang/IndexOutOfBoundsException", hts _ (by decide +kernel), hL.2.2.2.2 ("java/lang/IllegalStateException", "java/lang/IndexOutOfBoundsException") (by decide +kernel)⟩) (by decide) (by decide) (hts _ (by decide +kernel)) (va_Nw.use rfl (hL.2.1 "java/lang/IllegalStateException" (by decide +kernel))) hce hcv hcl ?_
  refine lv_astore (lv' := [(4, .ref q9), (0, .ref x), (1, .int (nI k)), (2, .int v), (3, .ref o)]) hx hb dL_shift_17 hl (by decide) rfl (fun ls hl => ?_)
  refine lv_iconst (v := 2) hx hb dL_shift_19 (by decide) ?_
  exact W.iret (v := 2) hx hb hr (fun t ht hW => ⟨⟨2, (), rfl, rfl, trivial⟩, hS.F ht⟩) hS.2.2 dL_shift_20

set_option maxHeartbeats 4000000 in
set_option maxRecDepth 100000 in
theorem c_L_pass (l : Launch) (D : va_G) (cI cL : ClassId) (x : Nat) (a b : Nat → Nat) (σ τ : zS) (o : Nat) (f : Nat → Int64) {n : Nat} {nb ns h : Nat} (hC : zC σ nb ns h) (hw1 : ¬ nI n < 1) (hw2 : nI n ≤ 72) (hn : h + n < 2 ^ 30) : zHO l yL_pass wsL_pass ({ frames := 8, cells := 0, slots := 0, locals := 171 }) [.ref x, .int (nI n), .ref o] D (zT2 cI cL) (zw_O cI cL x a b σ τ o f) (fun u => zw_O cI cL x a b (f_hours σ nb ns h n) τ o (vp_updL f 0 (f_sum ((f_hours σ nb ns h n) 17) ns - f_sum (σ 17) ns).toInt64)) := by
  intro sz
  refine zk_ofWH (cc := cL_pass) (maxL := 4) (ret := (some .int)) (by decide) rfl ?_
  intro p e s m args below meth c s₁ B hml hv
  obtain ⟨rfl, ⟨hsz, hP, hK, hD⟩, hL⟩ := hv
  have hx := B.exec
  have hb := B.bytes
  have hr := B.returns
  have hts := atoms_spec (ws := wsL_pass) B.pre
  have hown : s.vm.findClass RL = some m.cls := findClass_of_methodNamed B.named
  subst hsz
  have hD := hD.self (sz := s.heap.size)
  generalize hAe : va_A (zw_O cI cL x a b σ τ o f) s.heap.size = A at hD ⊢
  have hA : ∀ q : Nat, s.heap.size ≤ q → A q := fun q h => by rw [← hAe]; exact Or.inr h
  have hS : va_S A s.heap s.heap [] := va_S.rf
  have hP : va_P D vwCl ([] ++ (zw_X cI x a b σ τ ++ [(o, .inl (cL, 1, .inr (.inl f)))])) s.heap := hP
  have hD : va_D A ([] ++ (zw_X cI x a b σ τ ++ [(o, .inl (cL, 1, .inr (.inl f)))])) := hD
  have hP2 := fr_P hP
  have hD2 := fr_D hD
  have hK2 : va_K D vwCl [(cI, .int)] s := hK.sub [0] rfl
  have hl := lv_entry ([.ref x, .int (nI n), .ref o]) (n := 4) (Nat.le_of_ble_eq_true rfl)
  rw [lg_entry_eq]
  generalize (lg_sl ([.ref x, .int (nI n), .ref o]) ++ List.replicate (4 - (lg_sl ([.ref x, .int (nI n), .ref o])).length) Slot.unset).toArray = ls at hl ⊢
  have hl : lv_has ls 4 [(0, .ref x), (1, .int (nI n)), (2, .ref o)] := hl
  refine lv_aload_n hx hb dL_pass_0 rfl (lv_at hl 2 rfl) ?_
  refine lv_iconst (v := 0) hx hb dL_pass_1 (by decide) ?_
  refine lv_aload_n hx hb dL_pass_2 rfl (lv_at hl 0 rfl) ?_
  refine lv_iload_n hx hb dL_pass_3 rfl (lv_at hl 1 rfl) ?_
  have hF := zfree hD2 hS hA
  refine zk_I (va_runV (As := [.int (nI n)]) (rest := [.int 0, .ref o]) ⟨hx, hb, hml, hown, hts⟩ (c_X3_pass l D cI x a b σ τ hC hw1 hw2 hn _) (cwV 1 hts gL_pass_X3_pass rfl rfl rfl zdX3_pass ⟨Nat.le_of_ble_eq_true rfl, Nat.le_of_ble_eq_true rfl⟩) ⟨zbl _, va_recv hK hP2 (ci := 3) (q0 := 0) rfl rfl, zpr hK2 hP2 hD2⟩ rfl rfl hl.1 rfl (lv_room (Nat.le_of_ble_eq_true rfl)) dL_pass_4 ⟨Nat.zero_le _, Nat.zero_le _⟩) hS hF (fun r H1 locs1 hr9 hkp hP1 hD1 hS => ?_)
  obtain ⟨hP, hD⟩ := fr_J hP hD hkp hF hP1 hD1
  subst hr9
  refine lv_i2l hx hb dL_pass_7 rfl ?_
  refine va_last hx hb hK hP hD hS 41 1 rfl rfl vp_in01 dL_pass_8 (fun H locs hP hD hS => ?_)
  refine lv_goto (tgt := 15) hx hb dL_pass_9 (by decide) ?_
  refine lv_iconst (v := 0) hx hb dL_pass_15 (by decide) ?_
  exact W.iret (v := 0) hx hb hr (fun t ht hW => ⟨⟨0, τ, rfl, rfl, by rw [ht]; exact hP, va_K.moved hW.alike hK, hD⟩, hS.F ht⟩) hS.2.2 dL_pass_16

set_option maxHeartbeats 4000000 in
set_option maxRecDepth 100000 in
theorem t_L_pass (l : Launch) (hst : l.stackTraces = false) (D : va_G) (cI cL : ClassId) (x : Nat) (a b : Nat → Nat) (σ τ : zS) (o : Nat) (f : Nat → Int64) (v : Int32) (hv : ¬ (¬ v < 1 ∧ v ≤ 72)) : zHB l yL_pass wsL_pass ({ frames := 8, cells := 1, slots := 6, locals := 124 }) [.ref x, .int v, .ref o] D (zT2 cI cL) (zw_O cI cL x a b σ τ o f) 1 := by
  intro sz
  refine zk_ofWH (cc := cL_pass) (maxL := 4) (ret := (some .int)) (by decide) rfl ?_
  intro p e s m args below meth c s₁ B hml hv
  obtain ⟨rfl, ⟨hsz, hP, hK, hD⟩, hL, hZ⟩ := hv
  have hx := B.exec
  have hb := B.bytes
  have hr := B.returns
  have hts := atoms_spec (ws := wsL_pass) B.pre
  have hown : s.vm.findClass RL = some m.cls := findClass_of_methodNamed B.named
  have hS : va_S (fun _ => False) s.heap s.heap [] := va_S.rf
  have hP : va_P D vwCl ([] ++ (zw_X cI x a b σ τ ++ [(o, .inl (cL, 1, .inr (.inl f)))])) s.heap := hP
  have hD : va_D (fun _ => True) ([] ++ (zw_X cI x a b σ τ ++ [(o, .inl (cL, 1, .inr (.inl f)))])) := hD
  have hP2 := fr_P hP
  have hD2 := fr_D hD
  have hK2 : va_K D vwCl [(cI, .int)] s := hK.sub [0] rfl
  have hl := lv_entry ([.ref x, .int v, .ref o]) (n := 4) (Nat.le_of_ble_eq_true rfl)
  rw [lg_entry_eq]
  generalize (lg_sl ([.ref x, .int v, .ref o]) ++ List.replicate (4 - (lg_sl ([.ref x, .int v, .ref o])).length) Slot.unset).toArray = ls at hl ⊢
  have hl : lv_has ls 4 [(0, .ref x), (1, .int v), (2, .ref o)] := hl
  have htb := vx_table (x := yL_pass) B (hts _ List.mem_cons_self)
  refine lv_aload_n hx hb dL_pass_0 rfl (lv_at hl 2 rfl) ?_
  refine lv_iconst (v := 0) hx hb dL_pass_1 (by decide) ?_
  refine lv_aload_n hx hb dL_pass_2 rfl (lv_at hl 0 rfl) ?_
  refine lv_iload_n hx hb dL_pass_3 rfl (lv_at hl 1 rfl) ?_
  refine vx_calli (vx_runV (As := [.int v]) (rest := [.int 0, .ref o]) ⟨hx, hb, hml, hown, hts⟩ (t_X3_pass l hst D cI x a b σ τ v hv _) (cwV 1 hts gL_pass_X3_pass rfl rfl rfl zdX3_pass ⟨Nat.le_of_ble_eq_true rfl, Nat.le_of_ble_eq_true rfl⟩) ⟨zblX _, va_recv hK hP2 (ci := 3) (q0 := 0) rfl rfl, zprX (H0 := s.heap) hK2 hP2 hD2 hL hZ hS⟩ rfl rfl hl.1 rfl (lv_room (Nat.le_of_ble_eq_true rfl)) dL_pass_4 ⟨Nat.le_of_ble_eq_true rfl, Nat.le_of_ble_eq_true rfl⟩) hS (fun q _ h => h.elim) (fun q h => h.elim) (fun q _ h => h.elim) (fun X ce q9 u t H1 locs1 _ hvm _ hBX _ _ hS hce hcv hcl => ?_) (fun r u t H1 locs1 _ _ hw _ _ _ _ => hw.elim)
  have hBX : X = "java/lang/IllegalArgumentException" := hBX
  subst hBX
  refine vx_catch (name := "java/lang/IllegalArgumentException") hown [] ⟨0, 9, 12, 13⟩ [] htb (fun z hz => by cases hz) (by decide) (by decide) (hts _ (by decide +kernel)) (va_Nw.use rfl (hL.2.1 "java/lang/IllegalArgumentException" (by decide +kernel))) hce hcv hcl ?_
  refine lv_astore_n (lv' := [(3, .ref q9), (0, .ref x), (1, .int v), (2, .ref o)]) hx hb dL_pass_12 rfl hl (by decide) rfl (fun ls hl => ?_)
  refine lv_iconst (v := 1) hx hb dL_pass_13 (by decide) ?_
  exact W.iret (v := 1) hx hb hr (fun t ht hW => ⟨⟨1, (), rfl, rfl, trivial⟩, hS.F ht⟩) hS.2.2 dL_pass_14

set_option maxHeartbeats 4000000 in
set_option maxRecDepth 100000 in
theorem c_L_told (l : Launch) (D : va_G) (cI cL : ClassId) (x : Nat) (a b : Nat → Nat) (σ τ : zS) (o : Nat) (f : Nat → Int64) {k w : Nat} {nb ns h : Nat} (hC : zC σ nb ns h) (hk : k < ns) (hw10 : w ≤ 10) : zHO l yL_told wsL_told ({ frames := 2, cells := 0, slots := 0, locals := 44 }) [.ref x, .int (nI k), .int (nI w), .ref o] D (zT2 cI cL) (zw_O cI cL x a b σ τ o f) (fun u => zw_O cI cL x a b (σ) τ o (vp_updL f 0 (σ (q_row w) k).toInt64)) := by
  intro sz
  refine zk_ofWH (cc := cL_told) (maxL := 5) (ret := (some .int)) (by decide) rfl ?_
  intro p e s m args below meth c s₁ B hml hv
  obtain ⟨rfl, ⟨hsz, hP, hK, hD⟩, hL⟩ := hv
  have hx := B.exec
  have hb := B.bytes
  have hr := B.returns
  have hts := atoms_spec (ws := wsL_told) B.pre
  have hown : s.vm.findClass RL = some m.cls := findClass_of_methodNamed B.named
  subst hsz
  have hD := hD.self (sz := s.heap.size)
  generalize hAe : va_A (zw_O cI cL x a b σ τ o f) s.heap.size = A at hD ⊢
  have hA : ∀ q : Nat, s.heap.size ≤ q → A q := fun q h => by rw [← hAe]; exact Or.inr h
  have hS : va_S A s.heap s.heap [] := va_S.rf
  have hP : va_P D vwCl ([] ++ (zw_X cI x a b σ τ ++ [(o, .inl (cL, 1, .inr (.inl f)))])) s.heap := hP
  have hD : va_D A ([] ++ (zw_X cI x a b σ τ ++ [(o, .inl (cL, 1, .inr (.inl f)))])) := hD
  have hP2 := fr_P hP
  have hD2 := fr_D hD
  have hK2 : va_K D vwCl [(cI, .int)] s := hK.sub [0] rfl
  have hl := lv_entry ([.ref x, .int (nI k), .int (nI w), .ref o]) (n := 5) (Nat.le_of_ble_eq_true rfl)
  rw [lg_entry_eq]
  generalize (lg_sl ([.ref x, .int (nI k), .int (nI w), .ref o]) ++ List.replicate (5 - (lg_sl ([.ref x, .int (nI k), .int (nI w), .ref o])).length) Slot.unset).toArray = ls at hl ⊢
  have hl : lv_has ls 5 [(0, .ref x), (1, .int (nI k)), (2, .int (nI w)), (3, .ref o)] := hl
  refine lv_aload_n hx hb dL_told_0 rfl (lv_at hl 3 rfl) ?_
  refine lv_iconst (v := 0) hx hb dL_told_1 (by decide) ?_
  refine lv_aload_n hx hb dL_told_2 rfl (lv_at hl 0 rfl) ?_
  refine lv_iload_n hx hb dL_told_3 rfl (lv_at hl 1 rfl) ?_
  refine lv_iload_n hx hb dL_told_4 rfl (lv_at hl 2 rfl) ?_
  refine zk_R (D := D) (va_runV (As := [.int (nI k), .int (nI w)]) (rest := [.int 0, .ref o]) ⟨hx, hb, hml, hown, hts⟩ (c_X3_told l D cI x a b σ τ hC hk hw10 _) (cwV 2 hts gL_told_X3_told rfl rfl rfl zdX3_told ⟨Nat.le_of_ble_eq_true rfl, Nat.le_of_ble_eq_true rfl⟩) ⟨zbl _, va_recv hK hP2 (ci := 3) (q0 := 0) rfl rfl, zpr hK2 hP2 hD2⟩ rfl rfl hl.1 rfl (lv_room (Nat.le_of_ble_eq_true rfl)) dL_told_5 ⟨Nat.zero_le _, Nat.zero_le _⟩) hS (fun r H1 locs1 hr9 hk1 hS => ?_)
  have hP := hk1 _ hP
  subst hr9
  refine lv_i2l hx hb dL_told_8 rfl ?_
  refine va_last hx hb hK hP hD hS 41 1 rfl rfl vp_in01 dL_told_9 (fun H locs hP hD hS => ?_)
  refine lv_goto (tgt := 17) hx hb dL_told_10 (by decide) ?_
  refine lv_iconst (v := 0) hx hb dL_told_17 (by decide) ?_
  exact W.iret (v := 0) hx hb hr (fun t ht hW => ⟨⟨0, τ, rfl, rfl, by rw [ht]; exact hP, va_K.moved hW.alike hK, hD⟩, hS.F ht⟩) hS.2.2 dL_told_18

set_option maxHeartbeats 4000000 in
set_option maxRecDepth 100000 in
theorem t_L_told1 (l : Launch) (hst : l.stackTraces = false) (D : va_G) (cI cL : ClassId) (x : Nat) (a b : Nat → Nat) (σ τ : zS) (o : Nat) (f : Nat → Int64) (v v2 : Int32) (hv : ¬ f_sail σ v) : zHB l yL_told wsL_told ({ frames := 8, cells := 1, slots := 6, locals := 126 }) [.ref x, .int v, .int v2, .ref o] D (zT2 cI cL) (zw_O cI cL x a b σ τ o f) 1 := by
  intro sz
  refine zk_ofWH (cc := cL_told) (maxL := 5) (ret := (some .int)) (by decide) rfl ?_
  intro p e s m args below meth c s₁ B hml hv
  obtain ⟨rfl, ⟨hsz, hP, hK, hD⟩, hL, hZ⟩ := hv
  have hx := B.exec
  have hb := B.bytes
  have hr := B.returns
  have hts := atoms_spec (ws := wsL_told) B.pre
  have hown : s.vm.findClass RL = some m.cls := findClass_of_methodNamed B.named
  have hS : va_S (fun _ => False) s.heap s.heap [] := va_S.rf
  have hP : va_P D vwCl ([] ++ (zw_X cI x a b σ τ ++ [(o, .inl (cL, 1, .inr (.inl f)))])) s.heap := hP
  have hD : va_D (fun _ => True) ([] ++ (zw_X cI x a b σ τ ++ [(o, .inl (cL, 1, .inr (.inl f)))])) := hD
  have hP2 := fr_P hP
  have hD2 := fr_D hD
  have hK2 : va_K D vwCl [(cI, .int)] s := hK.sub [0] rfl
  have hl := lv_entry ([.ref x, .int v, .int v2, .ref o]) (n := 5) (Nat.le_of_ble_eq_true rfl)
  rw [lg_entry_eq]
  generalize (lg_sl ([.ref x, .int v, .int v2, .ref o]) ++ List.replicate (5 - (lg_sl ([.ref x, .int v, .int v2, .ref o])).length) Slot.unset).toArray = ls at hl ⊢
  have hl : lv_has ls 5 [(0, .ref x), (1, .int v), (2, .int v2), (3, .ref o)] := hl
  have htb := vx_table (x := yL_told) B (hts _ List.mem_cons_self)
  refine lv_aload_n hx hb dL_told_0 rfl (lv_at hl 3 rfl) ?_
  refine lv_iconst (v := 0) hx hb dL_told_1 (by decide) ?_
  refine lv_aload_n hx hb dL_told_2 rfl (lv_at hl 0 rfl) ?_
  refine lv_iload_n hx hb dL_told_3 rfl (lv_at hl 1 rfl) ?_
  refine lv_iload_n hx hb dL_told_4 rfl (lv_at hl 2 rfl) ?_
  refine vx_calli (vx_runV (As := [.int v, .int v2]) (rest := [.int 0, .ref o]) ⟨hx, hb, hml, hown, hts⟩ (t_X3_told1 l hst D cI x a b σ τ v v2 hv _) (cwV 2 hts gL_told_X3_told rfl rfl rfl zdX3_told ⟨Nat.le_of_ble_eq_true rfl, Nat.le_of_ble_eq_true rfl⟩) ⟨zblX _, va_recv hK hP2 (ci := 3) (q0 := 0) rfl rfl, zprX (H0 := s.heap) hK2 hP2 hD2 hL hZ hS⟩ rfl rfl hl.1 rfl (lv_room (Nat.le_of_ble_eq_true rfl)) dL_told_5 ⟨Nat.le_of_ble_eq_true rfl, Nat.le_of_ble_eq_true rfl⟩) hS (fun q _ h => h.elim) (fun q h => h.elim) (fun q _ h => h.elim) (fun X ce q9 u t H1 locs1 _ hvm _ hBX _ _ hS hce hcv hcl => ?_) (fun r u t H1 locs1 _ _ hw _ _ _ _ => hw.elim)
  have hBX : X = "java/lang/IndexOutOfBoundsException" := hBX
  subst hBX
  refine vx_catch (name := "java/lang/IndexOutOfBoundsException") hown [] ⟨0, 10, 13, 21⟩ [] htb (fun z hz => by cases hz) (by decide) (by decide) (hts _ (by decide +kernel)) (va_Nw.use rfl (hL.2.1 "java/lang/IndexOutOfBoundsException" (by decide +kernel))) hce hcv hcl ?_
  refine lv_astore (lv' := [(4, .ref q9), (0, .ref x), (1, .int v), (2, .int v2), (3, .ref o)]) hx hb dL_told_13 hl (by decide) rfl (fun ls hl => ?_)
  refine lv_iconst (v := 1) hx hb dL_told_15 (by decide) ?_
  exact W.iret (v := 1) hx hb hr (fun t ht hW => ⟨⟨1, (), rfl, rfl, trivial⟩, hS.F ht⟩) hS.2.2 dL_told_16

set_option maxHeartbeats 4000000 in
set_option maxRecDepth 100000 in
theorem t_L_told2 (l : Launch) (hst : l.stackTraces = false) (D : va_G) (cI cL : ClassId) (x : Nat) (a b : Nat → Nat) (σ τ : zS) (o : Nat) (f : Nat → Int64) {k : Nat} {nb ns h : Nat} (hC : zC σ nb ns h) (hk : k < ns) (v : Int32) (hv : v.toInt < 0 ∨ 10 < v.toInt) : zHB l yL_told wsL_told ({ frames := 7, cells := 1, slots := 6, locals := 105 }) [.ref x, .int (nI k), .int v, .ref o] D (zT2 cI cL) (zw_O cI cL x a b σ τ o f) 1 := by
  intro sz
  refine zk_ofWH (cc := cL_told) (maxL := 5) (ret := (some .int)) (by decide) rfl ?_
  intro p e s m args below meth c s₁ B hml hv
  obtain ⟨rfl, ⟨hsz, hP, hK, hD⟩, hL, hZ⟩ := hv
  have hx := B.exec
  have hb := B.bytes
  have hr := B.returns
  have hts := atoms_spec (ws := wsL_told) B.pre
  have hown : s.vm.findClass RL = some m.cls := findClass_of_methodNamed B.named
  have hS : va_S (fun _ => False) s.heap s.heap [] := va_S.rf
  have hP : va_P D vwCl ([] ++ (zw_X cI x a b σ τ ++ [(o, .inl (cL, 1, .inr (.inl f)))])) s.heap := hP
  have hD : va_D (fun _ => True) ([] ++ (zw_X cI x a b σ τ ++ [(o, .inl (cL, 1, .inr (.inl f)))])) := hD
  have hP2 := fr_P hP
  have hD2 := fr_D hD
  have hK2 : va_K D vwCl [(cI, .int)] s := hK.sub [0] rfl
  have hl := lv_entry ([.ref x, .int (nI k), .int v, .ref o]) (n := 5) (Nat.le_of_ble_eq_true rfl)
  rw [lg_entry_eq]
  generalize (lg_sl ([.ref x, .int (nI k), .int v, .ref o]) ++ List.replicate (5 - (lg_sl ([.ref x, .int (nI k), .int v, .ref o])).length) Slot.unset).toArray = ls at hl ⊢
  have hl : lv_has ls 5 [(0, .ref x), (1, .int (nI k)), (2, .int v), (3, .ref o)] := hl
  have htb := vx_table (x := yL_told) B (hts _ List.mem_cons_self)
  refine lv_aload_n hx hb dL_told_0 rfl (lv_at hl 3 rfl) ?_
  refine lv_iconst (v := 0) hx hb dL_told_1 (by decide) ?_
  refine lv_aload_n hx hb dL_told_2 rfl (lv_at hl 0 rfl) ?_
  refine lv_iload_n hx hb dL_told_3 rfl (lv_at hl 1 rfl) ?_
  refine lv_iload_n hx hb dL_told_4 rfl (lv_at hl 2 rfl) ?_
  refine vx_calli (vx_runV (As := [.int (nI k), .int v]) (rest := [.int 0, .ref o]) ⟨hx, hb, hml, hown, hts⟩ (t_X3_told2 l hst D cI x a b σ τ hC hk v hv _) (cwV 2 hts gL_told_X3_told rfl rfl rfl zdX3_told ⟨Nat.le_of_ble_eq_true rfl, Nat.le_of_ble_eq_true rfl⟩) ⟨zblX _, va_recv hK hP2 (ci := 3) (q0 := 0) rfl rfl, zprX (H0 := s.heap) hK2 hP2 hD2 hL hZ hS⟩ rfl rfl hl.1 rfl (lv_room (Nat.le_of_ble_eq_true rfl)) dL_told_5 ⟨Nat.le_of_ble_eq_true rfl, Nat.le_of_ble_eq_true rfl⟩) hS (fun q _ h => h.elim) (fun q h => h.elim) (fun q _ h => h.elim) (fun X ce q9 u t H1 locs1 _ hvm _ hBX _ _ hS hce hcv hcl => ?_) (fun r u t H1 locs1 _ _ hw _ _ _ _ => hw.elim)
  have hBX : X = "java/lang/IndexOutOfBoundsException" := hBX
  subst hBX
  refine vx_catch (name := "java/lang/IndexOutOfBoundsException") hown [] ⟨0, 10, 13, 21⟩ [] htb (fun z hz => by cases hz) (by decide) (by decide) (hts _ (by decide +kernel)) (va_Nw.use rfl (hL.2.1 "java/lang/IndexOutOfBoundsException" (by decide +kernel))) hce hcv hcl ?_
  refine lv_astore (lv' := [(4, .ref q9), (0, .ref x), (1, .int (nI k)), (2, .int v), (3, .ref o)]) hx hb dL_told_13 hl (by decide) rfl (fun ls hl => ?_)
  refine lv_iconst (v := 1) hx hb dL_told_15 (by decide) ?_
  exact W.iret (v := 1) hx hb hr (fun t ht hW => ⟨⟨1, (), rfl, rfl, trivial⟩, hS.F ht⟩) hS.2.2 dL_told_16

set_option maxHeartbeats 4000000 in
set_option maxRecDepth 100000 in
theorem c_L_about (l : Launch) (D : va_G) (cI cL : ClassId) (x : Nat) (a b : Nat → Nat) (σ τ : zS) (o : Nat) (f : Nat → Int64) {k w : Nat} {nb ns h : Nat} (hC : zC σ nb ns h) (hkb : k < nb) (hw4 : w ≤ 4) : zHO l yL_about wsL_about ({ frames := 3, cells := 0, slots := 0, locals := 65 }) [.ref x, .int (nI k), .int (nI w), .ref o] D (zT2 cI cL) (zw_O cI cL x a b σ τ o f) (fun u => zw_O cI cL x a b (σ) τ o (vp_updL f 0 (σ (w + 1) k).toInt64)) := by
  intro sz
  refine zk_ofWH (cc := cL_about) (maxL := 5) (ret := (some .int)) (by decide) rfl ?_
  intro p e s m args below meth c s₁ B hml hv
  obtain ⟨rfl, ⟨hsz, hP, hK, hD⟩, hL⟩ := hv
  have hx := B.exec
  have hb := B.bytes
  have hr := B.returns
  have hts := atoms_spec (ws := wsL_about) B.pre
  have hown : s.vm.findClass RL = some m.cls := findClass_of_methodNamed B.named
  subst hsz
  have hD := hD.self (sz := s.heap.size)
  generalize hAe : va_A (zw_O cI cL x a b σ τ o f) s.heap.size = A at hD ⊢
  have hA : ∀ q : Nat, s.heap.size ≤ q → A q := fun q h => by rw [← hAe]; exact Or.inr h
  have hS : va_S A s.heap s.heap [] := va_S.rf
  have hP : va_P D vwCl ([] ++ (zw_X cI x a b σ τ ++ [(o, .inl (cL, 1, .inr (.inl f)))])) s.heap := hP
  have hD : va_D A ([] ++ (zw_X cI x a b σ τ ++ [(o, .inl (cL, 1, .inr (.inl f)))])) := hD
  have hP2 := fr_P hP
  have hD2 := fr_D hD
  have hK2 : va_K D vwCl [(cI, .int)] s := hK.sub [0] rfl
  have hl := lv_entry ([.ref x, .int (nI k), .int (nI w), .ref o]) (n := 5) (Nat.le_of_ble_eq_true rfl)
  rw [lg_entry_eq]
  generalize (lg_sl ([.ref x, .int (nI k), .int (nI w), .ref o]) ++ List.replicate (5 - (lg_sl ([.ref x, .int (nI k), .int (nI w), .ref o])).length) Slot.unset).toArray = ls at hl ⊢
  have hl : lv_has ls 5 [(0, .ref x), (1, .int (nI k)), (2, .int (nI w)), (3, .ref o)] := hl
  refine lv_aload_n hx hb dL_about_0 rfl (lv_at hl 3 rfl) ?_
  refine lv_iconst (v := 0) hx hb dL_about_1 (by decide) ?_
  refine lv_aload_n hx hb dL_about_2 rfl (lv_at hl 0 rfl) ?_
  refine lv_iload_n hx hb dL_about_3 rfl (lv_at hl 1 rfl) ?_
  refine lv_iload_n hx hb dL_about_4 rfl (lv_at hl 2 rfl) ?_
  refine zk_R (D := D) (va_runV (As := [.int (nI k), .int (nI w)]) (rest := [.int 0, .ref o]) ⟨hx, hb, hml, hown, hts⟩ (c_X3_about l D cI x a b σ τ hC hkb hw4 _) (cwV 2 hts gL_about_X3_about rfl rfl rfl zdX3_about ⟨Nat.le_of_ble_eq_true rfl, Nat.le_of_ble_eq_true rfl⟩) ⟨zbl _, va_recv hK hP2 (ci := 3) (q0 := 0) rfl rfl, zpr hK2 hP2 hD2⟩ rfl rfl hl.1 rfl (lv_room (Nat.le_of_ble_eq_true rfl)) dL_about_5 ⟨Nat.zero_le _, Nat.zero_le _⟩) hS (fun r H1 locs1 hr9 hk1 hS => ?_)
  have hP := hk1 _ hP
  subst hr9
  refine lv_i2l hx hb dL_about_8 rfl ?_
  refine va_last hx hb hK hP hD hS 41 1 rfl rfl vp_in01 dL_about_9 (fun H locs hP hD hS => ?_)
  refine lv_goto (tgt := 17) hx hb dL_about_10 (by decide) ?_
  refine lv_iconst (v := 0) hx hb dL_about_17 (by decide) ?_
  exact W.iret (v := 0) hx hb hr (fun t ht hW => ⟨⟨0, τ, rfl, rfl, by rw [ht]; exact hP, va_K.moved hW.alike hK, hD⟩, hS.F ht⟩) hS.2.2 dL_about_18

set_option maxHeartbeats 4000000 in
set_option maxRecDepth 100000 in
theorem t_L_about1 (l : Launch) (hst : l.stackTraces = false) (D : va_G) (cI cL : ClassId) (x : Nat) (a b : Nat → Nat) (σ τ : zS) (o : Nat) (f : Nat → Int64) (v v2 : Int32) (hv : ¬ f_has σ v) : zHB l yL_about wsL_about ({ frames := 8, cells := 1, slots := 6, locals := 126 }) [.ref x, .int v, .int v2, .ref o] D (zT2 cI cL) (zw_O cI cL x a b σ τ o f) 1 := by
  intro sz
  refine zk_ofWH (cc := cL_about) (maxL := 5) (ret := (some .int)) (by decide) rfl ?_
  intro p e s m args below meth c s₁ B hml hv
  obtain ⟨rfl, ⟨hsz, hP, hK, hD⟩, hL, hZ⟩ := hv
  have hx := B.exec
  have hb := B.bytes
  have hr := B.returns
  have hts := atoms_spec (ws := wsL_about) B.pre
  have hown : s.vm.findClass RL = some m.cls := findClass_of_methodNamed B.named
  have hS : va_S (fun _ => False) s.heap s.heap [] := va_S.rf
  have hP : va_P D vwCl ([] ++ (zw_X cI x a b σ τ ++ [(o, .inl (cL, 1, .inr (.inl f)))])) s.heap := hP
  have hD : va_D (fun _ => True) ([] ++ (zw_X cI x a b σ τ ++ [(o, .inl (cL, 1, .inr (.inl f)))])) := hD
  have hP2 := fr_P hP
  have hD2 := fr_D hD
  have hK2 : va_K D vwCl [(cI, .int)] s := hK.sub [0] rfl
  have hl := lv_entry ([.ref x, .int v, .int v2, .ref o]) (n := 5) (Nat.le_of_ble_eq_true rfl)
  rw [lg_entry_eq]
  generalize (lg_sl ([.ref x, .int v, .int v2, .ref o]) ++ List.replicate (5 - (lg_sl ([.ref x, .int v, .int v2, .ref o])).length) Slot.unset).toArray = ls at hl ⊢
  have hl : lv_has ls 5 [(0, .ref x), (1, .int v), (2, .int v2), (3, .ref o)] := hl
  have htb := vx_table (x := yL_about) B (hts _ List.mem_cons_self)
  refine lv_aload_n hx hb dL_about_0 rfl (lv_at hl 3 rfl) ?_
  refine lv_iconst (v := 0) hx hb dL_about_1 (by decide) ?_
  refine lv_aload_n hx hb dL_about_2 rfl (lv_at hl 0 rfl) ?_
  refine lv_iload_n hx hb dL_about_3 rfl (lv_at hl 1 rfl) ?_
  refine lv_iload_n hx hb dL_about_4 rfl (lv_at hl 2 rfl) ?_
  refine vx_calli (vx_runV (As := [.int v, .int v2]) (rest := [.int 0, .ref o]) ⟨hx, hb, hml, hown, hts⟩ (t_X3_about1 l hst D cI x a b σ τ v v2 hv _) (cwV 2 hts gL_about_X3_about rfl rfl rfl zdX3_about ⟨Nat.le_of_ble_eq_true rfl, Nat.le_of_ble_eq_true rfl⟩) ⟨zblX _, va_recv hK hP2 (ci := 3) (q0 := 0) rfl rfl, zprX (H0 := s.heap) hK2 hP2 hD2 hL hZ hS⟩ rfl rfl hl.1 rfl (lv_room (Nat.le_of_ble_eq_true rfl)) dL_about_5 ⟨Nat.le_of_ble_eq_true rfl, Nat.le_of_ble_eq_true rfl⟩) hS (fun q _ h => h.elim) (fun q h => h.elim) (fun q _ h => h.elim) (fun X ce q9 u t H1 locs1 _ hvm _ hBX _ _ hS hce hcv hcl => ?_) (fun r u t H1 locs1 _ _ hw _ _ _ _ => hw.elim)
  have hBX : X = "java/lang/IndexOutOfBoundsException" := hBX
  subst hBX
  refine vx_catch (name := "java/lang/IndexOutOfBoundsException") hown [] ⟨0, 10, 13, 21⟩ [] htb (fun z hz => by cases hz) (by decide) (by decide) (hts _ (by decide +kernel)) (va_Nw.use rfl (hL.2.1 "java/lang/IndexOutOfBoundsException" (by decide +kernel))) hce hcv hcl ?_
  refine lv_astore (lv' := [(4, .ref q9), (0, .ref x), (1, .int v), (2, .int v2), (3, .ref o)]) hx hb dL_about_13 hl (by decide) rfl (fun ls hl => ?_)
  refine lv_iconst (v := 1) hx hb dL_about_15 (by decide) ?_
  exact W.iret (v := 1) hx hb hr (fun t ht hW => ⟨⟨1, (), rfl, rfl, trivial⟩, hS.F ht⟩) hS.2.2 dL_about_16

set_option maxHeartbeats 4000000 in
set_option maxRecDepth 100000 in
theorem t_L_about2 (l : Launch) (hst : l.stackTraces = false) (D : va_G) (cI cL : ClassId) (x : Nat) (a b : Nat → Nat) (σ τ : zS) (o : Nat) (f : Nat → Int64) {k : Nat} {nb ns h : Nat} (hC : zC σ nb ns h) (hkb : k < nb) (v : Int32) (hv : v.toInt < 0 ∨ 4 < v.toInt) : zHB l yL_about wsL_about ({ frames := 7, cells := 1, slots := 6, locals := 105 }) [.ref x, .int (nI k), .int v, .ref o] D (zT2 cI cL) (zw_O cI cL x a b σ τ o f) 1 := by
  intro sz
  refine zk_ofWH (cc := cL_about) (maxL := 5) (ret := (some .int)) (by decide) rfl ?_
  intro p e s m args below meth c s₁ B hml hv
  obtain ⟨rfl, ⟨hsz, hP, hK, hD⟩, hL, hZ⟩ := hv
  have hx := B.exec
  have hb := B.bytes
  have hr := B.returns
  have hts := atoms_spec (ws := wsL_about) B.pre
  have hown : s.vm.findClass RL = some m.cls := findClass_of_methodNamed B.named
  have hS : va_S (fun _ => False) s.heap s.heap [] := va_S.rf
  have hP : va_P D vwCl ([] ++ (zw_X cI x a b σ τ ++ [(o, .inl (cL, 1, .inr (.inl f)))])) s.heap := hP
  have hD : va_D (fun _ => True) ([] ++ (zw_X cI x a b σ τ ++ [(o, .inl (cL, 1, .inr (.inl f)))])) := hD
  have hP2 := fr_P hP
  have hD2 := fr_D hD
  have hK2 : va_K D vwCl [(cI, .int)] s := hK.sub [0] rfl
  have hl := lv_entry ([.ref x, .int (nI k), .int v, .ref o]) (n := 5) (Nat.le_of_ble_eq_true rfl)
  rw [lg_entry_eq]
  generalize (lg_sl ([.ref x, .int (nI k), .int v, .ref o]) ++ List.replicate (5 - (lg_sl ([.ref x, .int (nI k), .int v, .ref o])).length) Slot.unset).toArray = ls at hl ⊢
  have hl : lv_has ls 5 [(0, .ref x), (1, .int (nI k)), (2, .int v), (3, .ref o)] := hl
  have htb := vx_table (x := yL_about) B (hts _ List.mem_cons_self)
  refine lv_aload_n hx hb dL_about_0 rfl (lv_at hl 3 rfl) ?_
  refine lv_iconst (v := 0) hx hb dL_about_1 (by decide) ?_
  refine lv_aload_n hx hb dL_about_2 rfl (lv_at hl 0 rfl) ?_
  refine lv_iload_n hx hb dL_about_3 rfl (lv_at hl 1 rfl) ?_
  refine lv_iload_n hx hb dL_about_4 rfl (lv_at hl 2 rfl) ?_
  refine vx_calli (vx_runV (As := [.int (nI k), .int v]) (rest := [.int 0, .ref o]) ⟨hx, hb, hml, hown, hts⟩ (t_X3_about2 l hst D cI x a b σ τ hC hkb v hv _) (cwV 2 hts gL_about_X3_about rfl rfl rfl zdX3_about ⟨Nat.le_of_ble_eq_true rfl, Nat.le_of_ble_eq_true rfl⟩) ⟨zblX _, va_recv hK hP2 (ci := 3) (q0 := 0) rfl rfl, zprX (H0 := s.heap) hK2 hP2 hD2 hL hZ hS⟩ rfl rfl hl.1 rfl (lv_room (Nat.le_of_ble_eq_true rfl)) dL_about_5 ⟨Nat.le_of_ble_eq_true rfl, Nat.le_of_ble_eq_true rfl⟩) hS (fun q _ h => h.elim) (fun q h => h.elim) (fun q _ h => h.elim) (fun X ce q9 u t H1 locs1 _ hvm _ hBX _ _ hS hce hcv hcl => ?_) (fun r u t H1 locs1 _ _ hw _ _ _ _ => hw.elim)
  have hBX : X = "java/lang/IndexOutOfBoundsException" := hBX
  subst hBX
  refine vx_catch (name := "java/lang/IndexOutOfBoundsException") hown [] ⟨0, 10, 13, 21⟩ [] htb (fun z hz => by cases hz) (by decide) (by decide) (hts _ (by decide +kernel)) (va_Nw.use rfl (hL.2.1 "java/lang/IndexOutOfBoundsException" (by decide +kernel))) hce hcv hcl ?_
  refine lv_astore (lv' := [(4, .ref q9), (0, .ref x), (1, .int (nI k)), (2, .int v), (3, .ref o)]) hx hb dL_about_13 hl (by decide) rfl (fun ls hl => ?_)
  refine lv_iconst (v := 1) hx hb dL_about_15 (by decide) ?_
  exact W.iret (v := 1) hx hb hr (fun t ht hW => ⟨⟨1, (), rfl, rfl, trivial⟩, hS.F ht⟩) hS.2.2 dL_about_16

set_option maxHeartbeats 4000000 in
set_option maxRecDepth 100000 in
theorem c_L_count (l : Launch) (D : va_G) (cI cL : ClassId) (x : Nat) (a b : Nat → Nat) (σ τ : zS) (o : Nat) (f : Nat → Int64) {w : Nat} {nb ns h : Nat} (hC : zC σ nb ns h) (hw9 : w ≤ 9) : zHO l yL_count wsL_count ({ frames := 3, cells := 0, slots := 0, locals := 64 }) [.ref x, .int (nI w), .ref o] D (zT2 cI cL) (zw_O cI cL x a b σ τ o f) (fun u => zw_O cI cL x a b (σ) τ o (vp_updL f 0 (q_cnt σ nb ns h w).toInt64)) := by
  intro sz
  refine zk_ofWH (cc := cL_count) (maxL := 4) (ret := (some .int)) (by decide) rfl ?_
  intro p e s m args below meth c s₁ B hml hv
  obtain ⟨rfl, ⟨hsz, hP, hK, hD⟩, hL⟩ := hv
  have hx := B.exec
  have hb := B.bytes
  have hr := B.returns
  have hts := atoms_spec (ws := wsL_count) B.pre
  have hown : s.vm.findClass RL = some m.cls := findClass_of_methodNamed B.named
  subst hsz
  have hD := hD.self (sz := s.heap.size)
  generalize hAe : va_A (zw_O cI cL x a b σ τ o f) s.heap.size = A at hD ⊢
  have hA : ∀ q : Nat, s.heap.size ≤ q → A q := fun q h => by rw [← hAe]; exact Or.inr h
  have hS : va_S A s.heap s.heap [] := va_S.rf
  have hP : va_P D vwCl ([] ++ (zw_X cI x a b σ τ ++ [(o, .inl (cL, 1, .inr (.inl f)))])) s.heap := hP
  have hD : va_D A ([] ++ (zw_X cI x a b σ τ ++ [(o, .inl (cL, 1, .inr (.inl f)))])) := hD
  have hP2 := fr_P hP
  have hD2 := fr_D hD
  have hK2 : va_K D vwCl [(cI, .int)] s := hK.sub [0] rfl
  have hl := lv_entry ([.ref x, .int (nI w), .ref o]) (n := 4) (Nat.le_of_ble_eq_true rfl)
  rw [lg_entry_eq]
  generalize (lg_sl ([.ref x, .int (nI w), .ref o]) ++ List.replicate (4 - (lg_sl ([.ref x, .int (nI w), .ref o])).length) Slot.unset).toArray = ls at hl ⊢
  have hl : lv_has ls 4 [(0, .ref x), (1, .int (nI w)), (2, .ref o)] := hl
  refine lv_aload_n hx hb dL_count_0 rfl (lv_at hl 2 rfl) ?_
  refine lv_iconst (v := 0) hx hb dL_count_1 (by decide) ?_
  refine lv_aload_n hx hb dL_count_2 rfl (lv_at hl 0 rfl) ?_
  refine lv_iload_n hx hb dL_count_3 rfl (lv_at hl 1 rfl) ?_
  refine zk_R (D := D) (va_runV (As := [.int (nI w)]) (rest := [.int 0, .ref o]) ⟨hx, hb, hml, hown, hts⟩ (c_X3_count l D cI x a b σ τ hC hw9 _) (cwV 1 hts gL_count_X3_count rfl rfl rfl zdX3_count ⟨Nat.le_of_ble_eq_true rfl, Nat.le_of_ble_eq_true rfl⟩) ⟨zbl _, va_recv hK hP2 (ci := 3) (q0 := 0) rfl rfl, zpr hK2 hP2 hD2⟩ rfl rfl hl.1 rfl (lv_room (Nat.le_of_ble_eq_true rfl)) dL_count_4 ⟨Nat.zero_le _, Nat.zero_le _⟩) hS (fun r H1 locs1 hr9 hk1 hS => ?_)
  have hP := hk1 _ hP
  subst hr9
  refine lv_i2l hx hb dL_count_7 rfl ?_
  refine va_last hx hb hK hP hD hS 41 1 rfl rfl vp_in01 dL_count_8 (fun H locs hP hD hS => ?_)
  refine lv_goto (tgt := 15) hx hb dL_count_9 (by decide) ?_
  refine lv_iconst (v := 0) hx hb dL_count_15 (by decide) ?_
  exact W.iret (v := 0) hx hb hr (fun t ht hW => ⟨⟨0, τ, rfl, rfl, by rw [ht]; exact hP, va_K.moved hW.alike hK, hD⟩, hS.F ht⟩) hS.2.2 dL_count_16

set_option maxHeartbeats 4000000 in
set_option maxRecDepth 100000 in
theorem t_L_count (l : Launch) (hst : l.stackTraces = false) (D : va_G) (cI cL : ClassId) (x : Nat) (a b : Nat → Nat) (σ τ : zS) (o : Nat) (f : Nat → Int64) (v : Int32) (hv : v.toInt < 0 ∨ 9 < v.toInt) : zHB l yL_count wsL_count ({ frames := 7, cells := 1, slots := 6, locals := 103 }) [.ref x, .int v, .ref o] D (zT2 cI cL) (zw_O cI cL x a b σ τ o f) 1 := by
  intro sz
  refine zk_ofWH (cc := cL_count) (maxL := 4) (ret := (some .int)) (by decide) rfl ?_
  intro p e s m args below meth c s₁ B hml hv
  obtain ⟨rfl, ⟨hsz, hP, hK, hD⟩, hL, hZ⟩ := hv
  have hx := B.exec
  have hb := B.bytes
  have hr := B.returns
  have hts := atoms_spec (ws := wsL_count) B.pre
  have hown : s.vm.findClass RL = some m.cls := findClass_of_methodNamed B.named
  have hS : va_S (fun _ => False) s.heap s.heap [] := va_S.rf
  have hP : va_P D vwCl ([] ++ (zw_X cI x a b σ τ ++ [(o, .inl (cL, 1, .inr (.inl f)))])) s.heap := hP
  have hD : va_D (fun _ => True) ([] ++ (zw_X cI x a b σ τ ++ [(o, .inl (cL, 1, .inr (.inl f)))])) := hD
  have hP2 := fr_P hP
  have hD2 := fr_D hD
  have hK2 : va_K D vwCl [(cI, .int)] s := hK.sub [0] rfl
  have hl := lv_entry ([.ref x, .int v, .ref o]) (n := 4) (Nat.le_of_ble_eq_true rfl)
  rw [lg_entry_eq]
  generalize (lg_sl ([.ref x, .int v, .ref o]) ++ List.replicate (4 - (lg_sl ([.ref x, .int v, .ref o])).length) Slot.unset).toArray = ls at hl ⊢
  have hl : lv_has ls 4 [(0, .ref x), (1, .int v), (2, .ref o)] := hl
  have htb := vx_table (x := yL_count) B (hts _ List.mem_cons_self)
  refine lv_aload_n hx hb dL_count_0 rfl (lv_at hl 2 rfl) ?_
  refine lv_iconst (v := 0) hx hb dL_count_1 (by decide) ?_
  refine lv_aload_n hx hb dL_count_2 rfl (lv_at hl 0 rfl) ?_
  refine lv_iload_n hx hb dL_count_3 rfl (lv_at hl 1 rfl) ?_
  refine vx_calli (vx_runV (As := [.int v]) (rest := [.int 0, .ref o]) ⟨hx, hb, hml, hown, hts⟩ (t_X3_count l hst D cI x a b σ τ v hv _) (cwV 1 hts gL_count_X3_count rfl rfl rfl zdX3_count ⟨Nat.le_of_ble_eq_true rfl, Nat.le_of_ble_eq_true rfl⟩) ⟨zblX _, va_recv hK hP2 (ci := 3) (q0 := 0) rfl rfl, zprX (H0 := s.heap) hK2 hP2 hD2 hL hZ hS⟩ rfl rfl hl.1 rfl (lv_room (Nat.le_of_ble_eq_true rfl)) dL_count_4 ⟨Nat.le_of_ble_eq_true rfl, Nat.le_of_ble_eq_true rfl⟩) hS (fun q _ h => h.elim) (fun q h => h.elim) (fun q _ h => h.elim) (fun X ce q9 u t H1 locs1 _ hvm _ hBX _ _ hS hce hcv hcl => ?_) (fun r u t H1 locs1 _ _ hw _ _ _ _ => hw.elim)
  have hBX : X = "java/lang/IndexOutOfBoundsException" := hBX
  subst hBX
  refine vx_catch (name := "java/lang/IndexOutOfBoundsException") hown [] ⟨0, 9, 12, 21⟩ [] htb (fun z hz => by cases hz) (by decide) (by decide) (hts _ (by decide +kernel)) (va_Nw.use rfl (hL.2.1 "java/lang/IndexOutOfBoundsException" (by decide +kernel))) hce hcv hcl ?_
  refine lv_astore_n (lv' := [(3, .ref q9), (0, .ref x), (1, .int v), (2, .ref o)]) hx hb dL_count_12 rfl hl (by decide) rfl (fun ls hl => ?_)
  refine lv_iconst (v := 1) hx hb dL_count_13 (by decide) ?_
  exact W.iret (v := 1) hx hb hr (fun t ht hW => ⟨⟨1, (), rfl, rfl, trivial⟩, hS.F ht⟩) hS.2.2 dL_count_14

set_option maxHeartbeats 4000000 in
set_option maxRecDepth 100000 in
theorem c_L_would (l : Launch) (D : va_G) (cI cL : ClassId) (x : Nat) (a b : Nat → Nat) (σ τ : zS) (o : Nat) (f : Nat → Int64) {k n : Nat} {nb ns h : Nat} (hC : zC σ nb ns h) (hk : k < ns) (hw1 : ¬ nI n < 1) (hw2 : nI n ≤ 72) (hn : h + n < 2 ^ 30) : zHO l yL_would wsL_would ({ frames := 8, cells := 0, slots := 0, locals := 171 }) [.ref x, .int (nI k), .int (nI n), .ref o] D (zT2 cI cL) (zw_O cI cL x a b σ τ o f) (fun u => zw_O cI cL x a b (σ) u o (vp_updL f 0 (f_hours σ nb ns h n 14 k - σ 14 k).toInt64)) := by
  intro sz
  refine zk_ofWH (cc := cL_would) (maxL := 5) (ret := (some .int)) (by decide) rfl ?_
  intro p e s m args below meth c s₁ B hml hv
  obtain ⟨rfl, ⟨hsz, hP, hK, hD⟩, hL⟩ := hv
  have hx := B.exec
  have hb := B.bytes
  have hr := B.returns
  have hts := atoms_spec (ws := wsL_would) B.pre
  have hown : s.vm.findClass RL = some m.cls := findClass_of_methodNamed B.named
  subst hsz
  have hD := hD.self (sz := s.heap.size)
  generalize hAe : va_A (zw_O cI cL x a b σ τ o f) s.heap.size = A at hD ⊢
  have hA : ∀ q : Nat, s.heap.size ≤ q → A q := fun q h => by rw [← hAe]; exact Or.inr h
  have hS : va_S A s.heap s.heap [] := va_S.rf
  have hP : va_P D vwCl ([] ++ (zw_X cI x a b σ τ ++ [(o, .inl (cL, 1, .inr (.inl f)))])) s.heap := hP
  have hD : va_D A ([] ++ (zw_X cI x a b σ τ ++ [(o, .inl (cL, 1, .inr (.inl f)))])) := hD
  have hP2 := fr_P hP
  have hD2 := fr_D hD
  have hK2 : va_K D vwCl [(cI, .int)] s := hK.sub [0] rfl
  have hl := lv_entry ([.ref x, .int (nI k), .int (nI n), .ref o]) (n := 5) (Nat.le_of_ble_eq_true rfl)
  rw [lg_entry_eq]
  generalize (lg_sl ([.ref x, .int (nI k), .int (nI n), .ref o]) ++ List.replicate (5 - (lg_sl ([.ref x, .int (nI k), .int (nI n), .ref o])).length) Slot.unset).toArray = ls at hl ⊢
  have hl : lv_has ls 5 [(0, .ref x), (1, .int (nI k)), (2, .int (nI n)), (3, .ref o)] := hl
  refine lv_aload_n hx hb dL_would_0 rfl (lv_at hl 3 rfl) ?_
  refine lv_iconst (v := 0) hx hb dL_would_1 (by decide) ?_
  refine lv_aload_n hx hb dL_would_2 rfl (lv_at hl 0 rfl) ?_
  refine lv_iload_n hx hb dL_would_3 rfl (lv_at hl 1 rfl) ?_
  refine lv_iload_n hx hb dL_would_4 rfl (lv_at hl 2 rfl) ?_
  have hF := zfree hD2 hS hA
  refine zk_E (va_runV (As := [.int (nI k), .int (nI n)]) (rest := [.int 0, .ref o]) ⟨hx, hb, hml, hown, hts⟩ (c_X3_would l D cI x a b σ τ hC hk hw1 hw2 hn _) (cwV 2 hts gL_would_X3_would rfl rfl rfl zdX3_would ⟨Nat.le_of_ble_eq_true rfl, Nat.le_of_ble_eq_true rfl⟩) ⟨zblL _, va_recv hK hP2 (ci := 3) (q0 := 0) rfl rfl, zprL hK2 hP2 hD2 hL⟩ rfl rfl hl.1 rfl (lv_room (Nat.le_of_ble_eq_true rfl)) dL_would_5 ⟨Nat.zero_le _, Nat.zero_le _⟩) hS hF (fun r u H1 locs1 hr9 hkp hP1 hD1 hS => ?_)
  obtain ⟨hP, hD⟩ := fr_J hP hD hkp hF hP1 hD1
  subst hr9
  refine lv_i2l hx hb dL_would_8 rfl ?_
  refine va_last hx hb hK hP hD hS 41 1 rfl rfl vp_in01 dL_would_9 (fun H locs hP hD hS => ?_)
  refine lv_goto (tgt := 21) hx hb dL_would_10 (by decide) ?_
  refine lv_iconst (v := 0) hx hb dL_would_21 (by decide) ?_
  exact W.iret (v := 0) hx hb hr (fun t ht hW => ⟨⟨0, u, rfl, rfl, by rw [ht]; exact hP, va_K.moved hW.alike hK, hD⟩, hS.F ht⟩) hS.2.2 dL_would_22

set_option maxHeartbeats 4000000 in
set_option maxRecDepth 100000 in
theorem t_L_would1 (l : Launch) (hst : l.stackTraces = false) (D : va_G) (cI cL : ClassId) (x : Nat) (a b : Nat → Nat) (σ τ : zS) (o : Nat) (f : Nat → Int64) (v v2 : Int32) (hv : ¬ f_sail σ v) : zHB l yL_would wsL_would ({ frames := 8, cells := 1, slots := 6, locals := 125 }) [.ref x, .int v, .int v2, .ref o] D (zT2 cI cL) (zw_O cI cL x a b σ τ o f) 1 := by
  intro sz
  refine zk_ofWH (cc := cL_would) (maxL := 5) (ret := (some .int)) (by decide) rfl ?_
  intro p e s m args below meth c s₁ B hml hv
  obtain ⟨rfl, ⟨hsz, hP, hK, hD⟩, hL, hZ⟩ := hv
  have hx := B.exec
  have hb := B.bytes
  have hr := B.returns
  have hts := atoms_spec (ws := wsL_would) B.pre
  have hown : s.vm.findClass RL = some m.cls := findClass_of_methodNamed B.named
  have hS : va_S (fun _ => False) s.heap s.heap [] := va_S.rf
  have hP : va_P D vwCl ([] ++ (zw_X cI x a b σ τ ++ [(o, .inl (cL, 1, .inr (.inl f)))])) s.heap := hP
  have hD : va_D (fun _ => True) ([] ++ (zw_X cI x a b σ τ ++ [(o, .inl (cL, 1, .inr (.inl f)))])) := hD
  have hP2 := fr_P hP
  have hD2 := fr_D hD
  have hK2 : va_K D vwCl [(cI, .int)] s := hK.sub [0] rfl
  have hl := lv_entry ([.ref x, .int v, .int v2, .ref o]) (n := 5) (Nat.le_of_ble_eq_true rfl)
  rw [lg_entry_eq]
  generalize (lg_sl ([.ref x, .int v, .int v2, .ref o]) ++ List.replicate (5 - (lg_sl ([.ref x, .int v, .int v2, .ref o])).length) Slot.unset).toArray = ls at hl ⊢
  have hl : lv_has ls 5 [(0, .ref x), (1, .int v), (2, .int v2), (3, .ref o)] := hl
  have htb := vx_table (x := yL_would) B (hts _ List.mem_cons_self)
  refine lv_aload_n hx hb dL_would_0 rfl (lv_at hl 3 rfl) ?_
  refine lv_iconst (v := 0) hx hb dL_would_1 (by decide) ?_
  refine lv_aload_n hx hb dL_would_2 rfl (lv_at hl 0 rfl) ?_
  refine lv_iload_n hx hb dL_would_3 rfl (lv_at hl 1 rfl) ?_
  refine lv_iload_n hx hb dL_would_4 rfl (lv_at hl 2 rfl) ?_
  refine vx_calli (vx_runV (As := [.int v, .int v2]) (rest := [.int 0, .ref o]) ⟨hx, hb, hml, hown, hts⟩ (t_X3_would1 l hst D cI x a b σ τ v v2 hv _) (cwV 2 hts gL_would_X3_would rfl rfl rfl zdX3_would ⟨Nat.le_of_ble_eq_true rfl, Nat.le_of_ble_eq_true rfl⟩) ⟨zblX _, va_recv hK hP2 (ci := 3) (q0 := 0) rfl rfl, zprX (H0 := s.heap) hK2 hP2 hD2 hL hZ hS⟩ rfl rfl hl.1 rfl (lv_room (Nat.le_of_ble_eq_true rfl)) dL_would_5 ⟨Nat.le_of_ble_eq_true rfl, Nat.le_of_ble_eq_true rfl⟩) hS (fun q _ h => h.elim) (fun q h => h.elim) (fun q _ h => h.elim) (fun X ce q9 u t H1 locs1 _ hvm _ hBX _ _ hS hce hcv hcl => ?_) (fun r u t H1 locs1 _ _ hw _ _ _ _ => hw.elim)
  have hBX : X = "java/lang/IndexOutOfBoundsException" := hBX
  subst hBX
  refine vx_catch (name := "java/lang/IndexOutOfBoundsException") hown [] ⟨0, 10, 13, 21⟩ [⟨0, 10, 17, 13⟩] htb (fun z hz => by cases hz) (by decide) (by decide) (hts _ (by decide +kernel)) (va_Nw.use rfl (hL.2.1 "java/lang/IndexOutOfBoundsException" (by decide +kernel))) hce hcv hcl ?_
  refine lv_astore (lv' := [(4, .ref q9), (0, .ref x), (1, .int v), (2, .int v2), (3, .ref o)]) hx hb dL_would_13 hl (by decide) rfl (fun ls hl => ?_)
  refine lv_iconst (v := 1) hx hb dL_would_15 (by decide) ?_
  exact W.iret (v := 1) hx hb hr (fun t ht hW => ⟨⟨1, (), rfl, rfl, trivial⟩, hS.F ht⟩) hS.2.2 dL_would_16

set_option maxHeartbeats 4000000 in
set_option maxRecDepth 100000 in
theorem t_L_would2 (l : Launch) (hst : l.stackTraces = false) (D : va_G) (cI cL : ClassId) (x : Nat) (a b : Nat → Nat) (σ τ : zS) (o : Nat) (f : Nat → Int64) {k : Nat} {nb ns h : Nat} (hC : zC σ nb ns h) (hk : k < ns) (v : Int32) (hv : ¬ (¬ v < 1 ∧ v ≤ 72)) : zHB l yL_would wsL_would ({ frames := 8, cells := 1, slots := 6, locals := 124 }) [.ref x, .int (nI k), .int v, .ref o] D (zT2 cI cL) (zw_O cI cL x a b σ τ o f) 2 := by
  intro sz
  refine zk_ofWH (cc := cL_would) (maxL := 5) (ret := (some .int)) (by decide) rfl ?_
  intro p e s m args below meth c s₁ B hml hv
  obtain ⟨rfl, ⟨hsz, hP, hK, hD⟩, hL, hZ⟩ := hv
  have hx := B.exec
  have hb := B.bytes
  have hr := B.returns
  have hts := atoms_spec (ws := wsL_would) B.pre
  have hown : s.vm.findClass RL = some m.cls := findClass_of_methodNamed B.named
  have hS : va_S (fun _ => False) s.heap s.heap [] := va_S.rf
  have hP : va_P D vwCl ([] ++ (zw_X cI x a b σ τ ++ [(o, .inl (cL, 1, .inr (.inl f)))])) s.heap := hP
  have hD : va_D (fun _ => True) ([] ++ (zw_X cI x a b σ τ ++ [(o, .inl (cL, 1, .inr (.inl f)))])) := hD
  have hP2 := fr_P hP
  have hD2 := fr_D hD
  have hK2 : va_K D vwCl [(cI, .int)] s := hK.sub [0] rfl
  have hl := lv_entry ([.ref x, .int (nI k), .int v, .ref o]) (n := 5) (Nat.le_of_ble_eq_true rfl)
  rw [lg_entry_eq]
  generalize (lg_sl ([.ref x, .int (nI k), .int v, .ref o]) ++ List.replicate (5 - (lg_sl ([.ref x, .int (nI k), .int v, .ref o])).length) Slot.unset).toArray = ls at hl ⊢
  have hl : lv_has ls 5 [(0, .ref x), (1, .int (nI k)), (2, .int v), (3, .ref o)] := hl
  have htb := vx_table (x := yL_would) B (hts _ List.mem_cons_self)
  refine lv_aload_n hx hb dL_would_0 rfl (lv_at hl 3 rfl) ?_
  refine lv_iconst (v := 0) hx hb dL_would_1 (by decide) ?_
  refine lv_aload_n hx hb dL_would_2 rfl (lv_at hl 0 rfl) ?_
  refine lv_iload_n hx hb dL_would_3 rfl (lv_at hl 1 rfl) ?_
  refine lv_iload_n hx hb dL_would_4 rfl (lv_at hl 2 rfl) ?_
  refine vx_calli (vx_runV (As := [.int (nI k), .int v]) (rest := [.int 0, .ref o]) ⟨hx, hb, hml, hown, hts⟩ (t_X3_would2 l hst D cI x a b σ τ hC hk v hv _) (cwV 2 hts gL_would_X3_would rfl rfl rfl zdX3_would ⟨Nat.le_of_ble_eq_true rfl, Nat.le_of_ble_eq_true rfl⟩) ⟨zblX _, va_recv hK hP2 (ci := 3) (q0 := 0) rfl rfl, zprX (H0 := s.heap) hK2 hP2 hD2 hL hZ hS⟩ rfl rfl hl.1 rfl (lv_room (Nat.le_of_ble_eq_true rfl)) dL_would_5 ⟨Nat.le_of_ble_eq_true rfl, Nat.le_of_ble_eq_true rfl⟩) hS (fun q _ h => h.elim) (fun q h => h.elim) (fun q _ h => h.elim) (fun X ce q9 u t H1 locs1 _ hvm _ hBX _ _ hS hce hcv hcl => ?_) (fun r u t H1 locs1 _ _ hw _ _ _ _ => hw.elim)
  have hBX : X = "java/lang/IllegalArgumentException" := hBX
  subst hBX
  refine vx_catch (name := "java/lang/IllegalArgumentException") hown [⟨0, 10, 13, 21⟩] ⟨0, 10, 17, 13⟩ [] htb (fun z hz => by
      simp only [List.mem_cons, List.not_mem_nil, or_false] at hz
      subst hz
      exact Or.inr ⟨by decide, "java/lang/IndexOutOfBoundsException", hts _ (by decide +kernel), hL.2.2.2.2 ("java/lang/IllegalArgumentException", "java/lang/IndexOutOfBoundsException") (by decide +kernel)⟩) (by decide) (by decide) (hts _ (by decide +kernel)) (va_Nw.use rfl (hL.2.1 "java/lang/IllegalArgumentException" (by decide +kernel))) hce hcv hcl ?_
  refine lv_astore (lv' := [(4, .ref q9), (0, .ref x), (1, .int (nI k)), (2, .int v), (3, .ref o)]) hx hb dL_would_17 hl (by decide) rfl (fun ls hl => ?_)
  refine lv_iconst (v := 2) hx hb dL_would_19 (by decide) ?_
  exact W.iret (v := 2) hx hb hr (fun t ht hW => ⟨⟨2, (), rfl, rfl, trivial⟩, hS.F ht⟩) hS.2.2 dL_would_20

set_option maxHeartbeats 4000000 in
set_option maxRecDepth 100000 in
theorem c_L_until (l : Launch) (D : va_G) (cI cL : ClassId) (x : Nat) (a b : Nat → Nat) (σ τ : zS) (o : Nat) (f : Nat → Int64) {k : Nat} {nb ns h : Nat} (hC : zC σ nb ns h) (hk : k < ns) (hn : h + 49 < 2 ^ 30) : zHO l yL_until wsL_until ({ frames := 8, cells := 0, slots := 0, locals := 171 }) [.ref x, .int (nI k), .ref o] D (zT2 cI cL) (zw_O cI cL x a b σ τ o f) (fun u => zw_O cI cL x a b (σ) u o (vp_updL f 0 (q_find (q_unt σ nb ns h k) 1 0 49).toInt64)) := by
  intro sz
  refine zk_ofWH (cc := cL_until) (maxL := 4) (ret := (some .int)) (by decide) rfl ?_
  intro p e s m args below meth c s₁ B hml hv
  obtain ⟨rfl, ⟨hsz, hP, hK, hD⟩, hL⟩ := hv
  have hx := B.exec
  have hb := B.bytes
  have hr := B.returns
  have hts := atoms_spec (ws := wsL_until) B.pre
  have hown : s.vm.findClass RL = some m.cls := findClass_of_methodNamed B.named
  subst hsz
  have hD := hD.self (sz := s.heap.size)
  generalize hAe : va_A (zw_O cI cL x a b σ τ o f) s.heap.size = A at hD ⊢
  have hA : ∀ q : Nat, s.heap.size ≤ q → A q := fun q h => by rw [← hAe]; exact Or.inr h
  have hS : va_S A s.heap s.heap [] := va_S.rf
  have hP : va_P D vwCl ([] ++ (zw_X cI x a b σ τ ++ [(o, .inl (cL, 1, .inr (.inl f)))])) s.heap := hP
  have hD : va_D A ([] ++ (zw_X cI x a b σ τ ++ [(o, .inl (cL, 1, .inr (.inl f)))])) := hD
  have hP2 := fr_P hP
  have hD2 := fr_D hD
  have hK2 : va_K D vwCl [(cI, .int)] s := hK.sub [0] rfl
  have hl := lv_entry ([.ref x, .int (nI k), .ref o]) (n := 4) (Nat.le_of_ble_eq_true rfl)
  rw [lg_entry_eq]
  generalize (lg_sl ([.ref x, .int (nI k), .ref o]) ++ List.replicate (4 - (lg_sl ([.ref x, .int (nI k), .ref o])).length) Slot.unset).toArray = ls at hl ⊢
  have hl : lv_has ls 4 [(0, .ref x), (1, .int (nI k)), (2, .ref o)] := hl
  refine lv_aload_n hx hb dL_until_0 rfl (lv_at hl 2 rfl) ?_
  refine lv_iconst (v := 0) hx hb dL_until_1 (by decide) ?_
  refine lv_aload_n hx hb dL_until_2 rfl (lv_at hl 0 rfl) ?_
  refine lv_iload_n hx hb dL_until_3 rfl (lv_at hl 1 rfl) ?_
  have hF := zfree hD2 hS hA
  refine zk_E (va_runV (As := [.int (nI k)]) (rest := [.int 0, .ref o]) ⟨hx, hb, hml, hown, hts⟩ (c_X3_until l D cI x a b σ τ hC hk hn _) (cwV 1 hts gL_until_X3_until rfl rfl rfl zdX3_until ⟨Nat.le_of_ble_eq_true rfl, Nat.le_of_ble_eq_true rfl⟩) ⟨zblL _, va_recv hK hP2 (ci := 3) (q0 := 0) rfl rfl, zprL hK2 hP2 hD2 hL⟩ rfl rfl hl.1 rfl (lv_room (Nat.le_of_ble_eq_true rfl)) dL_until_4 ⟨Nat.zero_le _, Nat.zero_le _⟩) hS hF (fun r u H1 locs1 hr9 hkp hP1 hD1 hS => ?_)
  obtain ⟨hP, hD⟩ := fr_J hP hD hkp hF hP1 hD1
  subst hr9
  refine lv_i2l hx hb dL_until_7 rfl ?_
  refine va_last hx hb hK hP hD hS 41 1 rfl rfl vp_in01 dL_until_8 (fun H locs hP hD hS => ?_)
  refine lv_goto (tgt := 15) hx hb dL_until_9 (by decide) ?_
  refine lv_iconst (v := 0) hx hb dL_until_15 (by decide) ?_
  exact W.iret (v := 0) hx hb hr (fun t ht hW => ⟨⟨0, u, rfl, rfl, by rw [ht]; exact hP, va_K.moved hW.alike hK, hD⟩, hS.F ht⟩) hS.2.2 dL_until_16

set_option maxHeartbeats 4000000 in
set_option maxRecDepth 100000 in
theorem t_L_until1 (l : Launch) (hst : l.stackTraces = false) (D : va_G) (cI cL : ClassId) (x : Nat) (a b : Nat → Nat) (σ τ : zS) (o : Nat) (f : Nat → Int64) (v : Int32) (hv : ¬ f_sail σ v) : zHB l yL_until wsL_until ({ frames := 8, cells := 1, slots := 6, locals := 125 }) [.ref x, .int v, .ref o] D (zT2 cI cL) (zw_O cI cL x a b σ τ o f) 1 := by
  intro sz
  refine zk_ofWH (cc := cL_until) (maxL := 4) (ret := (some .int)) (by decide) rfl ?_
  intro p e s m args below meth c s₁ B hml hv
  obtain ⟨rfl, ⟨hsz, hP, hK, hD⟩, hL, hZ⟩ := hv
  have hx := B.exec
  have hb := B.bytes
  have hr := B.returns
  have hts := atoms_spec (ws := wsL_until) B.pre
  have hown : s.vm.findClass RL = some m.cls := findClass_of_methodNamed B.named
  have hS : va_S (fun _ => False) s.heap s.heap [] := va_S.rf
  have hP : va_P D vwCl ([] ++ (zw_X cI x a b σ τ ++ [(o, .inl (cL, 1, .inr (.inl f)))])) s.heap := hP
  have hD : va_D (fun _ => True) ([] ++ (zw_X cI x a b σ τ ++ [(o, .inl (cL, 1, .inr (.inl f)))])) := hD
  have hP2 := fr_P hP
  have hD2 := fr_D hD
  have hK2 : va_K D vwCl [(cI, .int)] s := hK.sub [0] rfl
  have hl := lv_entry ([.ref x, .int v, .ref o]) (n := 4) (Nat.le_of_ble_eq_true rfl)
  rw [lg_entry_eq]
  generalize (lg_sl ([.ref x, .int v, .ref o]) ++ List.replicate (4 - (lg_sl ([.ref x, .int v, .ref o])).length) Slot.unset).toArray = ls at hl ⊢
  have hl : lv_has ls 4 [(0, .ref x), (1, .int v), (2, .ref o)] := hl
  have htb := vx_table (x := yL_until) B (hts _ List.mem_cons_self)
  refine lv_aload_n hx hb dL_until_0 rfl (lv_at hl 2 rfl) ?_
  refine lv_iconst (v := 0) hx hb dL_until_1 (by decide) ?_
  refine lv_aload_n hx hb dL_until_2 rfl (lv_at hl 0 rfl) ?_
  refine lv_iload_n hx hb dL_until_3 rfl (lv_at hl 1 rfl) ?_
  refine vx_calli (vx_runV (As := [.int v]) (rest := [.int 0, .ref o]) ⟨hx, hb, hml, hown, hts⟩ (t_X3_until1 l hst D cI x a b σ τ v hv _) (cwV 1 hts gL_until_X3_until rfl rfl rfl zdX3_until ⟨Nat.le_of_ble_eq_true rfl, Nat.le_of_ble_eq_true rfl⟩) ⟨zblX _, va_recv hK hP2 (ci := 3) (q0 := 0) rfl rfl, zprX (H0 := s.heap) hK2 hP2 hD2 hL hZ hS⟩ rfl rfl hl.1 rfl (lv_room (Nat.le_of_ble_eq_true rfl)) dL_until_4 ⟨Nat.le_of_ble_eq_true rfl, Nat.le_of_ble_eq_true rfl⟩) hS (fun q _ h => h.elim) (fun q h => h.elim) (fun q _ h => h.elim) (fun X ce q9 u t H1 locs1 _ hvm _ hBX _ _ hS hce hcv hcl => ?_) (fun r u t H1 locs1 _ _ hw _ _ _ _ => hw.elim)
  have hBX : X = "java/lang/IndexOutOfBoundsException" := hBX
  subst hBX
  refine vx_catch (name := "java/lang/IndexOutOfBoundsException") hown [] ⟨0, 9, 12, 21⟩ [] htb (fun z hz => by cases hz) (by decide) (by decide) (hts _ (by decide +kernel)) (va_Nw.use rfl (hL.2.1 "java/lang/IndexOutOfBoundsException" (by decide +kernel))) hce hcv hcl ?_
  refine lv_astore_n (lv' := [(3, .ref q9), (0, .ref x), (1, .int v), (2, .ref o)]) hx hb dL_until_12 rfl hl (by decide) rfl (fun ls hl => ?_)
  refine lv_iconst (v := 1) hx hb dL_until_13 (by decide) ?_
  exact W.iret (v := 1) hx hb hr (fun t ht hW => ⟨⟨1, (), rfl, rfl, trivial⟩, hS.F ht⟩) hS.2.2 dL_until_14

set_option maxHeartbeats 4000000 in
set_option maxRecDepth 100000 in
theorem c_L_advise (l : Launch) (D : va_G) (cI cL : ClassId) (x : Nat) (a b : Nat → Nat) (σ τ : zS) (o : Nat) (f : Nat → Int64) {k : Nat} {nb ns h : Nat} (hC : zC σ nb ns h) (hk : k < ns) (hup : σ 12 k = 0) (hn : h + 48 < 2 ^ 30) : zHO l yL_advise wsL_advise ({ frames := 8, cells := 0, slots := 0, locals := 174 }) [.ref x, .int (nI k), .ref o] D (zT2 cI cL) (zw_O cI cL x a b σ τ o f) (fun u => zw_O cI cL x a b (σ) u o (vp_updL f 0 ((q_adv (q_wat σ nb ns h k) 3).1).toInt64)) := by
  intro sz
  refine zk_ofWH (cc := cL_advise) (maxL := 4) (ret := (some .int)) (by decide) rfl ?_
  intro p e s m args below meth c s₁ B hml hv
  obtain ⟨rfl, ⟨hsz, hP, hK, hD⟩, hL⟩ := hv
  have hx := B.exec
  have hb := B.bytes
  have hr := B.returns
  have hts := atoms_spec (ws := wsL_advise) B.pre
  have hown : s.vm.findClass RL = some m.cls := findClass_of_methodNamed B.named
  subst hsz
  have hD := hD.self (sz := s.heap.size)
  generalize hAe : va_A (zw_O cI cL x a b σ τ o f) s.heap.size = A at hD ⊢
  have hA : ∀ q : Nat, s.heap.size ≤ q → A q := fun q h => by rw [← hAe]; exact Or.inr h
  have hS : va_S A s.heap s.heap [] := va_S.rf
  have hP : va_P D vwCl ([] ++ (zw_X cI x a b σ τ ++ [(o, .inl (cL, 1, .inr (.inl f)))])) s.heap := hP
  have hD : va_D A ([] ++ (zw_X cI x a b σ τ ++ [(o, .inl (cL, 1, .inr (.inl f)))])) := hD
  have hP2 := fr_P hP
  have hD2 := fr_D hD
  have hK2 : va_K D vwCl [(cI, .int)] s := hK.sub [0] rfl
  have hl := lv_entry ([.ref x, .int (nI k), .ref o]) (n := 4) (Nat.le_of_ble_eq_true rfl)
  rw [lg_entry_eq]
  generalize (lg_sl ([.ref x, .int (nI k), .ref o]) ++ List.replicate (4 - (lg_sl ([.ref x, .int (nI k), .ref o])).length) Slot.unset).toArray = ls at hl ⊢
  have hl : lv_has ls 4 [(0, .ref x), (1, .int (nI k)), (2, .ref o)] := hl
  refine lv_aload_n hx hb dL_advise_0 rfl (lv_at hl 2 rfl) ?_
  refine lv_iconst (v := 0) hx hb dL_advise_1 (by decide) ?_
  refine lv_aload_n hx hb dL_advise_2 rfl (lv_at hl 0 rfl) ?_
  refine lv_iload_n hx hb dL_advise_3 rfl (lv_at hl 1 rfl) ?_
  have hF := zfree hD2 hS hA
  refine zk_E (va_runV (As := [.int (nI k)]) (rest := [.int 0, .ref o]) ⟨hx, hb, hml, hown, hts⟩ (c_X3_advise l D cI x a b σ τ hC hk hup hn _) (cwV 1 hts gL_advise_X3_advise rfl rfl rfl zdX3_advise ⟨Nat.le_of_ble_eq_true rfl, Nat.le_of_ble_eq_true rfl⟩) ⟨zblL _, va_recv hK hP2 (ci := 3) (q0 := 0) rfl rfl, zprL hK2 hP2 hD2 hL⟩ rfl rfl hl.1 rfl (lv_room (Nat.le_of_ble_eq_true rfl)) dL_advise_4 ⟨Nat.zero_le _, Nat.zero_le _⟩) hS hF (fun r u H1 locs1 hr9 hkp hP1 hD1 hS => ?_)
  obtain ⟨hP, hD⟩ := fr_J hP hD hkp hF hP1 hD1
  subst hr9
  refine lv_i2l hx hb dL_advise_7 rfl ?_
  refine va_last hx hb hK hP hD hS 41 1 rfl rfl vp_in01 dL_advise_8 (fun H locs hP hD hS => ?_)
  refine lv_goto (tgt := 18) hx hb dL_advise_9 (by decide) ?_
  refine lv_iconst (v := 0) hx hb dL_advise_18 (by decide) ?_
  exact W.iret (v := 0) hx hb hr (fun t ht hW => ⟨⟨0, u, rfl, rfl, by rw [ht]; exact hP, va_K.moved hW.alike hK, hD⟩, hS.F ht⟩) hS.2.2 dL_advise_19

set_option maxHeartbeats 4000000 in
set_option maxRecDepth 100000 in
theorem t_L_advise1 (l : Launch) (hst : l.stackTraces = false) (D : va_G) (cI cL : ClassId) (x : Nat) (a b : Nat → Nat) (σ τ : zS) (o : Nat) (f : Nat → Int64) (v : Int32) (hv : ¬ f_sail σ v) : zHB l yL_advise wsL_advise ({ frames := 8, cells := 1, slots := 6, locals := 128 }) [.ref x, .int v, .ref o] D (zT2 cI cL) (zw_O cI cL x a b σ τ o f) 1 := by
  intro sz
  refine zk_ofWH (cc := cL_advise) (maxL := 4) (ret := (some .int)) (by decide) rfl ?_
  intro p e s m args below meth c s₁ B hml hv
  obtain ⟨rfl, ⟨hsz, hP, hK, hD⟩, hL, hZ⟩ := hv
  have hx := B.exec
  have hb := B.bytes
  have hr := B.returns
  have hts := atoms_spec (ws := wsL_advise) B.pre
  have hown : s.vm.findClass RL = some m.cls := findClass_of_methodNamed B.named
  have hS : va_S (fun _ => False) s.heap s.heap [] := va_S.rf
  have hP : va_P D vwCl ([] ++ (zw_X cI x a b σ τ ++ [(o, .inl (cL, 1, .inr (.inl f)))])) s.heap := hP
  have hD : va_D (fun _ => True) ([] ++ (zw_X cI x a b σ τ ++ [(o, .inl (cL, 1, .inr (.inl f)))])) := hD
  have hP2 := fr_P hP
  have hD2 := fr_D hD
  have hK2 : va_K D vwCl [(cI, .int)] s := hK.sub [0] rfl
  have hl := lv_entry ([.ref x, .int v, .ref o]) (n := 4) (Nat.le_of_ble_eq_true rfl)
  rw [lg_entry_eq]
  generalize (lg_sl ([.ref x, .int v, .ref o]) ++ List.replicate (4 - (lg_sl ([.ref x, .int v, .ref o])).length) Slot.unset).toArray = ls at hl ⊢
  have hl : lv_has ls 4 [(0, .ref x), (1, .int v), (2, .ref o)] := hl
  have htb := vx_table (x := yL_advise) B (hts _ List.mem_cons_self)
  refine lv_aload_n hx hb dL_advise_0 rfl (lv_at hl 2 rfl) ?_
  refine lv_iconst (v := 0) hx hb dL_advise_1 (by decide) ?_
  refine lv_aload_n hx hb dL_advise_2 rfl (lv_at hl 0 rfl) ?_
  refine lv_iload_n hx hb dL_advise_3 rfl (lv_at hl 1 rfl) ?_
  refine vx_calli (vx_runV (As := [.int v]) (rest := [.int 0, .ref o]) ⟨hx, hb, hml, hown, hts⟩ (t_X3_advise1 l hst D cI x a b σ τ v hv _) (cwV 1 hts gL_advise_X3_advise rfl rfl rfl zdX3_advise ⟨Nat.le_of_ble_eq_true rfl, Nat.le_of_ble_eq_true rfl⟩) ⟨zblX _, va_recv hK hP2 (ci := 3) (q0 := 0) rfl rfl, zprX (H0 := s.heap) hK2 hP2 hD2 hL hZ hS⟩ rfl rfl hl.1 rfl (lv_room (Nat.le_of_ble_eq_true rfl)) dL_advise_4 ⟨Nat.le_of_ble_eq_true rfl, Nat.le_of_ble_eq_true rfl⟩) hS (fun q _ h => h.elim) (fun q h => h.elim) (fun q _ h => h.elim) (fun X ce q9 u t H1 locs1 _ hvm _ hBX _ _ hS hce hcv hcl => ?_) (fun r u t H1 locs1 _ _ hw _ _ _ _ => hw.elim)
  have hBX : X = "java/lang/IndexOutOfBoundsException" := hBX
  subst hBX
  refine vx_catch (name := "java/lang/IndexOutOfBoundsException") hown [] ⟨0, 9, 12, 21⟩ [⟨0, 9, 15, 15⟩] htb (fun z hz => by cases hz) (by decide) (by decide) (hts _ (by decide +kernel)) (va_Nw.use rfl (hL.2.1 "java/lang/IndexOutOfBoundsException" (by decide +kernel))) hce hcv hcl ?_
  refine lv_astore_n (lv' := [(3, .ref q9), (0, .ref x), (1, .int v), (2, .ref o)]) hx hb dL_advise_12 rfl hl (by decide) rfl (fun ls hl => ?_)
  refine lv_iconst (v := 1) hx hb dL_advise_13 (by decide) ?_
  exact W.iret (v := 1) hx hb hr (fun t ht hW => ⟨⟨1, (), rfl, rfl, trivial⟩, hS.F ht⟩) hS.2.2 dL_advise_14

set_option maxHeartbeats 4000000 in
set_option maxRecDepth 100000 in
theorem t_L_advise2 (l : Launch) (hst : l.stackTraces = false) (D : va_G) (cI cL : ClassId) (x : Nat) (a b : Nat → Nat) (σ τ : zS) (o : Nat) (f : Nat → Int64) {k : Nat} {nb ns h : Nat} (hC : zC σ nb ns h) (hk : k < ns) (hup : ¬ σ 12 k = 0) : zHB l yL_advise wsL_advise ({ frames := 8, cells := 1, slots := 6, locals := 128 }) [.ref x, .int (nI k), .ref o] D (zT2 cI cL) (zw_O cI cL x a b σ τ o f) 2 := by
  intro sz
  refine zk_ofWH (cc := cL_advise) (maxL := 4) (ret := (some .int)) (by decide) rfl ?_
  intro p e s m args below meth c s₁ B hml hv
  obtain ⟨rfl, ⟨hsz, hP, hK, hD⟩, hL, hZ⟩ := hv
  have hx := B.exec
  have hb := B.bytes
  have hr := B.returns
  have hts := atoms_spec (ws := wsL_advise) B.pre
  have hown : s.vm.findClass RL = some m.cls := findClass_of_methodNamed B.named
  have hS : va_S (fun _ => False) s.heap s.heap [] := va_S.rf
  have hP : va_P D vwCl ([] ++ (zw_X cI x a b σ τ ++ [(o, .inl (cL, 1, .inr (.inl f)))])) s.heap := hP
  have hD : va_D (fun _ => True) ([] ++ (zw_X cI x a b σ τ ++ [(o, .inl (cL, 1, .inr (.inl f)))])) := hD
  have hP2 := fr_P hP
  have hD2 := fr_D hD
  have hK2 : va_K D vwCl [(cI, .int)] s := hK.sub [0] rfl
  have hl := lv_entry ([.ref x, .int (nI k), .ref o]) (n := 4) (Nat.le_of_ble_eq_true rfl)
  rw [lg_entry_eq]
  generalize (lg_sl ([.ref x, .int (nI k), .ref o]) ++ List.replicate (4 - (lg_sl ([.ref x, .int (nI k), .ref o])).length) Slot.unset).toArray = ls at hl ⊢
  have hl : lv_has ls 4 [(0, .ref x), (1, .int (nI k)), (2, .ref o)] := hl
  have htb := vx_table (x := yL_advise) B (hts _ List.mem_cons_self)
  refine lv_aload_n hx hb dL_advise_0 rfl (lv_at hl 2 rfl) ?_
  refine lv_iconst (v := 0) hx hb dL_advise_1 (by decide) ?_
  refine lv_aload_n hx hb dL_advise_2 rfl (lv_at hl 0 rfl) ?_
  refine lv_iload_n hx hb dL_advise_3 rfl (lv_at hl 1 rfl) ?_
  refine vx_calli (vx_runV (As := [.int (nI k)]) (rest := [.int 0, .ref o]) ⟨hx, hb, hml, hown, hts⟩ (t_X3_advise2 l hst D cI x a b σ τ hC hk hup _) (cwV 1 hts gL_advise_X3_advise rfl rfl rfl zdX3_advise ⟨Nat.le_of_ble_eq_true rfl, Nat.le_of_ble_eq_true rfl⟩) ⟨zblX _, va_recv hK hP2 (ci := 3) (q0 := 0) rfl rfl, zprX (H0 := s.heap) hK2 hP2 hD2 hL hZ hS⟩ rfl rfl hl.1 rfl (lv_room (Nat.le_of_ble_eq_true rfl)) dL_advise_4 ⟨Nat.le_of_ble_eq_true rfl, Nat.le_of_ble_eq_true rfl⟩) hS (fun q _ h => h.elim) (fun q h => h.elim) (fun q _ h => h.elim) (fun X ce q9 u t H1 locs1 _ hvm _ hBX _ _ hS hce hcv hcl => ?_) (fun r u t H1 locs1 _ _ hw _ _ _ _ => hw.elim)
  have hBX : X = "java/lang/IllegalStateException" := hBX
  subst hBX
  refine vx_catch (name := "java/lang/IllegalStateException") hown [⟨0, 9, 12, 21⟩] ⟨0, 9, 15, 15⟩ [] htb (fun z hz => by
      simp only [List.mem_cons, List.not_mem_nil, or_false] at hz
      subst hz
      exact Or.inr ⟨by decide, "java/lang/IndexOutOfBoundsException", hts _ (by decide +kernel), hL.2.2.2.2 ("java/lang/IllegalStateException", "java/lang/IndexOutOfBoundsException") (by decide +kernel)⟩) (by decide) (by decide) (hts _ (by decide +kernel)) (va_Nw.use rfl (hL.2.1 "java/lang/IllegalStateException" (by decide +kernel))) hce hcv hcl ?_
  refine lv_astore_n (lv' := [(3, .ref q9), (0, .ref x), (1, .int (nI k)), (2, .ref o)]) hx hb dL_advise_15 rfl hl (by decide) rfl (fun ls hl => ?_)
  refine lv_iconst (v := 2) hx hb dL_advise_16 (by decide) ?_
  exact W.iret (v := 2) hx hb hr (fun t ht hW => ⟨⟨2, (), rfl, rfl, trivial⟩, hS.F ht⟩) hS.2.2 dL_advise_17
