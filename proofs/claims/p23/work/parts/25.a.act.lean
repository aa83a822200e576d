/-! ONE ACT, done to both houses -/
abbrev zRa : Room := { frames := 8, cells := 2, slots := 23, locals := 180 }
def zAa (p : Program) (s : State) (m : MethodId) (args : Array Value) (meth : Method) (c : Code) (D : va_G) (cI cB cS : ClassId) : Prop := p.tables.exec = Jvm.exec ∧ c.code = cL_act ∧ c.maxLocals = 16 ∧ s.vm.findClass RL = some m.cls ∧ (∀ w ∈ wsL_act, w.before args s = true) ∧ va_K D vwCl (zT3 cI cB cS) s ∧ zL s
/-- what an act leaves: the table, the addresses, the numbers -/
abbrev zQ : Type := zS × (Nat → Nat) × (Nat → Nat) × (Nat → Nat) × Nat × Nat × Nat
def zG (σ : zS) (nb ns h : Nat) : Prop := zV σ nb ns h (30 * h)
def zPo (σ : zS) (u : Nat → Nat) (nb ns h : Nat) (Z : zQ) : Prop := Z.2.1 0 = u 0 ∧ zG Z.1 Z.2.2.2.2.1 Z.2.2.2.2.2.1 Z.2.2.2.2.2.2 ∧ Z.2.2.2.2.2.2 ≤ h + 5 ∧ h ≤ Z.2.2.2.2.2.2 ∧ zmo σ Z.1
def zWZ (cI cB cS : ClassId) (x : Nat) (a b : Nat → Nat) (τ : zS) (Z : zQ) : va_W := zw_X cI x a b Z.1 τ ++ zj cB cS Z.2.1 Z.2.2.1 Z.2.2.2.1 Z.2.2.2.2.1 Z.2.2.2.2.2.1 Z.1
/-- the end of an act: at an ireturn with 1 on the stack -/
def zFin (p : Program) (l : Launch) (e : Env) (s : State) (m : MethodId) (args : Array Value) (below : List Frame) (meth : Method) (c : Code) (Q : State → Prop) (D : va_G) (cI cB cS : ClassId) (x : Nat) (a b : Nat → Nat) (τ : zS) (A : Nat → Prop) (σ : zS) (u : Nat → Nat) (nb ns h : Nat) : Prop :=
  ∀ (Z : zQ) (H : Heap) (locs : List Loc) (ls : Array Slot) (pc : Nat), decode cL_act pc = .ok (.ireturn, 1) → zPo σ u nb ns h Z → va_P D vwCl (zWZ cI cB cS x a b τ Z) H → va_D A (zWZ cI cB cS x a b τ Z) → va_S A s.heap H locs → W p l e zRa s m args below meth c H locs 2 23 Q (F0 m pc ls [.int 1])
set_option maxHeartbeats 4000000 in
set_option maxRecDepth 100000 in
theorem a_bell {p : Program} {l : Launch} {e : Env} {s : State} {m : MethodId} {args : Array Value} {below : List Frame} {meth : Method} {c : Code} {Q : State → Prop} {D : va_G} {cI cB cS : ClassId} {x : Nat} {a b u bd sl : Nat → Nat} {A : Nat → Prop} {σ τ : zS} {H : Heap} {locs : List Loc} {ls : Array Slot} (C : zAa p s m args meth c D cI cB cS) (hA : ∀ q : Nat, s.heap.size ≤ q → A q) {nb ns h k : Nat} {v : Int32} (hV : zG σ nb ns h) (hk : k < ns) (hP : va_P D vwCl (zw_X cI x a b σ τ ++ zj cB cS u bd sl nb ns σ) H) (hD : va_D A (zw_X cI x a b σ τ ++ zj cB cS u bd sl nb ns σ)) (hS : va_S A s.heap H locs) (hl : lv_has ls 16 [(7, .ref (sl k)), (6, .int (nI k)), (4, .int (nI ns)), (3, .int (nI nb)), (2, .int v), (1, .ref (u 0)), (0, .ref x)]) (kk : zFin p l e s m args below meth c Q D cI cB cS x a b τ A σ u nb ns h)  : W p l e zRa s m args below meth c H locs 0 0 Q (F0 m 499 ls []) := by
  obtain ⟨hx, hb, hml, hown, hts, hK, hL⟩ := C
  have hnb := hV.1.2.1
  have hns := hV.1.2.2.2.1
  have hh := hV.1.2.2.2.2.2.1
  have hf68 := hts (.fieldLink RL 68 "HotBedsLaw$Sim" "bell" "I") (by decide +kernel)
  have hinX6 : ∀ w ∈ u_ws RX6 TX6 5, w ∈ wsL_act := by decide +kernel
  have hKi : va_K D vwCl [(cI, .int)] s := hK.sub [0] rfl
  have hPn : ∀ H : Heap, va_P D vwCl [] H := fun _ => zP0
  refine lv_aload_n hx hb dL_act_499 rfl (lv_at hl 5 rfl) ?_
  refine va_get (D := D) (ci := 6) (v := .int (σ 0 1)) (C := RX6) (T := TX6) (N := 5) hx hb hts hinX6 hown hK hP ((zw_X cI x a b σ τ).length + 0) (zxr (i := 0) rfl) rfl 1 (by decide) hf68 (fun _ h9 => h9) rfl dL_act_500 ?_
  refine lv_istore (lv' := [(10, .int (σ 0 1)), (7, .ref (sl k)), (6, .int (nI k)), (4, .int (nI ns)), (3, .int (nI nb)), (2, .int v), (1, .ref (u 0)), (0, .ref x)]) hx hb dL_act_503 hl (by decide) rfl (fun ls hl => ?_)
  refine lv_aload_n hx hb dL_act_505 rfl (lv_at hl 6 rfl) ?_
  refine lv_iload_n hx hb dL_act_506 rfl (lv_at hl 5 rfl) ?_
  refine lv_iconst (v := 3) hx hb dL_act_507 (by decide) ?_
  refine lv_ishr hx hb dL_act_508 ?_
  refine lv_bipush (v := 10) hx hb dL_act_509 (by decide) ?_
  refine zk_R (D := D) (va_runS (As := [.int (v >>> (3 &&& 31)), .int (nI 10)]) (rest := [.ref (u 0)]) ⟨hx, hb, hml, hown, hts⟩ (c_L_below l D (zT3 cI cB cS) (v >>> (3 &&& 31)) (N := 10) (by decide) (by decide) _) (va_cwS 2 hts gL_act_L_below rfl rfl rfl zdL_below.2 ⟨Nat.le_of_ble_eq_true rfl, Nat.le_of_ble_eq_true rfl⟩) ⟨zbl _, zpr hK zP0 (A := fun _ => True) zD0⟩ rfl rfl hl.1 rfl (lv_room (Nat.le_of_ble_eq_true rfl)) dL_act_511 ⟨Nat.le_of_ble_eq_true rfl, Nat.le_of_ble_eq_true rfl⟩) hS (fun r H locs hw hkp hS => ?_)
  have hP := hkp _ hP
  have hw : r = nI (q_bel (v >>> (3 &&& 31)) 10) := hw
  subst hw
  have hlt_q_1 : q_bel (v >>> (3 &&& 31)) 10 < 10 := q_bel_lt _ (by decide)
  refine va_put (D := D) (ci := 6) (v := .int (nI (q_bel (v >>> (3 &&& 31)) 10))) (ty := .int) (C := RX6) (T := TX6) (N := 5) hx hb hts hinX6 tyX6 tyX6_ok nmX6 hown hK hP hD hS ((zw_X cI x a b σ τ).length + 0) (zxr (i := 0) rfl) rfl 1 (by decide) hf68 (fun _ h9 => h9)  rfl (by decide +kernel) rfl rfl (Nat.le_of_ble_eq_true rfl) dL_act_514 (fun H locs hP hD hS => ?_)
  have hP : va_P D vwCl (zw_X cI x a b σ τ ++ zj cB cS u bd sl nb ns (zs σ 0 1 (nI (q_bel (v >>> (3 &&& 31)) 10)))) H := by rw [← zjw01 _, ← zxs]; exact hP
  have hD : va_D A (zw_X cI x a b σ τ ++ zj cB cS u bd sl nb ns (zs σ 0 1 (nI (q_bel (v >>> (3 &&& 31)) 10)))) := by rw [← zjw01 _, ← zxs]; exact hD
  refine lv_aload_n hx hb dL_act_517 rfl (lv_at hl 7 rfl) ?_
  refine lv_aload_n hx hb dL_act_518 rfl (lv_at hl 6 rfl) ?_
  refine va_get (D := D) (ci := 6) (v := .int (nI (q_bel (v >>> (3 &&& 31)) 10))) (C := RX6) (T := TX6) (N := 5) hx hb hts hinX6 hown hK hP ((zw_X cI x a b σ τ).length + 0) (zxr (i := 0) rfl) rfl 1 (by decide) hf68 (fun _ h9 => h9) (congrArg (fun z => some (Value.int z)) (by simp [zs_at])) dL_act_519 ?_
  have hF := zfree (zxd_D hD) hS hA
  refine zk_I (va_runV (As := [.int (nI (q_bel (v >>> (3 &&& 31)) 10))]) (rest := []) ⟨hx, hb, hml, hown, hts⟩ (c_X3_setBell l D cI x a b σ τ (nI (q_bel (v >>> (3 &&& 31)) 10)) (nI_pos (Nat.lt_trans (q_bel_lt _ (by decide)) (by decide))) (nI_le (b := 9) (Nat.le_of_lt_succ (q_bel_lt _ (by decide))) (by decide)) _) (cwV 1 hts gL_act_X3_setBell rfl rfl rfl zdX3_setBell ⟨Nat.le_of_ble_eq_true rfl, Nat.le_of_ble_eq_true rfl⟩) ⟨zbl _, va_recv hKi (zxd_P hP) (ci := 3) (q0 := 0) rfl rfl, zpr hKi (zxd_P hP) (zxd_D hD)⟩ rfl rfl hl.1 rfl (lv_room (Nat.le_of_ble_eq_true rfl)) dL_act_522 ⟨Nat.le_of_ble_eq_true rfl, Nat.le_of_ble_eq_true rfl⟩) hS hF (fun r H locs hw hkp hP1 hD1 hS => ?_)
  obtain ⟨hP, hD⟩ := zx_JL hP hD hkp hF hP1 hD1
  have hw : r = σ 0 1 := hw
  subst hw
  have hP : va_P D vwCl (zw_X cI x a b (zs σ 0 1 (nI (q_bel (v >>> (3 &&& 31)) 10))) τ ++ zj cB cS u bd sl nb ns (zs σ 0 1 (nI (q_bel (v >>> (3 &&& 31)) 10)))) H := hP
  have hD : va_D A (zw_X cI x a b (zs σ 0 1 (nI (q_bel (v >>> (3 &&& 31)) 10))) τ ++ zj cB cS u bd sl nb ns (zs σ 0 1 (nI (q_bel (v >>> (3 &&& 31)) 10)))) := hD
  refine lv_iload hx hb dL_act_525 (lv_at hl 0 rfl) ?_
  refine lv_icmp_ne (tgt := 534) hx hb dL_act_527 (by decide) (fun c => absurd (rfl) c) (fun _ => ?_)
  refine lv_iconst (v := 1) hx hb dL_act_530 (by decide) ?_
  refine lv_goto (tgt := 535) hx hb dL_act_531 (by decide) ?_
  have hP9 : va_P D vwCl (zw_X cI x a b (zs σ 0 1 (nI (q_bel (v >>> (3 &&& 31)) 10))) τ ++ zj cB cS u bd sl nb ns (zs σ 0 1 (nI (q_bel (v >>> (3 &&& 31)) 10)))) H := by
    exact hP
  have hD9 : va_D A (zw_X cI x a b (zs σ 0 1 (nI (q_bel (v >>> (3 &&& 31)) 10))) τ ++ zj cB cS u bd sl nb ns (zs σ 0 1 (nI (q_bel (v >>> (3 &&& 31)) 10)))) := by
    exact hD
  refine W.widen (k := 2) (n := 23) (Nat.le_of_ble_eq_true rfl) (Nat.le_of_ble_eq_true rfl) ?_
  exact kk (zs σ 0 1 (nI (q_bel (v >>> (3 &&& 31)) 10)), u, bd, sl, nb, ns, h) _ _ _ _ dL_act_535 ⟨rfl, hV.bell (zle.of (Nat.le_of_lt_succ (q_bel_lt _ (by decide)))), Nat.le_add_right _ _, Nat.le_refl _, zmo_other (by decide)⟩ hP9 hD9 hS
set_option maxHeartbeats 4000000 in
set_option maxRecDepth 100000 in
theorem a_pawnS {p : Program} {l : Launch} {e : Env} {s : State} {m : MethodId} {args : Array Value} {below : List Frame} {meth : Method} {c : Code} {Q : State → Prop} {D : va_G} {cI cB cS : ClassId} {x : Nat} {a b u bd sl : Nat → Nat} {A : Nat → Prop} {σ τ : zS} {H : Heap} {locs : List Loc} {ls : Array Slot} (C : zAa p s m args meth c D cI cB cS) (hA : ∀ q : Nat, s.heap.size ≤ q → A q) {nb ns h k : Nat} {v : Int32} (hV : zG σ nb ns h) (hk : k < ns) (hP : va_P D vwCl (zw_X cI x a b σ τ ++ zj cB cS u bd sl nb ns σ) H) (hD : va_D A (zw_X cI x a b σ τ ++ zj cB cS u bd sl nb ns σ)) (hS : va_S A s.heap H locs) (hl : lv_has ls 16 [(7, .ref (sl k)), (6, .int (nI k)), (4, .int (nI ns)), (3, .int (nI nb)), (2, .int v), (1, .ref (u 0)), (0, .ref x)]) (kk : zFin p l e s m args below meth c Q D cI cB cS x a b τ A σ u nb ns h)  : W p l e zRa s m args below meth c H locs 0 0 Q (F0 m 536 ls []) := by
  obtain ⟨hx, hb, hml, hown, hts, hK, hL⟩ := C
  have hnb := hV.1.2.1
  have hns := hV.1.2.2.2.1
  have hh := hV.1.2.2.2.2.2.1
  have hf74 := hts (.fieldLink RL 74 "HotBedsLaw$Sim" "pawn" "I") (by decide +kernel)
  have hinX6 : ∀ w ∈ u_ws RX6 TX6 5, w ∈ wsL_act := by decide +kernel
  have hKi : va_K D vwCl [(cI, .int)] s := hK.sub [0] rfl
  have hPn : ∀ H : Heap, va_P D vwCl [] H := fun _ => zP0
  refine lv_aload_n hx hb dL_act_536 rfl (lv_at hl 5 rfl) ?_
  refine va_get (D := D) (ci := 6) (v := .int (σ 0 2)) (C := RX6) (T := TX6) (N := 5) hx hb hts hinX6 hown hK hP ((zw_X cI x a b σ τ).length + 0) (zxr (i := 0) rfl) rfl 2 (by decide) hf74 (fun _ h9 => h9) rfl dL_act_537 ?_
  refine lv_istore (lv' := [(11, .int (σ 0 2)), (7, .ref (sl k)), (6, .int (nI k)), (4, .int (nI ns)), (3, .int (nI nb)), (2, .int v), (1, .ref (u 0)), (0, .ref x)]) hx hb dL_act_540 hl (by decide) rfl (fun ls hl => ?_)
  refine lv_aload_n hx hb dL_act_542 rfl (lv_at hl 6 rfl) ?_
  refine lv_iconst (v := 1) hx hb dL_act_543 (by decide) ?_
  refine lv_iload_n hx hb dL_act_544 rfl (lv_at hl 5 rfl) ?_
  refine lv_iconst (v := 3) hx hb dL_act_545 (by decide) ?_
  refine lv_ishr hx hb dL_act_546 ?_
  refine lv_bipush (v := 20) hx hb dL_act_547 (by decide) ?_
  refine zk_R (D := D) (va_runS (As := [.int (v >>> (3 &&& 31)), .int (nI 20)]) (rest := [.int 1, .ref (u 0)]) ⟨hx, hb, hml, hown, hts⟩ (c_L_below l D (zT3 cI cB cS) (v >>> (3 &&& 31)) (N := 20) (by decide) (by decide) _) (va_cwS 2 hts gL_act_L_below rfl rfl rfl zdL_below.2 ⟨Nat.le_of_ble_eq_true rfl, Nat.le_of_ble_eq_true rfl⟩) ⟨zbl _, zpr hK zP0 (A := fun _ => True) zD0⟩ rfl rfl hl.1 rfl (lv_room (Nat.le_of_ble_eq_true rfl)) dL_act_549 ⟨Nat.le_of_ble_eq_true rfl, Nat.le_of_ble_eq_true rfl⟩) hS (fun r H locs hw hkp hS => ?_)
  have hP := hkp _ hP
  have hw : r = nI (q_bel (v >>> (3 &&& 31)) 20) := hw
  subst hw
  have hlt_q_1 : q_bel (v >>> (3 &&& 31)) 20 < 20 := q_bel_lt _ (by decide)
  refine zk_add (x := 1) (y := (q_bel (v >>> (3 &&& 31)) 20)) hx hb dL_act_552 ?_
  refine va_put (D := D) (ci := 6) (v := .int (nI (1 + (q_bel (v >>> (3 &&& 31)) 20)))) (ty := .int) (C := RX6) (T := TX6) (N := 5) hx hb hts hinX6 tyX6 tyX6_ok nmX6 hown hK hP hD hS ((zw_X cI x a b σ τ).length + 0) (zxr (i := 0) rfl) rfl 2 (by decide) hf74 (fun _ h9 => h9)  rfl (by decide +kernel) rfl rfl (Nat.le_of_ble_eq_true rfl) dL_act_553 (fun H locs hP hD hS => ?_)
  have hP : va_P D vwCl (zw_X cI x a b σ τ ++ zj cB cS u bd sl nb ns (zs σ 0 2 (nI (1 + (q_bel (v >>> (3 &&& 31)) 20))))) H := by rw [← zjw02 _, ← zxs]; exact hP
  have hD : va_D A (zw_X cI x a b σ τ ++ zj cB cS u bd sl nb ns (zs σ 0 2 (nI (1 + (q_bel (v >>> (3 &&& 31)) 20))))) := by rw [← zjw02 _, ← zxs]; exact hD
  refine lv_aload_n hx hb dL_act_556 rfl (lv_at hl 7 rfl) ?_
  refine lv_aload_n hx hb dL_act_557 rfl (lv_at hl 6 rfl) ?_
  refine va_get (D := D) (ci := 6) (v := .int (nI (1 + (q_bel (v >>> (3 &&& 31)) 20)))) (C := RX6) (T := TX6) (N := 5) hx hb hts hinX6 hown hK hP ((zw_X cI x a b σ τ).length + 0) (zxr (i := 0) rfl) rfl 2 (by decide) hf74 (fun _ h9 => h9) (congrArg (fun z => some (Value.int z)) (by simp [zs_at])) dL_act_558 ?_
  have hF := zfree (zxd_D hD) hS hA
  refine zk_I (va_runV (As := [.int (nI (1 + (q_bel (v >>> (3 &&& 31)) 20)))]) (rest := []) ⟨hx, hb, hml, hown, hts⟩ (c_X3_setPawn l D cI x a b σ τ (nI (1 + q_bel (v >>> (3 &&& 31)) 20)) (nI_nlt (b := 1) (Nat.le_add_right 1 _) (by have := q_bel_lt (v >>> (3 &&& 31)) (N := 20) (by decide); omega)) (nI_le (b := 20) (by have := q_bel_lt (v >>> (3 &&& 31)) (N := 20) (by decide); omega) (by decide)) _) (cwV 1 hts gL_act_X3_setPawn rfl rfl rfl zdX3_setPawn ⟨Nat.le_of_ble_eq_true rfl, Nat.le_of_ble_eq_true rfl⟩) ⟨zbl _, va_recv hKi (zxd_P hP) (ci := 3) (q0 := 0) rfl rfl, zpr hKi (zxd_P hP) (zxd_D hD)⟩ rfl rfl hl.1 rfl (lv_room (Nat.le_of_ble_eq_true rfl)) dL_act_561 ⟨Nat.le_of_ble_eq_true rfl, Nat.le_of_ble_eq_true rfl⟩) hS hF (fun r H locs hw hkp hP1 hD1 hS => ?_)
  obtain ⟨hP, hD⟩ := zx_JL hP hD hkp hF hP1 hD1
  have hw : r = σ 0 2 := hw
  subst hw
  have hP : va_P D vwCl (zw_X cI x a b (zs σ 0 2 (nI (1 + q_bel (v >>> (3 &&& 31)) 20))) τ ++ zj cB cS u bd sl nb ns (zs σ 0 2 (nI (1 + (q_bel (v >>> (3 &&& 31)) 20))))) H := hP
  have hD : va_D A (zw_X cI x a b (zs σ 0 2 (nI (1 + q_bel (v >>> (3 &&& 31)) 20))) τ ++ zj cB cS u bd sl nb ns (zs σ 0 2 (nI (1 + (q_bel (v >>> (3 &&& 31)) 20))))) := hD
  refine lv_iload hx hb dL_act_564 (lv_at hl 0 rfl) ?_
  refine lv_icmp_ne (tgt := 573) hx hb dL_act_566 (by decide) (fun c => absurd (rfl) c) (fun _ => ?_)
  refine lv_iconst (v := 1) hx hb dL_act_569 (by decide) ?_
  refine lv_goto (tgt := 574) hx hb dL_act_570 (by decide) ?_
  have e9a : zs σ 0 2 (nI (1 + q_bel (v >>> (3 &&& 31)) 20)) = zs σ 0 2 (nI (1 + (q_bel (v >>> (3 &&& 31)) 20))) := rfl
  have hP9 : va_P D vwCl (zw_X cI x a b (zs σ 0 2 (nI (1 + q_bel (v >>> (3 &&& 31)) 20))) τ ++ zj cB cS u bd sl nb ns (zs σ 0 2 (nI (1 + q_bel (v >>> (3 &&& 31)) 20)))) H := by
    have e := congrArg (fun q => zj cB cS u bd sl nb ns q) e9a
    have e2 := congrArg (fun q => zw_X cI x a b (zs σ 0 2 (nI (1 + q_bel (v >>> (3 &&& 31)) 20))) τ ++ q) e
    rw [show zj cB cS u bd sl nb ns (zs σ 0 2 (nI (1 + q_bel (v >>> (3 &&& 31)) 20))) = zj cB cS u bd sl nb ns (zs σ 0 2 (nI (1 + (q_bel (v >>> (3 &&& 31)) 20)))) from e]
    exact hP
  have hD9 : va_D A (zw_X cI x a b (zs σ 0 2 (nI (1 + q_bel (v >>> (3 &&& 31)) 20))) τ ++ zj cB cS u bd sl nb ns (zs σ 0 2 (nI (1 + q_bel (v >>> (3 &&& 31)) 20)))) := by
    have e := congrArg (fun q => zj cB cS u bd sl nb ns q) e9a
    have e2 := congrArg (fun q => zw_X cI x a b (zs σ 0 2 (nI (1 + q_bel (v >>> (3 &&& 31)) 20))) τ ++ q) e
    rw [show zj cB cS u bd sl nb ns (zs σ 0 2 (nI (1 + q_bel (v >>> (3 &&& 31)) 20))) = zj cB cS u bd sl nb ns (zs σ 0 2 (nI (1 + (q_bel (v >>> (3 &&& 31)) 20)))) from e]
    exact hD
  refine W.widen (k := 2) (n := 23) (Nat.le_of_ble_eq_true rfl) (Nat.le_of_ble_eq_true rfl) ?_
  exact kk (zs σ 0 2 (nI (1 + q_bel (v >>> (3 &&& 31)) 20)), u, bd, sl, nb, ns, h) _ _ _ _ dL_act_574 ⟨rfl, hV.pawn (Nat.le_add_right 1 _) (by have := q_bel_lt (v >>> (3 &&& 31)) (N := 20) (by decide); omega), Nat.le_add_right _ _, Nat.le_refl _, zmo_other (by decide)⟩ hP9 hD9 hS
set_option maxHeartbeats 4000000 in
set_option maxRecDepth 100000 in
theorem a_give {p : Program} {l : Launch} {e : Env} {s : State} {m : MethodId} {args : Array Value} {below : List Frame} {meth : Method} {c : Code} {Q : State → Prop} {D : va_G} {cI cB cS : ClassId} {x : Nat} {a b u bd sl : Nat → Nat} {A : Nat → Prop} {σ τ : zS} {H : Heap} {locs : List Loc} {ls : Array Slot} (C : zAa p s m args meth c D cI cB cS) (hA : ∀ q : Nat, s.heap.size ≤ q → A q) {nb ns h k : Nat} {v : Int32} (hV : zG σ nb ns h) (hk : k < ns) (hP : va_P D vwCl (zw_X cI x a b σ τ ++ zj cB cS u bd sl nb ns σ) H) (hD : va_D A (zw_X cI x a b σ τ ++ zj cB cS u bd sl nb ns σ)) (hS : va_S A s.heap H locs) (hl : lv_has ls 16 [(7, .ref (sl k)), (6, .int (nI k)), (4, .int (nI ns)), (3, .int (nI nb)), (2, .int v), (1, .ref (u 0)), (0, .ref x)]) (kk : zFin p l e s m args below meth c Q D cI cB cS x a b τ A σ u nb ns h)  : W p l e zRa s m args below meth c H locs 0 0 Q (F0 m 575 ls []) := by
  obtain ⟨hx, hb, hml, hown, hts, hK, hL⟩ := C
  have hnb := hV.1.2.1
  have hns := hV.1.2.2.2.1
  have hh := hV.1.2.2.2.2.2.1
  have hf54 := hts (.fieldLink RL 54 "HotBedsLaw$Sailor" "purse" "I") (by decide +kernel)
  have hinX5 : ∀ w ∈ u_ws RX5 TX5 13, w ∈ wsL_act := by decide +kernel
  have hKi : va_K D vwCl [(cI, .int)] s := hK.sub [0] rfl
  have hPn : ∀ H : Heap, va_P D vwCl [] H := fun _ => zP0
  refine lv_aload hx hb dL_act_575 (lv_at hl 0 rfl) ?_
  refine lv_iconst (v := 1) hx hb dL_act_577 (by decide) ?_
  refine lv_iload_n hx hb dL_act_578 rfl (lv_at hl 4 rfl) ?_
  refine lv_iconst (v := 3) hx hb dL_act_579 (by decide) ?_
  refine lv_ishr hx hb dL_act_580 ?_
  refine lv_bipush (v := 99) hx hb dL_act_581 (by decide) ?_
  refine zk_R (D := D) (va_runS (As := [.int (v >>> (3 &&& 31)), .int (nI 99)]) (rest := [.int 1, .ref (sl k)]) ⟨hx, hb, hml, hown, hts⟩ (c_L_below l D (zT3 cI cB cS) (v >>> (3 &&& 31)) (N := 99) (by decide) (by decide) _) (va_cwS 2 hts gL_act_L_below rfl rfl rfl zdL_below.2 ⟨Nat.le_of_ble_eq_true rfl, Nat.le_of_ble_eq_true rfl⟩) ⟨zbl _, zpr hK zP0 (A := fun _ => True) zD0⟩ rfl rfl hl.1 rfl (lv_room (Nat.le_of_ble_eq_true rfl)) dL_act_583 ⟨Nat.le_of_ble_eq_true rfl, Nat.le_of_ble_eq_true rfl⟩) hS (fun r H locs hw hkp hS => ?_)
  have hP := hkp _ hP
  have hw : r = nI (q_bel (v >>> (3 &&& 31)) 99) := hw
  subst hw
  have hlt_q_1 : q_bel (v >>> (3 &&& 31)) 99 < 99 := q_bel_lt _ (by decide)
  refine zk_add (x := 1) (y := (q_bel (v >>> (3 &&& 31)) 99)) hx hb dL_act_586 ?_
  have hF := zfree (zxq_D hD) hS hA
  refine zk_V (va_runV (As := [.int (nI (1 + (q_bel (v >>> (3 &&& 31)) 99)))]) (rest := []) ⟨hx, hb, hml, hown, hts⟩ (c_X5_gets l D cI cB cS u bd sl σ (nI (1 + q_bel (v >>> (3 &&& 31)) 99)) hV hk _) (cwV 1 hts gL_act_X5_gets rfl rfl rfl zdX5_gets ⟨Nat.le_of_ble_eq_true rfl, Nat.le_of_ble_eq_true rfl⟩) ⟨zbl _, va_recv hK (zxq_P hP) (ci := 5) (q0 := (3 + nb + k)) rfl (zjq_S hk), zpr hK (zxq_P hP) (zxq_D hD)⟩ rfl rfl hl.1 rfl (lv_room (Nat.le_of_ble_eq_true rfl)) dL_act_587 ⟨Nat.le_of_ble_eq_true rfl, Nat.le_of_ble_eq_true rfl⟩) hS hF (fun H locs hkp hP1 hD1 hS => ?_)
  obtain ⟨hP, hD⟩ := zx_J hP hD hkp hF hP1 hD1
  have hP : va_P D vwCl (zw_X cI x a b σ τ ++ zj cB cS u bd sl nb ns (f_earn σ k (nI (1 + q_bel (v >>> (3 &&& 31)) 99)))) H := hP
  have hD : va_D A (zw_X cI x a b σ τ ++ zj cB cS u bd sl nb ns (f_earn σ k (nI (1 + q_bel (v >>> (3 &&& 31)) 99)))) := hD
  refine lv_aload_n hx hb dL_act_590 rfl (lv_at hl 6 rfl) ?_
  refine lv_iload hx hb dL_act_591 (lv_at hl 1 rfl) ?_
  refine lv_iconst (v := 1) hx hb dL_act_593 (by decide) ?_
  refine lv_iload_n hx hb dL_act_594 rfl (lv_at hl 4 rfl) ?_
  refine lv_iconst (v := 3) hx hb dL_act_595 (by decide) ?_
  refine lv_ishr hx hb dL_act_596 ?_
  refine lv_bipush (v := 99) hx hb dL_act_597 (by decide) ?_
  refine zk_R (D := D) (va_runS (As := [.int (v >>> (3 &&& 31)), .int (nI 99)]) (rest := [.int 1, .int (nI k), .ref x]) ⟨hx, hb, hml, hown, hts⟩ (c_L_below l D (zT3 cI cB cS) (v >>> (3 &&& 31)) (N := 99) (by decide) (by decide) _) (va_cwS 2 hts gL_act_L_below rfl rfl rfl zdL_below.2 ⟨Nat.le_of_ble_eq_true rfl, Nat.le_of_ble_eq_true rfl⟩) ⟨zbl _, zpr hK zP0 (A := fun _ => True) zD0⟩ rfl rfl hl.1 rfl (lv_room (Nat.le_of_ble_eq_true rfl)) dL_act_599 ⟨Nat.le_of_ble_eq_true rfl, Nat.le_of_ble_eq_true rfl⟩) hS (fun r H locs hw hkp hS => ?_)
  have hP := hkp _ hP
  have hw : r = nI (q_bel (v >>> (3 &&& 31)) 99) := hw
  subst hw
  have hlt_q_2 : q_bel (v >>> (3 &&& 31)) 99 < 99 := q_bel_lt _ (by decide)
  refine zk_add (x := 1) (y := (q_bel (v >>> (3 &&& 31)) 99)) hx hb dL_act_602 ?_
  have hF := zfree (zxd_D hD) hS hA
  refine zk_I (va_runV (As := [.int (nI k), .int (nI (1 + (q_bel (v >>> (3 &&& 31)) 99)))]) (rest := []) ⟨hx, hb, hml, hown, hts⟩ (c_X3_give l D cI x a b σ τ hV.1 hk (nI (1 + q_bel (v >>> (3 &&& 31)) 99)) (nI_nlt (b := 1) (Nat.le_add_right 1 _) (by have := q_bel_lt (v >>> (3 &&& 31)) (N := 99) (by decide); omega)) (nI_le (b := 99) (by have := q_bel_lt (v >>> (3 &&& 31)) (N := 99) (by decide); omega) (by decide)) _) (cwV 2 hts gL_act_X3_give rfl rfl rfl zdX3_give ⟨Nat.le_of_ble_eq_true rfl, Nat.le_of_ble_eq_true rfl⟩) ⟨zbl _, va_recv hKi (zxd_P hP) (ci := 3) (q0 := 0) rfl rfl, zpr hKi (zxd_P hP) (zxd_D hD)⟩ rfl rfl hl.1 rfl (lv_room (Nat.le_of_ble_eq_true rfl)) dL_act_603 ⟨Nat.le_of_ble_eq_true rfl, Nat.le_of_ble_eq_true rfl⟩) hS hF (fun r H locs hw hkp hP1 hD1 hS => ?_)
  obtain ⟨hP, hD⟩ := zx_JL hP hD hkp hF hP1 hD1
  have hw : r = (f_earn σ k (nI (1 + q_bel (v >>> (3 &&& 31)) 99))) 9 k := hw
  subst hw
  have hP : va_P D vwCl (zw_X cI x a b (f_earn σ k (nI (1 + q_bel (v >>> (3 &&& 31)) 99))) τ ++ zj cB cS u bd sl nb ns (f_earn σ k (nI (1 + q_bel (v >>> (3 &&& 31)) 99)))) H := hP
  have hD : va_D A (zw_X cI x a b (f_earn σ k (nI (1 + q_bel (v >>> (3 &&& 31)) 99))) τ ++ zj cB cS u bd sl nb ns (f_earn σ k (nI (1 + q_bel (v >>> (3 &&& 31)) 99)))) := hD
  refine lv_aload hx hb dL_act_606 (lv_at hl 0 rfl) ?_
  refine va_get (D := D) (ci := 5) (v := .int ((f_earn σ k (nI (1 + q_bel (v >>> (3 &&& 31)) 99))) 9 k)) (C := RX5) (T := TX5) (N := 13) hx hb hts hinX5 hown hK hP ((zw_X cI x a b (f_earn σ k (nI (1 + q_bel (v >>> (3 &&& 31)) 99))) τ).length + (3 + nb + k)) (zxr (zjq_S hk)) rfl 4 (by decide) hf54 (fun _ h9 => h9) rfl dL_act_608 ?_
  refine lv_icmp_ne (tgt := 618) hx hb dL_act_611 (by decide) (fun c => absurd (rfl) c) (fun _ => ?_)
  refine lv_iconst (v := 1) hx hb dL_act_614 (by decide) ?_
  refine lv_goto (tgt := 619) hx hb dL_act_615 (by decide) ?_
  have hP9 : va_P D vwCl (zw_X cI x a b (f_earn σ k (nI (1 + q_bel (v >>> (3 &&& 31)) 99))) τ ++ zj cB cS u bd sl nb ns (f_earn σ k (nI (1 + q_bel (v >>> (3 &&& 31)) 99)))) H := by
    exact hP
  have hD9 : va_D A (zw_X cI x a b (f_earn σ k (nI (1 + q_bel (v >>> (3 &&& 31)) 99))) τ ++ zj cB cS u bd sl nb ns (f_earn σ k (nI (1 + q_bel (v >>> (3 &&& 31)) 99)))) := by
    exact hD
  refine W.widen (k := 2) (n := 23) (Nat.le_of_ble_eq_true rfl) (Nat.le_of_ble_eq_true rfl) ?_
  exact kk (f_earn σ k (nI (1 + q_bel (v >>> (3 &&& 31)) 99)), u, bd, sl, nb, ns, h) _ _ _ _ dL_act_619 ⟨rfl, hV.earn hk (by have := q_bel_lt (v >>> (3 &&& 31)) (N := 99) (by decide); omega), Nat.le_add_right _ _, Nat.le_refl _, mo_earn _ _ _⟩ hP9 hD9 hS
set_option maxHeartbeats 4000000 in
set_option maxRecDepth 100000 in
theorem a_pawn {p : Program} {l : Launch} {e : Env} {s : State} {m : MethodId} {args : Array Value} {below : List Frame} {meth : Method} {c : Code} {Q : State → Prop} {D : va_G} {cI cB cS : ClassId} {x : Nat} {a b u bd sl : Nat → Nat} {A : Nat → Prop} {σ τ : zS} {H : Heap} {locs : List Loc} {ls : Array Slot} (C : zAa p s m args meth c D cI cB cS) (hA : ∀ q : Nat, s.heap.size ≤ q → A q) {nb ns h k : Nat} {v : Int32} (hV : zG σ nb ns h) (hk : k < ns) (hP : va_P D vwCl (zw_X cI x a b σ τ ++ zj cB cS u bd sl nb ns σ) H) (hD : va_D A (zw_X cI x a b σ τ ++ zj cB cS u bd sl nb ns σ)) (hS : va_S A s.heap H locs) (hl : lv_has ls 16 [(7, .ref (sl k)), (6, .int (nI k)), (4, .int (nI ns)), (3, .int (nI nb)), (2, .int v), (1, .ref (u 0)), (0, .ref x)]) (kk : zFin p l e s m args below meth c Q D cI cB cS x a b τ A σ u nb ns h)  : W p l e zRa s m args below meth c H locs 0 0 Q (F0 m 620 ls []) := by
  obtain ⟨hx, hb, hml, hown, hts, hK, hL⟩ := C
  have hnb := hV.1.2.1
  have hns := hV.1.2.2.2.1
  have hh := hV.1.2.2.2.2.2.1
  have hf54 := hts (.fieldLink RL 54 "HotBedsLaw$Sailor" "purse" "I") (by decide +kernel)
  have hf74 := hts (.fieldLink RL 74 "HotBedsLaw$Sim" "pawn" "I") (by decide +kernel)
  have hf87 := hts (.fieldLink RL 87 "HotBedsLaw$Sailor" "hasBoots" "Z") (by decide +kernel)
  have hinX5 : ∀ w ∈ u_ws RX5 TX5 13, w ∈ wsL_act := by decide +kernel
  have hinX6 : ∀ w ∈ u_ws RX6 TX6 5, w ∈ wsL_act := by decide +kernel
  have hKi : va_K D vwCl [(cI, .int)] s := hK.sub [0] rfl
  refine lv_aload hx hb dL_act_620 (lv_at hl 0 rfl) ?_
  rcases (hV.ksk hk).2.1 with e10_1 | e10_1
  · refine va_get (D := D) (ci := 5) (v := .int 0) (C := RX5) (T := TX5) (N := 13) hx hb hts hinX5 hown hK hP ((zw_X cI x a b σ τ).length + (3 + nb + k)) (zxr (zjq_S hk)) rfl 5 (by decide) hf87 (fun _ h9 => h9) (congrArg (fun z => some (Value.int z)) e10_1) dL_act_622 ?_
    refine lv_if_ne (tgt := 630) hx hb dL_act_625 (by decide) (fun c => absurd (by decide) c) (fun _ => ?_)
    refine lv_iconst (v := 1) hx hb dL_act_628 (by decide) ?_
    have hP9 : va_P D vwCl (zw_X cI x a b (σ) τ ++ zj cB cS u bd sl nb ns (σ)) H := by
      exact hP
    have hD9 : va_D A (zw_X cI x a b (σ) τ ++ zj cB cS u bd sl nb ns (σ)) := by
      exact hD
    refine W.widen (k := 2) (n := 23) (Nat.le_of_ble_eq_true rfl) (Nat.le_of_ble_eq_true rfl) ?_
    exact kk (σ, u, bd, sl, nb, ns, h) _ _ _ _ dL_act_629 ⟨rfl, hV, Nat.le_add_right _ _, Nat.le_refl _, zmo.rf⟩ hP9 hD9 hS
  · refine va_get (D := D) (ci := 5) (v := .int 1) (C := RX5) (T := TX5) (N := 13) hx hb hts hinX5 hown hK hP ((zw_X cI x a b σ τ).length + (3 + nb + k)) (zxr (zjq_S hk)) rfl 5 (by decide) hf87 (fun _ h9 => h9) (congrArg (fun z => some (Value.int z)) e10_1) dL_act_622 ?_
    refine lv_if_ne (tgt := 630) hx hb dL_act_625 (by decide) (fun _ => ?_) (fun c => absurd c (by decide))
    refine lv_aload hx hb dL_act_630 (lv_at hl 0 rfl) ?_
    refine lv_iconst (v := 0) hx hb dL_act_632 (by decide) ?_
    refine va_put (D := D) (ci := 5) (v := .int 0) (ty := .boolean) (C := RX5) (T := TX5) (N := 13) hx hb hts hinX5 tyX5 tyX5_ok nmX5 hown hK hP hD hS ((zw_X cI x a b σ τ).length + (3 + nb + k)) (zxr (zjq_S hk)) rfl 5 (by decide) hf87 (fun _ h9 => h9)  rfl (by decide +kernel) rfl rfl (Nat.le_of_ble_eq_true rfl) dL_act_633 (fun H locs hP hD hS => ?_)
    have hP : va_P D vwCl (zw_X cI x a b σ τ ++ zj cB cS u bd sl nb ns (zs σ 10 k 0)) H := by rw [← zjw10 hk _, ← zxs]; exact hP
    have hD : va_D A (zw_X cI x a b σ τ ++ zj cB cS u bd sl nb ns (zs σ 10 k 0)) := by rw [← zjw10 hk _, ← zxs]; exact hD
    refine lv_aload hx hb dL_act_636 (lv_at hl 0 rfl) ?_
    refine lv_aload_n hx hb dL_act_638 rfl (lv_at hl 5 rfl) ?_
    refine va_get (D := D) (ci := 6) (v := .int (σ 0 2)) (C := RX6) (T := TX6) (N := 5) hx hb hts hinX6 hown hK hP ((zw_X cI x a b σ τ).length + 0) (zxr (i := 0) rfl) rfl 2 (by decide) hf74 (fun _ h9 => h9) rfl dL_act_639 ?_
    have hF := zfree (zxq_D hD) hS hA
    refine zk_V (va_runV (As := [.int (σ 0 2)]) (rest := []) ⟨hx, hb, hml, hown, hts⟩ (c_X5_gets l D cI cB cS u bd sl (zs σ 10 k 0) (σ 0 2) (hV.bt0 hk) hk _) (cwV 1 hts gL_act_X5_gets rfl rfl rfl zdX5_gets ⟨Nat.le_of_ble_eq_true rfl, Nat.le_of_ble_eq_true rfl⟩) ⟨zbl _, va_recv hK (zxq_P hP) (ci := 5) (q0 := (3 + nb + k)) rfl (zjq_S hk), zpr hK (zxq_P hP) (zxq_D hD)⟩ rfl rfl hl.1 rfl (lv_room (Nat.le_of_ble_eq_true rfl)) dL_act_642 ⟨Nat.le_of_ble_eq_true rfl, Nat.le_of_ble_eq_true rfl⟩) hS hF (fun H locs hkp hP1 hD1 hS => ?_)
    obtain ⟨hP, hD⟩ := zx_J hP hD hkp hF hP1 hD1
    have hP : va_P D vwCl (zw_X cI x a b σ τ ++ zj cB cS u bd sl nb ns (f_pawnB σ k)) H := hP
    have hD : va_D A (zw_X cI x a b σ τ ++ zj cB cS u bd sl nb ns (f_pawnB σ k)) := hD
    refine lv_aload_n hx hb dL_act_645 rfl (lv_at hl 6 rfl) ?_
    refine lv_iload hx hb dL_act_646 (lv_at hl 1 rfl) ?_
    have hF := zfree (zxd_D hD) hS hA
    refine zk_I (va_runV (As := [.int (nI k)]) (rest := []) ⟨hx, hb, hml, hown, hts⟩ (c_X3_pawn l D cI x a b σ τ hV.1 hk e10_1 _) (cwV 1 hts gL_act_X3_pawn rfl rfl rfl zdX3_pawn ⟨Nat.le_of_ble_eq_true rfl, Nat.le_of_ble_eq_true rfl⟩) ⟨zbl _, va_recv hKi (zxd_P hP) (ci := 3) (q0 := 0) rfl rfl, zpr hKi (zxd_P hP) (zxd_D hD)⟩ rfl rfl hl.1 rfl (lv_room (Nat.le_of_ble_eq_true rfl)) dL_act_648 ⟨Nat.le_of_ble_eq_true rfl, Nat.le_of_ble_eq_true rfl⟩) hS hF (fun r H locs hw hkp hP1 hD1 hS => ?_)
    obtain ⟨hP, hD⟩ := zx_JL hP hD hkp hF hP1 hD1
    have hw : r = (f_pawnB σ k) 9 k := hw
    subst hw
    have hP : va_P D vwCl (zw_X cI x a b (f_pawnB σ k) τ ++ zj cB cS u bd sl nb ns (f_pawnB σ k)) H := hP
    have hD : va_D A (zw_X cI x a b (f_pawnB σ k) τ ++ zj cB cS u bd sl nb ns (f_pawnB σ k)) := hD
    refine lv_aload hx hb dL_act_651 (lv_at hl 0 rfl) ?_
    refine va_get (D := D) (ci := 5) (v := .int ((f_pawnB σ k) 9 k)) (C := RX5) (T := TX5) (N := 13) hx hb hts hinX5 hown hK hP ((zw_X cI x a b (f_pawnB σ k) τ).length + (3 + nb + k)) (zxr (zjq_S hk)) rfl 4 (by decide) hf54 (fun _ h9 => h9) rfl dL_act_653 ?_
    refine lv_icmp_ne (tgt := 663) hx hb dL_act_656 (by decide) (fun c => absurd (rfl) c) (fun _ => ?_)
    refine lv_iconst (v := 1) hx hb dL_act_659 (by decide) ?_
    refine lv_goto (tgt := 664) hx hb dL_act_660 (by decide) ?_
    have hP9 : va_P D vwCl (zw_X cI x a b (f_pawnB σ k) τ ++ zj cB cS u bd sl nb ns (f_pawnB σ k)) H := by
      exact hP
    have hD9 : va_D A (zw_X cI x a b (f_pawnB σ k) τ ++ zj cB cS u bd sl nb ns (f_pawnB σ k)) := by
      exact hD
    refine W.widen (k := 2) (n := 23) (Nat.le_of_ble_eq_true rfl) (Nat.le_of_ble_eq_true rfl) ?_
    exact kk (f_pawnB σ k, u, bd, sl, nb, ns, h) _ _ _ _ dL_act_664 ⟨rfl, hV.pawnB hk, Nat.le_add_right _ _, Nat.le_refl _, mo_pawnB _ _⟩ hP9 hD9 hS
set_option maxHeartbeats 4000000 in
set_option maxRecDepth 100000 in
theorem a_redeem {p : Program} {l : Launch} {e : Env} {s : State} {m : MethodId} {args : Array Value} {below : List Frame} {meth : Method} {c : Code} {Q : State → Prop} {D : va_G} {cI cB cS : ClassId} {x : Nat} {a b u bd sl : Nat → Nat} {A : Nat → Prop} {σ τ : zS} {H : Heap} {locs : List Loc} {ls : Array Slot} (C : zAa p s m args meth c D cI cB cS) (hA : ∀ q : Nat, s.heap.size ≤ q → A q) {nb ns h k : Nat} {v : Int32} (hV : zG σ nb ns h) (hk : k < ns) (hP : va_P D vwCl (zw_X cI x a b σ τ ++ zj cB cS u bd sl nb ns σ) H) (hD : va_D A (zw_X cI x a b σ τ ++ zj cB cS u bd sl nb ns σ)) (hS : va_S A s.heap H locs) (hl : lv_has ls 16 [(7, .ref (sl k)), (6, .int (nI k)), (4, .int (nI ns)), (3, .int (nI nb)), (2, .int v), (1, .ref (u 0)), (0, .ref x)]) (kk : zFin p l e s m args below meth c Q D cI cB cS x a b τ A σ u nb ns h)  : W p l e zRa s m args below meth c H locs 0 0 Q (F0 m 665 ls []) := by
  obtain ⟨hx, hb, hml, hown, hts, hK, hL⟩ := C
  have hnb := hV.1.2.1
  have hns := hV.1.2.2.2.1
  have hh := hV.1.2.2.2.2.2.1
  have hf54 := hts (.fieldLink RL 54 "HotBedsLaw$Sailor" "purse" "I") (by decide +kernel)
  have hf74 := hts (.fieldLink RL 74 "HotBedsLaw$Sim" "pawn" "I") (by decide +kernel)
  have hf87 := hts (.fieldLink RL 87 "HotBedsLaw$Sailor" "hasBoots" "Z") (by decide +kernel)
  have hinX5 : ∀ w ∈ u_ws RX5 TX5 13, w ∈ wsL_act := by decide +kernel
  have hinX6 : ∀ w ∈ u_ws RX6 TX6 5, w ∈ wsL_act := by decide +kernel
  have hKi : va_K D vwCl [(cI, .int)] s := hK.sub [0] rfl
  refine lv_aload hx hb dL_act_665 (lv_at hl 0 rfl) ?_
  rcases (hV.ksk hk).2.1 with e10_1 | e10_1
  · refine va_get (D := D) (ci := 5) (v := .int 0) (C := RX5) (T := TX5) (N := 13) hx hb hts hinX5 hown hK hP ((zw_X cI x a b σ τ).length + (3 + nb + k)) (zxr (zjq_S hk)) rfl 5 (by decide) hf87 (fun _ h9 => h9) (congrArg (fun z => some (Value.int z)) e10_1) dL_act_667 ?_
    refine lv_if_ne (tgt := 687) hx hb dL_act_670 (by decide) (fun c => absurd (by decide) c) (fun _ => ?_)
    refine lv_aload hx hb dL_act_673 (lv_at hl 0 rfl) ?_
    refine va_get (D := D) (ci := 5) (v := .int (σ 9 k)) (C := RX5) (T := TX5) (N := 13) hx hb hts hinX5 hown hK hP ((zw_X cI x a b σ τ).length + (3 + nb + k)) (zxr (zjq_S hk)) rfl 4 (by decide) hf54 (fun _ h9 => h9) rfl dL_act_675 ?_
    refine lv_aload_n hx hb dL_act_678 rfl (lv_at hl 5 rfl) ?_
    refine va_get (D := D) (ci := 6) (v := .int (σ 0 2)) (C := RX6) (T := TX6) (N := 5) hx hb hts hinX6 hown hK hP ((zw_X cI x a b σ τ).length + 0) (zxr (i := 0) rfl) rfl 2 (by decide) hf74 (fun _ h9 => h9) rfl dL_act_679 ?_
    refine lv_iconst (v := 2) hx hb dL_act_682 (by decide) ?_
    refine lv_iadd hx hb dL_act_683 ?_
    refine lv_icmp_ge (tgt := 689) hx hb dL_act_684 (by decide) (fun c_3 => ?_) (fun c_3 => ?_)
    · refine lv_aload hx hb dL_act_689 (lv_at hl 0 rfl) ?_
      refine lv_iconst (v := 1) hx hb dL_act_691 (by decide) ?_
      refine va_put (D := D) (ci := 5) (v := .int 1) (ty := .boolean) (C := RX5) (T := TX5) (N := 13) hx hb hts hinX5 tyX5 tyX5_ok nmX5 hown hK hP hD hS ((zw_X cI x a b σ τ).length + (3 + nb + k)) (zxr (zjq_S hk)) rfl 5 (by decide) hf87 (fun _ h9 => h9)  rfl (by decide +kernel) rfl rfl (Nat.le_of_ble_eq_true rfl) dL_act_692 (fun H locs hP hD hS => ?_)
      have hP : va_P D vwCl (zw_X cI x a b σ τ ++ zj cB cS u bd sl nb ns (zs σ 10 k 1)) H := by rw [← zjw10 hk _, ← zxs]; exact hP
      have hD : va_D A (zw_X cI x a b σ τ ++ zj cB cS u bd sl nb ns (zs σ 10 k 1)) := by rw [← zjw10 hk _, ← zxs]; exact hD
      refine lv_aload hx hb dL_act_695 (lv_at hl 0 rfl) ?_
      refine lv_dup hx hb dL_act_697 rfl ?_
      refine va_get (D := D) (ci := 5) (v := .int (σ 9 k)) (C := RX5) (T := TX5) (N := 13) hx hb hts hinX5 hown hK hP ((zw_X cI x a b σ τ).length + (3 + nb + k)) (zxr (zjq_S hk)) rfl 4 (by decide) hf54 (fun _ h9 => h9) rfl dL_act_698 ?_
      refine lv_aload_n hx hb dL_act_701 rfl (lv_at hl 5 rfl) ?_
      refine va_get (D := D) (ci := 6) (v := .int (σ 0 2)) (C := RX6) (T := TX6) (N := 5) hx hb hts hinX6 hown hK hP ((zw_X cI x a b σ τ).length + 0) (zxr (i := 0) rfl) rfl 2 (by decide) hf74 (fun _ h9 => h9) rfl dL_act_702 ?_
      refine lv_iconst (v := 2) hx hb dL_act_705 (by decide) ?_
      refine lv_iadd hx hb dL_act_706 ?_
      refine lv_isub hx hb dL_act_707 ?_
      refine va_put (D := D) (ci := 5) (v := .int ((σ 9 k) - ((σ 0 2) + 2))) (ty := .int) (C := RX5) (T := TX5) (N := 13) hx hb hts hinX5 tyX5 tyX5_ok nmX5 hown hK hP hD hS ((zw_X cI x a b σ τ).length + (3 + nb + k)) (zxr (zjq_S hk)) rfl 4 (by decide) hf54 (fun _ h9 => h9)  rfl (by decide +kernel) rfl rfl (Nat.le_of_ble_eq_true rfl) dL_act_708 (fun H locs hP hD hS => ?_)
      have hP : va_P D vwCl (zw_X cI x a b σ τ ++ zj cB cS u bd sl nb ns (zs (zs σ 10 k 1) 9 k ((σ 9 k) - ((σ 0 2) + 2)))) H := by rw [← zjw9 hk _, ← zxs]; exact hP
      have hD : va_D A (zw_X cI x a b σ τ ++ zj cB cS u bd sl nb ns (zs (zs σ 10 k 1) 9 k ((σ 9 k) - ((σ 0 2) + 2)))) := by rw [← zjw9 hk _, ← zxs]; exact hD
      refine lv_aload_n hx hb dL_act_711 rfl (lv_at hl 6 rfl) ?_
      refine lv_iload hx hb dL_act_712 (lv_at hl 1 rfl) ?_
      have hF := zfree (zxd_D hD) hS hA
      refine zk_I (va_runV (As := [.int (nI k)]) (rest := []) ⟨hx, hb, hml, hown, hts⟩ (c_X3_redeem l D cI x a b σ τ hV.1 hk ⟨by rw [e10_1]; decide, i32_nlt c_3⟩ _) (cwV 1 hts gL_act_X3_redeem rfl rfl rfl zdX3_redeem ⟨Nat.le_of_ble_eq_true rfl, Nat.le_of_ble_eq_true rfl⟩) ⟨zbl _, va_recv hKi (zxd_P hP) (ci := 3) (q0 := 0) rfl rfl, zpr hKi (zxd_P hP) (zxd_D hD)⟩ rfl rfl hl.1 rfl (lv_room (Nat.le_of_ble_eq_true rfl)) dL_act_714 ⟨Nat.le_of_ble_eq_true rfl, Nat.le_of_ble_eq_true rfl⟩) hS hF (fun r H locs hw hkp hP1 hD1 hS => ?_)
      obtain ⟨hP, hD⟩ := zx_JL hP hD hkp hF hP1 hD1
      have hw : r = (f_red σ k) 9 k := hw
      subst hw
      have hP : va_P D vwCl (zw_X cI x a b (f_red σ k) τ ++ zj cB cS u bd sl nb ns (zs (zs σ 10 k 1) 9 k ((σ 9 k) - ((σ 0 2) + 2)))) H := hP
      have hD : va_D A (zw_X cI x a b (f_red σ k) τ ++ zj cB cS u bd sl nb ns (zs (zs σ 10 k 1) 9 k ((σ 9 k) - ((σ 0 2) + 2)))) := hD
      refine lv_aload hx hb dL_act_717 (lv_at hl 0 rfl) ?_
      refine va_get (D := D) (ci := 5) (v := .int ((σ 9 k) - ((σ 0 2) + 2))) (C := RX5) (T := TX5) (N := 13) hx hb hts hinX5 hown hK hP ((zw_X cI x a b (f_red σ k) τ).length + (3 + nb + k)) (zxr (zjq_S hk)) rfl 4 (by decide) hf54 (fun _ h9 => h9) (congrArg (fun z => some (Value.int z)) (by simp [zs_at])) dL_act_719 ?_
      refine lv_icmp_ne (tgt := 729) hx hb dL_act_722 (by decide) (fun c => absurd (zs_eq σ 9 k _) c) (fun _ => ?_)
      refine lv_iconst (v := 1) hx hb dL_act_725 (by decide) ?_
      refine lv_goto (tgt := 730) hx hb dL_act_726 (by decide) ?_
      have e9a : f_red σ k = zs (zs σ 10 k 1) 9 k ((σ 9 k) - ((σ 0 2) + 2)) := zs_swap σ (by decide) _ _ _ _
      have hP9 : va_P D vwCl (zw_X cI x a b (f_red σ k) τ ++ zj cB cS u bd sl nb ns (f_red σ k)) H := by
        have e := congrArg (fun q => zj cB cS u bd sl nb ns q) e9a
        have e2 := congrArg (fun q => zw_X cI x a b (f_red σ k) τ ++ q) e
        rw [show zj cB cS u bd sl nb ns (f_red σ k) = zj cB cS u bd sl nb ns (zs (zs σ 10 k 1) 9 k ((σ 9 k) - ((σ 0 2) + 2))) from e]
        exact hP
      have hD9 : va_D A (zw_X cI x a b (f_red σ k) τ ++ zj cB cS u bd sl nb ns (f_red σ k)) := by
        have e := congrArg (fun q => zj cB cS u bd sl nb ns q) e9a
        have e2 := congrArg (fun q => zw_X cI x a b (f_red σ k) τ ++ q) e
        rw [show zj cB cS u bd sl nb ns (f_red σ k) = zj cB cS u bd sl nb ns (zs (zs σ 10 k 1) 9 k ((σ 9 k) - ((σ 0 2) + 2))) from e]
        exact hD
      refine W.widen (k := 2) (n := 23) (Nat.le_of_ble_eq_true rfl) (Nat.le_of_ble_eq_true rfl) ?_
      exact kk (f_red σ k, u, bd, sl, nb, ns, h) _ _ _ _ dL_act_730 ⟨rfl, hV.red hk ⟨by rw [e10_1]; decide, i32_nlt c_3⟩, Nat.le_add_right _ _, Nat.le_refl _, mo_red _ _⟩ hP9 hD9 hS
    · refine lv_iconst (v := 1) hx hb dL_act_687 (by decide) ?_
      have hP9 : va_P D vwCl (zw_X cI x a b (σ) τ ++ zj cB cS u bd sl nb ns (σ)) H := by
        exact hP
      have hD9 : va_D A (zw_X cI x a b (σ) τ ++ zj cB cS u bd sl nb ns (σ)) := by
        exact hD
      refine W.widen (k := 2) (n := 23) (Nat.le_of_ble_eq_true rfl) (Nat.le_of_ble_eq_true rfl) ?_
      exact kk (σ, u, bd, sl, nb, ns, h) _ _ _ _ dL_act_688 ⟨rfl, hV, Nat.le_add_right _ _, Nat.le_refl _, zmo.rf⟩ hP9 hD9 hS
  · refine va_get (D := D) (ci := 5) (v := .int 1) (C := RX5) (T := TX5) (N := 13) hx hb hts hinX5 hown hK hP ((zw_X cI x a b σ τ).length + (3 + nb + k)) (zxr (zjq_S hk)) rfl 5 (by decide) hf87 (fun _ h9 => h9) (congrArg (fun z => some (Value.int z)) e10_1) dL_act_667 ?_
    refine lv_if_ne (tgt := 687) hx hb dL_act_670 (by decide) (fun _ => ?_) (fun c => absurd c (by decide))
    refine lv_iconst (v := 1) hx hb dL_act_687 (by decide) ?_
    have hP9 : va_P D vwCl (zw_X cI x a b (σ) τ ++ zj cB cS u bd sl nb ns (σ)) H := by
      exact hP
    have hD9 : va_D A (zw_X cI x a b (σ) τ ++ zj cB cS u bd sl nb ns (σ)) := by
      exact hD
    refine W.widen (k := 2) (n := 23) (Nat.le_of_ble_eq_true rfl) (Nat.le_of_ble_eq_true rfl) ?_
    exact kk (σ, u, bd, sl, nb, ns, h) _ _ _ _ dL_act_688 ⟨rfl, hV, Nat.le_add_right _ _, Nat.le_refl _, zmo.rf⟩ hP9 hD9 hS
set_option maxHeartbeats 4000000 in
set_option maxRecDepth 100000 in
theorem a_call {p : Program} {l : Launch} {e : Env} {s : State} {m : MethodId} {args : Array Value} {below : List Frame} {meth : Method} {c : Code} {Q : State → Prop} {D : va_G} {cI cB cS : ClassId} {x : Nat} {a b u bd sl : Nat → Nat} {A : Nat → Prop} {σ τ : zS} {H : Heap} {locs : List Loc} {ls : Array Slot} (C : zAa p s m args meth c D cI cB cS) (hA : ∀ q : Nat, s.heap.size ≤ q → A q) {nb ns h k : Nat} {v : Int32} (hV : zG σ nb ns h) (hk : k < ns) (hP : va_P D vwCl (zw_X cI x a b σ τ ++ zj cB cS u bd sl nb ns σ) H) (hD : va_D A (zw_X cI x a b σ τ ++ zj cB cS u bd sl nb ns σ)) (hS : va_S A s.heap H locs) (hl : lv_has ls 16 [(7, .ref (sl k)), (6, .int (nI k)), (4, .int (nI ns)), (3, .int (nI nb)), (2, .int v), (1, .ref (u 0)), (0, .ref x)]) (kk : zFin p l e s m args below meth c Q D cI cB cS x a b τ A σ u nb ns h)  : W p l e zRa s m args below meth c H locs 0 0 Q (F0 m 731 ls []) := by
  obtain ⟨hx, hb, hml, hown, hts, hK, hL⟩ := C
  have hnb := hV.1.2.1
  have hns := hV.1.2.2.2.1
  have hh := hV.1.2.2.2.2.2.1
  have hf28 := hts (.fieldLink RL 28 "HotBedsLaw$Bed" "number" "I") (by decide +kernel)
  have hf96 := hts (.fieldLink RL 96 "HotBedsLaw$Sailor" "in" "LHotBedsLaw$Bed;") (by decide +kernel)
  have hf99 := hts (.fieldLink RL 99 "HotBedsLaw$Sailor" "onFloor" "Z") (by decide +kernel)
  have hinX4 : ∀ w ∈ u_ws RX4 TX4 6, w ∈ wsL_act := by decide +kernel
  have hinX5 : ∀ w ∈ u_ws RX5 TX5 13, w ∈ wsL_act := by decide +kernel
  have hKi : va_K D vwCl [(cI, .int)] s := hK.sub [0] rfl
  refine lv_aload hx hb dL_act_731 (lv_at hl 0 rfl) ?_
  rcases zplace ((hV.ksk hk).2.2.2.1) with ⟨e12b_1, b_1, hb_1, e13b_1⟩ | ⟨e12b_1, e13b_1⟩ | ⟨e12b_1, e13b_1⟩
  · refine va_get (D := D) (ci := 5) (v := .ref (bd b_1)) (C := RX5) (T := TX5) (N := 13) hx hb hts hinX5 hown hK hP ((zw_X cI x a b σ τ).length + (3 + nb + k)) (zxr (zjq_S hk)) rfl 7 (by decide) hf96 (fun _ h9 => h9) (congrArg some (zrf_r e13b_1 (by omega))) dL_act_733 ?_
    refine lv_ifnonnull (tgt := 749) hx hb dL_act_736 (by decide) ?_
    refine lv_aload hx hb dL_act_749 (lv_at hl 0 rfl) ?_
    refine va_get (D := D) (ci := 5) (v := .ref (bd b_1)) (C := RX5) (T := TX5) (N := 13) hx hb hts hinX5 hown hK hP ((zw_X cI x a b σ τ).length + (3 + nb + k)) (zxr (zjq_S hk)) rfl 7 (by decide) hf96 (fun _ h9 => h9) (congrArg some (zrf_r e13b_1 (by omega))) dL_act_751 ?_
    refine lv_ifnonnull (tgt := 761) hx hb dL_act_754 (by decide) ?_
    refine lv_aload hx hb dL_act_761 (lv_at hl 0 rfl) ?_
    refine va_get (D := D) (ci := 5) (v := .ref (bd b_1)) (C := RX5) (T := TX5) (N := 13) hx hb hts hinX5 hown hK hP ((zw_X cI x a b σ τ).length + (3 + nb + k)) (zxr (zjq_S hk)) rfl 7 (by decide) hf96 (fun _ h9 => h9) (congrArg some (zrf_r e13b_1 (by omega))) dL_act_763 ?_
    refine va_get (D := D) (ci := 4) (v := .int (nI b_1)) (C := RX4) (T := TX4) (N := 6) hx hb hts hinX4 hown hK hP ((zw_X cI x a b σ τ).length + (3 + b_1)) (zxr (zjq_B hb_1)) rfl 5 (by decide) hf28 (fun _ h9 => h9) rfl dL_act_766 ?_
    refine lv_istore (lv' := [(12, .int (nI b_1)), (7, .ref (sl k)), (6, .int (nI k)), (4, .int (nI ns)), (3, .int (nI nb)), (2, .int v), (1, .ref (u 0)), (0, .ref x)]) hx hb dL_act_769 hl (by decide) rfl (fun ls hl => ?_)
    refine lv_aload hx hb dL_act_771 (lv_at hl 1 rfl) ?_
    have hF := zfree (zxq_D hD) hS hA
    refine zk_V (va_runV (As := []) (rest := []) ⟨hx, hb, hml, hown, hts⟩ (c_X5_up l D cI cB cS u bd sl σ hV hk _) (cwV 0 hts gL_act_X5_up rfl rfl rfl zdX5_up ⟨Nat.le_of_ble_eq_true rfl, Nat.le_of_ble_eq_true rfl⟩) ⟨zbl _, va_recv hK (zxq_P hP) (ci := 5) (q0 := (3 + nb + k)) rfl (zjq_S hk), zpr hK (zxq_P hP) (zxq_D hD)⟩ rfl rfl hl.1 rfl (lv_room (Nat.le_of_ble_eq_true rfl)) dL_act_773 ⟨Nat.le_of_ble_eq_true rfl, Nat.le_of_ble_eq_true rfl⟩) hS hF (fun H locs hkp hP1 hD1 hS => ?_)
    obtain ⟨hP, hD⟩ := zx_J hP hD hkp hF hP1 hD1
    have hP : va_P D vwCl (zw_X cI x a b σ τ ++ zj cB cS u bd sl nb ns (f_getUp σ k)) H := hP
    have hD : va_D A (zw_X cI x a b σ τ ++ zj cB cS u bd sl nb ns (f_getUp σ k)) := hD
    refine lv_aload_n hx hb dL_act_776 rfl (lv_at hl 7 rfl) ?_
    refine lv_iload hx hb dL_act_777 (lv_at hl 2 rfl) ?_
    have hF := zfree (zxd_D hD) hS hA
    refine zk_I (va_runV (As := [.int (nI k)]) (rest := []) ⟨hx, hb, hml, hown, hts⟩ (c_X3_call l D cI x a b σ τ hV.1 hk (by rw [e12b_1]; decide) _) (cwV 1 hts gL_act_X3_call rfl rfl rfl zdX3_call ⟨Nat.le_of_ble_eq_true rfl, Nat.le_of_ble_eq_true rfl⟩) ⟨zbl _, va_recv hKi (zxd_P hP) (ci := 3) (q0 := 0) rfl rfl, zpr hKi (zxd_P hP) (zxd_D hD)⟩ rfl rfl hl.1 rfl (lv_room (Nat.le_of_ble_eq_true rfl)) dL_act_779 ⟨Nat.le_of_ble_eq_true rfl, Nat.le_of_ble_eq_true rfl⟩) hS hF (fun r H locs hw hkp hP1 hD1 hS => ?_)
    obtain ⟨hP, hD⟩ := zx_JL hP hD hkp hF hP1 hD1
    have hw : r = σ 13 k := hw
    subst hw
    have hP : va_P D vwCl (zw_X cI x a b (f_getUp σ k) τ ++ zj cB cS u bd sl nb ns (f_getUp σ k)) H := hP
    have hD : va_D A (zw_X cI x a b (f_getUp σ k) τ ++ zj cB cS u bd sl nb ns (f_getUp σ k)) := hD
    refine lv_iload hx hb dL_act_782 (lv_at hl 0 rfl) ?_
    refine lv_icmp_ne (tgt := 791) hx hb dL_act_784 (by decide) (fun c => absurd (e13b_1) c) (fun _ => ?_)
    refine lv_iconst (v := 1) hx hb dL_act_787 (by decide) ?_
    refine lv_goto (tgt := 792) hx hb dL_act_788 (by decide) ?_
    have hP9 : va_P D vwCl (zw_X cI x a b (f_getUp σ k) τ ++ zj cB cS u bd sl nb ns (f_getUp σ k)) H := by
      exact hP
    have hD9 : va_D A (zw_X cI x a b (f_getUp σ k) τ ++ zj cB cS u bd sl nb ns (f_getUp σ k)) := by
      exact hD
    refine W.widen (k := 2) (n := 23) (Nat.le_of_ble_eq_true rfl) (Nat.le_of_ble_eq_true rfl) ?_
    exact kk (f_getUp σ k, u, bd, sl, nb, ns, h) _ _ _ _ dL_act_792 ⟨rfl, hV.getUp hk, Nat.le_add_right _ _, Nat.le_refl _, mo_getUp _ _⟩ hP9 hD9 hS
  · refine va_get (D := D) (ci := 5) (v := .null) (C := RX5) (T := TX5) (N := 13) hx hb hts hinX5 hown hK hP ((zw_X cI x a b σ τ).length + (3 + nb + k)) (zxr (zjq_S hk)) rfl 7 (by decide) hf96 (fun _ h9 => h9) (congrArg some (zrf_n e13b_1)) dL_act_733 ?_
    refine lv_ifnonnullN hx hb dL_act_736 ?_
    refine lv_aload hx hb dL_act_739 (lv_at hl 0 rfl) ?_
    refine va_get (D := D) (ci := 5) (v := .int 0) (C := RX5) (T := TX5) (N := 13) hx hb hts hinX5 hown hK hP ((zw_X cI x a b σ τ).length + (3 + nb + k)) (zxr (zjq_S hk)) rfl 8 (by decide) hf99 (fun _ h9 => h9) (congrArg (fun z => some (Value.int z)) (zfl_0 e12b_1)) dL_act_741 ?_
    refine lv_if_ne (tgt := 749) hx hb dL_act_744 (by decide) (fun c => absurd (by decide) c) (fun _ => ?_)
    refine lv_iconst (v := 1) hx hb dL_act_747 (by decide) ?_
    have hP9 : va_P D vwCl (zw_X cI x a b (σ) τ ++ zj cB cS u bd sl nb ns (σ)) H := by
      exact hP
    have hD9 : va_D A (zw_X cI x a b (σ) τ ++ zj cB cS u bd sl nb ns (σ)) := by
      exact hD
    refine W.widen (k := 2) (n := 23) (Nat.le_of_ble_eq_true rfl) (Nat.le_of_ble_eq_true rfl) ?_
    exact kk (σ, u, bd, sl, nb, ns, h) _ _ _ _ dL_act_748 ⟨rfl, hV, Nat.le_add_right _ _, Nat.le_refl _, zmo.rf⟩ hP9 hD9 hS
  · refine va_get (D := D) (ci := 5) (v := .null) (C := RX5) (T := TX5) (N := 13) hx hb hts hinX5 hown hK hP ((zw_X cI x a b σ τ).length + (3 + nb + k)) (zxr (zjq_S hk)) rfl 7 (by decide) hf96 (fun _ h9 => h9) (congrArg some (zrf_n e13b_1)) dL_act_733 ?_
    refine lv_ifnonnullN hx hb dL_act_736 ?_
    refine lv_aload hx hb dL_act_739 (lv_at hl 0 rfl) ?_
    refine va_get (D := D) (ci := 5) (v := .int 1) (C := RX5) (T := TX5) (N := 13) hx hb hts hinX5 hown hK hP ((zw_X cI x a b σ τ).length + (3 + nb + k)) (zxr (zjq_S hk)) rfl 8 (by decide) hf99 (fun _ h9 => h9) (congrArg (fun z => some (Value.int z)) (zfl_2 e12b_1)) dL_act_741 ?_
    refine lv_if_ne (tgt := 749) hx hb dL_act_744 (by decide) (fun _ => ?_) (fun c => absurd c (by decide))
    refine lv_aload hx hb dL_act_749 (lv_at hl 0 rfl) ?_
    refine va_get (D := D) (ci := 5) (v := .null) (C := RX5) (T := TX5) (N := 13) hx hb hts hinX5 hown hK hP ((zw_X cI x a b σ τ).length + (3 + nb + k)) (zxr (zjq_S hk)) rfl 7 (by decide) hf96 (fun _ h9 => h9) (congrArg some (zrf_n e13b_1)) dL_act_751 ?_
    refine lv_ifnonnullN hx hb dL_act_754 ?_
    refine lv_iconst (v := (-1)) hx hb dL_act_757 (by decide) ?_
    refine lv_goto (tgt := 769) hx hb dL_act_758 (by decide) ?_
    refine lv_istore (lv' := [(12, .int (-1)), (7, .ref (sl k)), (6, .int (nI k)), (4, .int (nI ns)), (3, .int (nI nb)), (2, .int v), (1, .ref (u 0)), (0, .ref x)]) hx hb dL_act_769 hl (by decide) rfl (fun ls hl => ?_)
    refine lv_aload hx hb dL_act_771 (lv_at hl 1 rfl) ?_
    have hF := zfree (zxq_D hD) hS hA
    refine zk_V (va_runV (As := []) (rest := []) ⟨hx, hb, hml, hown, hts⟩ (c_X5_up l D cI cB cS u bd sl σ hV hk _) (cwV 0 hts gL_act_X5_up rfl rfl rfl zdX5_up ⟨Nat.le_of_ble_eq_true rfl, Nat.le_of_ble_eq_true rfl⟩) ⟨zbl _, va_recv hK (zxq_P hP) (ci := 5) (q0 := (3 + nb + k)) rfl (zjq_S hk), zpr hK (zxq_P hP) (zxq_D hD)⟩ rfl rfl hl.1 rfl (lv_room (Nat.le_of_ble_eq_true rfl)) dL_act_773 ⟨Nat.le_of_ble_eq_true rfl, Nat.le_of_ble_eq_true rfl⟩) hS hF (fun H locs hkp hP1 hD1 hS => ?_)
    obtain ⟨hP, hD⟩ := zx_J hP hD hkp hF hP1 hD1
    have hP : va_P D vwCl (zw_X cI x a b σ τ ++ zj cB cS u bd sl nb ns (f_getUp σ k)) H := hP
    have hD : va_D A (zw_X cI x a b σ τ ++ zj cB cS u bd sl nb ns (f_getUp σ k)) := hD
    refine lv_aload_n hx hb dL_act_776 rfl (lv_at hl 7 rfl) ?_
    refine lv_iload hx hb dL_act_777 (lv_at hl 2 rfl) ?_
    have hF := zfree (zxd_D hD) hS hA
    refine zk_I (va_runV (As := [.int (nI k)]) (rest := []) ⟨hx, hb, hml, hown, hts⟩ (c_X3_call l D cI x a b σ τ hV.1 hk (by rw [e12b_1]; decide) _) (cwV 1 hts gL_act_X3_call rfl rfl rfl zdX3_call ⟨Nat.le_of_ble_eq_true rfl, Nat.le_of_ble_eq_true rfl⟩) ⟨zbl _, va_recv hKi (zxd_P hP) (ci := 3) (q0 := 0) rfl rfl, zpr hKi (zxd_P hP) (zxd_D hD)⟩ rfl rfl hl.1 rfl (lv_room (Nat.le_of_ble_eq_true rfl)) dL_act_779 ⟨Nat.le_of_ble_eq_true rfl, Nat.le_of_ble_eq_true rfl⟩) hS hF (fun r H locs hw hkp hP1 hD1 hS => ?_)
    obtain ⟨hP, hD⟩ := zx_JL hP hD hkp hF hP1 hD1
    have hw : r = σ 13 k := hw
    subst hw
    have hP : va_P D vwCl (zw_X cI x a b (f_getUp σ k) τ ++ zj cB cS u bd sl nb ns (f_getUp σ k)) H := hP
    have hD : va_D A (zw_X cI x a b (f_getUp σ k) τ ++ zj cB cS u bd sl nb ns (f_getUp σ k)) := hD
    refine lv_iload hx hb dL_act_782 (lv_at hl 0 rfl) ?_
    refine lv_icmp_ne (tgt := 791) hx hb dL_act_784 (by decide) (fun c => absurd (e13b_1) c) (fun _ => ?_)
    refine lv_iconst (v := 1) hx hb dL_act_787 (by decide) ?_
    refine lv_goto (tgt := 792) hx hb dL_act_788 (by decide) ?_
    have hP9 : va_P D vwCl (zw_X cI x a b (f_getUp σ k) τ ++ zj cB cS u bd sl nb ns (f_getUp σ k)) H := by
      exact hP
    have hD9 : va_D A (zw_X cI x a b (f_getUp σ k) τ ++ zj cB cS u bd sl nb ns (f_getUp σ k)) := by
      exact hD
    refine W.widen (k := 2) (n := 23) (Nat.le_of_ble_eq_true rfl) (Nat.le_of_ble_eq_true rfl) ?_
    exact kk (f_getUp σ k, u, bd, sl, nb, ns, h) _ _ _ _ dL_act_792 ⟨rfl, hV.getUp hk, Nat.le_add_right _ _, Nat.le_refl _, mo_getUp _ _⟩ hP9 hD9 hS
set_option maxHeartbeats 4000000 in
set_option maxRecDepth 100000 in
theorem a_shift {p : Program} {l : Launch} {e : Env} {s : State} {m : MethodId} {args : Array Value} {below : List Frame} {meth : Method} {c : Code} {Q : State → Prop} {D : va_G} {cI cB cS : ClassId} {x : Nat} {a b u bd sl : Nat → Nat} {A : Nat → Prop} {σ τ : zS} {H : Heap} {locs : List Loc} {ls : Array Slot} (C : zAa p s m args meth c D cI cB cS) (hA : ∀ q : Nat, s.heap.size ≤ q → A q) {nb ns h k : Nat} {v : Int32} (hV : zG σ nb ns h) (hk : k < ns) (hP : va_P D vwCl (zw_X cI x a b σ τ ++ zj cB cS u bd sl nb ns σ) H) (hD : va_D A (zw_X cI x a b σ τ ++ zj cB cS u bd sl nb ns σ)) (hS : va_S A s.heap H locs) (hl : lv_has ls 16 [(7, .ref (sl k)), (6, .int (nI k)), (4, .int (nI ns)), (3, .int (nI nb)), (2, .int v), (1, .ref (u 0)), (0, .ref x)]) (kk : zFin p l e s m args below meth c Q D cI cB cS x a b τ A σ u nb ns h)  : W p l e zRa s m args below meth c H locs 0 0 Q (F0 m 793 ls []) := by
  obtain ⟨hx, hb, hml, hown, hts, hK, hL⟩ := C
  have hnb := hV.1.2.1
  have hns := hV.1.2.2.2.1
  have hh := hV.1.2.2.2.2.2.1
  have hf45 := hts (.fieldLink RL 45 "HotBedsLaw$Sailor" "watch" "I") (by decide +kernel)
  have hf96 := hts (.fieldLink RL 96 "HotBedsLaw$Sailor" "in" "LHotBedsLaw$Bed;") (by decide +kernel)
  have hf99 := hts (.fieldLink RL 99 "HotBedsLaw$Sailor" "onFloor" "Z") (by decide +kernel)
  have hinX5 : ∀ w ∈ u_ws RX5 TX5 13, w ∈ wsL_act := by decide +kernel
  have hKi : va_K D vwCl [(cI, .int)] s := hK.sub [0] rfl
  have hPn : ∀ H : Heap, va_P D vwCl [] H := fun _ => zP0
  refine lv_aload hx hb dL_act_793 (lv_at hl 0 rfl) ?_
  rcases zplace ((hV.ksk hk).2.2.2.1) with ⟨e12b_1, b_1, hb_1, e13b_1⟩ | ⟨e12b_1, e13b_1⟩ | ⟨e12b_1, e13b_1⟩
  · refine va_get (D := D) (ci := 5) (v := .ref (bd b_1)) (C := RX5) (T := TX5) (N := 13) hx hb hts hinX5 hown hK hP ((zw_X cI x a b σ τ).length + (3 + nb + k)) (zxr (zjq_S hk)) rfl 7 (by decide) hf96 (fun _ h9 => h9) (congrArg some (zrf_r e13b_1 (by omega))) dL_act_795 ?_
    refine lv_ifnonnull (tgt := 809) hx hb dL_act_798 (by decide) ?_
    refine lv_iconst (v := 1) hx hb dL_act_809 (by decide) ?_
    have hP9 : va_P D vwCl (zw_X cI x a b (σ) τ ++ zj cB cS u bd sl nb ns (σ)) H := by
      exact hP
    have hD9 : va_D A (zw_X cI x a b (σ) τ ++ zj cB cS u bd sl nb ns (σ)) := by
      exact hD
    refine W.widen (k := 2) (n := 23) (Nat.le_of_ble_eq_true rfl) (Nat.le_of_ble_eq_true rfl) ?_
    exact kk (σ, u, bd, sl, nb, ns, h) _ _ _ _ dL_act_810 ⟨rfl, hV, Nat.le_add_right _ _, Nat.le_refl _, zmo.rf⟩ hP9 hD9 hS
  · refine va_get (D := D) (ci := 5) (v := .null) (C := RX5) (T := TX5) (N := 13) hx hb hts hinX5 hown hK hP ((zw_X cI x a b σ τ).length + (3 + nb + k)) (zxr (zjq_S hk)) rfl 7 (by decide) hf96 (fun _ h9 => h9) (congrArg some (zrf_n e13b_1)) dL_act_795 ?_
    refine lv_ifnonnullN hx hb dL_act_798 ?_
    refine lv_aload hx hb dL_act_801 (lv_at hl 0 rfl) ?_
    refine va_get (D := D) (ci := 5) (v := .int 0) (C := RX5) (T := TX5) (N := 13) hx hb hts hinX5 hown hK hP ((zw_X cI x a b σ τ).length + (3 + nb + k)) (zxr (zjq_S hk)) rfl 8 (by decide) hf99 (fun _ h9 => h9) (congrArg (fun z => some (Value.int z)) (zfl_0 e12b_1)) dL_act_803 ?_
    refine lv_if_eq (tgt := 811) hx hb dL_act_806 (by decide) (fun _ => ?_) (fun c => absurd (by decide) c)
    refine lv_aload hx hb dL_act_811 (lv_at hl 0 rfl) ?_
    refine va_get (D := D) (ci := 5) (v := .int (σ 6 k)) (C := RX5) (T := TX5) (N := 13) hx hb hts hinX5 hown hK hP ((zw_X cI x a b σ τ).length + (3 + nb + k)) (zxr (zjq_S hk)) rfl 1 (by decide) hf45 (fun _ h9 => h9) rfl dL_act_813 ?_
    refine lv_istore (lv' := [(13, .int (σ 6 k)), (7, .ref (sl k)), (6, .int (nI k)), (4, .int (nI ns)), (3, .int (nI nb)), (2, .int v), (1, .ref (u 0)), (0, .ref x)]) hx hb dL_act_816 hl (by decide) rfl (fun ls hl => ?_)
    refine lv_aload hx hb dL_act_818 (lv_at hl 1 rfl) ?_
    refine lv_iload_n hx hb dL_act_820 rfl (lv_at hl 5 rfl) ?_
    refine lv_iconst (v := 3) hx hb dL_act_821 (by decide) ?_
    refine lv_ishr hx hb dL_act_822 ?_
    refine lv_iconst (v := 3) hx hb dL_act_823 (by decide) ?_
    refine zk_R (D := D) (va_runS (As := [.int (v >>> (3 &&& 31)), .int (nI 3)]) (rest := [.ref (sl k)]) ⟨hx, hb, hml, hown, hts⟩ (c_L_below l D (zT3 cI cB cS) (v >>> (3 &&& 31)) (N := 3) (by decide) (by decide) _) (va_cwS 2 hts gL_act_L_below rfl rfl rfl zdL_below.2 ⟨Nat.le_of_ble_eq_true rfl, Nat.le_of_ble_eq_true rfl⟩) ⟨zbl _, zpr hK zP0 (A := fun _ => True) zD0⟩ rfl rfl hl.1 rfl (lv_room (Nat.le_of_ble_eq_true rfl)) dL_act_824 ⟨Nat.le_of_ble_eq_true rfl, Nat.le_of_ble_eq_true rfl⟩) hS (fun r H locs hw hkp hS => ?_)
    have hP := hkp _ hP
    have hw : r = nI (q_bel (v >>> (3 &&& 31)) 3) := hw
    subst hw
    have hlt_q_3 : q_bel (v >>> (3 &&& 31)) 3 < 3 := q_bel_lt _ (by decide)
    refine va_put (D := D) (ci := 5) (v := .int (nI (q_bel (v >>> (3 &&& 31)) 3))) (ty := .int) (C := RX5) (T := TX5) (N := 13) hx hb hts hinX5 tyX5 tyX5_ok nmX5 hown hK hP hD hS ((zw_X cI x a b σ τ).length + (3 + nb + k)) (zxr (zjq_S hk)) rfl 1 (by decide) hf45 (fun _ h9 => h9)  rfl (by decide +kernel) rfl rfl (Nat.le_of_ble_eq_true rfl) dL_act_827 (fun H locs hP hD hS => ?_)
    have hP : va_P D vwCl (zw_X cI x a b σ τ ++ zj cB cS u bd sl nb ns (zs σ 6 k (nI (q_bel (v >>> (3 &&& 31)) 3)))) H := by rw [← zjw6 hk _, ← zxs]; exact hP
    have hD : va_D A (zw_X cI x a b σ τ ++ zj cB cS u bd sl nb ns (zs σ 6 k (nI (q_bel (v >>> (3 &&& 31)) 3)))) := by rw [← zjw6 hk _, ← zxs]; exact hD
    refine lv_aload_n hx hb dL_act_830 rfl (lv_at hl 7 rfl) ?_
    refine lv_iload hx hb dL_act_831 (lv_at hl 2 rfl) ?_
    refine lv_aload hx hb dL_act_833 (lv_at hl 1 rfl) ?_
    refine va_get (D := D) (ci := 5) (v := .int (nI (q_bel (v >>> (3 &&& 31)) 3))) (C := RX5) (T := TX5) (N := 13) hx hb hts hinX5 hown hK hP ((zw_X cI x a b σ τ).length + (3 + nb + k)) (zxr (zjq_S hk)) rfl 1 (by decide) hf45 (fun _ h9 => h9) (congrArg (fun z => some (Value.int z)) (by simp [zs_at])) dL_act_835 ?_
    have hF := zfree (zxd_D hD) hS hA
    refine zk_I (va_runV (As := [.int (nI k), .int (nI (q_bel (v >>> (3 &&& 31)) 3))]) (rest := []) ⟨hx, hb, hml, hown, hts⟩ (c_X3_shift l D cI x a b σ τ hV.1 hk (nI (q_bel (v >>> (3 &&& 31)) 3)) (nI_pos (by have := q_bel_lt (v >>> (3 &&& 31)) (N := 3) (by decide); omega)) (nI_lt (b := 3) (q_bel_lt (v >>> (3 &&& 31)) (N := 3) (by decide)) (by decide)) e12b_1 _) (cwV 2 hts gL_act_X3_shift rfl rfl rfl zdX3_shift ⟨Nat.le_of_ble_eq_true rfl, Nat.le_of_ble_eq_true rfl⟩) ⟨zbl _, va_recv hKi (zxd_P hP) (ci := 3) (q0 := 0) rfl rfl, zpr hKi (zxd_P hP) (zxd_D hD)⟩ rfl rfl hl.1 rfl (lv_room (Nat.le_of_ble_eq_true rfl)) dL_act_838 ⟨Nat.le_of_ble_eq_true rfl, Nat.le_of_ble_eq_true rfl⟩) hS hF (fun r H locs hw hkp hP1 hD1 hS => ?_)
    obtain ⟨hP, hD⟩ := zx_JL hP hD hkp hF hP1 hD1
    have hw : r = σ 6 k := hw
    subst hw
    have hP : va_P D vwCl (zw_X cI x a b (zs σ 6 k (nI (q_bel (v >>> (3 &&& 31)) 3))) τ ++ zj cB cS u bd sl nb ns (zs σ 6 k (nI (q_bel (v >>> (3 &&& 31)) 3)))) H := hP
    have hD : va_D A (zw_X cI x a b (zs σ 6 k (nI (q_bel (v >>> (3 &&& 31)) 3))) τ ++ zj cB cS u bd sl nb ns (zs σ 6 k (nI (q_bel (v >>> (3 &&& 31)) 3)))) := hD
    refine lv_iload hx hb dL_act_841 (lv_at hl 0 rfl) ?_
    refine lv_icmp_ne (tgt := 850) hx hb dL_act_843 (by decide) (fun c => absurd (rfl) c) (fun _ => ?_)
    refine lv_iconst (v := 1) hx hb dL_act_846 (by decide) ?_
    refine lv_goto (tgt := 851) hx hb dL_act_847 (by decide) ?_
    have hP9 : va_P D vwCl (zw_X cI x a b (zs σ 6 k (nI (q_bel (v >>> (3 &&& 31)) 3))) τ ++ zj cB cS u bd sl nb ns (zs σ 6 k (nI (q_bel (v >>> (3 &&& 31)) 3)))) H := by
      exact hP
    have hD9 : va_D A (zw_X cI x a b (zs σ 6 k (nI (q_bel (v >>> (3 &&& 31)) 3))) τ ++ zj cB cS u bd sl nb ns (zs σ 6 k (nI (q_bel (v >>> (3 &&& 31)) 3)))) := by
      exact hD
    refine W.widen (k := 2) (n := 23) (Nat.le_of_ble_eq_true rfl) (Nat.le_of_ble_eq_true rfl) ?_
    exact kk (zs σ 6 k (nI (q_bel (v >>> (3 &&& 31)) 3)), u, bd, sl, nb, ns, h) _ _ _ _ dL_act_851 ⟨rfl, hV.wat hk (q_bel_lt (v >>> (3 &&& 31)) (N := 3) (by decide)), Nat.le_add_right _ _, Nat.le_refl _, zmo_other (by decide)⟩ hP9 hD9 hS
  · refine va_get (D := D) (ci := 5) (v := .null) (C := RX5) (T := TX5) (N := 13) hx hb hts hinX5 hown hK hP ((zw_X cI x a b σ τ).length + (3 + nb + k)) (zxr (zjq_S hk)) rfl 7 (by decide) hf96 (fun _ h9 => h9) (congrArg some (zrf_n e13b_1)) dL_act_795 ?_
    refine lv_ifnonnullN hx hb dL_act_798 ?_
    refine lv_aload hx hb dL_act_801 (lv_at hl 0 rfl) ?_
    refine va_get (D := D) (ci := 5) (v := .int 1) (C := RX5) (T := TX5) (N := 13) hx hb hts hinX5 hown hK hP ((zw_X cI x a b σ τ).length + (3 + nb + k)) (zxr (zjq_S hk)) rfl 8 (by decide) hf99 (fun _ h9 => h9) (congrArg (fun z => some (Value.int z)) (zfl_2 e12b_1)) dL_act_803 ?_
    refine lv_if_eq (tgt := 811) hx hb dL_act_806 (by decide) (fun c => absurd c (by decide)) (fun _ => ?_)
    refine lv_iconst (v := 1) hx hb dL_act_809 (by decide) ?_
    have hP9 : va_P D vwCl (zw_X cI x a b (σ) τ ++ zj cB cS u bd sl nb ns (σ)) H := by
      exact hP
    have hD9 : va_D A (zw_X cI x a b (σ) τ ++ zj cB cS u bd sl nb ns (σ)) := by
      exact hD
    refine W.widen (k := 2) (n := 23) (Nat.le_of_ble_eq_true rfl) (Nat.le_of_ble_eq_true rfl) ?_
    exact kk (σ, u, bd, sl, nb, ns, h) _ _ _ _ dL_act_810 ⟨rfl, hV, Nat.le_add_right _ _, Nat.le_refl _, zmo.rf⟩ hP9 hD9 hS
set_option maxHeartbeats 4000000 in
set_option maxRecDepth 100000 in
theorem a_keep {p : Program} {l : Launch} {e : Env} {s : State} {m : MethodId} {args : Array Value} {below : List Frame} {meth : Method} {c : Code} {Q : State → Prop} {D : va_G} {cI cB cS : ClassId} {x : Nat} {a b u bd sl : Nat → Nat} {A : Nat → Prop} {σ τ : zS} {H : Heap} {locs : List Loc} {ls : Array Slot} (C : zAa p s m args meth c D cI cB cS) (hA : ∀ q : Nat, s.heap.size ≤ q → A q) {nb ns h k : Nat} {v : Int32} (hV : zG σ nb ns h) (hk : k < ns) (hP : va_P D vwCl (zw_X cI x a b σ τ ++ zj cB cS u bd sl nb ns σ) H) (hD : va_D A (zw_X cI x a b σ τ ++ zj cB cS u bd sl nb ns σ)) (hS : va_S A s.heap H locs) (hl : lv_has ls 16 [(7, .ref (sl k)), (6, .int (nI k)), (4, .int (nI ns)), (3, .int (nI nb)), (2, .int v), (1, .ref (u 0)), (0, .ref x)]) (kk : zFin p l e s m args below meth c Q D cI cB cS x a b τ A σ u nb ns h)  : W p l e zRa s m args below meth c H locs 0 0 Q (F0 m 412 ls []) := by
  obtain ⟨hx, hb, hml, hown, hts, hK, hL⟩ := C
  have hnb := hV.1.2.1
  have hns := hV.1.2.2.2.1
  have hh := hV.1.2.2.2.2.2.1
  have hf28 := hts (.fieldLink RL 28 "HotBedsLaw$Bed" "number" "I") (by decide +kernel)
  have hf61 := hts (.fieldLink RL 61 "HotBedsLaw$Sailor" "kept" "LHotBedsLaw$Bed;") (by decide +kernel)
  have hf9 := hts (.fieldLink RL 9 "HotBedsLaw$Sim" "beds" "[LHotBedsLaw$Bed;") (by decide +kernel)
  have hinX4 : ∀ w ∈ u_ws RX4 TX4 6, w ∈ wsL_act := by decide +kernel
  have hinX5 : ∀ w ∈ u_ws RX5 TX5 13, w ∈ wsL_act := by decide +kernel
  have hinX6 : ∀ w ∈ u_ws RX6 TX6 5, w ∈ wsL_act := by decide +kernel
  have hKi : va_K D vwCl [(cI, .int)] s := hK.sub [0] rfl
  have hPn : ∀ H : Heap, va_P D vwCl [] H := fun _ => zP0
  refine lv_aload hx hb dL_act_412 (lv_at hl 0 rfl) ?_
  rcases (hV.ksk hk).2.2.1 with e11b_1 | ⟨b_1, hb_1, e11b_1⟩
  · refine va_get (D := D) (ci := 5) (v := .null) (C := RX5) (T := TX5) (N := 13) hx hb hts hinX5 hown hK hP ((zw_X cI x a b σ τ).length + (3 + nb + k)) (zxr (zjq_S hk)) rfl 6 (by decide) hf61 (fun _ h9 => h9) (congrArg some (zrf_n e11b_1)) dL_act_414 ?_
    refine lv_ifnonnullN hx hb dL_act_417 ?_
    refine lv_iconst (v := (-1)) hx hb dL_act_420 (by decide) ?_
    refine lv_goto (tgt := 432) hx hb dL_act_421 (by decide) ?_
    refine lv_istore (lv' := [(8, .int (-1)), (7, .ref (sl k)), (6, .int (nI k)), (4, .int (nI ns)), (3, .int (nI nb)), (2, .int v), (1, .ref (u 0)), (0, .ref x)]) hx hb dL_act_432 hl (by decide) rfl (fun ls hl => ?_)
    refine lv_iload_n hx hb dL_act_434 rfl (lv_at hl 4 rfl) ?_
    refine lv_if_eq (tgt := 446) hx hb dL_act_435 (by decide) (fun c_2 => ?_) (fun c_2 => ?_)
    · refine lv_iconst (v := (-1)) hx hb dL_act_446 (by decide) ?_
      refine lv_goto (tgt := 457) hx hb dL_act_447 (by decide) ?_
      refine lv_istore (lv' := [(9, .int (-1)), (8, .int (-1)), (7, .ref (sl k)), (6, .int (nI k)), (4, .int (nI ns)), (3, .int (nI nb)), (2, .int v), (1, .ref (u 0)), (0, .ref x)]) hx hb dL_act_457 hl (by decide) rfl (fun ls hl => ?_)
      refine lv_aload hx hb dL_act_459 (lv_at hl 2 rfl) ?_
      refine lv_iload hx hb dL_act_461 (lv_at hl 0 rfl) ?_
      refine lv_if_ge (tgt := 470) hx hb dL_act_463 (by decide) (fun c => absurd c (by decide)) (fun _ => ?_)
      refine lv_null hx hb dL_act_466 ?_
      refine lv_goto (tgt := 477) hx hb dL_act_467 (by decide) ?_
      refine va_put (D := D) (ci := 5) (v := .null) (ty := .object "HotBedsLaw$Bed") (C := RX5) (T := TX5) (N := 13) hx hb hts hinX5 tyX5 tyX5_ok nmX5 hown hK hP hD hS ((zw_X cI x a b σ τ).length + (3 + nb + k)) (zxr (zjq_S hk)) rfl 6 (by decide) hf61 (fun _ h9 => h9)  rfl (by decide +kernel) rfl rfl (Nat.le_of_ble_eq_true rfl) dL_act_477 (fun H locs hP hD hS => ?_)
      have hP : va_P D vwCl (zw_X cI x a b σ τ ++ zj cB cS u bd sl nb ns (zs σ 11 k (-1))) H := by rw [← zjw11n hk, ← zxs]; exact hP
      have hD : va_D A (zw_X cI x a b σ τ ++ zj cB cS u bd sl nb ns (zs σ 11 k (-1))) := by rw [← zjw11n hk, ← zxs]; exact hD
      refine lv_aload_n hx hb dL_act_480 rfl (lv_at hl 8 rfl) ?_
      refine lv_iload hx hb dL_act_481 (lv_at hl 3 rfl) ?_
      refine lv_iload hx hb dL_act_483 (lv_at hl 0 rfl) ?_
      have hF := zfree (zxd_D hD) hS hA
      refine zk_I (va_runV (As := [.int (nI k), .int (-1)]) (rest := []) ⟨hx, hb, hml, hown, hts⟩ (c_X3_keep l D cI x a b σ τ hV.1 hk (-1) (Or.inl rfl) _) (cwV 2 hts gL_act_X3_keep rfl rfl rfl zdX3_keep ⟨Nat.le_of_ble_eq_true rfl, Nat.le_of_ble_eq_true rfl⟩) ⟨zbl _, va_recv hKi (zxd_P hP) (ci := 3) (q0 := 0) rfl rfl, zpr hKi (zxd_P hP) (zxd_D hD)⟩ rfl rfl hl.1 rfl (lv_room (Nat.le_of_ble_eq_true rfl)) dL_act_485 ⟨Nat.le_of_ble_eq_true rfl, Nat.le_of_ble_eq_true rfl⟩) hS hF (fun r H locs hw hkp hP1 hD1 hS => ?_)
      obtain ⟨hP, hD⟩ := zx_JL hP hD hkp hF hP1 hD1
      have hw : r = σ 11 k := hw
      subst hw
      have hP : va_P D vwCl (zw_X cI x a b (zs σ 11 k (-1)) τ ++ zj cB cS u bd sl nb ns (zs σ 11 k (-1))) H := hP
      have hD : va_D A (zw_X cI x a b (zs σ 11 k (-1)) τ ++ zj cB cS u bd sl nb ns (zs σ 11 k (-1))) := hD
      refine lv_iload hx hb dL_act_488 (lv_at hl 1 rfl) ?_
      refine lv_icmp_ne (tgt := 497) hx hb dL_act_490 (by decide) (fun c => absurd (e11b_1) c) (fun _ => ?_)
      refine lv_iconst (v := 1) hx hb dL_act_493 (by decide) ?_
      refine lv_goto (tgt := 498) hx hb dL_act_494 (by decide) ?_
      have hP9 : va_P D vwCl (zw_X cI x a b (zs σ 11 k (-1)) τ ++ zj cB cS u bd sl nb ns (zs σ 11 k (-1))) H := by
        exact hP
      have hD9 : va_D A (zw_X cI x a b (zs σ 11 k (-1)) τ ++ zj cB cS u bd sl nb ns (zs σ 11 k (-1))) := by
        exact hD
      refine W.widen (k := 2) (n := 23) (Nat.le_of_ble_eq_true rfl) (Nat.le_of_ble_eq_true rfl) ?_
      exact kk (zs σ 11 k (-1), u, bd, sl, nb, ns, h) _ _ _ _ dL_act_498 ⟨rfl, hV.kp hk (Or.inl rfl), Nat.le_add_right _ _, Nat.le_refl _, zmo_other (by decide)⟩ hP9 hD9 hS
    · have hnb0 : 0 < nb := Nat.pos_of_ne_zero (fun z => c_2 (by rw [z]; rfl))
      refine lv_iload_n hx hb dL_act_438 rfl (lv_at hl 5 rfl) ?_
      refine lv_iconst (v := 4) hx hb dL_act_439 (by decide) ?_
      refine zk_R (D := D) (va_runS (As := [.int v, .int (nI 4)]) (rest := []) ⟨hx, hb, hml, hown, hts⟩ (c_L_below l D (zT3 cI cB cS) v (N := 4) (by decide) (by decide) _) (va_cwS 2 hts gL_act_L_below rfl rfl rfl zdL_below.2 ⟨Nat.le_of_ble_eq_true rfl, Nat.le_of_ble_eq_true rfl⟩) ⟨zbl _, zpr hK zP0 (A := fun _ => True) zD0⟩ rfl rfl hl.1 rfl (lv_room (Nat.le_of_ble_eq_true rfl)) dL_act_440 ⟨Nat.le_of_ble_eq_true rfl, Nat.le_of_ble_eq_true rfl⟩) hS (fun r H locs hw hkp hS => ?_)
      have hP := hkp _ hP
      have hw : r = nI (q_bel v 4) := hw
      subst hw
      have hlt_q_5 : q_bel v 4 < 4 := q_bel_lt _ (by decide)
      refine lv_if_ne (tgt := 450) hx hb dL_act_443 (by decide) (fun c_6 => ?_) (fun c_6 => ?_)
      · refine lv_iload_n hx hb dL_act_450 rfl (lv_at hl 5 rfl) ?_
        refine lv_iconst (v := 3) hx hb dL_act_451 (by decide) ?_
        refine lv_ishr hx hb dL_act_452 ?_
        refine lv_iload_n hx hb dL_act_453 rfl (lv_at hl 4 rfl) ?_
        refine zk_R (D := D) (va_runS (As := [.int (v >>> (3 &&& 31)), .int (nI nb)]) (rest := []) ⟨hx, hb, hml, hown, hts⟩ (c_L_below l D (zT3 cI cB cS) (v >>> (3 &&& 31)) (N := nb) (by omega) (by omega) _) (va_cwS 2 hts gL_act_L_below rfl rfl rfl zdL_below.2 ⟨Nat.le_of_ble_eq_true rfl, Nat.le_of_ble_eq_true rfl⟩) ⟨zbl _, zpr hK zP0 (A := fun _ => True) zD0⟩ rfl rfl hl.1 rfl (lv_room (Nat.le_of_ble_eq_true rfl)) dL_act_454 ⟨Nat.le_of_ble_eq_true rfl, Nat.le_of_ble_eq_true rfl⟩) hS (fun r H locs hw hkp hS => ?_)
        have hP := hkp _ hP
        have hw : r = nI (q_bel (v >>> (3 &&& 31)) nb) := hw
        subst hw
        have hlt_q_7 : q_bel (v >>> (3 &&& 31)) nb < nb := q_bel_lt _ (by omega)
        generalize q_bel (v >>> (3 &&& 31)) nb = j1 at hlt_q_7 ⊢
        refine lv_istore (lv' := [(9, .int (nI j1)), (8, .int (-1)), (7, .ref (sl k)), (6, .int (nI k)), (4, .int (nI ns)), (3, .int (nI nb)), (2, .int v), (1, .ref (u 0)), (0, .ref x)]) hx hb dL_act_457 hl (by decide) rfl (fun ls hl => ?_)
        refine lv_aload hx hb dL_act_459 (lv_at hl 2 rfl) ?_
        refine lv_iload hx hb dL_act_461 (lv_at hl 0 rfl) ?_
        refine lv_if_ge (tgt := 470) hx hb dL_act_463 (by decide) (fun _ => ?_) (fun c => absurd (nI_pos' (by omega)) c)
        refine lv_aload_n hx hb dL_act_470 rfl (lv_at hl 7 rfl) ?_
        refine va_get (D := D) (ci := 6) (v := .ref (u 1)) (C := RX6) (T := TX6) (N := 5) hx hb hts hinX6 hown hK hP ((zw_X cI x a b σ τ).length + 0) (zxr (i := 0) rfl) rfl 3 (by decide) hf9 (fun _ h9 => h9) rfl dL_act_471 ?_
        refine lv_iload hx hb dL_act_474 (lv_at hl 0 rfl) ?_
        refine zk_ldq hx hb hK hP ((zw_X cI x a b σ τ).length + 1) 1 (zxr (i := 1) rfl) rfl (k := j1) hlt_q_7 (by omega) (v := bd j1) rfl dL_act_476 ?_
        refine va_put (D := D) (ci := 5) (v := .ref (bd j1)) (ty := .object "HotBedsLaw$Bed") (C := RX5) (T := TX5) (N := 13) hx hb hts hinX5 tyX5 tyX5_ok nmX5 hown hK hP hD hS ((zw_X cI x a b σ τ).length + (3 + nb + k)) (zxr (zjq_S hk)) rfl 6 (by decide) hf61 (fun _ h9 => h9)  rfl (by decide +kernel) rfl rfl (Nat.le_of_ble_eq_true rfl) dL_act_477 (fun H locs hP hD hS => ?_)
        have hP : va_P D vwCl (zw_X cI x a b σ τ ++ zj cB cS u bd sl nb ns (zs σ 11 k (nI j1))) H := by rw [← zjw11r hk (j := j1) (by omega), ← zxs]; exact hP
        have hD : va_D A (zw_X cI x a b σ τ ++ zj cB cS u bd sl nb ns (zs σ 11 k (nI j1))) := by rw [← zjw11r hk (j := j1) (by omega), ← zxs]; exact hD
        refine lv_aload_n hx hb dL_act_480 rfl (lv_at hl 8 rfl) ?_
        refine lv_iload hx hb dL_act_481 (lv_at hl 3 rfl) ?_
        refine lv_iload hx hb dL_act_483 (lv_at hl 0 rfl) ?_
        have hF := zfree (zxd_D hD) hS hA
        refine zk_I (va_runV (As := [.int (nI k), .int (nI j1)]) (rest := []) ⟨hx, hb, hml, hown, hts⟩ (c_X3_keep l D cI x a b σ τ hV.1 hk (nI j1) (Or.inr ⟨j1, hlt_q_7, rfl⟩) _) (cwV 2 hts gL_act_X3_keep rfl rfl rfl zdX3_keep ⟨Nat.le_of_ble_eq_true rfl, Nat.le_of_ble_eq_true rfl⟩) ⟨zbl _, va_recv hKi (zxd_P hP) (ci := 3) (q0 := 0) rfl rfl, zpr hKi (zxd_P hP) (zxd_D hD)⟩ rfl rfl hl.1 rfl (lv_room (Nat.le_of_ble_eq_true rfl)) dL_act_485 ⟨Nat.le_of_ble_eq_true rfl, Nat.le_of_ble_eq_true rfl⟩) hS hF (fun r H locs hw hkp hP1 hD1 hS => ?_)
        obtain ⟨hP, hD⟩ := zx_JL hP hD hkp hF hP1 hD1
        have hw : r = σ 11 k := hw
        subst hw
        have hP : va_P D vwCl (zw_X cI x a b (zs σ 11 k (nI j1)) τ ++ zj cB cS u bd sl nb ns (zs σ 11 k (nI j1))) H := hP
        have hD : va_D A (zw_X cI x a b (zs σ 11 k (nI j1)) τ ++ zj cB cS u bd sl nb ns (zs σ 11 k (nI j1))) := hD
        refine lv_iload hx hb dL_act_488 (lv_at hl 1 rfl) ?_
        refine lv_icmp_ne (tgt := 497) hx hb dL_act_490 (by decide) (fun c => absurd (e11b_1) c) (fun _ => ?_)
        refine lv_iconst (v := 1) hx hb dL_act_493 (by decide) ?_
        refine lv_goto (tgt := 498) hx hb dL_act_494 (by decide) ?_
        have hP9 : va_P D vwCl (zw_X cI x a b (zs σ 11 k (nI j1)) τ ++ zj cB cS u bd sl nb ns (zs σ 11 k (nI j1))) H := by
          exact hP
        have hD9 : va_D A (zw_X cI x a b (zs σ 11 k (nI j1)) τ ++ zj cB cS u bd sl nb ns (zs σ 11 k (nI j1))) := by
          exact hD
        refine W.widen (k := 2) (n := 23) (Nat.le_of_ble_eq_true rfl) (Nat.le_of_ble_eq_true rfl) ?_
        exact kk (zs σ 11 k (nI j1), u, bd, sl, nb, ns, h) _ _ _ _ dL_act_498 ⟨rfl, hV.kp hk (Or.inr ⟨j1, hlt_q_7, rfl⟩), Nat.le_add_right _ _, Nat.le_refl _, zmo_other (by decide)⟩ hP9 hD9 hS
      · refine lv_iconst (v := (-1)) hx hb dL_act_446 (by decide) ?_
        refine lv_goto (tgt := 457) hx hb dL_act_447 (by decide) ?_
        refine lv_istore (lv' := [(9, .int (-1)), (8, .int (-1)), (7, .ref (sl k)), (6, .int (nI k)), (4, .int (nI ns)), (3, .int (nI nb)), (2, .int v), (1, .ref (u 0)), (0, .ref x)]) hx hb dL_act_457 hl (by decide) rfl (fun ls hl => ?_)
        refine lv_aload hx hb dL_act_459 (lv_at hl 2 rfl) ?_
        refine lv_iload hx hb dL_act_461 (lv_at hl 0 rfl) ?_
        refine lv_if_ge (tgt := 470) hx hb dL_act_463 (by decide) (fun c => absurd c (by decide)) (fun _ => ?_)
        refine lv_null hx hb dL_act_466 ?_
        refine lv_goto (tgt := 477) hx hb dL_act_467 (by decide) ?_
        refine va_put (D := D) (ci := 5) (v := .null) (ty := .object "HotBedsLaw$Bed") (C := RX5) (T := TX5) (N := 13) hx hb hts hinX5 tyX5 tyX5_ok nmX5 hown hK hP hD hS ((zw_X cI x a b σ τ).length + (3 + nb + k)) (zxr (zjq_S hk)) rfl 6 (by decide) hf61 (fun _ h9 => h9)  rfl (by decide +kernel) rfl rfl (Nat.le_of_ble_eq_true rfl) dL_act_477 (fun H locs hP hD hS => ?_)
        have hP : va_P D vwCl (zw_X cI x a b σ τ ++ zj cB cS u bd sl nb ns (zs σ 11 k (-1))) H := by rw [← zjw11n hk, ← zxs]; exact hP
        have hD : va_D A (zw_X cI x a b σ τ ++ zj cB cS u bd sl nb ns (zs σ 11 k (-1))) := by rw [← zjw11n hk, ← zxs]; exact hD
        refine lv_aload_n hx hb dL_act_480 rfl (lv_at hl 8 rfl) ?_
        refine lv_iload hx hb dL_act_481 (lv_at hl 3 rfl) ?_
        refine lv_iload hx hb dL_act_483 (lv_at hl 0 rfl) ?_
        have hF := zfree (zxd_D hD) hS hA
        refine zk_I (va_runV (As := [.int (nI k), .int (-1)]) (rest := []) ⟨hx, hb, hml, hown, hts⟩ (c_X3_keep l D cI x a b σ τ hV.1 hk (-1) (Or.inl rfl) _) (cwV 2 hts gL_act_X3_keep rfl rfl rfl zdX3_keep ⟨Nat.le_of_ble_eq_true rfl, Nat.le_of_ble_eq_true rfl⟩) ⟨zbl _, va_recv hKi (zxd_P hP) (ci := 3) (q0 := 0) rfl rfl, zpr hKi (zxd_P hP) (zxd_D hD)⟩ rfl rfl hl.1 rfl (lv_room (Nat.le_of_ble_eq_true rfl)) dL_act_485 ⟨Nat.le_of_ble_eq_true rfl, Nat.le_of_ble_eq_true rfl⟩) hS hF (fun r H locs hw hkp hP1 hD1 hS => ?_)
        obtain ⟨hP, hD⟩ := zx_JL hP hD hkp hF hP1 hD1
        have hw : r = σ 11 k := hw
        subst hw
        have hP : va_P D vwCl (zw_X cI x a b (zs σ 11 k (-1)) τ ++ zj cB cS u bd sl nb ns (zs σ 11 k (-1))) H := hP
        have hD : va_D A (zw_X cI x a b (zs σ 11 k (-1)) τ ++ zj cB cS u bd sl nb ns (zs σ 11 k (-1))) := hD
        refine lv_iload hx hb dL_act_488 (lv_at hl 1 rfl) ?_
        refine lv_icmp_ne (tgt := 497) hx hb dL_act_490 (by decide) (fun c => absurd (e11b_1) c) (fun _ => ?_)
        refine lv_iconst (v := 1) hx hb dL_act_493 (by decide) ?_
        refine lv_goto (tgt := 498) hx hb dL_act_494 (by decide) ?_
        have hP9 : va_P D vwCl (zw_X cI x a b (zs σ 11 k (-1)) τ ++ zj cB cS u bd sl nb ns (zs σ 11 k (-1))) H := by
          exact hP
        have hD9 : va_D A (zw_X cI x a b (zs σ 11 k (-1)) τ ++ zj cB cS u bd sl nb ns (zs σ 11 k (-1))) := by
          exact hD
        refine W.widen (k := 2) (n := 23) (Nat.le_of_ble_eq_true rfl) (Nat.le_of_ble_eq_true rfl) ?_
        exact kk (zs σ 11 k (-1), u, bd, sl, nb, ns, h) _ _ _ _ dL_act_498 ⟨rfl, hV.kp hk (Or.inl rfl), Nat.le_add_right _ _, Nat.le_refl _, zmo_other (by decide)⟩ hP9 hD9 hS
  · refine va_get (D := D) (ci := 5) (v := .ref (bd b_1)) (C := RX5) (T := TX5) (N := 13) hx hb hts hinX5 hown hK hP ((zw_X cI x a b σ τ).length + (3 + nb + k)) (zxr (zjq_S hk)) rfl 6 (by decide) hf61 (fun _ h9 => h9) (congrArg some (zrf_r e11b_1 (by omega))) dL_act_414 ?_
    refine lv_ifnonnull (tgt := 424) hx hb dL_act_417 (by decide) ?_
    refine lv_aload hx hb dL_act_424 (lv_at hl 0 rfl) ?_
    refine va_get (D := D) (ci := 5) (v := .ref (bd b_1)) (C := RX5) (T := TX5) (N := 13) hx hb hts hinX5 hown hK hP ((zw_X cI x a b σ τ).length + (3 + nb + k)) (zxr (zjq_S hk)) rfl 6 (by decide) hf61 (fun _ h9 => h9) (congrArg some (zrf_r e11b_1 (by omega))) dL_act_426 ?_
    refine va_get (D := D) (ci := 4) (v := .int (nI b_1)) (C := RX4) (T := TX4) (N := 6) hx hb hts hinX4 hown hK hP ((zw_X cI x a b σ τ).length + (3 + b_1)) (zxr (zjq_B hb_1)) rfl 5 (by decide) hf28 (fun _ h9 => h9) rfl dL_act_429 ?_
    refine lv_istore (lv' := [(8, .int (nI b_1)), (7, .ref (sl k)), (6, .int (nI k)), (4, .int (nI ns)), (3, .int (nI nb)), (2, .int v), (1, .ref (u 0)), (0, .ref x)]) hx hb dL_act_432 hl (by decide) rfl (fun ls hl => ?_)
    refine lv_iload_n hx hb dL_act_434 rfl (lv_at hl 4 rfl) ?_
    refine lv_if_eq (tgt := 446) hx hb dL_act_435 (by decide) (fun c_12 => ?_) (fun c_12 => ?_)
    · refine lv_iconst (v := (-1)) hx hb dL_act_446 (by decide) ?_
      refine lv_goto (tgt := 457) hx hb dL_act_447 (by decide) ?_
      refine lv_istore (lv' := [(9, .int (-1)), (8, .int (nI b_1)), (7, .ref (sl k)), (6, .int (nI k)), (4, .int (nI ns)), (3, .int (nI nb)), (2, .int v), (1, .ref (u 0)), (0, .ref x)]) hx hb dL_act_457 hl (by decide) rfl (fun ls hl => ?_)
      refine lv_aload hx hb dL_act_459 (lv_at hl 2 rfl) ?_
      refine lv_iload hx hb dL_act_461 (lv_at hl 0 rfl) ?_
      refine lv_if_ge (tgt := 470) hx hb dL_act_463 (by decide) (fun c => absurd c (by decide)) (fun _ => ?_)
      refine lv_null hx hb dL_act_466 ?_
      refine lv_goto (tgt := 477) hx hb dL_act_467 (by decide) ?_
      refine va_put (D := D) (ci := 5) (v := .null) (ty := .object "HotBedsLaw$Bed") (C := RX5) (T := TX5) (N := 13) hx hb hts hinX5 tyX5 tyX5_ok nmX5 hown hK hP hD hS ((zw_X cI x a b σ τ).length + (3 + nb + k)) (zxr (zjq_S hk)) rfl 6 (by decide) hf61 (fun _ h9 => h9)  rfl (by decide +kernel) rfl rfl (Nat.le_of_ble_eq_true rfl) dL_act_477 (fun H locs hP hD hS => ?_)
      have hP : va_P D vwCl (zw_X cI x a b σ τ ++ zj cB cS u bd sl nb ns (zs σ 11 k (-1))) H := by rw [← zjw11n hk, ← zxs]; exact hP
      have hD : va_D A (zw_X cI x a b σ τ ++ zj cB cS u bd sl nb ns (zs σ 11 k (-1))) := by rw [← zjw11n hk, ← zxs]; exact hD
      refine lv_aload_n hx hb dL_act_480 rfl (lv_at hl 8 rfl) ?_
      refine lv_iload hx hb dL_act_481 (lv_at hl 3 rfl) ?_
      refine lv_iload hx hb dL_act_483 (lv_at hl 0 rfl) ?_
      have hF := zfree (zxd_D hD) hS hA
      refine zk_I (va_runV (As := [.int (nI k), .int (-1)]) (rest := []) ⟨hx, hb, hml, hown, hts⟩ (c_X3_keep l D cI x a b σ τ hV.1 hk (-1) (Or.inl rfl) _) (cwV 2 hts gL_act_X3_keep rfl rfl rfl zdX3_keep ⟨Nat.le_of_ble_eq_true rfl, Nat.le_of_ble_eq_true rfl⟩) ⟨zbl _, va_recv hKi (zxd_P hP) (ci := 3) (q0 := 0) rfl rfl, zpr hKi (zxd_P hP) (zxd_D hD)⟩ rfl rfl hl.1 rfl (lv_room (Nat.le_of_ble_eq_true rfl)) dL_act_485 ⟨Nat.le_of_ble_eq_true rfl, Nat.le_of_ble_eq_true rfl⟩) hS hF (fun r H locs hw hkp hP1 hD1 hS => ?_)
      obtain ⟨hP, hD⟩ := zx_JL hP hD hkp hF hP1 hD1
      have hw : r = σ 11 k := hw
      subst hw
      have hP : va_P D vwCl (zw_X cI x a b (zs σ 11 k (-1)) τ ++ zj cB cS u bd sl nb ns (zs σ 11 k (-1))) H := hP
      have hD : va_D A (zw_X cI x a b (zs σ 11 k (-1)) τ ++ zj cB cS u bd sl nb ns (zs σ 11 k (-1))) := hD
      refine lv_iload hx hb dL_act_488 (lv_at hl 1 rfl) ?_
      refine lv_icmp_ne (tgt := 497) hx hb dL_act_490 (by decide) (fun c => absurd (e11b_1) c) (fun _ => ?_)
      refine lv_iconst (v := 1) hx hb dL_act_493 (by decide) ?_
      refine lv_goto (tgt := 498) hx hb dL_act_494 (by decide) ?_
      have hP9 : va_P D vwCl (zw_X cI x a b (zs σ 11 k (-1)) τ ++ zj cB cS u bd sl nb ns (zs σ 11 k (-1))) H := by
        exact hP
      have hD9 : va_D A (zw_X cI x a b (zs σ 11 k (-1)) τ ++ zj cB cS u bd sl nb ns (zs σ 11 k (-1))) := by
        exact hD
      refine W.widen (k := 2) (n := 23) (Nat.le_of_ble_eq_true rfl) (Nat.le_of_ble_eq_true rfl) ?_
      exact kk (zs σ 11 k (-1), u, bd, sl, nb, ns, h) _ _ _ _ dL_act_498 ⟨rfl, hV.kp hk (Or.inl rfl), Nat.le_add_right _ _, Nat.le_refl _, zmo_other (by decide)⟩ hP9 hD9 hS
    · have hnb0 : 0 < nb := Nat.pos_of_ne_zero (fun z => c_12 (by rw [z]; rfl))
      refine lv_iload_n hx hb dL_act_438 rfl (lv_at hl 5 rfl) ?_
      refine lv_iconst (v := 4) hx hb dL_act_439 (by decide) ?_
      refine zk_R (D := D) (va_runS (As := [.int v, .int (nI 4)]) (rest := []) ⟨hx, hb, hml, hown, hts⟩ (c_L_below l D (zT3 cI cB cS) v (N := 4) (by decide) (by decide) _) (va_cwS 2 hts gL_act_L_below rfl rfl rfl zdL_below.2 ⟨Nat.le_of_ble_eq_true rfl, Nat.le_of_ble_eq_true rfl⟩) ⟨zbl _, zpr hK zP0 (A := fun _ => True) zD0⟩ rfl rfl hl.1 rfl (lv_room (Nat.le_of_ble_eq_true rfl)) dL_act_440 ⟨Nat.le_of_ble_eq_true rfl, Nat.le_of_ble_eq_true rfl⟩) hS (fun r H locs hw hkp hS => ?_)
      have hP := hkp _ hP
      have hw : r = nI (q_bel v 4) := hw
      subst hw
      have hlt_q_15 : q_bel v 4 < 4 := q_bel_lt _ (by decide)
      refine lv_if_ne (tgt := 450) hx hb dL_act_443 (by decide) (fun c_16 => ?_) (fun c_16 => ?_)
      · refine lv_iload_n hx hb dL_act_450 rfl (lv_at hl 5 rfl) ?_
        refine lv_iconst (v := 3) hx hb dL_act_451 (by decide) ?_
        refine lv_ishr hx hb dL_act_452 ?_
        refine lv_iload_n hx hb dL_act_453 rfl (lv_at hl 4 rfl) ?_
        refine zk_R (D := D) (va_runS (As := [.int (v >>> (3 &&& 31)), .int (nI nb)]) (rest := []) ⟨hx, hb, hml, hown, hts⟩ (c_L_below l D (zT3 cI cB cS) (v >>> (3 &&& 31)) (N := nb) (by omega) (by omega) _) (va_cwS 2 hts gL_act_L_below rfl rfl rfl zdL_below.2 ⟨Nat.le_of_ble_eq_true rfl, Nat.le_of_ble_eq_true rfl⟩) ⟨zbl _, zpr hK zP0 (A := fun _ => True) zD0⟩ rfl rfl hl.1 rfl (lv_room (Nat.le_of_ble_eq_true rfl)) dL_act_454 ⟨Nat.le_of_ble_eq_true rfl, Nat.le_of_ble_eq_true rfl⟩) hS (fun r H locs hw hkp hS => ?_)
        have hP := hkp _ hP
        have hw : r = nI (q_bel (v >>> (3 &&& 31)) nb) := hw
        subst hw
        have hlt_q_17 : q_bel (v >>> (3 &&& 31)) nb < nb := q_bel_lt _ (by omega)
        generalize q_bel (v >>> (3 &&& 31)) nb = j1 at hlt_q_17 ⊢
        refine lv_istore (lv' := [(9, .int (nI j1)), (8, .int (nI b_1)), (7, .ref (sl k)), (6, .int (nI k)), (4, .int (nI ns)), (3, .int (nI nb)), (2, .int v), (1, .ref (u 0)), (0, .ref x)]) hx hb dL_act_457 hl (by decide) rfl (fun ls hl => ?_)
        refine lv_aload hx hb dL_act_459 (lv_at hl 2 rfl) ?_
        refine lv_iload hx hb dL_act_461 (lv_at hl 0 rfl) ?_
        refine lv_if_ge (tgt := 470) hx hb dL_act_463 (by decide) (fun _ => ?_) (fun c => absurd (nI_pos' (by omega)) c)
        refine lv_aload_n hx hb dL_act_470 rfl (lv_at hl 7 rfl) ?_
        refine va_get (D := D) (ci := 6) (v := .ref (u 1)) (C := RX6) (T := TX6) (N := 5) hx hb hts hinX6 hown hK hP ((zw_X cI x a b σ τ).length + 0) (zxr (i := 0) rfl) rfl 3 (by decide) hf9 (fun _ h9 => h9) rfl dL_act_471 ?_
        refine lv_iload hx hb dL_act_474 (lv_at hl 0 rfl) ?_
        refine zk_ldq hx hb hK hP ((zw_X cI x a b σ τ).length + 1) 1 (zxr (i := 1) rfl) rfl (k := j1) hlt_q_17 (by omega) (v := bd j1) rfl dL_act_476 ?_
        refine va_put (D := D) (ci := 5) (v := .ref (bd j1)) (ty := .object "HotBedsLaw$Bed") (C := RX5) (T := TX5) (N := 13) hx hb hts hinX5 tyX5 tyX5_ok nmX5 hown hK hP hD hS ((zw_X cI x a b σ τ).length + (3 + nb + k)) (zxr (zjq_S hk)) rfl 6 (by decide) hf61 (fun _ h9 => h9)  rfl (by decide +kernel) rfl rfl (Nat.le_of_ble_eq_true rfl) dL_act_477 (fun H locs hP hD hS => ?_)
        have hP : va_P D vwCl (zw_X cI x a b σ τ ++ zj cB cS u bd sl nb ns (zs σ 11 k (nI j1))) H := by rw [← zjw11r hk (j := j1) (by omega), ← zxs]; exact hP
        have hD : va_D A (zw_X cI x a b σ τ ++ zj cB cS u bd sl nb ns (zs σ 11 k (nI j1))) := by rw [← zjw11r hk (j := j1) (by omega), ← zxs]; exact hD
        refine lv_aload_n hx hb dL_act_480 rfl (lv_at hl 8 rfl) ?_
        refine lv_iload hx hb dL_act_481 (lv_at hl 3 rfl) ?_
        refine lv_iload hx hb dL_act_483 (lv_at hl 0 rfl) ?_
        have hF := zfree (zxd_D hD) hS hA
        refine zk_I (va_runV (As := [.int (nI k), .int (nI j1)]) (rest := []) ⟨hx, hb, hml, hown, hts⟩ (c_X3_keep l D cI x a b σ τ hV.1 hk (nI j1) (Or.inr ⟨j1, hlt_q_17, rfl⟩) _) (cwV 2 hts gL_act_X3_keep rfl rfl rfl zdX3_keep ⟨Nat.le_of_ble_eq_true rfl, Nat.le_of_ble_eq_true rfl⟩) ⟨zbl _, va_recv hKi (zxd_P hP) (ci := 3) (q0 := 0) rfl rfl, zpr hKi (zxd_P hP) (zxd_D hD)⟩ rfl rfl hl.1 rfl (lv_room (Nat.le_of_ble_eq_true rfl)) dL_act_485 ⟨Nat.le_of_ble_eq_true rfl, Nat.le_of_ble_eq_true rfl⟩) hS hF (fun r H locs hw hkp hP1 hD1 hS => ?_)
        obtain ⟨hP, hD⟩ := zx_JL hP hD hkp hF hP1 hD1
        have hw : r = σ 11 k := hw
        subst hw
        have hP : va_P D vwCl (zw_X cI x a b (zs σ 11 k (nI j1)) τ ++ zj cB cS u bd sl nb ns (zs σ 11 k (nI j1))) H := hP
        have hD : va_D A (zw_X cI x a b (zs σ 11 k (nI j1)) τ ++ zj cB cS u bd sl nb ns (zs σ 11 k (nI j1))) := hD
        refine lv_iload hx hb dL_act_488 (lv_at hl 1 rfl) ?_
        refine lv_icmp_ne (tgt := 497) hx hb dL_act_490 (by decide) (fun c => absurd (e11b_1) c) (fun _ => ?_)
        refine lv_iconst (v := 1) hx hb dL_act_493 (by decide) ?_
        refine lv_goto (tgt := 498) hx hb dL_act_494 (by decide) ?_
        have hP9 : va_P D vwCl (zw_X cI x a b (zs σ 11 k (nI j1)) τ ++ zj cB cS u bd sl nb ns (zs σ 11 k (nI j1))) H := by
          exact hP
        have hD9 : va_D A (zw_X cI x a b (zs σ 11 k (nI j1)) τ ++ zj cB cS u bd sl nb ns (zs σ 11 k (nI j1))) := by
          exact hD
        refine W.widen (k := 2) (n := 23) (Nat.le_of_ble_eq_true rfl) (Nat.le_of_ble_eq_true rfl) ?_
        exact kk (zs σ 11 k (nI j1), u, bd, sl, nb, ns, h) _ _ _ _ dL_act_498 ⟨rfl, hV.kp hk (Or.inr ⟨j1, hlt_q_17, rfl⟩), Nat.le_add_right _ _, Nat.le_refl _, zmo_other (by decide)⟩ hP9 hD9 hS
      · refine lv_iconst (v := (-1)) hx hb dL_act_446 (by decide) ?_
        refine lv_goto (tgt := 457) hx hb dL_act_447 (by decide) ?_
        refine lv_istore (lv' := [(9, .int (-1)), (8, .int (nI b_1)), (7, .ref (sl k)), (6, .int (nI k)), (4, .int (nI ns)), (3, .int (nI nb)), (2, .int v), (1, .ref (u 0)), (0, .ref x)]) hx hb dL_act_457 hl (by decide) rfl (fun ls hl => ?_)
        refine lv_aload hx hb dL_act_459 (lv_at hl 2 rfl) ?_
        refine lv_iload hx hb dL_act_461 (lv_at hl 0 rfl) ?_
        refine lv_if_ge (tgt := 470) hx hb dL_act_463 (by decide) (fun c => absurd c (by decide)) (fun _ => ?_)
        refine lv_null hx hb dL_act_466 ?_
        refine lv_goto (tgt := 477) hx hb dL_act_467 (by decide) ?_
        refine va_put (D := D) (ci := 5) (v := .null) (ty := .object "HotBedsLaw$Bed") (C := RX5) (T := TX5) (N := 13) hx hb hts hinX5 tyX5 tyX5_ok nmX5 hown hK hP hD hS ((zw_X cI x a b σ τ).length + (3 + nb + k)) (zxr (zjq_S hk)) rfl 6 (by decide) hf61 (fun _ h9 => h9)  rfl (by decide +kernel) rfl rfl (Nat.le_of_ble_eq_true rfl) dL_act_477 (fun H locs hP hD hS => ?_)
        have hP : va_P D vwCl (zw_X cI x a b σ τ ++ zj cB cS u bd sl nb ns (zs σ 11 k (-1))) H := by rw [← zjw11n hk, ← zxs]; exact hP
        have hD : va_D A (zw_X cI x a b σ τ ++ zj cB cS u bd sl nb ns (zs σ 11 k (-1))) := by rw [← zjw11n hk, ← zxs]; exact hD
        refine lv_aload_n hx hb dL_act_480 rfl (lv_at hl 8 rfl) ?_
        refine lv_iload hx hb dL_act_481 (lv_at hl 3 rfl) ?_
        refine lv_iload hx hb dL_act_483 (lv_at hl 0 rfl) ?_
        have hF := zfree (zxd_D hD) hS hA
        refine zk_I (va_runV (As := [.int (nI k), .int (-1)]) (rest := []) ⟨hx, hb, hml, hown, hts⟩ (c_X3_keep l D cI x a b σ τ hV.1 hk (-1) (Or.inl rfl) _) (cwV 2 hts gL_act_X3_keep rfl rfl rfl zdX3_keep ⟨Nat.le_of_ble_eq_true rfl, Nat.le_of_ble_eq_true rfl⟩) ⟨zbl _, va_recv hKi (zxd_P hP) (ci := 3) (q0 := 0) rfl rfl, zpr hKi (zxd_P hP) (zxd_D hD)⟩ rfl rfl hl.1 rfl (lv_room (Nat.le_of_ble_eq_true rfl)) dL_act_485 ⟨Nat.le_of_ble_eq_true rfl, Nat.le_of_ble_eq_true rfl⟩) hS hF (fun r H locs hw hkp hP1 hD1 hS => ?_)
        obtain ⟨hP, hD⟩ := zx_JL hP hD hkp hF hP1 hD1
        have hw : r = σ 11 k := hw
        subst hw
        have hP : va_P D vwCl (zw_X cI x a b (zs σ 11 k (-1)) τ ++ zj cB cS u bd sl nb ns (zs σ 11 k (-1))) H := hP
        have hD : va_D A (zw_X cI x a b (zs σ 11 k (-1)) τ ++ zj cB cS u bd sl nb ns (zs σ 11 k (-1))) := hD
        refine lv_iload hx hb dL_act_488 (lv_at hl 1 rfl) ?_
        refine lv_icmp_ne (tgt := 497) hx hb dL_act_490 (by decide) (fun c => absurd (e11b_1) c) (fun _ => ?_)
        refine lv_iconst (v := 1) hx hb dL_act_493 (by decide) ?_
        refine lv_goto (tgt := 498) hx hb dL_act_494 (by decide) ?_
        have hP9 : va_P D vwCl (zw_X cI x a b (zs σ 11 k (-1)) τ ++ zj cB cS u bd sl nb ns (zs σ 11 k (-1))) H := by
          exact hP
        have hD9 : va_D A (zw_X cI x a b (zs σ 11 k (-1)) τ ++ zj cB cS u bd sl nb ns (zs σ 11 k (-1))) := by
          exact hD
        refine W.widen (k := 2) (n := 23) (Nat.le_of_ble_eq_true rfl) (Nat.le_of_ble_eq_true rfl) ?_
        exact kk (zs σ 11 k (-1), u, bd, sl, nb, ns, h) _ _ _ _ dL_act_498 ⟨rfl, hV.kp hk (Or.inl rfl), Nat.le_add_right _ _, Nat.le_refl _, zmo_other (by decide)⟩ hP9 hD9 hS
set_option maxHeartbeats 4000000 in
set_option maxRecDepth 100000 in
theorem a_pass {p : Program} {l : Launch} {e : Env} {s : State} {m : MethodId} {args : Array Value} {below : List Frame} {meth : Method} {c : Code} {Q : State → Prop} {D : va_G} {cI cB cS : ClassId} {x : Nat} {a b u bd sl : Nat → Nat} {A : Nat → Prop} {σ τ : zS} {H : Heap} {locs : List Loc} {ls : Array Slot} (C : zAa p s m args meth c D cI cB cS) (hA : ∀ q : Nat, s.heap.size ≤ q → A q) {nb ns h k : Nat} {v : Int32} (hV : zG σ nb ns h) (hk : k < ns) (h20 : h ≤ 2 ^ 20) (hP : va_P D vwCl (zw_X cI x a b σ τ ++ zj cB cS u bd sl nb ns σ) H) (hD : va_D A (zw_X cI x a b σ τ ++ zj cB cS u bd sl nb ns σ)) (hS : va_S A s.heap H locs) (hl : lv_has ls 16 [(7, .ref (sl k)), (6, .int (nI k)), (4, .int (nI ns)), (3, .int (nI nb)), (2, .int v), (1, .ref (u 0)), (0, .ref x)]) (kk : zFin p l e s m args below meth c Q D cI cB cS x a b τ A σ u nb ns h)  : W p l e zRa s m args below meth c H locs 0 0 Q (F0 m 852 ls []) := by
  obtain ⟨hx, hb, hml, hown, hts, hK, hL⟩ := C
  have hnb := hV.1.2.1
  have hns := hV.1.2.2.2.1
  have hh := hV.1.2.2.2.2.2.1
  have hKi : va_K D vwCl [(cI, .int)] s := hK.sub [0] rfl
  have hPn : ∀ H : Heap, va_P D vwCl [] H := fun _ => zP0
  refine lv_iconst (v := 1) hx hb dL_act_852 (by decide) ?_
  refine lv_iload_n hx hb dL_act_853 rfl (lv_at hl 4 rfl) ?_
  refine lv_iconst (v := 2) hx hb dL_act_854 (by decide) ?_
  refine lv_ishr hx hb dL_act_855 ?_
  refine lv_iconst (v := 5) hx hb dL_act_856 (by decide) ?_
  refine zk_R (D := D) (va_runS (As := [.int (v >>> (2 &&& 31)), .int (nI 5)]) (rest := [.int 1]) ⟨hx, hb, hml, hown, hts⟩ (c_L_below l D (zT3 cI cB cS) (v >>> (2 &&& 31)) (N := 5) (by decide) (by decide) _) (va_cwS 2 hts gL_act_L_below rfl rfl rfl zdL_below.2 ⟨Nat.le_of_ble_eq_true rfl, Nat.le_of_ble_eq_true rfl⟩) ⟨zbl _, zpr hK zP0 (A := fun _ => True) zD0⟩ rfl rfl hl.1 rfl (lv_room (Nat.le_of_ble_eq_true rfl)) dL_act_857 ⟨Nat.le_of_ble_eq_true rfl, Nat.le_of_ble_eq_true rfl⟩) hS (fun r H locs hw hkp hS => ?_)
  have hP := hkp _ hP
  have hw : r = nI (q_bel (v >>> (2 &&& 31)) 5) := hw
  subst hw
  have hlt_q_1 : q_bel (v >>> (2 &&& 31)) 5 < 5 := q_bel_lt _ (by decide)
  refine zk_add (x := 1) (y := (q_bel (v >>> (2 &&& 31)) 5)) hx hb dL_act_860 ?_
  refine lv_istore (lv' := [(14, .int (nI (1 + (q_bel (v >>> (2 &&& 31)) 5)))), (7, .ref (sl k)), (6, .int (nI k)), (4, .int (nI ns)), (3, .int (nI nb)), (2, .int v), (1, .ref (u 0)), (0, .ref x)]) hx hb dL_act_861 hl (by decide) rfl (fun ls hl => ?_)
  refine lv_aload_n hx hb dL_act_863 rfl (lv_at hl 6 rfl) ?_
  have hF := zfree (zxq_D hD) hS hA
  refine zk_N (va_runV (As := []) (rest := []) ⟨hx, hb, hml, hown, hts⟩ (c_X6_sums l D cI cB cS u bd sl σ hV _) (cwV 0 hts gL_act_X6_sums rfl rfl rfl zdX6_sums ⟨Nat.le_of_ble_eq_true rfl, Nat.le_of_ble_eq_true rfl⟩) ⟨zbl _, va_recv hK (zxq_P hP) (ci := 6) (q0 := 0) rfl rfl, zpr hK (zxq_P hP) (zxq_D hD)⟩ rfl rfl hl.1 rfl (lv_room (Nat.le_of_ble_eq_true rfl)) dL_act_864 ⟨Nat.le_of_ble_eq_true rfl, Nat.le_of_ble_eq_true rfl⟩) hS hF (fun q1 H locs hkp hP1 hD1 hS => ?_)
  obtain ⟨hP, hD⟩ := zx_J hP hD hkp hF hP1 hD1
  rw [← List.append_assoc] at hP hD
  refine lv_iconst (v := 3) hx hb dL_act_867 (by decide) ?_
  refine zk_ld hx hb hK hP ((zw_X cI x a b σ τ ++ zj cB cS u bd sl nb ns σ).length + 0) 0 (zxr (i := 0) rfl) rfl (k := 3) (by omega) (by decide) (v := f_sum (σ 17) ns) rfl dL_act_868 ?_
  have hP := zxd_P hP
  have hD := zxd_D hD
  refine lv_istore (lv' := [(15, .int (f_sum (σ 17) ns)), (14, .int (nI (1 + (q_bel (v >>> (2 &&& 31)) 5)))), (7, .ref (sl k)), (6, .int (nI k)), (4, .int (nI ns)), (3, .int (nI nb)), (2, .int v), (1, .ref (u 0)), (0, .ref x)]) hx hb dL_act_869 hl (by decide) rfl (fun ls hl => ?_)
  refine lv_aload_n hx hb dL_act_871 rfl (lv_at hl 7 rfl) ?_
  refine lv_iload hx hb dL_act_872 (lv_at hl 1 rfl) ?_
  have hF := zfree (zxq_D hD) hS hA
  refine zk_G (va_runV (As := [.int (nI (1 + (q_bel (v >>> (2 &&& 31)) 5)))]) (rest := []) ⟨hx, hb, hml, hown, hts⟩ (c_X6_behind l D cI cB cS u bd sl σ hV (n := 1 + q_bel (v >>> (2 &&& 31)) 5) (by have := q_bel_lt (v >>> (2 &&& 31)) (N := 5) (by decide); omega) (by have := q_bel_lt (v >>> (2 &&& 31)) (N := 5) (by decide); omega) _) (cwV 1 hts gL_act_X6_behind rfl rfl rfl zdX6_behind ⟨Nat.le_of_ble_eq_true rfl, Nat.le_of_ble_eq_true rfl⟩) ⟨zbl _, va_recv hK (zxq_P hP) (ci := 6) (q0 := 0) rfl rfl, zpr hK (zxq_P hP) (zxq_D hD)⟩ rfl rfl hl.1 rfl (lv_room (Nat.le_of_ble_eq_true rfl)) dL_act_874 ⟨Nat.le_of_ble_eq_true rfl, Nat.le_of_ble_eq_true rfl⟩) hS hF (fun r9 H locs hkp hP1 hD1 hS => ?_)
  obtain ⟨hP, hD⟩ := zx_J hP hD hkp hF hP1 hD1
  have hP : va_P D vwCl (zw_X cI x a b σ τ ++ zj cB cS u bd sl nb ns (f_hours σ nb ns h (1 + q_bel (v >>> (2 &&& 31)) 5))) H := hP
  have hD : va_D A (zw_X cI x a b σ τ ++ zj cB cS u bd sl nb ns (f_hours σ nb ns h (1 + q_bel (v >>> (2 &&& 31)) 5))) := hD
  refine lv_pop hx hb dL_act_877 rfl ?_
  refine lv_aload_n hx hb dL_act_878 rfl (lv_at hl 8 rfl) ?_
  refine lv_iload hx hb dL_act_879 (lv_at hl 1 rfl) ?_
  have hF := zfree (zxd_D hD) hS hA
  refine zk_I (va_runV (As := [.int (nI (1 + (q_bel (v >>> (2 &&& 31)) 5)))]) (rest := []) ⟨hx, hb, hml, hown, hts⟩ (c_X3_pass l D cI x a b σ τ hV.1 (n := 1 + q_bel (v >>> (2 &&& 31)) 5) (nI_nlt (b := 1) (Nat.le_add_right 1 _) (by have := q_bel_lt (v >>> (2 &&& 31)) (N := 5) (by decide); omega)) (nI_le (b := 72) (by have := q_bel_lt (v >>> (2 &&& 31)) (N := 5) (by decide); omega) (by decide)) (by have := q_bel_lt (v >>> (2 &&& 31)) (N := 5) (by decide); omega) _) (cwV 1 hts gL_act_X3_pass rfl rfl rfl zdX3_pass ⟨Nat.le_of_ble_eq_true rfl, Nat.le_of_ble_eq_true rfl⟩) ⟨zbl _, va_recv hKi (zxd_P hP) (ci := 3) (q0 := 0) rfl rfl, zpr hKi (zxd_P hP) (zxd_D hD)⟩ rfl rfl hl.1 rfl (lv_room (Nat.le_of_ble_eq_true rfl)) dL_act_881 ⟨Nat.le_of_ble_eq_true rfl, Nat.le_of_ble_eq_true rfl⟩) hS hF (fun r H locs hw hkp hP1 hD1 hS => ?_)
  obtain ⟨hP, hD⟩ := zx_JL hP hD hkp hF hP1 hD1
  have hw : r = (f_sum ((f_hours σ nb ns h (1 + q_bel (v >>> (2 &&& 31)) 5)) 17) ns) - (f_sum (σ 17) ns) := hw
  subst hw
  have hP : va_P D vwCl (zw_X cI x a b (f_hours σ nb ns h (1 + q_bel (v >>> (2 &&& 31)) 5)) τ ++ zj cB cS u bd sl nb ns (f_hours σ nb ns h (1 + q_bel (v >>> (2 &&& 31)) 5))) H := hP
  have hD : va_D A (zw_X cI x a b (f_hours σ nb ns h (1 + q_bel (v >>> (2 &&& 31)) 5)) τ ++ zj cB cS u bd sl nb ns (f_hours σ nb ns h (1 + q_bel (v >>> (2 &&& 31)) 5))) := hD
  refine lv_aload_n hx hb dL_act_884 rfl (lv_at hl 7 rfl) ?_
  have hF := zfree (zxq_D hD) hS hA
  refine zk_N (va_runV (As := []) (rest := [.int ((f_sum ((f_hours σ nb ns h (1 + q_bel (v >>> (2 &&& 31)) 5)) 17) ns) - (f_sum (σ 17) ns))]) ⟨hx, hb, hml, hown, hts⟩ (c_X6_sums l D cI cB cS u bd sl (f_hours σ nb ns h (1 + q_bel (v >>> (2 &&& 31)) 5)) ((hV.hours _ (by have := q_bel_lt (v >>> (2 &&& 31)) (N := 5) (by decide); omega) (by have := q_bel_lt (v >>> (2 &&& 31)) (N := 5) (by decide); omega)).1) _) (cwV 0 hts gL_act_X6_sums rfl rfl rfl zdX6_sums ⟨Nat.le_of_ble_eq_true rfl, Nat.le_of_ble_eq_true rfl⟩) ⟨zbl _, va_recv hK (zxq_P hP) (ci := 6) (q0 := 0) rfl rfl, zpr hK (zxq_P hP) (zxq_D hD)⟩ rfl rfl hl.1 rfl (lv_room (Nat.le_of_ble_eq_true rfl)) dL_act_885 ⟨Nat.le_of_ble_eq_true rfl, Nat.le_of_ble_eq_true rfl⟩) hS hF (fun q2 H locs hkp hP1 hD1 hS => ?_)
  obtain ⟨hP, hD⟩ := zx_J hP hD hkp hF hP1 hD1
  rw [← List.append_assoc] at hP hD
  refine lv_iconst (v := 3) hx hb dL_act_888 (by decide) ?_
  refine zk_ld hx hb hK hP ((zw_X cI x a b (f_hours σ nb ns h (1 + q_bel (v >>> (2 &&& 31)) 5)) τ ++ zj cB cS u bd sl nb ns (f_hours σ nb ns h (1 + q_bel (v >>> (2 &&& 31)) 5))).length + 0) 0 (zxr (i := 0) rfl) rfl (k := 3) (by omega) (by decide) (v := f_sum ((f_hours σ nb ns h (1 + q_bel (v >>> (2 &&& 31)) 5)) 17) ns) rfl dL_act_889 ?_
  have hP := zxd_P hP
  have hD := zxd_D hD
  refine lv_iload hx hb dL_act_890 (lv_at hl 0 rfl) ?_
  refine lv_isub hx hb dL_act_892 ?_
  refine lv_icmp_ne (tgt := 900) hx hb dL_act_893 (by decide) (fun c => absurd (rfl) c) (fun _ => ?_)
  refine lv_iconst (v := 1) hx hb dL_act_896 (by decide) ?_
  refine lv_goto (tgt := 901) hx hb dL_act_897 (by decide) ?_
  have hP9 : va_P D vwCl (zw_X cI x a b (f_hours σ nb ns h (1 + q_bel (v >>> (2 &&& 31)) 5)) τ ++ zj cB cS u bd sl nb ns (f_hours σ nb ns h (1 + q_bel (v >>> (2 &&& 31)) 5))) H := by
    exact hP
  have hD9 : va_D A (zw_X cI x a b (f_hours σ nb ns h (1 + q_bel (v >>> (2 &&& 31)) 5)) τ ++ zj cB cS u bd sl nb ns (f_hours σ nb ns h (1 + q_bel (v >>> (2 &&& 31)) 5))) := by
    exact hD
  refine W.widen (k := 2) (n := 23) (Nat.le_of_ble_eq_true rfl) (Nat.le_of_ble_eq_true rfl) ?_
  exact kk (f_hours σ nb ns h (1 + q_bel (v >>> (2 &&& 31)) 5), u, bd, sl, nb, ns, h + (1 + q_bel (v >>> (2 &&& 31)) 5)) _ _ _ _ dL_act_901 ⟨rfl, by show zV _ nb ns (h + (1 + q_bel (v >>> (2 &&& 31)) 5)) (30 * (h + (1 + q_bel (v >>> (2 &&& 31)) 5))); rw [Nat.mul_add]; exact (hV.hours _ (by have := q_bel_lt (v >>> (2 &&& 31)) (N := 5) (by decide); omega) (by have := q_bel_lt (v >>> (2 &&& 31)) (N := 5) (by decide); omega)).1, (by have := q_bel_lt (v >>> (2 &&& 31)) (N := 5) (by decide); show h + (1 + q_bel (v >>> (2 &&& 31)) 5) ≤ h + 5; omega), Nat.le_add_right _ _, (hV.hours _ (by have := q_bel_lt (v >>> (2 &&& 31)) (N := 5) (by decide); omega) (by have := q_bel_lt (v >>> (2 &&& 31)) (N := 5) (by decide); omega)).2⟩ hP9 hD9 hS
