theorem zdX3_mean : yX3_mean.cls = RX3 ∧ yX3_mean.cls ≠ "java/lang/invoke/MethodHandle" ∧ yX3_mean.cls ≠ "java/lang/invoke/VarHandle" ∧ (parseMethodDescriptor yX3_mean.desc).map (fun d => d.parameters.length) = some 0 := by decide +kernel
theorem zalike {x v : UInt64} (h : alike64 x v = true) (hv : isNaN64 v = false) : x = v := by
  unfold alike64 at h
  rcases Bool.or_eq_true_iff.mp h with z | z
  · exact of_decide_eq_true z
  · have z2 := (Bool.and_eq_true_iff.mp z).2
    rw [hv] at z2
    cases z2
set_option maxHeartbeats 4000000 in
set_option maxRecDepth 100000 in
theorem c_X6_isSame (l : Launch) (D : va_G) (cI cB cS : ClassId) (x : Nat) (a b u bd sl : Nat → Nat) (σ τ : zS) {nb ns h B : Nat} (hV : zV σ nb ns h B) (sz : Nat) : MetD lw_cs l yX6_isSame wsX6_isSame ({ frames := 3, cells := 18, slots := 154, locals := 65 }) (va_Pc [.ref (u 0), .ref x] (zPW D (zT3 cI cB cS) (zw_X cI x a b σ τ ++ zj cB cS u bd sl nb ns σ) sz)) (va_Qi (fun (r : Int32) (_ : Unit) => r = 1) (fun _ _ => True) (va_A (zw_X cI x a b σ τ ++ zj cB cS u bd sl nb ns σ) sz)) 18 154 (va_A (zw_X cI x a b σ τ ++ zj cB cS u bd sl nb ns σ) sz) := by
  refine MetD.ofW (cc := cX6_isSame) (maxL := 9) (ret := (some .boolean)) (by decide) rfl ?_
  intro p e s m args below meth c s₁ B9 hml hv hd0
  obtain ⟨rfl, hsz, hP, hK, hD⟩ := hv
  have hx := B9.exec
  have hb := B9.bytes
  have hr := B9.returns
  have hts0 := atoms_spec (ws := wsX6_isSame) B9.pre
  have hts := dr_words hts0 s.drawn
  have hown : s.vm.findClass RX6 = some m.cls := findClass_of_methodNamed B9.named
  have hlocks := B9.notSynchronized
  subst hsz
  have hD := hD.self (sz := s.heap.size)
  generalize hAe : va_A (zw_X cI x a b σ τ ++ zj cB cS u bd sl nb ns σ) s.heap.size = A at hD ⊢
  have hA : ∀ q : Nat, s.heap.size ≤ q → A q := fun q h => by rw [← hAe]; exact Or.inr h
  have hS : va_S A s.heap s.heap [] := va_S.rf
  have hP : va_P D vwCl (zw_X cI x a b σ τ ++ zj cB cS u bd sl nb ns σ) s.heap := hP
  have hl := lv_entry ([.ref (u 0), .ref x]) (n := 9) (Nat.le_of_ble_eq_true rfl)
  rw [lg_entry_eq]
  generalize (lg_sl ([.ref (u 0), .ref x]) ++ List.replicate (9 - (lg_sl ([.ref (u 0), .ref x])).length) Slot.unset).toArray = ls at hl ⊢
  have hl : lv_has ls 9 [(0, .ref (u 0)), (1, .ref x)] := hl
  have hnb := hV.1.2.1
  have hns := hV.1.2.2.2.1
  have hf24 := hts0 (.fieldLink RX6 24 "HotBedsLaw$Sim" "sailors" "[LHotBedsLaw$Sailor;") (by decide +kernel)
  have hf24 := fun d : Drawn => dr_words hts0 d _ (show Cond.fieldLink RX6 24 "HotBedsLaw$Sim" "sailors" "[LHotBedsLaw$Sailor;" ∈ wsX6_isSame by decide +kernel)
  have hinX6 : ∀ w ∈ u_ws RX6 TX6 5, w ∈ wsX6_isSame := by decide +kernel
  have hKd : ∀ d : Drawn, va_K D vwCl (zT3 cI cB cS) (s.setDrawn d) := fun d => va_K.moved (u := s) (Vm.Alike.refl s.vm) hK
  have C0 : zSa p (s.setDrawn s.drawn) m _ meth c D cI cB cS := ⟨hx, hb, hml, hown, hts, hKd _⟩
  refine i_s1 C0 hA hV hP hD hS (lv_sub hl [1, 0] rfl) (fun q1 q2 H locs ls hP hD hS hl => ?_)
  refine i_s2 C0 hA hV hP hD hS hl (fun H locs ls hP hD hS hl => ?_)
  refine i_s3 C0 hA hV hP hD hS hl (fun H locs ls hP hD hS hl => ?_)
  refine i_s4 C0 hA hV hP hD hS hl (fun H locs ls hP hD hS hl => ?_)
  have hKi : va_K D vwCl [(cI, .int)] (s.setDrawn s.drawn) := (hKd s.drawn).sub [0] rfl
  refine lv_aload_n hx hb dX6_isSame_471 rfl (lv_at hl 1 rfl) ?_
  refine va_calldD hd0 (va_runV_D (As := []) (rest := []) ⟨hx, hb, hml, hown, hts⟩ (c_X3_mean l D cI x a b σ τ hV.1 _) (cwV 0 hts gX6_isSame_X3_mean rfl rfl rfl zdX3_mean ⟨Nat.le_of_ble_eq_true rfl, Nat.le_of_ble_eq_true rfl⟩) ⟨zbl _, va_recv hKi (zxd_P hP) (ci := 3) (q0 := 0) rfl rfl, zpr hKi (zxd_P hP) (zxd_D hD)⟩ rfl rfl hl.1 rfl (lv_room (Nat.le_of_ble_eq_true rfl)) dX6_isSame_472 ⟨by show _ ≤ 18; omega, by show _ ≤ 154; omega⟩) hS (fun q _ h => h.elim) (fun q h => h.elim) (fun r u9 t H1 locs ht hvm hw hB9 hz1 hk1 hS d1 hd1 => ?_)
  have hP : va_P D vwCl (zw_X cI x a b σ τ ++ zj cB cS u bd sl nb ns σ) H1 := hP.kept (fun k q hk => hk1 q.1 (hP k q hk).lt (fun z => z))
  refine W.widen (k := 2 + nb + ns) (n := 14 + 5 * nb + 11 * ns) (Nat.le_refl _) (Nat.le_refl _) ?_
  have hts := dr_words hts0 d1
  have hK := hKd d1
  have hf := hf24 d1
  have hown1 : (s.setDrawn d1).vm.findClass RX6 = some m.cls := hown
  refine lv_aload_n hx hb dX6_isSame_475 rfl (lv_at hl 2 rfl) ?_
  refine va_get (D := D) (ci := 6) (v := .ref (u 2)) (C := RX6) (T := TX6) (N := 5) hx hb hts hinX6 hown hK hP ((zw_X cI x a b σ τ).length + 0) (zxr (i := 0) rfl) rfl 4 (by decide) hf (fun _ h9 => h9) rfl dX6_isSame_476 ?_
  refine va_alen hx hb hK hP ((zw_X cI x a b σ τ).length + 2) 2 (zxr (i := 2) rfl) rfl (v := nI ns) rfl dX6_isSame_479 ?_
  refine lv_if_ne (tgt := 487) hx hb dX6_isSame_480 (by decide) (fun c0 => ?_) (fun c0 => ?_)
  · have hn0 : ¬ nI ns = 0 := c0
    have hne : ¬ ns = 0 := fun z => hn0 (by rw [z]; rfl)
    refine lv_iload hx hb dX6_isSame_487 (lv_at hl 0 rfl) ?_
    refine lv_i2d hx hb dX6_isSame_489 ?_
    refine lv_aload_n hx hb dX6_isSame_490 rfl (lv_at hl 2 rfl) ?_
    refine va_get (D := D) (ci := 6) (v := .ref (u 2)) (C := RX6) (T := TX6) (N := 5) hx hb hts hinX6 hown hK hP ((zw_X cI x a b σ τ).length + 0) (zxr (i := 0) rfl) rfl 4 (by decide) hf (fun _ h9 => h9) rfl dX6_isSame_491 ?_
    refine va_alen hx hb hK hP ((zw_X cI x a b σ τ).length + 2) 2 (zxr (i := 2) rfl) rfl (v := nI ns) rfl dX6_isSame_494 ?_
    refine lv_i2d hx hb dX6_isSame_495 ?_
    refine lv_ddiv_any hd1 lw_bits hx hb dX6_isSame_496 (fun r2 d2 hal hd2 => ?_)
    have hw : q_mean σ ns r := hw
    unfold q_mean at hw
    rw [if_neg hne] at hw
    have e1 := zalike hw (zdiv_ok hn0)
    have e2 := zalike hal (zdiv_ok hn0)
    refine lv_dcmp hx hb dX6_isSame_497 ?_
    rw [e1, e2, zdcmp_self (zdiv_ok hn0)]
    refine lv_if_ne (tgt := 505) hx hb dX6_isSame_498 (by decide) (fun c1 => absurd rfl c1) (fun _ => ?_)
    refine lv_iconst (v := 1) hx hb dX6_isSame_501 (by decide) ?_
    refine lv_goto (tgt := 506) hx hb dX6_isSame_502 (by decide) ?_
    refine W.endD hd2 ?_
    refine W.widen (k := 18) (n := 154) (by omega) (by omega) ?_
    exact W.zret (v := 1) hx hb hr rfl (fun t ht hW => ⟨⟨1, (), rfl, rfl, trivial⟩, hS.F ht⟩) hS.2.2 dX6_isSame_506
  · have hz : ns = 0 := by
      have hn0 : nI ns = 0 := c0
      exact (nI_eq (a := ns) (b := 0) (by omega) (by decide)).mp hn0
    refine lv_dconst0 hx hb dX6_isSame_483 ?_
    refine lv_goto (tgt := 497) hx hb dX6_isSame_484 (by decide) ?_
    have hw : q_mean σ ns r := hw
    unfold q_mean at hw
    rw [if_pos hz] at hw
    refine lv_dcmp hx hb dX6_isSame_497 ?_
    rw [hw, zdcmp_self (x := FP.dconst0) (by decide +kernel)]
    refine lv_if_ne (tgt := 505) hx hb dX6_isSame_498 (by decide) (fun c1 => absurd rfl c1) (fun _ => ?_)
    refine lv_iconst (v := 1) hx hb dX6_isSame_501 (by decide) ?_
    refine lv_goto (tgt := 506) hx hb dX6_isSame_502 (by decide) ?_
    refine W.endD hd1 ?_
    refine W.widen (k := 18) (n := 154) (by omega) (by omega) ?_
    exact W.zret (v := 1) hx hb hr rfl (fun t ht hW => ⟨⟨1, (), rfl, rfl, trivial⟩, hS.F ht⟩) hS.2.2 dX6_isSame_506
