/-- the contract of an act: whatever the number, it is told alike, and the houses stay in step -/
abbrev zMA (l : Launch) (y : MethodName) (ws : List Cond) (rm : Room) (av : List Value) (D : va_G) (tys : List (ClassId × FieldType)) (w : va_W) (w1 : zQ → va_W) (post : zQ → Prop) (mc ms : Nat) : Prop :=
  ∀ sz : Nat, Met l y ws rm (va_Pc av (zPL D tys w sz)) (va_Qi (fun (r : Int32) (Z : zQ) => r = 1 ∧ post Z) (fun Z t => zQW D tys (w1 Z) (va_A w sz) t) (va_A w sz)) mc ms (va_A w sz)
set_option maxHeartbeats 4000000 in
set_option maxRecDepth 100000 in
theorem c_L_act (l : Launch) (D : va_G) (cI cB cS : ClassId) (x : Nat) (a b u bd sl : Nat → Nat) (σ τ : zS) (v : Int32) {nb ns h : Nat} (hV : zG σ nb ns h) (h20 : h ≤ 2 ^ 20) : zMA l yL_act wsL_act zRa [.ref x, .ref (u 0), .int v] D (zT3 cI cB cS) (zw_X cI x a b σ τ ++ zj cB cS u bd sl nb ns σ) (zWZ cI cB cS x a b τ) (zPo σ u nb ns h) 2 23 := by
  intro sz
  refine Met.ofW (cc := cL_act) (maxL := 16) (ret := (some .boolean)) (by decide) rfl ?_
  intro p e s m args below meth c s₁ B9 hml hv
  obtain ⟨rfl, ⟨hsz, hP, hK, hD⟩, hL⟩ := hv
  have hx := B9.exec
  have hb := B9.bytes
  have hr := B9.returns
  have hts := atoms_spec (ws := wsL_act) B9.pre
  have hown : s.vm.findClass RL = some m.cls := findClass_of_methodNamed B9.named
  have hlocks := B9.notSynchronized
  subst hsz
  have hD := hD.self (sz := s.heap.size)
  generalize hAe : va_A (zw_X cI x a b σ τ ++ zj cB cS u bd sl nb ns σ) s.heap.size = A at hD ⊢
  have hA : ∀ q : Nat, s.heap.size ≤ q → A q := fun q h => by rw [← hAe]; exact Or.inr h
  have hS : va_S A s.heap s.heap [] := va_S.rf
  have hP : va_P D vwCl (zw_X cI x a b σ τ ++ zj cB cS u bd sl nb ns σ) s.heap := hP
  have hl := lv_entry ([.ref x, .ref (u 0), .int v]) (n := 16) (Nat.le_of_ble_eq_true rfl)
  rw [lg_entry_eq]
  generalize (lg_sl ([.ref x, .ref (u 0), .int v]) ++ List.replicate (16 - (lg_sl ([.ref x, .ref (u 0), .int v])).length) Slot.unset).toArray = ls at hl ⊢
  have hl : lv_has ls 16 [(0, .ref x), (1, .ref (u 0)), (2, .int v)] := hl
  have hl : lv_has ls 16 [(2, .int v), (1, .ref (u 0)), (0, .ref x)] := lv_sub hl [2, 1, 0] rfl
  have hnb := hV.1.2.1
  have hns := hV.1.2.2.2.1
  have C0 : zAa p s m _ meth c D cI cB cS := ⟨hx, hb, hml, hown, hts, hK, hL⟩
  have kk : zFin p l e s m #[Value.ref x, Value.ref (u 0), Value.int v] below meth c (MQ below (va_Qi (fun (r : Int32) (Z : zQ) => r = 1 ∧ zPo σ u nb ns h Z) (fun Z t => zQW D (zT3 cI cB cS) (zWZ cI cB cS x a b τ Z) A t) A) #[Value.ref x, Value.ref (u 0), Value.int v] s 2 23 A) D cI cB cS x a b τ A σ u nb ns h := fun Z H locs ls pc hd hpo hP hD hS => W.zret (v := 1) hx hb hr rfl (fun t ht hW => ⟨⟨1, Z, rfl, ⟨rfl, hpo⟩, by rw [ht]; exact hP, va_K.moved hW.alike hK, hD⟩, hS.F ht⟩) hS.2.2 hd
  have hf15 := hts (.fieldLink RL 15 "HotBedsLaw$Sim" "sailors" "[LHotBedsLaw$Sailor;") (by decide +kernel)
  have hf9 := hts (.fieldLink RL 9 "HotBedsLaw$Sim" "beds" "[LHotBedsLaw$Bed;") (by decide +kernel)
  have hinX6 : ∀ w ∈ u_ws RX6 TX6 5, w ∈ wsL_act := by decide +kernel
  have hKi : va_K D vwCl [(cI, .int)] s := hK.sub [0] rfl
  have hPn : ∀ H : Heap, va_P D vwCl [] H := fun _ => zP0
  refine lv_aload_n hx hb dL_act_0 rfl (lv_at hl 1 rfl) ?_
  refine va_get (D := D) (ci := 6) (v := .ref (u 1)) (C := RX6) (T := TX6) (N := 5) hx hb hts hinX6 hown hK hP ((zw_X cI x a b σ τ).length + 0) (zxr (i := 0) rfl) rfl 3 (by decide) hf9 (fun _ h9 => h9) rfl dL_act_1 ?_
  refine va_alen hx hb hK hP ((zw_X cI x a b σ τ).length + 1) 1 (zxr (i := 1) rfl) rfl (v := nI nb) rfl dL_act_4 ?_
  refine lv_istore_n (lv' := [(3, .int (nI nb)), (2, .int v), (1, .ref (u 0)), (0, .ref x)]) hx hb dL_act_5 rfl hl (by decide) rfl (fun ls hl => ?_)
  refine lv_aload_n hx hb dL_act_6 rfl (lv_at hl 2 rfl) ?_
  refine va_get (D := D) (ci := 6) (v := .ref (u 2)) (C := RX6) (T := TX6) (N := 5) hx hb hts hinX6 hown hK hP ((zw_X cI x a b σ τ).length + 0) (zxr (i := 0) rfl) rfl 4 (by decide) hf15 (fun _ h9 => h9) rfl dL_act_7 ?_
  refine va_alen hx hb hK hP ((zw_X cI x a b σ τ).length + 2) 2 (zxr (i := 2) rfl) rfl (v := nI ns) rfl dL_act_10 ?_
  refine lv_istore (lv' := [(4, .int (nI ns)), (3, .int (nI nb)), (2, .int v), (1, .ref (u 0)), (0, .ref x)]) hx hb dL_act_11 hl (by decide) rfl (fun ls hl => ?_)
  refine lv_iload_n hx hb dL_act_13 rfl (lv_at hl 2 rfl) ?_
  refine lv_bipush (v := 9) hx hb dL_act_14 (by decide) ?_
  refine lv_ishr hx hb dL_act_16 ?_
  refine lv_bipush (v := 18) hx hb dL_act_17 (by decide) ?_
  refine zk_R (D := D) (va_runS (As := [.int (v >>> (9 &&& 31)), .int (nI 18)]) (rest := []) ⟨hx, hb, hml, hown, hts⟩ (c_L_below l D (zT3 cI cB cS) (v >>> (9 &&& 31)) (N := 18) (by decide) (by decide) _) (va_cwS 2 hts gL_act_L_below rfl rfl rfl zdL_below.2 ⟨Nat.le_of_ble_eq_true rfl, Nat.le_of_ble_eq_true rfl⟩) ⟨zbl _, zpr hK zP0 (A := fun _ => True) zD0⟩ rfl rfl hl.1 rfl (lv_room (Nat.le_of_ble_eq_true rfl)) dL_act_19 ⟨Nat.le_of_ble_eq_true rfl, Nat.le_of_ble_eq_true rfl⟩) hS (fun r H locs hw hkp hS => ?_)
  have hP := hkp _ hP
  have hw : r = nI (q_bel (v >>> (9 &&& 31)) 18) := hw
  subst hw
  have hlt_q_1 : q_bel (v >>> (9 &&& 31)) 18 < 18 := q_bel_lt _ (by decide)
  generalize q_bel (v >>> (9 &&& 31)) 18 = j at hlt_q_1 ⊢
  refine lv_istore (lv' := [(5, .int (nI j)), (4, .int (nI ns)), (3, .int (nI nb)), (2, .int v), (1, .ref (u 0)), (0, .ref x)]) hx hb dL_act_22 hl (by decide) rfl (fun ls hl => ?_)
  refine lv_iload hx hb dL_act_24 (lv_at hl 0 rfl) ?_
  refine lv_if_ne (tgt := 145) hx hb dL_act_26 (by decide) (fun c_2 => ?_) (fun c_2 => ?_)
  · refine lv_iload hx hb dL_act_145 (lv_at hl 0 rfl) ?_
    refine lv_iconst (v := 3) hx hb dL_act_147 (by decide) ?_
    refine lv_icmp_lt (tgt := 156) hx hb dL_act_148 (by decide) (fun c_3 => ?_) (fun c_3 => ?_)
    · refine lv_iload hx hb dL_act_156 (lv_at hl 1 rfl) ?_
      refine lv_bipush (v := 10) hx hb dL_act_158 (by decide) ?_
      refine lv_icmp_ne (tgt := 165) hx hb dL_act_160 (by decide) (fun c_4 => ?_) (fun c_4 => ?_)
      · exact a_sailN C0 hA hV (by have : ¬ ns = 10 := fun z => c_4 (by rw [z]; rfl); omega) hP hD hS (lv_sub hl [1, 2, 3, 4, 5] rfl) kk
      · refine lv_iconst (v := 1) hx hb dL_act_163 (by decide) ?_
        refine W.widen (k := 2) (n := 23) (Nat.le_of_ble_eq_true rfl) (Nat.le_of_ble_eq_true rfl) ?_
        exact kk (σ, u, bd, sl, nb, ns, h) _ _ _ _ dL_act_164 ⟨rfl, hV, Nat.le_add_right _ _, Nat.le_refl _, zmo.rf⟩ hP hD hS
    · refine lv_iload hx hb dL_act_151 (lv_at hl 1 rfl) ?_
      refine lv_if_ne (tgt := 345) hx hb dL_act_153 (by decide) (fun c_5 => ?_) (fun c_5 => ?_)
      · have hns0 : 0 < ns := Nat.pos_of_ne_zero (fun z => c_5 (by rw [z]; rfl))
        refine lv_iload_n hx hb dL_act_345 rfl (lv_at hl 3 rfl) ?_
        refine lv_iconst (v := 1) hx hb dL_act_346 (by decide) ?_
        refine lv_ishr hx hb dL_act_347 ?_
        refine lv_iload hx hb dL_act_348 (lv_at hl 1 rfl) ?_
        refine zk_R (D := D) (va_runS (As := [.int (v >>> (1 &&& 31)), .int (nI ns)]) (rest := []) ⟨hx, hb, hml, hown, hts⟩ (c_L_below l D (zT3 cI cB cS) (v >>> (1 &&& 31)) (N := ns) (by omega) (by omega) _) (va_cwS 2 hts gL_act_L_below rfl rfl rfl zdL_below.2 ⟨Nat.le_of_ble_eq_true rfl, Nat.le_of_ble_eq_true rfl⟩) ⟨zbl _, zpr hK zP0 (A := fun _ => True) zD0⟩ rfl rfl hl.1 rfl (lv_room (Nat.le_of_ble_eq_true rfl)) dL_act_350 ⟨Nat.le_of_ble_eq_true rfl, Nat.le_of_ble_eq_true rfl⟩) hS (fun r H locs hw hkp hS => ?_)
        have hP := hkp _ hP
        have hw : r = nI (q_bel (v >>> (1 &&& 31)) ns) := hw
        subst hw
        have hlt_q_6 : q_bel (v >>> (1 &&& 31)) ns < ns := q_bel_lt _ (by omega)
        generalize q_bel (v >>> (1 &&& 31)) ns = k at hlt_q_6 ⊢
        have hk := hlt_q_6
        refine lv_istore (lv' := [(6, .int (nI k)), (5, .int (nI j)), (4, .int (nI ns)), (3, .int (nI nb)), (2, .int v), (1, .ref (u 0)), (0, .ref x)]) hx hb dL_act_353 hl (by decide) rfl (fun ls hl => ?_)
        refine lv_aload_n hx hb dL_act_355 rfl (lv_at hl 5 rfl) ?_
        refine va_get (D := D) (ci := 6) (v := .ref (u 2)) (C := RX6) (T := TX6) (N := 5) hx hb hts hinX6 hown hK hP ((zw_X cI x a b σ τ).length + 0) (zxr (i := 0) rfl) rfl 4 (by decide) hf15 (fun _ h9 => h9) rfl dL_act_356 ?_
        refine lv_iload hx hb dL_act_359 (lv_at hl 0 rfl) ?_
        refine zk_ldq hx hb hK hP ((zw_X cI x a b σ τ).length + 2) 2 (zxr (i := 2) rfl) rfl (k := k) hlt_q_6 (by omega) (v := sl k) rfl dL_act_361 ?_
        refine lv_astore (lv' := [(7, .ref (sl k)), (6, .int (nI k)), (5, .int (nI j)), (4, .int (nI ns)), (3, .int (nI nb)), (2, .int v), (1, .ref (u 0)), (0, .ref x)]) hx hb dL_act_362 hl (by decide) rfl (fun ls hl => ?_)
        refine lv_iload hx hb dL_act_364 (lv_at hl 2 rfl) ?_
        have hj3 : 3 ≤ j := Nat.le_of_not_lt (fun z => c_3 (nI_lt (b := 3) z (by decide)))
        rcases (show j = 3 ∨ j = 4 ∨ j = 5 ∨ j = 6 ∨ j = 7 ∨ j = 8 ∨ j = 9 ∨ j = 10 ∨ 11 ≤ j by omega) with rfl | rfl | rfl | rfl | rfl | rfl | rfl | rfl | hj11
        · refine lv_tableIn (tgt := 412) hx hb dL_act_366 (by decide) (by decide) (off := 46) (by decide) (by decide) ?_
          exact a_keep C0 hA hV hk hP hD hS (lv_sub hl [0, 1, 3, 4, 5, 6, 7] rfl) kk
        · refine lv_tableIn (tgt := 499) hx hb dL_act_366 (by decide) (by decide) (off := 133) (by decide) (by decide) ?_
          exact a_bell C0 hA hV hk hP hD hS (lv_sub hl [0, 1, 3, 4, 5, 6, 7] rfl) kk
        · refine lv_tableIn (tgt := 536) hx hb dL_act_366 (by decide) (by decide) (off := 170) (by decide) (by decide) ?_
          exact a_pawnS C0 hA hV hk hP hD hS (lv_sub hl [0, 1, 3, 4, 5, 6, 7] rfl) kk
        · refine lv_tableIn (tgt := 575) hx hb dL_act_366 (by decide) (by decide) (off := 209) (by decide) (by decide) ?_
          exact a_give C0 hA hV hk hP hD hS (lv_sub hl [0, 1, 3, 4, 5, 6, 7] rfl) kk
        · refine lv_tableIn (tgt := 620) hx hb dL_act_366 (by decide) (by decide) (off := 254) (by decide) (by decide) ?_
          exact a_pawn C0 hA hV hk hP hD hS (lv_sub hl [0, 1, 3, 4, 5, 6, 7] rfl) kk
        · refine lv_tableIn (tgt := 665) hx hb dL_act_366 (by decide) (by decide) (off := 299) (by decide) (by decide) ?_
          exact a_redeem C0 hA hV hk hP hD hS (lv_sub hl [0, 1, 3, 4, 5, 6, 7] rfl) kk
        · refine lv_tableIn (tgt := 731) hx hb dL_act_366 (by decide) (by decide) (off := 365) (by decide) (by decide) ?_
          exact a_call C0 hA hV hk hP hD hS (lv_sub hl [0, 1, 3, 4, 5, 6, 7] rfl) kk
        · refine lv_tableIn (tgt := 793) hx hb dL_act_366 (by decide) (by decide) (off := 427) (by decide) (by decide) ?_
          exact a_shift C0 hA hV hk hP hD hS (lv_sub hl [0, 1, 3, 4, 5, 6, 7] rfl) kk
        · refine lv_tableOut (tgt := 852) hx hb dL_act_366 (Or.inr (by rw [nI_toInt (by omega)]; omega)) (by decide) ?_
          exact a_pass C0 hA hV hk h20 hP hD hS (lv_sub hl [0, 1, 3, 4, 5, 6, 7] rfl) kk
      · refine lv_iload hx hb dL_act_156 (lv_at hl 1 rfl) ?_
        refine lv_bipush (v := 10) hx hb dL_act_158 (by decide) ?_
        refine lv_icmp_ne (tgt := 165) hx hb dL_act_160 (by decide) (fun c_7 => ?_) (fun c_7 => ?_)
        · exact a_sailN C0 hA hV (by have : ¬ ns = 10 := fun z => c_7 (by rw [z]; rfl); omega) hP hD hS (lv_sub hl [1, 2, 3, 4, 5] rfl) kk
        · refine lv_iconst (v := 1) hx hb dL_act_163 (by decide) ?_
          refine W.widen (k := 2) (n := 23) (Nat.le_of_ble_eq_true rfl) (Nat.le_of_ble_eq_true rfl) ?_
          exact kk (σ, u, bd, sl, nb, ns, h) _ _ _ _ dL_act_164 ⟨rfl, hV, Nat.le_add_right _ _, Nat.le_refl _, zmo.rf⟩ hP hD hS
  · refine lv_iload_n hx hb dL_act_29 rfl (lv_at hl 2 rfl) ?_
    refine lv_bipush (v := 6) hx hb dL_act_30 (by decide) ?_
    refine lv_icmp_ne (tgt := 37) hx hb dL_act_32 (by decide) (fun c_8 => ?_) (fun c_8 => ?_)
    · exact a_bedN C0 hA hV (by have : ¬ nb = 6 := fun z => c_8 (by rw [z]; rfl); omega) hP hD hS (lv_sub hl [1, 2, 3, 4, 5] rfl) kk
    · refine lv_iconst (v := 1) hx hb dL_act_35 (by decide) ?_
      refine W.widen (k := 2) (n := 23) (Nat.le_of_ble_eq_true rfl) (Nat.le_of_ble_eq_true rfl) ?_
      exact kk (σ, u, bd, sl, nb, ns, h) _ _ _ _ dL_act_36 ⟨rfl, hV, Nat.le_add_right _ _, Nat.le_refl _, zmo.rf⟩ hP hD hS
