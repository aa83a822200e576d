set_option maxHeartbeats 4000000 in
set_option maxRecDepth 100000 in
theorem a_bedN {p : Program} {l : Launch} {e : Env} {s : State} {m : MethodId} {args : Array Value} {below : List Frame} {meth : Method} {c : Code} {Q : State → Prop} {D : va_G} {cI cB cS : ClassId} {x : Nat} {a b u bd sl : Nat → Nat} {A : Nat → Prop} {σ τ : zS} {H : Heap} {locs : List Loc} {ls : Array Slot} (C : zAa p s m args meth c D cI cB cS) (hA : ∀ q : Nat, s.heap.size ≤ q → A q) {nb ns h : Nat} {v : Int32} (hV : zG σ nb ns h) (hn6 : nb < 6) (hP : va_P D vwCl (zw_X cI x a b σ τ ++ zj cB cS u bd sl nb ns σ) H) (hD : va_D A (zw_X cI x a b σ τ ++ zj cB cS u bd sl nb ns σ)) (hS : va_S A s.heap H locs) (hl : lv_has ls 16 [(4, .int (nI ns)), (3, .int (nI nb)), (2, .int v), (1, .ref (u 0)), (0, .ref x)]) (kk : zFin p l e s m args below meth c Q D cI cB cS x a b τ A σ u nb ns h)  : W p l e zRa s m args below meth c H locs 0 0 Q (F0 m 37 ls []) := by
  obtain ⟨hx, hb, hml, hown, hts, hK, hL⟩ := C
  have hnb := hV.1.2.1
  have hns := hV.1.2.2.2.1
  have hh := hV.1.2.2.2.2.2.1
  have hf28 := hts (.fieldLink RL 28 "HotBedsLaw$Bed" "number" "I") (by decide +kernel)
  have hf32 := hts (.fieldLink RL 32 "HotBedsLaw$Bed" "price" "I") (by decide +kernel)
  have hf9 := hts (.fieldLink RL 9 "HotBedsLaw$Sim" "beds" "[LHotBedsLaw$Bed;") (by decide +kernel)
  have hinX4 : ∀ w ∈ u_ws RX4 TX4 6, w ∈ wsL_act := by decide +kernel
  have hinX6 : ∀ w ∈ u_ws RX6 TX6 5, w ∈ wsL_act := by decide +kernel
  have hKi : va_K D vwCl [(cI, .int)] s := hK.sub [0] rfl
  have hPn : ∀ H : Heap, va_P D vwCl [] H := fun _ => zP0
  refine lv_iload_n hx hb dL_act_37 rfl (lv_at hl 1 rfl) ?_
  refine lv_iconst (v := 1) hx hb dL_act_38 (by decide) ?_
  refine zk_add (x := nb) (y := 1) hx hb dL_act_39 ?_
  refine zk_newq (N' := nb + 1) hx hb hown (hts (.classLink RL 25 RX4) (by decide +kernel)) hL.2.2.2.1 hK hP hD hS hA 1 rfl (nI_pos (by omega)) (nI_clamp (by omega)) (by omega) (Nat.le_of_ble_eq_true rfl) (by show 0 + (nb + 1) ≤ 23; omega) dL_act_40 (fun q1 H hP hD hS => ?_)
  have hP : va_P D vwCl ((zw_X cI x a b σ τ ++ zj cB cS u bd sl nb ns σ) ++ [(q1, .inl (cB, nb + 1, .inr (.inr (.inr (.inr (q_cq bd 0))))))]) H := by rw [q_cq_0]; exact hP
  have hD : va_D A ((zw_X cI x a b σ τ ++ zj cB cS u bd sl nb ns σ) ++ [(q1, .inl (cB, nb + 1, .inr (.inr (.inr (.inr (q_cq bd 0))))))]) := by rw [q_cq_0]; exact hD
  refine W.widen (k := 1) (n := 10) (Nat.le_of_ble_eq_true rfl) (by omega) ?_
  refine lv_astore (lv' := [(6, .ref q1), (4, .int (nI ns)), (3, .int (nI nb)), (2, .int v), (1, .ref (u 0)), (0, .ref x)]) hx hb dL_act_43 hl (by decide) rfl (fun ls hl => ?_)
  refine lv_iconst (v := 0) hx hb dL_act_45 (by decide) ?_
  refine lv_istore (lv' := [(7, .int 0), (6, .ref q1), (4, .int (nI ns)), (3, .int (nI nb)), (2, .int v), (1, .ref (u 0)), (0, .ref x)]) hx hb dL_act_46 hl (by decide) rfl (fun ls hl => ?_)
  refine zk_loop (pc := 48) (fun k H locs ls => va_P D vwCl ((zw_X cI x a b σ τ ++ zj cB cS u bd sl nb ns σ) ++ [(q1, .inl (cB, nb + 1, .inr (.inr (.inr (.inr (q_cq bd k))))))]) H ∧ va_D A ((zw_X cI x a b σ τ ++ zj cB cS u bd sl nb ns σ) ++ [(q1, .inl (cB, nb + 1, .inr (.inr (.inr (.inr (q_cq bd k))))))]) ∧ va_S A s.heap H locs ∧ lv_has ls 16 [(7, .int (nI k)), (6, .ref q1), (4, .int (nI ns)), (3, .int (nI nb)), (2, .int v), (1, .ref (u 0)), (0, .ref x)]) nb (fun k hk ih H locs ls hI => ?_) (fun H locs ls hI => ?_) _ _ _ ⟨hP, hD, hS, lv_sub hl [0, 1, 2, 3, 4, 5, 6] rfl⟩
  · obtain ⟨hP, hD, hS, hl⟩ := hI
    refine lv_iload hx hb dL_act_48 (lv_at hl 0 rfl) ?_
    refine lv_iload_n hx hb dL_act_50 rfl (lv_at hl 3 rfl) ?_
    refine lv_icmp_ge (tgt := 72) hx hb dL_act_51 (by decide) (fun c => absurd c (nI_ge hk (by omega))) (fun _ => ?_)
    refine lv_aload hx hb dL_act_54 (lv_at hl 1 rfl) ?_
    refine lv_iload hx hb dL_act_56 (lv_at hl 0 rfl) ?_
    refine lv_aload_n hx hb dL_act_58 rfl (lv_at hl 5 rfl) ?_
    refine va_get (D := D) (ci := 6) (v := .ref (u 1)) (C := RX6) (T := TX6) (N := 5) hx hb hts hinX6 hown hK hP ((zw_X cI x a b σ τ).length + 0) (zx_l (zxr (i := 0) rfl)) rfl 3 (by decide) hf9 (fun _ h9 => h9) rfl dL_act_59 ?_
    refine lv_iload hx hb dL_act_62 (lv_at hl 0 rfl) ?_
    refine zk_ldq hx hb hK hP ((zw_X cI x a b σ τ).length + 1) 1 (zx_l (zxr (i := 1) rfl)) rfl (k := k) hk (by omega) (v := bd k) rfl dL_act_64 ?_
    refine va_astq hx hb hK hP hD hS ((zw_X cI x a b σ τ ++ zj cB cS u bd sl nb ns σ).length + 0) 1 ((zw_X cI x a b σ τ).length + (3 + k)) 4 (zxr (i := 0) rfl) rfl (zx_l (zxr (zjq_B hk))) rfl (vp_in_nI (by omega) (by omega)) dL_act_65 (fun H locs hP hD hS => ?_)
    have hP : va_P D vwCl ((zw_X cI x a b σ τ ++ zj cB cS u bd sl nb ns σ) ++ [(q1, .inl (cB, nb + 1, .inr (.inr (.inr (.inr (va_up (q_cq bd k) (nI k).toNatClampNeg (some (bd k))))))))]) H := by rw [zxs] at hP; exact hP
    have hD : va_D A ((zw_X cI x a b σ τ ++ zj cB cS u bd sl nb ns σ) ++ [(q1, .inl (cB, nb + 1, .inr (.inr (.inr (.inr (va_up (q_cq bd k) (nI k).toNatClampNeg (some (bd k))))))))]) := by rw [zxs] at hD; exact hD
    refine lv_iinc (v := nI (k + 1)) (lv' := [(7, .int (nI (k + 1))), (6, .ref q1), (4, .int (nI ns)), (3, .int (nI nb)), (2, .int v), (1, .ref (u 0)), (0, .ref x)]) hx hb dL_act_66 hl (k := 0) rfl (nI_1 k) (by decide) rfl (fun ls hl => ?_)
    refine lv_goto (tgt := 48) hx hb dL_act_69 (by decide) ?_
    exact ih _ _ _ ⟨by rw [← q_cq_s bd (by omega)]; exact hP, by rw [← q_cq_s bd (by omega)]; exact hD, hS, lv_sub hl [0, 1, 2, 3, 4, 5, 6] rfl⟩
  · obtain ⟨hP, hD, hS, hl⟩ := hI
    refine lv_iload hx hb dL_act_48 (lv_at hl 0 rfl) ?_
    refine lv_iload_n hx hb dL_act_50 rfl (lv_at hl 3 rfl) ?_
    refine lv_icmp_ge (tgt := 72) hx hb dL_act_51 (by decide) (fun _ => ?_) (fun c => absurd (i32_rf _) c)
    refine lv_aload hx hb dL_act_72 (lv_at hl 1 rfl) ?_
    refine lv_iload_n hx hb dL_act_74 rfl (lv_at hl 3 rfl) ?_
    refine va_new (ci := 4) (fs := [.int 0, .int 0, .int 0, .int 0, .null, .int 0]) (C := RX4) (T := TX4) (N := 6) hx hb hts hinX4 tyX4 tyX4_ok hown (hts (.classLink RL 25 RX4) (by decide +kernel)) (hts (.instantiable RX4 6) (by decide +kernel)) (hts (.initialized RX4) (by decide +kernel)) hK hP hD hS hA rfl (fun j hj => by rcases (show j = 0 ∨ j = 1 ∨ j = 2 ∨ j = 3 ∨ j = 4 ∨ j = 5 by omega) with rfl | rfl | rfl | rfl | rfl | rfl <;> rfl) (Nat.le_of_ble_eq_true rfl) (Nat.le_of_ble_eq_true rfl) dL_act_75 (fun q2 H hP hD hS => ?_)
    refine W.widen (k := 2) (n := 23) (Nat.le_of_ble_eq_true rfl) (Nat.le_of_ble_eq_true rfl) ?_
    refine lv_dup hx hb dL_act_78 rfl ?_
    have hF := zfree (zxq_D hD) hS hA
    refine zk_V (va_runIN (host := RL) (As := []) (rest := [.ref q2, .int (nI nb), .ref q1]) ⟨hx, hb, hml, hown, hts⟩ (c_X4_init l D (zT3 cI cB cS) q2 _) ⟨va_cnB 0 hts gL_act_X4_init_n27 rfl rfl rfl (hL.2.2.1 (RL, 27, yX4_init, RL) (by decide +kernel)) (hts (.initialized RX4) (by decide +kernel)) zdX4_init.2 ⟨Nat.le_of_ble_eq_true rfl, Nat.le_of_ble_eq_true rfl⟩, rfl, hts (.instanceMethod yX4_init) (by decide +kernel)⟩ ⟨zblL _, zprL hK (zxq_P hP) (zxq_D hD) hL⟩ rfl rfl hl.1 rfl (lv_room (Nat.le_of_ble_eq_true rfl)) dL_act_79 ⟨Nat.le_of_ble_eq_true rfl, Nat.le_of_ble_eq_true rfl⟩) hS hF (fun H locs hkp hP1 hD1 hS => ?_)
    obtain ⟨hP, hD⟩ := zx_J hP hD hkp hF hP1 hD1
    have hP : va_P D vwCl ((zw_X cI x a b σ τ ++ zj cB cS u bd sl nb ns σ) ++ [(q1, .inl (cB, nb + 1, .inr (.inr (.inr (.inr (q_cq bd nb)))))), (q2, .inr (4, [.int 0, .int 0, .int 0, .int 0, .null, .int 0]))]) H := by rw [List.append_assoc] at hP; exact hP
    have hD : va_D A ((zw_X cI x a b σ τ ++ zj cB cS u bd sl nb ns σ) ++ [(q1, .inl (cB, nb + 1, .inr (.inr (.inr (.inr (q_cq bd nb)))))), (q2, .inr (4, [.int 0, .int 0, .int 0, .int 0, .null, .int 0]))]) := by rw [List.append_assoc] at hD; exact hD
    refine va_astq hx hb hK hP hD hS ((zw_X cI x a b σ τ ++ zj cB cS u bd sl nb ns σ).length + 0) 1 ((zw_X cI x a b σ τ ++ zj cB cS u bd sl nb ns σ).length + 1) 4 (zxr (i := 0) rfl) rfl (zxr (i := 1) rfl) rfl (vp_in_nI (by omega) (by omega)) dL_act_82 (fun H locs hP hD hS => ?_)
    have hP : va_P D vwCl ((zw_X cI x a b σ τ ++ zj cB cS u bd sl nb ns σ) ++ [(q1, .inl (cB, nb + 1, .inr (.inr (.inr (.inr (va_up (q_cq bd nb) (nI nb).toNatClampNeg (some q2))))))), (q2, .inr (4, [.int 0, .int 0, .int 0, .int 0, .null, .int 0]))]) H := by rw [zxs] at hP; exact hP
    have hD : va_D A ((zw_X cI x a b σ τ ++ zj cB cS u bd sl nb ns σ) ++ [(q1, .inl (cB, nb + 1, .inr (.inr (.inr (.inr (va_up (q_cq bd nb) (nI nb).toNatClampNeg (some q2))))))), (q2, .inr (4, [.int 0, .int 0, .int 0, .int 0, .null, .int 0]))]) := by rw [zxs] at hD; exact hD
    have hq := q_cq_n bd (k := nb) (by omega) q2
    refine lv_aload hx hb dL_act_83 (lv_at hl 1 rfl) ?_
    refine lv_iload_n hx hb dL_act_85 rfl (lv_at hl 3 rfl) ?_
    refine zk_ldq hx hb hK hP ((zw_X cI x a b σ τ ++ zj cB cS u bd sl nb ns σ).length + 0) 1 (zxr (i := 0) rfl) rfl (k := nb) (by omega) (by omega) (v := q2) hq.2 dL_act_86 ?_
    refine lv_iload_n hx hb dL_act_87 rfl (lv_at hl 3 rfl) ?_
    refine va_put (D := D) (ci := 4) (v := .int (nI nb)) (ty := .int) (C := RX4) (T := TX4) (N := 6) hx hb hts hinX4 tyX4 tyX4_ok nmX4 hown hK hP hD hS ((zw_X cI x a b σ τ ++ zj cB cS u bd sl nb ns σ).length + 1) (zxr (i := 1) rfl) rfl 5 (by decide) hf28 (fun _ h9 => h9)  rfl (by decide +kernel) rfl rfl (Nat.le_of_ble_eq_true rfl) dL_act_88 (fun H locs hP hD hS => ?_)
    have hP : va_P D vwCl ((zw_X cI x a b σ τ ++ zj cB cS u bd sl nb ns σ) ++ [(q1, .inl (cB, nb + 1, .inr (.inr (.inr (.inr (va_up (q_cq bd nb) (nI nb).toNatClampNeg (some q2))))))), (q2, .inr (4, [.int 0, .int 0, .int 0, .int 0, .null, .int (nI nb)]))]) H := by rw [zxs] at hP; exact hP
    have hD : va_D A ((zw_X cI x a b σ τ ++ zj cB cS u bd sl nb ns σ) ++ [(q1, .inl (cB, nb + 1, .inr (.inr (.inr (.inr (va_up (q_cq bd nb) (nI nb).toNatClampNeg (some q2))))))), (q2, .inr (4, [.int 0, .int 0, .int 0, .int 0, .null, .int (nI nb)]))]) := by rw [zxs] at hD; exact hD
    refine lv_aload hx hb dL_act_91 (lv_at hl 1 rfl) ?_
    refine lv_iload_n hx hb dL_act_93 rfl (lv_at hl 3 rfl) ?_
    refine zk_ldq hx hb hK hP ((zw_X cI x a b σ τ ++ zj cB cS u bd sl nb ns σ).length + 0) 1 (zxr (i := 0) rfl) rfl (k := nb) (by omega) (by omega) (v := q2) hq.2 dL_act_94 ?_
    refine lv_iload_n hx hb dL_act_95 rfl (lv_at hl 4 rfl) ?_
    refine lv_iconst (v := 1) hx hb dL_act_96 (by decide) ?_
    refine lv_ishr hx hb dL_act_97 ?_
    refine lv_iload_n hx hb dL_act_98 rfl (lv_at hl 4 rfl) ?_
    refine lv_iconst (v := 2) hx hb dL_act_99 (by decide) ?_
    refine zk_R (D := D) (va_runS (As := [.int v, .int (nI 2)]) (rest := [.int (v >>> (1 &&& 31)), .ref q2]) ⟨hx, hb, hml, hown, hts⟩ (c_L_below l D (zT3 cI cB cS) v (N := 2) (by decide) (by decide) _) (va_cwS 2 hts gL_act_L_below rfl rfl rfl zdL_below.2 ⟨Nat.le_of_ble_eq_true rfl, Nat.le_of_ble_eq_true rfl⟩) ⟨zbl _, zpr hK zP0 (A := fun _ => True) zD0⟩ rfl rfl hl.1 rfl (lv_room (Nat.le_of_ble_eq_true rfl)) dL_act_100 ⟨Nat.le_of_ble_eq_true rfl, Nat.le_of_ble_eq_true rfl⟩) hS (fun r H locs hw hkp hS => ?_)
    have hP := hkp _ hP
    have hw : r = nI (q_bel v 2) := hw
    subst hw
    have hlt_q_3 : q_bel v 2 < 2 := q_bel_lt _ (by decide)
    refine lv_if_ne (tgt := 111) hx hb dL_act_103 (by decide) (fun c_4 => ?_) (fun c_4 => ?_)
    · refine lv_iconst (v := 4) hx hb dL_act_111 (by decide) ?_
      refine zk_R (D := D) (va_runS (As := [.int (v >>> (1 &&& 31)), .int (nI 4)]) (rest := [.ref q2]) ⟨hx, hb, hml, hown, hts⟩ (c_L_below l D (zT3 cI cB cS) (v >>> (1 &&& 31)) (N := 4) (by decide) (by decide) _) (va_cwS 2 hts gL_act_L_below rfl rfl rfl zdL_below.2 ⟨Nat.le_of_ble_eq_true rfl, Nat.le_of_ble_eq_true rfl⟩) ⟨zbl _, zpr hK zP0 (A := fun _ => True) zD0⟩ rfl rfl hl.1 rfl (lv_room (Nat.le_of_ble_eq_true rfl)) dL_act_112 ⟨Nat.le_of_ble_eq_true rfl, Nat.le_of_ble_eq_true rfl⟩) hS (fun r H locs hw hkp hS => ?_)
      have hP := hkp _ hP
      have hw : r = nI (q_bel (v >>> (1 &&& 31)) 4) := hw
      subst hw
      have hlt_q_5 : q_bel (v >>> (1 &&& 31)) 4 < 4 := q_bel_lt _ (by decide)
      refine va_put (D := D) (ci := 4) (v := .int (nI (q_bel (v >>> (1 &&& 31)) 4))) (ty := .int) (C := RX4) (T := TX4) (N := 6) hx hb hts hinX4 tyX4 tyX4_ok nmX4 hown hK hP hD hS ((zw_X cI x a b σ τ ++ zj cB cS u bd sl nb ns σ).length + 1) (zxr (i := 1) rfl) rfl 0 (by decide) hf32 (fun _ h9 => h9)  rfl (by decide +kernel) rfl rfl (Nat.le_of_ble_eq_true rfl) dL_act_115 (fun H locs hP hD hS => ?_)
      have hP : va_P D vwCl ((zw_X cI x a b σ τ ++ zj cB cS u bd sl nb ns σ) ++ [(q1, .inl (cB, nb + 1, .inr (.inr (.inr (.inr (va_up (q_cq bd nb) (nI nb).toNatClampNeg (some q2))))))), (q2, .inr (4, [.int (nI (q_bel (v >>> (1 &&& 31)) 4)), .int 0, .int 0, .int 0, .null, .int (nI nb)]))]) H := by rw [zxs] at hP; exact hP
      have hD : va_D A ((zw_X cI x a b σ τ ++ zj cB cS u bd sl nb ns σ) ++ [(q1, .inl (cB, nb + 1, .inr (.inr (.inr (.inr (va_up (q_cq bd nb) (nI nb).toNatClampNeg (some q2))))))), (q2, .inr (4, [.int (nI (q_bel (v >>> (1 &&& 31)) 4)), .int 0, .int 0, .int 0, .null, .int (nI nb)]))]) := by rw [zxs] at hD; exact hD
      refine lv_aload_n hx hb dL_act_118 rfl (lv_at hl 5 rfl) ?_
      refine lv_aload hx hb dL_act_119 (lv_at hl 1 rfl) ?_
      refine va_put (D := D) (ci := 6) (v := .ref q1) (ty := .array (.object "HotBedsLaw$Bed")) (C := RX6) (T := TX6) (N := 5) hx hb hts hinX6 tyX6 tyX6_ok nmX6 hown hK hP hD hS ((zw_X cI x a b σ τ).length + 0) (zx_l (zxr (i := 0) rfl)) rfl 3 (by decide) hf9 (fun _ h9 => h9)  rfl (by decide +kernel) rfl rfl (Nat.le_of_ble_eq_true rfl) dL_act_121 (fun H locs hP hD hS => ?_)
      have hP : va_P D vwCl ((zw_X cI x a b σ τ ++ ((u 0, .inr (6, [.int (σ 0 0), .int (σ 0 1), .int (σ 0 2), .ref q1, .ref (u 2)])) :: (u 1, .inl (cB, nb, .inr (.inr (.inr (.inr (zjA bd)))))) :: (u 2, .inl (cS, ns, .inr (.inr (.inr (.inr (zjA sl)))))) :: ((List.range nb).map (fun k => (bd k, zjB sl σ k)) ++ (List.range ns).map (fun k => (sl k, zjS bd σ k))))) ++ [(q1, .inl (cB, nb + 1, .inr (.inr (.inr (.inr (va_up (q_cq bd nb) (nI nb).toNatClampNeg (some q2))))))), (q2, .inr (4, [.int (nI (q_bel (v >>> (1 &&& 31)) 4)), .int 0, .int 0, .int 0, .null, .int (nI nb)]))]) H := by rw [zxs2 (Nat.succ_pos _)] at hP; exact hP
      have hD : va_D A ((zw_X cI x a b σ τ ++ ((u 0, .inr (6, [.int (σ 0 0), .int (σ 0 1), .int (σ 0 2), .ref q1, .ref (u 2)])) :: (u 1, .inl (cB, nb, .inr (.inr (.inr (.inr (zjA bd)))))) :: (u 2, .inl (cS, ns, .inr (.inr (.inr (.inr (zjA sl)))))) :: ((List.range nb).map (fun k => (bd k, zjB sl σ k)) ++ (List.range ns).map (fun k => (sl k, zjS bd σ k))))) ++ [(q1, .inl (cB, nb + 1, .inr (.inr (.inr (.inr (va_up (q_cq bd nb) (nI nb).toNatClampNeg (some q2))))))), (q2, .inr (4, [.int (nI (q_bel (v >>> (1 &&& 31)) 4)), .int 0, .int 0, .int 0, .null, .int (nI nb)]))]) := by rw [zxs2 (Nat.succ_pos _)] at hD; exact hD
      refine lv_aload_n hx hb dL_act_124 rfl (lv_at hl 6 rfl) ?_
      refine lv_aload hx hb dL_act_125 (lv_at hl 1 rfl) ?_
      refine lv_iload_n hx hb dL_act_127 rfl (lv_at hl 3 rfl) ?_
      refine zk_ldq hx hb hK hP ((zw_X cI x a b σ τ ++ ((u 0, .inr (6, [.int (σ 0 0), .int (σ 0 1), .int (σ 0 2), .ref q1, .ref (u 2)])) :: (u 1, .inl (cB, nb, .inr (.inr (.inr (.inr (zjA bd)))))) :: (u 2, .inl (cS, ns, .inr (.inr (.inr (.inr (zjA sl)))))) :: ((List.range nb).map (fun k => (bd k, zjB sl σ k)) ++ (List.range ns).map (fun k => (sl k, zjS bd σ k))))).length + 0) 1 (zxr (i := 0) rfl) rfl (k := nb) (by omega) (by omega) (v := q2) hq.2 dL_act_128 ?_
      refine va_get (D := D) (ci := 4) (v := .int (nI (q_bel (v >>> (1 &&& 31)) 4))) (C := RX4) (T := TX4) (N := 6) hx hb hts hinX4 hown hK hP ((zw_X cI x a b σ τ ++ ((u 0, .inr (6, [.int (σ 0 0), .int (σ 0 1), .int (σ 0 2), .ref q1, .ref (u 2)])) :: (u 1, .inl (cB, nb, .inr (.inr (.inr (.inr (zjA bd)))))) :: (u 2, .inl (cS, ns, .inr (.inr (.inr (.inr (zjA sl)))))) :: ((List.range nb).map (fun k => (bd k, zjB sl σ k)) ++ (List.range ns).map (fun k => (sl k, zjS bd σ k))))).length + 1) (zxr (i := 1) rfl) rfl 0 (by decide) hf32 (fun _ h9 => h9) rfl dL_act_129 ?_
      obtain ⟨hP, hD⟩ := zj_addB hV (nI (q_bel (v >>> (1 &&& 31)) 4)) hq.1 hq.2 hP hD
      have hF := zfree (zxd_D hD) hS hA
      refine zk_I (va_runV (As := [.int (nI (q_bel (v >>> (1 &&& 31)) 4))]) (rest := []) ⟨hx, hb, hml, hown, hts⟩ (c_X3_bed l D cI x a b σ τ (nI (q_bel (v >>> (1 &&& 31)) 4)) hV.1 (nI_pos (by have := q_bel_lt (v >>> (1 &&& 31)) (N := 4) (by decide); omega)) (nI_le (b := 9) (by have := q_bel_lt (v >>> (1 &&& 31)) (N := 4) (by decide); omega) (by decide)) hn6 _) (cwV 1 hts gL_act_X3_bed rfl rfl rfl zdX3_bed ⟨Nat.le_of_ble_eq_true rfl, Nat.le_of_ble_eq_true rfl⟩) ⟨zbl _, va_recv hKi (zxd_P hP) (ci := 3) (q0 := 0) rfl rfl, zpr hKi (zxd_P hP) (zxd_D hD)⟩ rfl rfl hl.1 rfl (lv_room (Nat.le_of_ble_eq_true rfl)) dL_act_132 ⟨Nat.le_of_ble_eq_true rfl, Nat.le_of_ble_eq_true rfl⟩) hS hF (fun r H locs hw hkp hP1 hD1 hS => ?_)
      obtain ⟨hP, hD⟩ := zx_JL hP hD hkp hF hP1 hD1
      have hw : r = nI nb := hw
      subst hw
      refine lv_iload_n hx hb dL_act_135 rfl (lv_at hl 3 rfl) ?_
      refine lv_icmp_ne (tgt := 143) hx hb dL_act_136 (by decide) (fun c => absurd (rfl) c) (fun _ => ?_)
      refine lv_iconst (v := 1) hx hb dL_act_139 (by decide) ?_
      refine lv_goto (tgt := 144) hx hb dL_act_140 (by decide) ?_
      exact kk (f_addB σ nb (nI (q_bel (v >>> (1 &&& 31)) 4)), va_up u 1 q1, va_up bd nb q2, sl, nb + 1, ns, h) _ _ _ _ dL_act_144 ⟨rfl, hV.addB (zle.of (by have := q_bel_lt (v >>> (1 &&& 31)) (N := 4) (by decide); omega)) hn6, Nat.le_add_right _ _, Nat.le_refl _, mo_addB _ _ _⟩ hP hD hS
    · refine lv_bipush (v := 10) hx hb dL_act_106 (by decide) ?_
      refine lv_goto (tgt := 112) hx hb dL_act_108 (by decide) ?_
      refine zk_R (D := D) (va_runS (As := [.int (v >>> (1 &&& 31)), .int (nI 10)]) (rest := [.ref q2]) ⟨hx, hb, hml, hown, hts⟩ (c_L_below l D (zT3 cI cB cS) (v >>> (1 &&& 31)) (N := 10) (by decide) (by decide) _) (va_cwS 2 hts gL_act_L_below rfl rfl rfl zdL_below.2 ⟨Nat.le_of_ble_eq_true rfl, Nat.le_of_ble_eq_true rfl⟩) ⟨zbl _, zpr hK zP0 (A := fun _ => True) zD0⟩ rfl rfl hl.1 rfl (lv_room (Nat.le_of_ble_eq_true rfl)) dL_act_112 ⟨Nat.le_of_ble_eq_true rfl, Nat.le_of_ble_eq_true rfl⟩) hS (fun r H locs hw hkp hS => ?_)
      have hP := hkp _ hP
      have hw : r = nI (q_bel (v >>> (1 &&& 31)) 10) := hw
      subst hw
      have hlt_q_7 : q_bel (v >>> (1 &&& 31)) 10 < 10 := q_bel_lt _ (by decide)
      refine va_put (D := D) (ci := 4) (v := .int (nI (q_bel (v >>> (1 &&& 31)) 10))) (ty := .int) (C := RX4) (T := TX4) (N := 6) hx hb hts hinX4 tyX4 tyX4_ok nmX4 hown hK hP hD hS ((zw_X cI x a b σ τ ++ zj cB cS u bd sl nb ns σ).length + 1) (zxr (i := 1) rfl) rfl 0 (by decide) hf32 (fun _ h9 => h9)  rfl (by decide +kernel) rfl rfl (Nat.le_of_ble_eq_true rfl) dL_act_115 (fun H locs hP hD hS => ?_)
      have hP : va_P D vwCl ((zw_X cI x a b σ τ ++ zj cB cS u bd sl nb ns σ) ++ [(q1, .inl (cB, nb + 1, .inr (.inr (.inr (.inr (va_up (q_cq bd nb) (nI nb).toNatClampNeg (some q2))))))), (q2, .inr (4, [.int (nI (q_bel (v >>> (1 &&& 31)) 10)), .int 0, .int 0, .int 0, .null, .int (nI nb)]))]) H := by rw [zxs] at hP; exact hP
      have hD : va_D A ((zw_X cI x a b σ τ ++ zj cB cS u bd sl nb ns σ) ++ [(q1, .inl (cB, nb + 1, .inr (.inr (.inr (.inr (va_up (q_cq bd nb) (nI nb).toNatClampNeg (some q2))))))), (q2, .inr (4, [.int (nI (q_bel (v >>> (1 &&& 31)) 10)), .int 0, .int 0, .int 0, .null, .int (nI nb)]))]) := by rw [zxs] at hD; exact hD
      refine lv_aload_n hx hb dL_act_118 rfl (lv_at hl 5 rfl) ?_
      refine lv_aload hx hb dL_act_119 (lv_at hl 1 rfl) ?_
      refine va_put (D := D) (ci := 6) (v := .ref q1) (ty := .array (.object "HotBedsLaw$Bed")) (C := RX6) (T := TX6) (N := 5) hx hb hts hinX6 tyX6 tyX6_ok nmX6 hown hK hP hD hS ((zw_X cI x a b σ τ).length + 0) (zx_l (zxr (i := 0) rfl)) rfl 3 (by decide) hf9 (fun _ h9 => h9)  rfl (by decide +kernel) rfl rfl (Nat.le_of_ble_eq_true rfl) dL_act_121 (fun H locs hP hD hS => ?_)
      have hP : va_P D vwCl ((zw_X cI x a b σ τ ++ ((u 0, .inr (6, [.int (σ 0 0), .int (σ 0 1), .int (σ 0 2), .ref q1, .ref (u 2)])) :: (u 1, .inl (cB, nb, .inr (.inr (.inr (.inr (zjA bd)))))) :: (u 2, .inl (cS, ns, .inr (.inr (.inr (.inr (zjA sl)))))) :: ((List.range nb).map (fun k => (bd k, zjB sl σ k)) ++ (List.range ns).map (fun k => (sl k, zjS bd σ k))))) ++ [(q1, .inl (cB, nb + 1, .inr (.inr (.inr (.inr (va_up (q_cq bd nb) (nI nb).toNatClampNeg (some q2))))))), (q2, .inr (4, [.int (nI (q_bel (v >>> (1 &&& 31)) 10)), .int 0, .int 0, .int 0, .null, .int (nI nb)]))]) H := by rw [zxs2 (Nat.succ_pos _)] at hP; exact hP
      have hD : va_D A ((zw_X cI x a b σ τ ++ ((u 0, .inr (6, [.int (σ 0 0), .int (σ 0 1), .int (σ 0 2), .ref q1, .ref (u 2)])) :: (u 1, .inl (cB, nb, .inr (.inr (.inr (.inr (zjA bd)))))) :: (u 2, .inl (cS, ns, .inr (.inr (.inr (.inr (zjA sl)))))) :: ((List.range nb).map (fun k => (bd k, zjB sl σ k)) ++ (List.range ns).map (fun k => (sl k, zjS bd σ k))))) ++ [(q1, .inl (cB, nb + 1, .inr (.inr (.inr (.inr (va_up (q_cq bd nb) (nI nb).toNatClampNeg (some q2))))))), (q2, .inr (4, [.int (nI (q_bel (v >>> (1 &&& 31)) 10)), .int 0, .int 0, .int 0, .null, .int (nI nb)]))]) := by rw [zxs2 (Nat.succ_pos _)] at hD; exact hD
      refine lv_aload_n hx hb dL_act_124 rfl (lv_at hl 6 rfl) ?_
      refine lv_aload hx hb dL_act_125 (lv_at hl 1 rfl) ?_
      refine lv_iload_n hx hb dL_act_127 rfl (lv_at hl 3 rfl) ?_
      refine zk_ldq hx hb hK hP ((zw_X cI x a b σ τ ++ ((u 0, .inr (6, [.int (σ 0 0), .int (σ 0 1), .int (σ 0 2), .ref q1, .ref (u 2)])) :: (u 1, .inl (cB, nb, .inr (.inr (.inr (.inr (zjA bd)))))) :: (u 2, .inl (cS, ns, .inr (.inr (.inr (.inr (zjA sl)))))) :: ((List.range nb).map (fun k => (bd k, zjB sl σ k)) ++ (List.range ns).map (fun k => (sl k, zjS bd σ k))))).length + 0) 1 (zxr (i := 0) rfl) rfl (k := nb) (by omega) (by omega) (v := q2) hq.2 dL_act_128 ?_
      refine va_get (D := D) (ci := 4) (v := .int (nI (q_bel (v >>> (1 &&& 31)) 10))) (C := RX4) (T := TX4) (N := 6) hx hb hts hinX4 hown hK hP ((zw_X cI x a b σ τ ++ ((u 0, .inr (6, [.int (σ 0 0), .int (σ 0 1), .int (σ 0 2), .ref q1, .ref (u 2)])) :: (u 1, .inl (cB, nb, .inr (.inr (.inr (.inr (zjA bd)))))) :: (u 2, .inl (cS, ns, .inr (.inr (.inr (.inr (zjA sl)))))) :: ((List.range nb).map (fun k => (bd k, zjB sl σ k)) ++ (List.range ns).map (fun k => (sl k, zjS bd σ k))))).length + 1) (zxr (i := 1) rfl) rfl 0 (by decide) hf32 (fun _ h9 => h9) rfl dL_act_129 ?_
      obtain ⟨hP, hD⟩ := zj_addB hV (nI (q_bel (v >>> (1 &&& 31)) 10)) hq.1 hq.2 hP hD
      have hF := zfree (zxd_D hD) hS hA
      refine zk_I (va_runV (As := [.int (nI (q_bel (v >>> (1 &&& 31)) 10))]) (rest := []) ⟨hx, hb, hml, hown, hts⟩ (c_X3_bed l D cI x a b σ τ (nI (q_bel (v >>> (1 &&& 31)) 10)) hV.1 (nI_pos (by have := q_bel_lt (v >>> (1 &&& 31)) (N := 10) (by decide); omega)) (nI_le (b := 9) (by have := q_bel_lt (v >>> (1 &&& 31)) (N := 10) (by decide); omega) (by decide)) hn6 _) (cwV 1 hts gL_act_X3_bed rfl rfl rfl zdX3_bed ⟨Nat.le_of_ble_eq_true rfl, Nat.le_of_ble_eq_true rfl⟩) ⟨zbl _, va_recv hKi (zxd_P hP) (ci := 3) (q0 := 0) rfl rfl, zpr hKi (zxd_P hP) (zxd_D hD)⟩ rfl rfl hl.1 rfl (lv_room (Nat.le_of_ble_eq_true rfl)) dL_act_132 ⟨Nat.le_of_ble_eq_true rfl, Nat.le_of_ble_eq_true rfl⟩) hS hF (fun r H locs hw hkp hP1 hD1 hS => ?_)
      obtain ⟨hP, hD⟩ := zx_JL hP hD hkp hF hP1 hD1
      have hw : r = nI nb := hw
      subst hw
      refine lv_iload_n hx hb dL_act_135 rfl (lv_at hl 3 rfl) ?_
      refine lv_icmp_ne (tgt := 143) hx hb dL_act_136 (by decide) (fun c => absurd (rfl) c) (fun _ => ?_)
      refine lv_iconst (v := 1) hx hb dL_act_139 (by decide) ?_
      refine lv_goto (tgt := 144) hx hb dL_act_140 (by decide) ?_
      exact kk (f_addB σ nb (nI (q_bel (v >>> (1 &&& 31)) 10)), va_up u 1 q1, va_up bd nb q2, sl, nb + 1, ns, h) _ _ _ _ dL_act_144 ⟨rfl, hV.addB (zle.of (by have := q_bel_lt (v >>> (1 &&& 31)) (N := 10) (by decide); omega)) hn6, Nat.le_add_right _ _, Nat.le_refl _, mo_addB _ _ _⟩ hP hD hS
set_option maxHeartbeats 4000000 in
set_option maxRecDepth 100000 in
theorem a_sailN {p : Program} {l : Launch} {e : Env} {s : State} {m : MethodId} {args : Array Value} {below : List Frame} {meth : Method} {c : Code} {Q : State → Prop} {D : va_G} {cI cB cS : ClassId} {x : Nat} {a b u bd sl : Nat → Nat} {A : Nat → Prop} {σ τ : zS} {H : Heap} {locs : List Loc} {ls : Array Slot} (C : zAa p s m args meth c D cI cB cS) (hA : ∀ q : Nat, s.heap.size ≤ q → A q) {nb ns h : Nat} {v : Int32} (hV : zG σ nb ns h) (hn10 : ns < 10) (hP : va_P D vwCl (zw_X cI x a b σ τ ++ zj cB cS u bd sl nb ns σ) H) (hD : va_D A (zw_X cI x a b σ τ ++ zj cB cS u bd sl nb ns σ)) (hS : va_S A s.heap H locs) (hl : lv_has ls 16 [(4, .int (nI ns)), (3, .int (nI nb)), (2, .int v), (1, .ref (u 0)), (0, .ref x)]) (kk : zFin p l e s m args below meth c Q D cI cB cS x a b τ A σ u nb ns h)  : W p l e zRa s m args below meth c H locs 0 0 Q (F0 m 165 ls []) := by
  obtain ⟨hx, hb, hml, hown, hts, hK, hL⟩ := C
  have hnb := hV.1.2.1
  have hns := hV.1.2.2.2.1
  have hh := hV.1.2.2.2.2.2.1
  have hf15 := hts (.fieldLink RL 15 "HotBedsLaw$Sim" "sailors" "[LHotBedsLaw$Sailor;") (by decide +kernel)
  have hf44 := hts (.fieldLink RL 44 "HotBedsLaw$Sailor" "number" "I") (by decide +kernel)
  have hf45 := hts (.fieldLink RL 45 "HotBedsLaw$Sailor" "watch" "I") (by decide +kernel)
  have hf48 := hts (.fieldLink RL 48 "HotBedsLaw$Sailor" "heavy" "I") (by decide +kernel)
  have hf51 := hts (.fieldLink RL 51 "HotBedsLaw$Sailor" "wage" "I") (by decide +kernel)
  have hf54 := hts (.fieldLink RL 54 "HotBedsLaw$Sailor" "purse" "I") (by decide +kernel)
  have hinX5 : ∀ w ∈ u_ws RX5 TX5 13, w ∈ wsL_act := by decide +kernel
  have hinX6 : ∀ w ∈ u_ws RX6 TX6 5, w ∈ wsL_act := by decide +kernel
  have hKi : va_K D vwCl [(cI, .int)] s := hK.sub [0] rfl
  have hPn : ∀ H : Heap, va_P D vwCl [] H := fun _ => zP0
  refine lv_iload hx hb dL_act_165 (lv_at hl 0 rfl) ?_
  refine lv_iconst (v := 1) hx hb dL_act_167 (by decide) ?_
  refine zk_add (x := ns) (y := 1) hx hb dL_act_168 ?_
  refine zk_newq (N' := ns + 1) hx hb hown (hts (.classLink RL 41 RX5) (by decide +kernel)) hL.2.2.2.2 hK hP hD hS hA 2 rfl (nI_pos (by omega)) (nI_clamp (by omega)) (by omega) (Nat.le_of_ble_eq_true rfl) (by show 0 + (ns + 1) ≤ 23; omega) dL_act_169 (fun q1 H hP hD hS => ?_)
  have hP : va_P D vwCl ((zw_X cI x a b σ τ ++ zj cB cS u bd sl nb ns σ) ++ [(q1, .inl (cS, ns + 1, .inr (.inr (.inr (.inr (q_cq sl 0))))))]) H := by rw [q_cq_0]; exact hP
  have hD : va_D A ((zw_X cI x a b σ τ ++ zj cB cS u bd sl nb ns σ) ++ [(q1, .inl (cS, ns + 1, .inr (.inr (.inr (.inr (q_cq sl 0))))))]) := by rw [q_cq_0]; exact hD
  refine W.widen (k := 1) (n := 10) (Nat.le_of_ble_eq_true rfl) (by omega) ?_
  refine lv_astore (lv' := [(6, .ref q1), (4, .int (nI ns)), (3, .int (nI nb)), (2, .int v), (1, .ref (u 0)), (0, .ref x)]) hx hb dL_act_172 hl (by decide) rfl (fun ls hl => ?_)
  refine lv_iconst (v := 0) hx hb dL_act_174 (by decide) ?_
  refine lv_istore (lv' := [(7, .int 0), (6, .ref q1), (4, .int (nI ns)), (3, .int (nI nb)), (2, .int v), (1, .ref (u 0)), (0, .ref x)]) hx hb dL_act_175 hl (by decide) rfl (fun ls hl => ?_)
  refine zk_loop (pc := 177) (fun k H locs ls => va_P D vwCl ((zw_X cI x a b σ τ ++ zj cB cS u bd sl nb ns σ) ++ [(q1, .inl (cS, ns + 1, .inr (.inr (.inr (.inr (q_cq sl k))))))]) H ∧ va_D A ((zw_X cI x a b σ τ ++ zj cB cS u bd sl nb ns σ) ++ [(q1, .inl (cS, ns + 1, .inr (.inr (.inr (.inr (q_cq sl k))))))]) ∧ va_S A s.heap H locs ∧ lv_has ls 16 [(7, .int (nI k)), (6, .ref q1), (4, .int (nI ns)), (3, .int (nI nb)), (2, .int v), (1, .ref (u 0)), (0, .ref x)]) ns (fun k hk ih H locs ls hI => ?_) (fun H locs ls hI => ?_) _ _ _ ⟨hP, hD, hS, lv_sub hl [0, 1, 2, 3, 4, 5, 6] rfl⟩
  · obtain ⟨hP, hD, hS, hl⟩ := hI
    refine lv_iload hx hb dL_act_177 (lv_at hl 0 rfl) ?_
    refine lv_iload hx hb dL_act_179 (lv_at hl 2 rfl) ?_
    refine lv_icmp_ge (tgt := 202) hx hb dL_act_181 (by decide) (fun c => absurd c (nI_ge hk (by omega))) (fun _ => ?_)
    refine lv_aload hx hb dL_act_184 (lv_at hl 1 rfl) ?_
    refine lv_iload hx hb dL_act_186 (lv_at hl 0 rfl) ?_
    refine lv_aload_n hx hb dL_act_188 rfl (lv_at hl 5 rfl) ?_
    refine va_get (D := D) (ci := 6) (v := .ref (u 2)) (C := RX6) (T := TX6) (N := 5) hx hb hts hinX6 hown hK hP ((zw_X cI x a b σ τ).length + 0) (zx_l (zxr (i := 0) rfl)) rfl 4 (by decide) hf15 (fun _ h9 => h9) rfl dL_act_189 ?_
    refine lv_iload hx hb dL_act_192 (lv_at hl 0 rfl) ?_
    refine zk_ldq hx hb hK hP ((zw_X cI x a b σ τ).length + 2) 2 (zx_l (zxr (i := 2) rfl)) rfl (k := k) hk (by omega) (v := sl k) rfl dL_act_194 ?_
    refine va_astq hx hb hK hP hD hS ((zw_X cI x a b σ τ ++ zj cB cS u bd sl nb ns σ).length + 0) 2 ((zw_X cI x a b σ τ).length + (3 + nb + k)) 5 (zxr (i := 0) rfl) rfl (zx_l (zxr (zjq_S hk))) rfl (vp_in_nI (by omega) (by omega)) dL_act_195 (fun H locs hP hD hS => ?_)
    have hP : va_P D vwCl ((zw_X cI x a b σ τ ++ zj cB cS u bd sl nb ns σ) ++ [(q1, .inl (cS, ns + 1, .inr (.inr (.inr (.inr (va_up (q_cq sl k) (nI k).toNatClampNeg (some (sl k))))))))]) H := by rw [zxs] at hP; exact hP
    have hD : va_D A ((zw_X cI x a b σ τ ++ zj cB cS u bd sl nb ns σ) ++ [(q1, .inl (cS, ns + 1, .inr (.inr (.inr (.inr (va_up (q_cq sl k) (nI k).toNatClampNeg (some (sl k))))))))]) := by rw [zxs] at hD; exact hD
    refine lv_iinc (v := nI (k + 1)) (lv' := [(7, .int (nI (k + 1))), (6, .ref q1), (4, .int (nI ns)), (3, .int (nI nb)), (2, .int v), (1, .ref (u 0)), (0, .ref x)]) hx hb dL_act_196 hl (k := 0) rfl (nI_1 k) (by decide) rfl (fun ls hl => ?_)
    refine lv_goto (tgt := 177) hx hb dL_act_199 (by decide) ?_
    exact ih _ _ _ ⟨by rw [← q_cq_s sl (by omega)]; exact hP, by rw [← q_cq_s sl (by omega)]; exact hD, hS, lv_sub hl [0, 1, 2, 3, 4, 5, 6] rfl⟩
  · obtain ⟨hP, hD, hS, hl⟩ := hI
    refine lv_iload hx hb dL_act_177 (lv_at hl 0 rfl) ?_
    refine lv_iload hx hb dL_act_179 (lv_at hl 2 rfl) ?_
    refine lv_icmp_ge (tgt := 202) hx hb dL_act_181 (by decide) (fun _ => ?_) (fun c => absurd (i32_rf _) c)
    refine va_new (ci := 5) (fs := [.int 0, .int 0, .int 0, .int 0, .int 0, .int 0, .null, .null, .int 0, .int 0, .int 0, .int 0, .int 0]) (C := RX5) (T := TX5) (N := 13) hx hb hts hinX5 tyX5 tyX5_ok hown (hts (.classLink RL 41 RX5) (by decide +kernel)) (hts (.instantiable RX5 13) (by decide +kernel)) (hts (.initialized RX5) (by decide +kernel)) hK hP hD hS hA rfl (fun j hj => by rcases (show j = 0 ∨ j = 1 ∨ j = 2 ∨ j = 3 ∨ j = 4 ∨ j = 5 ∨ j = 6 ∨ j = 7 ∨ j = 8 ∨ j = 9 ∨ j = 10 ∨ j = 11 ∨ j = 12 by omega) with rfl | rfl | rfl | rfl | rfl | rfl | rfl | rfl | rfl | rfl | rfl | rfl | rfl <;> rfl) (Nat.le_of_ble_eq_true rfl) (Nat.le_of_ble_eq_true rfl) dL_act_202 (fun q2 H hP hD hS => ?_)
    refine W.widen (k := 2) (n := 23) (Nat.le_of_ble_eq_true rfl) (Nat.le_of_ble_eq_true rfl) ?_
    refine lv_dup hx hb dL_act_205 rfl ?_
    have hF := zfree (zxq_D hD) hS hA
    refine zk_V (va_runIN (host := RL) (As := []) (rest := [.ref q2]) ⟨hx, hb, hml, hown, hts⟩ (c_X5_init l D (zT3 cI cB cS) q2 _) ⟨va_cnB 0 hts gL_act_X5_init_n43 rfl rfl rfl (hL.2.2.1 (RL, 43, yX5_init, RL) (by decide +kernel)) (hts (.initialized RX5) (by decide +kernel)) zdX5_init.2 ⟨Nat.le_of_ble_eq_true rfl, Nat.le_of_ble_eq_true rfl⟩, rfl, hts (.instanceMethod yX5_init) (by decide +kernel)⟩ ⟨zblL _, zprL hK (zxq_P hP) (zxq_D hD) hL⟩ rfl rfl hl.1 rfl (lv_room (Nat.le_of_ble_eq_true rfl)) dL_act_206 ⟨Nat.le_of_ble_eq_true rfl, Nat.le_of_ble_eq_true rfl⟩) hS hF (fun H locs hkp hP1 hD1 hS => ?_)
    obtain ⟨hP, hD⟩ := zx_J hP hD hkp hF hP1 hD1
    have hP : va_P D vwCl ((zw_X cI x a b σ τ ++ zj cB cS u bd sl nb ns σ) ++ [(q1, .inl (cS, ns + 1, .inr (.inr (.inr (.inr (q_cq sl ns)))))), (q2, .inr (5, [.int 0, .int 0, .int 0, .int 0, .int 0, .int 1, .null, .null, .int 0, .int 0, .int 0, .int 0, .int 0]))]) H := by rw [List.append_assoc] at hP; exact hP
    have hD : va_D A ((zw_X cI x a b σ τ ++ zj cB cS u bd sl nb ns σ) ++ [(q1, .inl (cS, ns + 1, .inr (.inr (.inr (.inr (q_cq sl ns)))))), (q2, .inr (5, [.int 0, .int 0, .int 0, .int 0, .int 0, .int 1, .null, .null, .int 0, .int 0, .int 0, .int 0, .int 0]))]) := by rw [List.append_assoc] at hD; exact hD
    refine lv_astore (lv' := [(7, .ref q2), (6, .ref q1), (4, .int (nI ns)), (3, .int (nI nb)), (2, .int v), (1, .ref (u 0)), (0, .ref x)]) hx hb dL_act_209 hl (by decide) rfl (fun ls hl => ?_)
    refine lv_aload hx hb dL_act_211 (lv_at hl 0 rfl) ?_
    refine lv_iload hx hb dL_act_213 (lv_at hl 2 rfl) ?_
    refine va_put (D := D) (ci := 5) (v := .int (nI ns)) (ty := .int) (C := RX5) (T := TX5) (N := 13) hx hb hts hinX5 tyX5 tyX5_ok nmX5 hown hK hP hD hS ((zw_X cI x a b σ τ ++ zj cB cS u bd sl nb ns σ).length + 1) (zxr (i := 1) rfl) rfl 0 (by decide) hf44 (fun _ h9 => h9)  rfl (by decide +kernel) rfl rfl (Nat.le_of_ble_eq_true rfl) dL_act_215 (fun H locs hP hD hS => ?_)
    have hP : va_P D vwCl ((zw_X cI x a b σ τ ++ zj cB cS u bd sl nb ns σ) ++ [(q1, .inl (cS, ns + 1, .inr (.inr (.inr (.inr (q_cq sl ns)))))), (q2, .inr (5, [.int (nI ns), .int 0, .int 0, .int 0, .int 0, .int 1, .null, .null, .int 0, .int 0, .int 0, .int 0, .int 0]))]) H := by rw [zxs] at hP; exact hP
    have hD : va_D A ((zw_X cI x a b σ τ ++ zj cB cS u bd sl nb ns σ) ++ [(q1, .inl (cS, ns + 1, .inr (.inr (.inr (.inr (q_cq sl ns)))))), (q2, .inr (5, [.int (nI ns), .int 0, .int 0, .int 0, .int 0, .int 1, .null, .null, .int 0, .int 0, .int 0, .int 0, .int 0]))]) := by rw [zxs] at hD; exact hD
    refine lv_aload hx hb dL_act_218 (lv_at hl 0 rfl) ?_
    refine lv_iload_n hx hb dL_act_220 rfl (lv_at hl 4 rfl) ?_
    refine lv_iconst (v := 1) hx hb dL_act_221 (by decide) ?_
    refine lv_ishr hx hb dL_act_222 ?_
    refine lv_iconst (v := 3) hx hb dL_act_223 (by decide) ?_
    refine zk_R (D := D) (va_runS (As := [.int (v >>> (1 &&& 31)), .int (nI 3)]) (rest := [.ref q2]) ⟨hx, hb, hml, hown, hts⟩ (c_L_below l D (zT3 cI cB cS) (v >>> (1 &&& 31)) (N := 3) (by decide) (by decide) _) (va_cwS 2 hts gL_act_L_below rfl rfl rfl zdL_below.2 ⟨Nat.le_of_ble_eq_true rfl, Nat.le_of_ble_eq_true rfl⟩) ⟨zbl _, zpr hK zP0 (A := fun _ => True) zD0⟩ rfl rfl hl.1 rfl (lv_room (Nat.le_of_ble_eq_true rfl)) dL_act_224 ⟨Nat.le_of_ble_eq_true rfl, Nat.le_of_ble_eq_true rfl⟩) hS (fun r H locs hw hkp hS => ?_)
    have hP := hkp _ hP
    have hw : r = nI (q_bel (v >>> (1 &&& 31)) 3) := hw
    subst hw
    have hlt_q_3 : q_bel (v >>> (1 &&& 31)) 3 < 3 := q_bel_lt _ (by decide)
    refine va_put (D := D) (ci := 5) (v := .int (nI (q_bel (v >>> (1 &&& 31)) 3))) (ty := .int) (C := RX5) (T := TX5) (N := 13) hx hb hts hinX5 tyX5 tyX5_ok nmX5 hown hK hP hD hS ((zw_X cI x a b σ τ ++ zj cB cS u bd sl nb ns σ).length + 1) (zxr (i := 1) rfl) rfl 1 (by decide) hf45 (fun _ h9 => h9)  rfl (by decide +kernel) rfl rfl (Nat.le_of_ble_eq_true rfl) dL_act_227 (fun H locs hP hD hS => ?_)
    have hP : va_P D vwCl ((zw_X cI x a b σ τ ++ zj cB cS u bd sl nb ns σ) ++ [(q1, .inl (cS, ns + 1, .inr (.inr (.inr (.inr (q_cq sl ns)))))), (q2, .inr (5, [.int (nI ns), .int (nI (q_bel (v >>> (1 &&& 31)) 3)), .int 0, .int 0, .int 0, .int 1, .null, .null, .int 0, .int 0, .int 0, .int 0, .int 0]))]) H := by rw [zxs] at hP; exact hP
    have hD : va_D A ((zw_X cI x a b σ τ ++ zj cB cS u bd sl nb ns σ) ++ [(q1, .inl (cS, ns + 1, .inr (.inr (.inr (.inr (q_cq sl ns)))))), (q2, .inr (5, [.int (nI ns), .int (nI (q_bel (v >>> (1 &&& 31)) 3)), .int 0, .int 0, .int 0, .int 1, .null, .null, .int 0, .int 0, .int 0, .int 0, .int 0]))]) := by rw [zxs] at hD; exact hD
    refine lv_aload hx hb dL_act_230 (lv_at hl 0 rfl) ?_
    refine lv_iload_n hx hb dL_act_232 rfl (lv_at hl 4 rfl) ?_
    refine lv_iconst (v := 2) hx hb dL_act_233 (by decide) ?_
    refine lv_ishr hx hb dL_act_234 ?_
    refine lv_bipush (v := 10) hx hb dL_act_235 (by decide) ?_
    refine zk_R (D := D) (va_runS (As := [.int (v >>> (2 &&& 31)), .int (nI 10)]) (rest := [.ref q2]) ⟨hx, hb, hml, hown, hts⟩ (c_L_below l D (zT3 cI cB cS) (v >>> (2 &&& 31)) (N := 10) (by decide) (by decide) _) (va_cwS 2 hts gL_act_L_below rfl rfl rfl zdL_below.2 ⟨Nat.le_of_ble_eq_true rfl, Nat.le_of_ble_eq_true rfl⟩) ⟨zbl _, zpr hK zP0 (A := fun _ => True) zD0⟩ rfl rfl hl.1 rfl (lv_room (Nat.le_of_ble_eq_true rfl)) dL_act_237 ⟨Nat.le_of_ble_eq_true rfl, Nat.le_of_ble_eq_true rfl⟩) hS (fun r H locs hw hkp hS => ?_)
    have hP := hkp _ hP
    have hw : r = nI (q_bel (v >>> (2 &&& 31)) 10) := hw
    subst hw
    have hlt_q_4 : q_bel (v >>> (2 &&& 31)) 10 < 10 := q_bel_lt _ (by decide)
    refine va_put (D := D) (ci := 5) (v := .int (nI (q_bel (v >>> (2 &&& 31)) 10))) (ty := .int) (C := RX5) (T := TX5) (N := 13) hx hb hts hinX5 tyX5 tyX5_ok nmX5 hown hK hP hD hS ((zw_X cI x a b σ τ ++ zj cB cS u bd sl nb ns σ).length + 1) (zxr (i := 1) rfl) rfl 2 (by decide) hf48 (fun _ h9 => h9)  rfl (by decide +kernel) rfl rfl (Nat.le_of_ble_eq_true rfl) dL_act_240 (fun H locs hP hD hS => ?_)
    have hP : va_P D vwCl ((zw_X cI x a b σ τ ++ zj cB cS u bd sl nb ns σ) ++ [(q1, .inl (cS, ns + 1, .inr (.inr (.inr (.inr (q_cq sl ns)))))), (q2, .inr (5, [.int (nI ns), .int (nI (q_bel (v >>> (1 &&& 31)) 3)), .int (nI (q_bel (v >>> (2 &&& 31)) 10)), .int 0, .int 0, .int 1, .null, .null, .int 0, .int 0, .int 0, .int 0, .int 0]))]) H := by rw [zxs] at hP; exact hP
    have hD : va_D A ((zw_X cI x a b σ τ ++ zj cB cS u bd sl nb ns σ) ++ [(q1, .inl (cS, ns + 1, .inr (.inr (.inr (.inr (q_cq sl ns)))))), (q2, .inr (5, [.int (nI ns), .int (nI (q_bel (v >>> (1 &&& 31)) 3)), .int (nI (q_bel (v >>> (2 &&& 31)) 10)), .int 0, .int 0, .int 1, .null, .null, .int 0, .int 0, .int 0, .int 0, .int 0]))]) := by rw [zxs] at hD; exact hD
    refine lv_aload hx hb dL_act_243 (lv_at hl 0 rfl) ?_
    refine lv_iload_n hx hb dL_act_245 rfl (lv_at hl 4 rfl) ?_
    refine lv_iconst (v := 4) hx hb dL_act_246 (by decide) ?_
    refine lv_ishr hx hb dL_act_247 ?_
    refine lv_iload_n hx hb dL_act_248 rfl (lv_at hl 4 rfl) ?_
    refine lv_iconst (v := 2) hx hb dL_act_249 (by decide) ?_
    refine zk_R (D := D) (va_runS (As := [.int v, .int (nI 2)]) (rest := [.int (v >>> (4 &&& 31)), .ref q2]) ⟨hx, hb, hml, hown, hts⟩ (c_L_below l D (zT3 cI cB cS) v (N := 2) (by decide) (by decide) _) (va_cwS 2 hts gL_act_L_below rfl rfl rfl zdL_below.2 ⟨Nat.le_of_ble_eq_true rfl, Nat.le_of_ble_eq_true rfl⟩) ⟨zbl _, zpr hK zP0 (A := fun _ => True) zD0⟩ rfl rfl hl.1 rfl (lv_room (Nat.le_of_ble_eq_true rfl)) dL_act_250 ⟨Nat.le_of_ble_eq_true rfl, Nat.le_of_ble_eq_true rfl⟩) hS (fun r H locs hw hkp hS => ?_)
    have hP := hkp _ hP
    have hw : r = nI (q_bel v 2) := hw
    subst hw
    have hlt_q_5 : q_bel v 2 < 2 := q_bel_lt _ (by decide)
    refine lv_if_ne (tgt := 261) hx hb dL_act_253 (by decide) (fun c_6 => ?_) (fun c_6 => ?_)
    · refine lv_bipush (v := 7) hx hb dL_act_261 (by decide) ?_
      refine zk_R (D := D) (va_runS (As := [.int (v >>> (4 &&& 31)), .int (nI 7)]) (rest := [.ref q2]) ⟨hx, hb, hml, hown, hts⟩ (c_L_below l D (zT3 cI cB cS) (v >>> (4 &&& 31)) (N := 7) (by decide) (by decide) _) (va_cwS 2 hts gL_act_L_below rfl rfl rfl zdL_below.2 ⟨Nat.le_of_ble_eq_true rfl, Nat.le_of_ble_eq_true rfl⟩) ⟨zbl _, zpr hK zP0 (A := fun _ => True) zD0⟩ rfl rfl hl.1 rfl (lv_room (Nat.le_of_ble_eq_true rfl)) dL_act_263 ⟨Nat.le_of_ble_eq_true rfl, Nat.le_of_ble_eq_true rfl⟩) hS (fun r H locs hw hkp hS => ?_)
      have hP := hkp _ hP
      have hw : r = nI (q_bel (v >>> (4 &&& 31)) 7) := hw
      subst hw
      have hlt_q_7 : q_bel (v >>> (4 &&& 31)) 7 < 7 := q_bel_lt _ (by decide)
      refine va_put (D := D) (ci := 5) (v := .int (nI (q_bel (v >>> (4 &&& 31)) 7))) (ty := .int) (C := RX5) (T := TX5) (N := 13) hx hb hts hinX5 tyX5 tyX5_ok nmX5 hown hK hP hD hS ((zw_X cI x a b σ τ ++ zj cB cS u bd sl nb ns σ).length + 1) (zxr (i := 1) rfl) rfl 3 (by decide) hf51 (fun _ h9 => h9)  rfl (by decide +kernel) rfl rfl (Nat.le_of_ble_eq_true rfl) dL_act_266 (fun H locs hP hD hS => ?_)
      have hP : va_P D vwCl ((zw_X cI x a b σ τ ++ zj cB cS u bd sl nb ns σ) ++ [(q1, .inl (cS, ns + 1, .inr (.inr (.inr (.inr (q_cq sl ns)))))), (q2, .inr (5, [.int (nI ns), .int (nI (q_bel (v >>> (1 &&& 31)) 3)), .int (nI (q_bel (v >>> (2 &&& 31)) 10)), .int (nI (q_bel (v >>> (4 &&& 31)) 7)), .int 0, .int 1, .null, .null, .int 0, .int 0, .int 0, .int 0, .int 0]))]) H := by rw [zxs] at hP; exact hP
      have hD : va_D A ((zw_X cI x a b σ τ ++ zj cB cS u bd sl nb ns σ) ++ [(q1, .inl (cS, ns + 1, .inr (.inr (.inr (.inr (q_cq sl ns)))))), (q2, .inr (5, [.int (nI ns), .int (nI (q_bel (v >>> (1 &&& 31)) 3)), .int (nI (q_bel (v >>> (2 &&& 31)) 10)), .int (nI (q_bel (v >>> (4 &&& 31)) 7)), .int 0, .int 1, .null, .null, .int 0, .int 0, .int 0, .int 0, .int 0]))]) := by rw [zxs] at hD; exact hD
      refine lv_aload hx hb dL_act_269 (lv_at hl 0 rfl) ?_
      refine lv_iload_n hx hb dL_act_271 rfl (lv_at hl 4 rfl) ?_
      refine lv_iconst (v := 5) hx hb dL_act_272 (by decide) ?_
      refine lv_ishr hx hb dL_act_273 ?_
      refine lv_iload_n hx hb dL_act_274 rfl (lv_at hl 4 rfl) ?_
      refine lv_iconst (v := 1) hx hb dL_act_275 (by decide) ?_
      refine lv_ishr hx hb dL_act_276 ?_
      refine lv_iconst (v := 2) hx hb dL_act_277 (by decide) ?_
      refine zk_R (D := D) (va_runS (As := [.int (v >>> (1 &&& 31)), .int (nI 2)]) (rest := [.int (v >>> (5 &&& 31)), .ref q2]) ⟨hx, hb, hml, hown, hts⟩ (c_L_below l D (zT3 cI cB cS) (v >>> (1 &&& 31)) (N := 2) (by decide) (by decide) _) (va_cwS 2 hts gL_act_L_below rfl rfl rfl zdL_below.2 ⟨Nat.le_of_ble_eq_true rfl, Nat.le_of_ble_eq_true rfl⟩) ⟨zbl _, zpr hK zP0 (A := fun _ => True) zD0⟩ rfl rfl hl.1 rfl (lv_room (Nat.le_of_ble_eq_true rfl)) dL_act_278 ⟨Nat.le_of_ble_eq_true rfl, Nat.le_of_ble_eq_true rfl⟩) hS (fun r H locs hw hkp hS => ?_)
      have hP := hkp _ hP
      have hw : r = nI (q_bel (v >>> (1 &&& 31)) 2) := hw
      subst hw
      have hlt_q_8 : q_bel (v >>> (1 &&& 31)) 2 < 2 := q_bel_lt _ (by decide)
      refine lv_if_ne (tgt := 289) hx hb dL_act_281 (by decide) (fun c_9 => ?_) (fun c_9 => ?_)
      · refine lv_bipush (v := 9) hx hb dL_act_289 (by decide) ?_
        refine zk_R (D := D) (va_runS (As := [.int (v >>> (5 &&& 31)), .int (nI 9)]) (rest := [.ref q2]) ⟨hx, hb, hml, hown, hts⟩ (c_L_below l D (zT3 cI cB cS) (v >>> (5 &&& 31)) (N := 9) (by decide) (by decide) _) (va_cwS 2 hts gL_act_L_below rfl rfl rfl zdL_below.2 ⟨Nat.le_of_ble_eq_true rfl, Nat.le_of_ble_eq_true rfl⟩) ⟨zbl _, zpr hK zP0 (A := fun _ => True) zD0⟩ rfl rfl hl.1 rfl (lv_room (Nat.le_of_ble_eq_true rfl)) dL_act_291 ⟨Nat.le_of_ble_eq_true rfl, Nat.le_of_ble_eq_true rfl⟩) hS (fun r H locs hw hkp hS => ?_)
        have hP := hkp _ hP
        have hw : r = nI (q_bel (v >>> (5 &&& 31)) 9) := hw
        subst hw
        have hlt_q_10 : q_bel (v >>> (5 &&& 31)) 9 < 9 := q_bel_lt _ (by decide)
        refine va_put (D := D) (ci := 5) (v := .int (nI (q_bel (v >>> (5 &&& 31)) 9))) (ty := .int) (C := RX5) (T := TX5) (N := 13) hx hb hts hinX5 tyX5 tyX5_ok nmX5 hown hK hP hD hS ((zw_X cI x a b σ τ ++ zj cB cS u bd sl nb ns σ).length + 1) (zxr (i := 1) rfl) rfl 4 (by decide) hf54 (fun _ h9 => h9)  rfl (by decide +kernel) rfl rfl (Nat.le_of_ble_eq_true rfl) dL_act_294 (fun H locs hP hD hS => ?_)
        have hP : va_P D vwCl ((zw_X cI x a b σ τ ++ zj cB cS u bd sl nb ns σ) ++ [(q1, .inl (cS, ns + 1, .inr (.inr (.inr (.inr (q_cq sl ns)))))), (q2, .inr (5, [.int (nI ns), .int (nI (q_bel (v >>> (1 &&& 31)) 3)), .int (nI (q_bel (v >>> (2 &&& 31)) 10)), .int (nI (q_bel (v >>> (4 &&& 31)) 7)), .int (nI (q_bel (v >>> (5 &&& 31)) 9)), .int 1, .null, .null, .int 0, .int 0, .int 0, .int 0, .int 0]))]) H := by rw [zxs] at hP; exact hP
        have hD : va_D A ((zw_X cI x a b σ τ ++ zj cB cS u bd sl nb ns σ) ++ [(q1, .inl (cS, ns + 1, .inr (.inr (.inr (.inr (q_cq sl ns)))))), (q2, .inr (5, [.int (nI ns), .int (nI (q_bel (v >>> (1 &&& 31)) 3)), .int (nI (q_bel (v >>> (2 &&& 31)) 10)), .int (nI (q_bel (v >>> (4 &&& 31)) 7)), .int (nI (q_bel (v >>> (5 &&& 31)) 9)), .int 1, .null, .null, .int 0, .int 0, .int 0, .int 0, .int 0]))]) := by rw [zxs] at hD; exact hD
        refine lv_aload hx hb dL_act_297 (lv_at hl 1 rfl) ?_
        refine lv_iload hx hb dL_act_299 (lv_at hl 2 rfl) ?_
        refine lv_aload hx hb dL_act_301 (lv_at hl 0 rfl) ?_
        refine va_astq hx hb hK hP hD hS ((zw_X cI x a b σ τ ++ zj cB cS u bd sl nb ns σ).length + 0) 2 ((zw_X cI x a b σ τ ++ zj cB cS u bd sl nb ns σ).length + 1) 5 (zxr (i := 0) rfl) rfl (zxr (i := 1) rfl) rfl (vp_in_nI (by omega) (by omega)) dL_act_303 (fun H locs hP hD hS => ?_)
        have hP : va_P D vwCl ((zw_X cI x a b σ τ ++ zj cB cS u bd sl nb ns σ) ++ [(q1, .inl (cS, ns + 1, .inr (.inr (.inr (.inr (va_up (q_cq sl ns) (nI ns).toNatClampNeg (some q2))))))), (q2, .inr (5, [.int (nI ns), .int (nI (q_bel (v >>> (1 &&& 31)) 3)), .int (nI (q_bel (v >>> (2 &&& 31)) 10)), .int (nI (q_bel (v >>> (4 &&& 31)) 7)), .int (nI (q_bel (v >>> (5 &&& 31)) 9)), .int 1, .null, .null, .int 0, .int 0, .int 0, .int 0, .int 0]))]) H := by rw [zxs] at hP; exact hP
        have hD : va_D A ((zw_X cI x a b σ τ ++ zj cB cS u bd sl nb ns σ) ++ [(q1, .inl (cS, ns + 1, .inr (.inr (.inr (.inr (va_up (q_cq sl ns) (nI ns).toNatClampNeg (some q2))))))), (q2, .inr (5, [.int (nI ns), .int (nI (q_bel (v >>> (1 &&& 31)) 3)), .int (nI (q_bel (v >>> (2 &&& 31)) 10)), .int (nI (q_bel (v >>> (4 &&& 31)) 7)), .int (nI (q_bel (v >>> (5 &&& 31)) 9)), .int 1, .null, .null, .int 0, .int 0, .int 0, .int 0, .int 0]))]) := by rw [zxs] at hD; exact hD
        have hq := q_cq_n sl (k := ns) (by omega) q2
        refine lv_aload_n hx hb dL_act_304 rfl (lv_at hl 5 rfl) ?_
        refine lv_aload hx hb dL_act_305 (lv_at hl 1 rfl) ?_
        refine va_put (D := D) (ci := 6) (v := .ref q1) (ty := .array (.object "HotBedsLaw$Sailor")) (C := RX6) (T := TX6) (N := 5) hx hb hts hinX6 tyX6 tyX6_ok nmX6 hown hK hP hD hS ((zw_X cI x a b σ τ).length + 0) (zx_l (zxr (i := 0) rfl)) rfl 4 (by decide) hf15 (fun _ h9 => h9)  rfl (by decide +kernel) rfl rfl (Nat.le_of_ble_eq_true rfl) dL_act_307 (fun H locs hP hD hS => ?_)
        have hP : va_P D vwCl ((zw_X cI x a b σ τ ++ ((u 0, .inr (6, [.int (σ 0 0), .int (σ 0 1), .int (σ 0 2), .ref (u 1), .ref q1])) :: (u 1, .inl (cB, nb, .inr (.inr (.inr (.inr (zjA bd)))))) :: (u 2, .inl (cS, ns, .inr (.inr (.inr (.inr (zjA sl)))))) :: ((List.range nb).map (fun k => (bd k, zjB sl σ k)) ++ (List.range ns).map (fun k => (sl k, zjS bd σ k))))) ++ [(q1, .inl (cS, ns + 1, .inr (.inr (.inr (.inr (va_up (q_cq sl ns) (nI ns).toNatClampNeg (some q2))))))), (q2, .inr (5, [.int (nI ns), .int (nI (q_bel (v >>> (1 &&& 31)) 3)), .int (nI (q_bel (v >>> (2 &&& 31)) 10)), .int (nI (q_bel (v >>> (4 &&& 31)) 7)), .int (nI (q_bel (v >>> (5 &&& 31)) 9)), .int 1, .null, .null, .int 0, .int 0, .int 0, .int 0, .int 0]))]) H := by rw [zxs2 (Nat.succ_pos _)] at hP; exact hP
        have hD : va_D A ((zw_X cI x a b σ τ ++ ((u 0, .inr (6, [.int (σ 0 0), .int (σ 0 1), .int (σ 0 2), .ref (u 1), .ref q1])) :: (u 1, .inl (cB, nb, .inr (.inr (.inr (.inr (zjA bd)))))) :: (u 2, .inl (cS, ns, .inr (.inr (.inr (.inr (zjA sl)))))) :: ((List.range nb).map (fun k => (bd k, zjB sl σ k)) ++ (List.range ns).map (fun k => (sl k, zjS bd σ k))))) ++ [(q1, .inl (cS, ns + 1, .inr (.inr (.inr (.inr (va_up (q_cq sl ns) (nI ns).toNatClampNeg (some q2))))))), (q2, .inr (5, [.int (nI ns), .int (nI (q_bel (v >>> (1 &&& 31)) 3)), .int (nI (q_bel (v >>> (2 &&& 31)) 10)), .int (nI (q_bel (v >>> (4 &&& 31)) 7)), .int (nI (q_bel (v >>> (5 &&& 31)) 9)), .int 1, .null, .null, .int 0, .int 0, .int 0, .int 0, .int 0]))]) := by rw [zxs2 (Nat.succ_pos _)] at hD; exact hD
        refine lv_aload_n hx hb dL_act_310 rfl (lv_at hl 6 rfl) ?_
        refine lv_aload hx hb dL_act_311 (lv_at hl 0 rfl) ?_
        refine va_get (D := D) (ci := 5) (v := .int (nI (q_bel (v >>> (1 &&& 31)) 3))) (C := RX5) (T := TX5) (N := 13) hx hb hts hinX5 hown hK hP ((zw_X cI x a b σ τ ++ ((u 0, .inr (6, [.int (σ 0 0), .int (σ 0 1), .int (σ 0 2), .ref (u 1), .ref q1])) :: (u 1, .inl (cB, nb, .inr (.inr (.inr (.inr (zjA bd)))))) :: (u 2, .inl (cS, ns, .inr (.inr (.inr (.inr (zjA sl)))))) :: ((List.range nb).map (fun k => (bd k, zjB sl σ k)) ++ (List.range ns).map (fun k => (sl k, zjS bd σ k))))).length + 1) (zxr (i := 1) rfl) rfl 1 (by decide) hf45 (fun _ h9 => h9) rfl dL_act_313 ?_
        refine lv_aload hx hb dL_act_316 (lv_at hl 0 rfl) ?_
        refine va_get (D := D) (ci := 5) (v := .int (nI (q_bel (v >>> (2 &&& 31)) 10))) (C := RX5) (T := TX5) (N := 13) hx hb hts hinX5 hown hK hP ((zw_X cI x a b σ τ ++ ((u 0, .inr (6, [.int (σ 0 0), .int (σ 0 1), .int (σ 0 2), .ref (u 1), .ref q1])) :: (u 1, .inl (cB, nb, .inr (.inr (.inr (.inr (zjA bd)))))) :: (u 2, .inl (cS, ns, .inr (.inr (.inr (.inr (zjA sl)))))) :: ((List.range nb).map (fun k => (bd k, zjB sl σ k)) ++ (List.range ns).map (fun k => (sl k, zjS bd σ k))))).length + 1) (zxr (i := 1) rfl) rfl 2 (by decide) hf48 (fun _ h9 => h9) rfl dL_act_318 ?_
        refine lv_aload hx hb dL_act_321 (lv_at hl 0 rfl) ?_
        refine va_get (D := D) (ci := 5) (v := .int (nI (q_bel (v >>> (4 &&& 31)) 7))) (C := RX5) (T := TX5) (N := 13) hx hb hts hinX5 hown hK hP ((zw_X cI x a b σ τ ++ ((u 0, .inr (6, [.int (σ 0 0), .int (σ 0 1), .int (σ 0 2), .ref (u 1), .ref q1])) :: (u 1, .inl (cB, nb, .inr (.inr (.inr (.inr (zjA bd)))))) :: (u 2, .inl (cS, ns, .inr (.inr (.inr (.inr (zjA sl)))))) :: ((List.range nb).map (fun k => (bd k, zjB sl σ k)) ++ (List.range ns).map (fun k => (sl k, zjS bd σ k))))).length + 1) (zxr (i := 1) rfl) rfl 3 (by decide) hf51 (fun _ h9 => h9) rfl dL_act_323 ?_
        refine lv_aload hx hb dL_act_326 (lv_at hl 0 rfl) ?_
        refine va_get (D := D) (ci := 5) (v := .int (nI (q_bel (v >>> (5 &&& 31)) 9))) (C := RX5) (T := TX5) (N := 13) hx hb hts hinX5 hown hK hP ((zw_X cI x a b σ τ ++ ((u 0, .inr (6, [.int (σ 0 0), .int (σ 0 1), .int (σ 0 2), .ref (u 1), .ref q1])) :: (u 1, .inl (cB, nb, .inr (.inr (.inr (.inr (zjA bd)))))) :: (u 2, .inl (cS, ns, .inr (.inr (.inr (.inr (zjA sl)))))) :: ((List.range nb).map (fun k => (bd k, zjB sl σ k)) ++ (List.range ns).map (fun k => (sl k, zjS bd σ k))))).length + 1) (zxr (i := 1) rfl) rfl 4 (by decide) hf54 (fun _ h9 => h9) rfl dL_act_328 ?_
        obtain ⟨hP, hD⟩ := zj_addS hV (nI (q_bel (v >>> (1 &&& 31)) 3)) (nI (q_bel (v >>> (2 &&& 31)) 10)) (nI (q_bel (v >>> (4 &&& 31)) 7)) (nI (q_bel (v >>> (5 &&& 31)) 9)) hq.1 hq.2 hP hD
        have hF := zfree (zxd_D hD) hS hA
        refine zk_I (va_runV (As := [.int (nI (q_bel (v >>> (1 &&& 31)) 3)), .int (nI (q_bel (v >>> (2 &&& 31)) 10)), .int (nI (q_bel (v >>> (4 &&& 31)) 7)), .int (nI (q_bel (v >>> (5 &&& 31)) 9))]) (rest := []) ⟨hx, hb, hml, hown, hts⟩ (c_X3_sailor l D cI x a b σ τ (nI (q_bel (v >>> (1 &&& 31)) 3)) (nI (q_bel (v >>> (2 &&& 31)) 10)) (nI (q_bel (v >>> (4 &&& 31)) 7)) (nI (q_bel (v >>> (5 &&& 31)) 9)) hV.1 (nI_pos (by have := q_bel_lt (v >>> (1 &&& 31)) (N := 3) (by decide); omega)) (nI_lt (b := 3) (q_bel_lt (v >>> (1 &&& 31)) (N := 3) (by decide)) (by decide)) (nI_pos (by have := q_bel_lt (v >>> (2 &&& 31)) (N := 10) (by decide); omega)) (nI_le (b := 9) (by have := q_bel_lt (v >>> (2 &&& 31)) (N := 10) (by decide); omega) (by decide)) (nI_pos (by have := q_bel_lt (v >>> (4 &&& 31)) (N := 7) (by decide); omega)) (nI_le (b := 20) (by have := q_bel_lt (v >>> (4 &&& 31)) (N := 7) (by decide); omega) (by decide)) (nI_pos (by have := q_bel_lt (v >>> (5 &&& 31)) (N := 9) (by decide); omega)) (nI_le (b := 99) (by have := q_bel_lt (v >>> (5 &&& 31)) (N := 9) (by decide); omega) (by decide)) hn10 _) (cwV 4 hts gL_act_X3_sailor rfl rfl rfl zdX3_sailor ⟨Nat.le_of_ble_eq_true rfl, Nat.le_of_ble_eq_true rfl⟩) ⟨zbl _, va_recv hKi (zxd_P hP) (ci := 3) (q0 := 0) rfl rfl, zpr hKi (zxd_P hP) (zxd_D hD)⟩ rfl rfl hl.1 rfl (lv_room (Nat.le_of_ble_eq_true rfl)) dL_act_331 ⟨Nat.le_of_ble_eq_true rfl, Nat.le_of_ble_eq_true rfl⟩) hS hF (fun r H locs hw hkp hP1 hD1 hS => ?_)
        obtain ⟨hP, hD⟩ := zx_JL hP hD hkp hF hP1 hD1
        have hw : r = nI ns := hw
        subst hw
        refine lv_iload hx hb dL_act_334 (lv_at hl 2 rfl) ?_
        refine lv_icmp_ne (tgt := 343) hx hb dL_act_336 (by decide) (fun c => absurd (rfl) c) (fun _ => ?_)
        refine lv_iconst (v := 1) hx hb dL_act_339 (by decide) ?_
        refine lv_goto (tgt := 344) hx hb dL_act_340 (by decide) ?_
        exact kk (f_addS σ ns (nI (q_bel (v >>> (1 &&& 31)) 3)) (nI (q_bel (v >>> (2 &&& 31)) 10)) (nI (q_bel (v >>> (4 &&& 31)) 7)) (nI (q_bel (v >>> (5 &&& 31)) 9)), va_up u 2 q1, bd, va_up sl ns q2, nb, ns + 1, h) _ _ _ _ dL_act_344 ⟨rfl, hV.addS (q_bel_lt (v >>> (1 &&& 31)) (N := 3) (by decide)) (zle.of (by have := q_bel_lt (v >>> (2 &&& 31)) (N := 10) (by decide); omega)) (zle.of (by have := q_bel_lt (v >>> (4 &&& 31)) (N := 7) (by decide); omega)) (zle.of (by have := q_bel_lt (v >>> (5 &&& 31)) (N := 9) (by decide); omega)) hn10, Nat.le_add_right _ _, Nat.le_refl _, mo_addS _ _ _ _ _ _⟩ hP hD hS
      · refine lv_bipush (v := 100) hx hb dL_act_284 (by decide) ?_
        refine lv_goto (tgt := 291) hx hb dL_act_286 (by decide) ?_
        refine zk_R (D := D) (va_runS (As := [.int (v >>> (5 &&& 31)), .int (nI 100)]) (rest := [.ref q2]) ⟨hx, hb, hml, hown, hts⟩ (c_L_below l D (zT3 cI cB cS) (v >>> (5 &&& 31)) (N := 100) (by decide) (by decide) _) (va_cwS 2 hts gL_act_L_below rfl rfl rfl zdL_below.2 ⟨Nat.le_of_ble_eq_true rfl, Nat.le_of_ble_eq_true rfl⟩) ⟨zbl _, zpr hK zP0 (A := fun _ => True) zD0⟩ rfl rfl hl.1 rfl (lv_room (Nat.le_of_ble_eq_true rfl)) dL_act_291 ⟨Nat.le_of_ble_eq_true rfl, Nat.le_of_ble_eq_true rfl⟩) hS (fun r H locs hw hkp hS => ?_)
        have hP := hkp _ hP
        have hw : r = nI (q_bel (v >>> (5 &&& 31)) 100) := hw
        subst hw
        have hlt_q_12 : q_bel (v >>> (5 &&& 31)) 100 < 100 := q_bel_lt _ (by decide)
        refine va_put (D := D) (ci := 5) (v := .int (nI (q_bel (v >>> (5 &&& 31)) 100))) (ty := .int) (C := RX5) (T := TX5) (N := 13) hx hb hts hinX5 tyX5 tyX5_ok nmX5 hown hK hP hD hS ((zw_X cI x a b σ τ ++ zj cB cS u bd sl nb ns σ).length + 1) (zxr (i := 1) rfl) rfl 4 (by decide) hf54 (fun _ h9 => h9)  rfl (by decide +kernel) rfl rfl (Nat.le_of_ble_eq_true rfl) dL_act_294 (fun H locs hP hD hS => ?_)
        have hP : va_P D vwCl ((zw_X cI x a b σ τ ++ zj cB cS u bd sl nb ns σ) ++ [(q1, .inl (cS, ns + 1, .inr (.inr (.inr (.inr (q_cq sl ns)))))), (q2, .inr (5, [.int (nI ns), .int (nI (q_bel (v >>> (1 &&& 31)) 3)), .int (nI (q_bel (v >>> (2 &&& 31)) 10)), .int (nI (q_bel (v >>> (4 &&& 31)) 7)), .int (nI (q_bel (v >>> (5 &&& 31)) 100)), .int 1, .null, .null, .int 0, .int 0, .int 0, .int 0, .int 0]))]) H := by rw [zxs] at hP; exact hP
        have hD : va_D A ((zw_X cI x a b σ τ ++ zj cB cS u bd sl nb ns σ) ++ [(q1, .inl (cS, ns + 1, .inr (.inr (.inr (.inr (q_cq sl ns)))))), (q2, .inr (5, [.int (nI ns), .int (nI (q_bel (v >>> (1 &&& 31)) 3)), .int (nI (q_bel (v >>> (2 &&& 31)) 10)), .int (nI (q_bel (v >>> (4 &&& 31)) 7)), .int (nI (q_bel (v >>> (5 &&& 31)) 100)), .int 1, .null, .null, .int 0, .int 0, .int 0, .int 0, .int 0]))]) := by rw [zxs] at hD; exact hD
        refine lv_aload hx hb dL_act_297 (lv_at hl 1 rfl) ?_
        refine lv_iload hx hb dL_act_299 (lv_at hl 2 rfl) ?_
        refine lv_aload hx hb dL_act_301 (lv_at hl 0 rfl) ?_
        refine va_astq hx hb hK hP hD hS ((zw_X cI x a b σ τ ++ zj cB cS u bd sl nb ns σ).length + 0) 2 ((zw_X cI x a b σ τ ++ zj cB cS u bd sl nb ns σ).length + 1) 5 (zxr (i := 0) rfl) rfl (zxr (i := 1) rfl) rfl (vp_in_nI (by omega) (by omega)) dL_act_303 (fun H locs hP hD hS => ?_)
        have hP : va_P D vwCl ((zw_X cI x a b σ τ ++ zj cB cS u bd sl nb ns σ) ++ [(q1, .inl (cS, ns + 1, .inr (.inr (.inr (.inr (va_up (q_cq sl ns) (nI ns).toNatClampNeg (some q2))))))), (q2, .inr (5, [.int (nI ns), .int (nI (q_bel (v >>> (1 &&& 31)) 3)), .int (nI (q_bel (v >>> (2 &&& 31)) 10)), .int (nI (q_bel (v >>> (4 &&& 31)) 7)), .int (nI (q_bel (v >>> (5 &&& 31)) 100)), .int 1, .null, .null, .int 0, .int 0, .int 0, .int 0, .int 0]))]) H := by rw [zxs] at hP; exact hP
        have hD : va_D A ((zw_X cI x a b σ τ ++ zj cB cS u bd sl nb ns σ) ++ [(q1, .inl (cS, ns + 1, .inr (.inr (.inr (.inr (va_up (q_cq sl ns) (nI ns).toNatClampNeg (some q2))))))), (q2, .inr (5, [.int (nI ns), .int (nI (q_bel (v >>> (1 &&& 31)) 3)), .int (nI (q_bel (v >>> (2 &&& 31)) 10)), .int (nI (q_bel (v >>> (4 &&& 31)) 7)), .int (nI (q_bel (v >>> (5 &&& 31)) 100)), .int 1, .null, .null, .int 0, .int 0, .int 0, .int 0, .int 0]))]) := by rw [zxs] at hD; exact hD
        have hq := q_cq_n sl (k := ns) (by omega) q2
        refine lv_aload_n hx hb dL_act_304 rfl (lv_at hl 5 rfl) ?_
        refine lv_aload hx hb dL_act_305 (lv_at hl 1 rfl) ?_
        refine va_put (D := D) (ci := 6) (v := .ref q1) (ty := .array (.object "HotBedsLaw$Sailor")) (C := RX6) (T := TX6) (N := 5) hx hb hts hinX6 tyX6 tyX6_ok nmX6 hown hK hP hD hS ((zw_X cI x a b σ τ).length + 0) (zx_l (zxr (i := 0) rfl)) rfl 4 (by decide) hf15 (fun _ h9 => h9)  rfl (by decide +kernel) rfl rfl (Nat.le_of_ble_eq_true rfl) dL_act_307 (fun H locs hP hD hS => ?_)
        have hP : va_P D vwCl ((zw_X cI x a b σ τ ++ ((u 0, .inr (6, [.int (σ 0 0), .int (σ 0 1), .int (σ 0 2), .ref (u 1), .ref q1])) :: (u 1, .inl (cB, nb, .inr (.inr (.inr (.inr (zjA bd)))))) :: (u 2, .inl (cS, ns, .inr (.inr (.inr (.inr (zjA sl)))))) :: ((List.range nb).map (fun k => (bd k, zjB sl σ k)) ++ (List.range ns).map (fun k => (sl k, zjS bd σ k))))) ++ [(q1, .inl (cS, ns + 1, .inr (.inr (.inr (.inr (va_up (q_cq sl ns) (nI ns).toNatClampNeg (some q2))))))), (q2, .inr (5, [.int (nI ns), .int (nI (q_bel (v >>> (1 &&& 31)) 3)), .int (nI (q_bel (v >>> (2 &&& 31)) 10)), .int (nI (q_bel (v >>> (4 &&& 31)) 7)), .int (nI (q_bel (v >>> (5 &&& 31)) 100)), .int 1, .null, .null, .int 0, .int 0, .int 0, .int 0, .int 0]))]) H := by rw [zxs2 (Nat.succ_pos _)] at hP; exact hP
        have hD : va_D A ((zw_X cI x a b σ τ ++ ((u 0, .inr (6, [.int (σ 0 0), .int (σ 0 1), .int (σ 0 2), .ref (u 1), .ref q1])) :: (u 1, .inl (cB, nb, .inr (.inr (.inr (.inr (zjA bd)))))) :: (u 2, .inl (cS, ns, .inr (.inr (.inr (.inr (zjA sl)))))) :: ((List.range nb).map (fun k => (bd k, zjB sl σ k)) ++ (List.range ns).map (fun k => (sl k, zjS bd σ k))))) ++ [(q1, .inl (cS, ns + 1, .inr (.inr (.inr (.inr (va_up (q_cq sl ns) (nI ns).toNatClampNeg (some q2))))))), (q2, .inr (5, [.int (nI ns), .int (nI (q_bel (v >>> (1 &&& 31)) 3)), .int (nI (q_bel (v >>> (2 &&& 31)) 10)), .int (nI (q_bel (v >>> (4 &&& 31)) 7)), .int (nI (q_bel (v >>> (5 &&& 31)) 100)), .int 1, .null, .null, .int 0, .int 0, .int 0, .int 0, .int 0]))]) := by rw [zxs2 (Nat.succ_pos _)] at hD; exact hD
        refine lv_aload_n hx hb dL_act_310 rfl (lv_at hl 6 rfl) ?_
        refine lv_aload hx hb dL_act_311 (lv_at hl 0 rfl) ?_
        refine va_get (D := D) (ci := 5) (v := .int (nI (q_bel (v >>> (1 &&& 31)) 3))) (C := RX5) (T := TX5) (N := 13) hx hb hts hinX5 hown hK hP ((zw_X cI x a b σ τ ++ ((u 0, .inr (6, [.int (σ 0 0), .int (σ 0 1), .int (σ 0 2), .ref (u 1), .ref q1])) :: (u 1, .inl (cB, nb, .inr (.inr (.inr (.inr (zjA bd)))))) :: (u 2, .inl (cS, ns, .inr (.inr (.inr (.inr (zjA sl)))))) :: ((List.range nb).map (fun k => (bd k, zjB sl σ k)) ++ (List.range ns).map (fun k => (sl k, zjS bd σ k))))).length + 1) (zxr (i := 1) rfl) rfl 1 (by decide) hf45 (fun _ h9 => h9) rfl dL_act_313 ?_
        refine lv_aload hx hb dL_act_316 (lv_at hl 0 rfl) ?_
        refine va_get (D := D) (ci := 5) (v := .int (nI (q_bel (v >>> (2 &&& 31)) 10))) (C := RX5) (T := TX5) (N := 13) hx hb hts hinX5 hown hK hP ((zw_X cI x a b σ τ ++ ((u 0, .inr (6, [.int (σ 0 0), .int (σ 0 1), .int (σ 0 2), .ref (u 1), .ref q1])) :: (u 1, .inl (cB, nb, .inr (.inr (.inr (.inr (zjA bd)))))) :: (u 2, .inl (cS, ns, .inr (.inr (.inr (.inr (zjA sl)))))) :: ((List.range nb).map (fun k => (bd k, zjB sl σ k)) ++ (List.range ns).map (fun k => (sl k, zjS bd σ k))))).length + 1) (zxr (i := 1) rfl) rfl 2 (by decide) hf48 (fun _ h9 => h9) rfl dL_act_318 ?_
        refine lv_aload hx hb dL_act_321 (lv_at hl 0 rfl) ?_
        refine va_get (D := D) (ci := 5) (v := .int (nI (q_bel (v >>> (4 &&& 31)) 7))) (C := RX5) (T := TX5) (N := 13) hx hb hts hinX5 hown hK hP ((zw_X cI x a b σ τ ++ ((u 0, .inr (6, [.int (σ 0 0), .int (σ 0 1), .int (σ 0 2), .ref (u 1), .ref q1])) :: (u 1, .inl (cB, nb, .inr (.inr (.inr (.inr (zjA bd)))))) :: (u 2, .inl (cS, ns, .inr (.inr (.inr (.inr (zjA sl)))))) :: ((List.range nb).map (fun k => (bd k, zjB sl σ k)) ++ (List.range ns).map (fun k => (sl k, zjS bd σ k))))).length + 1) (zxr (i := 1) rfl) rfl 3 (by decide) hf51 (fun _ h9 => h9) rfl dL_act_323 ?_
        refine lv_aload hx hb dL_act_326 (lv_at hl 0 rfl) ?_
        refine va_get (D := D) (ci := 5) (v := .int (nI (q_bel (v >>> (5 &&& 31)) 100))) (C := RX5) (T := TX5) (N := 13) hx hb hts hinX5 hown hK hP ((zw_X cI x a b σ τ ++ ((u 0, .inr (6, [.int (σ 0 0), .int (σ 0 1), .int (σ 0 2), .ref (u 1), .ref q1])) :: (u 1, .inl (cB, nb, .inr (.inr (.inr (.inr (zjA bd)))))) :: (u 2, .inl (cS, ns, .inr (.inr (.inr (.inr (zjA sl)))))) :: ((List.range nb).map (fun k => (bd k, zjB sl σ k)) ++ (List.range ns).map (fun k => (sl k, zjS bd σ k))))).length + 1) (zxr (i := 1) rfl) rfl 4 (by decide) hf54 (fun _ h9 => h9) rfl dL_act_328 ?_
        obtain ⟨hP, hD⟩ := zj_addS hV (nI (q_bel (v >>> (1 &&& 31)) 3)) (nI (q_bel (v >>> (2 &&& 31)) 10)) (nI (q_bel (v >>> (4 &&& 31)) 7)) (nI (q_bel (v >>> (5 &&& 31)) 100)) hq.1 hq.2 hP hD
        have hF := zfree (zxd_D hD) hS hA
        refine zk_I (va_runV (As := [.int (nI (q_bel (v >>> (1 &&& 31)) 3)), .int (nI (q_bel (v >>> (2 &&& 31)) 10)), .int (nI (q_bel (v >>> (4 &&& 31)) 7)), .int (nI (q_bel (v >>> (5 &&& 31)) 100))]) (rest := []) ⟨hx, hb, hml, hown, hts⟩ (c_X3_sailor l D cI x a b σ τ (nI (q_bel (v >>> (1 &&& 31)) 3)) (nI (q_bel (v >>> (2 &&& 31)) 10)) (nI (q_bel (v >>> (4 &&& 31)) 7)) (nI (q_bel (v >>> (5 &&& 31)) 100)) hV.1 (nI_pos (by have := q_bel_lt (v >>> (1 &&& 31)) (N := 3) (by decide); omega)) (nI_lt (b := 3) (q_bel_lt (v >>> (1 &&& 31)) (N := 3) (by decide)) (by decide)) (nI_pos (by have := q_bel_lt (v >>> (2 &&& 31)) (N := 10) (by decide); omega)) (nI_le (b := 9) (by have := q_bel_lt (v >>> (2 &&& 31)) (N := 10) (by decide); omega) (by decide)) (nI_pos (by have := q_bel_lt (v >>> (4 &&& 31)) (N := 7) (by decide); omega)) (nI_le (b := 20) (by have := q_bel_lt (v >>> (4 &&& 31)) (N := 7) (by decide); omega) (by decide)) (nI_pos (by have := q_bel_lt (v >>> (5 &&& 31)) (N := 100) (by decide); omega)) (nI_le (b := 99) (by have := q_bel_lt (v >>> (5 &&& 31)) (N := 100) (by decide); omega) (by decide)) hn10 _) (cwV 4 hts gL_act_X3_sailor rfl rfl rfl zdX3_sailor ⟨Nat.le_of_ble_eq_true rfl, Nat.le_of_ble_eq_true rfl⟩) ⟨zbl _, va_recv hKi (zxd_P hP) (ci := 3) (q0 := 0) rfl rfl, zpr hKi (zxd_P hP) (zxd_D hD)⟩ rfl rfl hl.1 rfl (lv_room (Nat.le_of_ble_eq_true rfl)) dL_act_331 ⟨Nat.le_of_ble_eq_true rfl, Nat.le_of_ble_eq_true rfl⟩) hS hF (fun r H locs hw hkp hP1 hD1 hS => ?_)
        obtain ⟨hP, hD⟩ := zx_JL hP hD hkp hF hP1 hD1
        have hw : r = nI ns := hw
        subst hw
        refine lv_iload hx hb dL_act_334 (lv_at hl 2 rfl) ?_
        refine lv_icmp_ne (tgt := 343) hx hb dL_act_336 (by decide) (fun c => absurd (rfl) c) (fun _ => ?_)
        refine lv_iconst (v := 1) hx hb dL_act_339 (by decide) ?_
        refine lv_goto (tgt := 344) hx hb dL_act_340 (by decide) ?_
        exact kk (f_addS σ ns (nI (q_bel (v >>> (1 &&& 31)) 3)) (nI (q_bel (v >>> (2 &&& 31)) 10)) (nI (q_bel (v >>> (4 &&& 31)) 7)) (nI (q_bel (v >>> (5 &&& 31)) 100)), va_up u 2 q1, bd, va_up sl ns q2, nb, ns + 1, h) _ _ _ _ dL_act_344 ⟨rfl, hV.addS (q_bel_lt (v >>> (1 &&& 31)) (N := 3) (by decide)) (zle.of (by have := q_bel_lt (v >>> (2 &&& 31)) (N := 10) (by decide); omega)) (zle.of (by have := q_bel_lt (v >>> (4 &&& 31)) (N := 7) (by decide); omega)) (zle.of (by have := q_bel_lt (v >>> (5 &&& 31)) (N := 100) (by decide); omega)) hn10, Nat.le_add_right _ _, Nat.le_refl _, mo_addS _ _ _ _ _ _⟩ hP hD hS
    · refine lv_bipush (v := 21) hx hb dL_act_256 (by decide) ?_
      refine lv_goto (tgt := 263) hx hb dL_act_258 (by decide) ?_
      refine zk_R (D := D) (va_runS (As := [.int (v >>> (4 &&& 31)), .int (nI 21)]) (rest := [.ref q2]) ⟨hx, hb, hml, hown, hts⟩ (c_L_below l D (zT3 cI cB cS) (v >>> (4 &&& 31)) (N := 21) (by decide) (by decide) _) (va_cwS 2 hts gL_act_L_below rfl rfl rfl zdL_below.2 ⟨Nat.le_of_ble_eq_true rfl, Nat.le_of_ble_eq_true rfl⟩) ⟨zbl _, zpr hK zP0 (A := fun _ => True) zD0⟩ rfl rfl hl.1 rfl (lv_room (Nat.le_of_ble_eq_true rfl)) dL_act_263 ⟨Nat.le_of_ble_eq_true rfl, Nat.le_of_ble_eq_true rfl⟩) hS (fun r H locs hw hkp hS => ?_)
      have hP := hkp _ hP
      have hw : r = nI (q_bel (v >>> (4 &&& 31)) 21) := hw
      subst hw
      have hlt_q_14 : q_bel (v >>> (4 &&& 31)) 21 < 21 := q_bel_lt _ (by decide)
      refine va_put (D := D) (ci := 5) (v := .int (nI (q_bel (v >>> (4 &&& 31)) 21))) (ty := .int) (C := RX5) (T := TX5) (N := 13) hx hb hts hinX5 tyX5 tyX5_ok nmX5 hown hK hP hD hS ((zw_X cI x a b σ τ ++ zj cB cS u bd sl nb ns σ).length + 1) (zxr (i := 1) rfl) rfl 3 (by decide) hf51 (fun _ h9 => h9)  rfl (by decide +kernel) rfl rfl (Nat.le_of_ble_eq_true rfl) dL_act_266 (fun H locs hP hD hS => ?_)
      have hP : va_P D vwCl ((zw_X cI x a b σ τ ++ zj cB cS u bd sl nb ns σ) ++ [(q1, .inl (cS, ns + 1, .inr (.inr (.inr (.inr (q_cq sl ns)))))), (q2, .inr (5, [.int (nI ns), .int (nI (q_bel (v >>> (1 &&& 31)) 3)), .int (nI (q_bel (v >>> (2 &&& 31)) 10)), .int (nI (q_bel (v >>> (4 &&& 31)) 21)), .int 0, .int 1, .null, .null, .int 0, .int 0, .int 0, .int 0, .int 0]))]) H := by rw [zxs] at hP; exact hP
      have hD : va_D A ((zw_X cI x a b σ τ ++ zj cB cS u bd sl nb ns σ) ++ [(q1, .inl (cS, ns + 1, .inr (.inr (.inr (.inr (q_cq sl ns)))))), (q2, .inr (5, [.int (nI ns), .int (nI (q_bel (v >>> (1 &&& 31)) 3)), .int (nI (q_bel (v >>> (2 &&& 31)) 10)), .int (nI (q_bel (v >>> (4 &&& 31)) 21)), .int 0, .int 1, .null, .null, .int 0, .int 0, .int 0, .int 0, .int 0]))]) := by rw [zxs] at hD; exact hD
      refine lv_aload hx hb dL_act_269 (lv_at hl 0 rfl) ?_
      refine lv_iload_n hx hb dL_act_271 rfl (lv_at hl 4 rfl) ?_
      refine lv_iconst (v := 5) hx hb dL_act_272 (by decide) ?_
      refine lv_ishr hx hb dL_act_273 ?_
      refine lv_iload_n hx hb dL_act_274 rfl (lv_at hl 4 rfl) ?_
      refine lv_iconst (v := 1) hx hb dL_act_275 (by decide) ?_
      refine lv_ishr hx hb dL_act_276 ?_
      refine lv_iconst (v := 2) hx hb dL_act_277 (by decide) ?_
      refine zk_R (D := D) (va_runS (As := [.int (v >>> (1 &&& 31)), .int (nI 2)]) (rest := [.int (v >>> (5 &&& 31)), .ref q2]) ⟨hx, hb, hml, hown, hts⟩ (c_L_below l D (zT3 cI cB cS) (v >>> (1 &&& 31)) (N := 2) (by decide) (by decide) _) (va_cwS 2 hts gL_act_L_below rfl rfl rfl zdL_below.2 ⟨Nat.le_of_ble_eq_true rfl, Nat.le_of_ble_eq_true rfl⟩) ⟨zbl _, zpr hK zP0 (A := fun _ => True) zD0⟩ rfl rfl hl.1 rfl (lv_room (Nat.le_of_ble_eq_true rfl)) dL_act_278 ⟨Nat.le_of_ble_eq_true rfl, Nat.le_of_ble_eq_true rfl⟩) hS (fun r H locs hw hkp hS => ?_)
      have hP := hkp _ hP
      have hw : r = nI (q_bel (v >>> (1 &&& 31)) 2) := hw
      subst hw
      have hlt_q_15 : q_bel (v >>> (1 &&& 31)) 2 < 2 := q_bel_lt _ (by decide)
      refine lv_if_ne (tgt := 289) hx hb dL_act_281 (by decide) (fun c_16 => ?_) (fun c_16 => ?_)
      · refine lv_bipush (v := 9) hx hb dL_act_289 (by decide) ?_
        refine zk_R (D := D) (va_runS (As := [.int (v >>> (5 &&& 31)), .int (nI 9)]) (rest := [.ref q2]) ⟨hx, hb, hml, hown, hts⟩ (c_L_below l D (zT3 cI cB cS) (v >>> (5 &&& 31)) (N := 9) (by decide) (by decide) _) (va_cwS 2 hts gL_act_L_below rfl rfl rfl zdL_below.2 ⟨Nat.le_of_ble_eq_true rfl, Nat.le_of_ble_eq_true rfl⟩) ⟨zbl _, zpr hK zP0 (A := fun _ => True) zD0⟩ rfl rfl hl.1 rfl (lv_room (Nat.le_of_ble_eq_true rfl)) dL_act_291 ⟨Nat.le_of_ble_eq_true rfl, Nat.le_of_ble_eq_true rfl⟩) hS (fun r H locs hw hkp hS => ?_)
        have hP := hkp _ hP
        have hw : r = nI (q_bel (v >>> (5 &&& 31)) 9) := hw
        subst hw
        have hlt_q_17 : q_bel (v >>> (5 &&& 31)) 9 < 9 := q_bel_lt _ (by decide)
        refine va_put (D := D) (ci := 5) (v := .int (nI (q_bel (v >>> (5 &&& 31)) 9))) (ty := .int) (C := RX5) (T := TX5) (N := 13) hx hb hts hinX5 tyX5 tyX5_ok nmX5 hown hK hP hD hS ((zw_X cI x a b σ τ ++ zj cB cS u bd sl nb ns σ).length + 1) (zxr (i := 1) rfl) rfl 4 (by decide) hf54 (fun _ h9 => h9)  rfl (by decide +kernel) rfl rfl (Nat.le_of_ble_eq_true rfl) dL_act_294 (fun H locs hP hD hS => ?_)
        have hP : va_P D vwCl ((zw_X cI x a b σ τ ++ zj cB cS u bd sl nb ns σ) ++ [(q1, .inl (cS, ns + 1, .inr (.inr (.inr (.inr (q_cq sl ns)))))), (q2, .inr (5, [.int (nI ns), .int (nI (q_bel (v >>> (1 &&& 31)) 3)), .int (nI (q_bel (v >>> (2 &&& 31)) 10)), .int (nI (q_bel (v >>> (4 &&& 31)) 21)), .int (nI (q_bel (v >>> (5 &&& 31)) 9)), .int 1, .null, .null, .int 0, .int 0, .int 0, .int 0, .int 0]))]) H := by rw [zxs] at hP; exact hP
        have hD : va_D A ((zw_X cI x a b σ τ ++ zj cB cS u bd sl nb ns σ) ++ [(q1, .inl (cS, ns + 1, .inr (.inr (.inr (.inr (q_cq sl ns)))))), (q2, .inr (5, [.int (nI ns), .int (nI (q_bel (v >>> (1 &&& 31)) 3)), .int (nI (q_bel (v >>> (2 &&& 31)) 10)), .int (nI (q_bel (v >>> (4 &&& 31)) 21)), .int (nI (q_bel (v >>> (5 &&& 31)) 9)), .int 1, .null, .null, .int 0, .int 0, .int 0, .int 0, .int 0]))]) := by rw [zxs] at hD; exact hD
        refine lv_aload hx hb dL_act_297 (lv_at hl 1 rfl) ?_
        refine lv_iload hx hb dL_act_299 (lv_at hl 2 rfl) ?_
        refine lv_aload hx hb dL_act_301 (lv_at hl 0 rfl) ?_
        refine va_astq hx hb hK hP hD hS ((zw_X cI x a b σ τ ++ zj cB cS u bd sl nb ns σ).length + 0) 2 ((zw_X cI x a b σ τ ++ zj cB cS u bd sl nb ns σ).length + 1) 5 (zxr (i := 0) rfl) rfl (zxr (i := 1) rfl) rfl (vp_in_nI (by omega) (by omega)) dL_act_303 (fun H locs hP hD hS => ?_)
        have hP : va_P D vwCl ((zw_X cI x a b σ τ ++ zj cB cS u bd sl nb ns σ) ++ [(q1, .inl (cS, ns + 1, .inr (.inr (.inr (.inr (va_up (q_cq sl ns) (nI ns).toNatClampNeg (some q2))))))), (q2, .inr (5, [.int (nI ns), .int (nI (q_bel (v >>> (1 &&& 31)) 3)), .int (nI (q_bel (v >>> (2 &&& 31)) 10)), .int (nI (q_bel (v >>> (4 &&& 31)) 21)), .int (nI (q_bel (v >>> (5 &&& 31)) 9)), .int 1, .null, .null, .int 0, .int 0, .int 0, .int 0, .int 0]))]) H := by rw [zxs] at hP; exact hP
        have hD : va_D A ((zw_X cI x a b σ τ ++ zj cB cS u bd sl nb ns σ) ++ [(q1, .inl (cS, ns + 1, .inr (.inr (.inr (.inr (va_up (q_cq sl ns) (nI ns).toNatClampNeg (some q2))))))), (q2, .inr (5, [.int (nI ns), .int (nI (q_bel (v >>> (1 &&& 31)) 3)), .int (nI (q_bel (v >>> (2 &&& 31)) 10)), .int (nI (q_bel (v >>> (4 &&& 31)) 21)), .int (nI (q_bel (v >>> (5 &&& 31)) 9)), .int 1, .null, .null, .int 0, .int 0, .int 0, .int 0, .int 0]))]) := by rw [zxs] at hD; exact hD
        have hq := q_cq_n sl (k := ns) (by omega) q2
        refine lv_aload_n hx hb dL_act_304 rfl (lv_at hl 5 rfl) ?_
        refine lv_aload hx hb dL_act_305 (lv_at hl 1 rfl) ?_
        refine va_put (D := D) (ci := 6) (v := .ref q1) (ty := .array (.object "HotBedsLaw$Sailor")) (C := RX6) (T := TX6) (N := 5) hx hb hts hinX6 tyX6 tyX6_ok nmX6 hown hK hP hD hS ((zw_X cI x a b σ τ).length + 0) (zx_l (zxr (i := 0) rfl)) rfl 4 (by decide) hf15 (fun _ h9 => h9)  rfl (by decide +kernel) rfl rfl (Nat.le_of_ble_eq_true rfl) dL_act_307 (fun H locs hP hD hS => ?_)
        have hP : va_P D vwCl ((zw_X cI x a b σ τ ++ ((u 0, .inr (6, [.int (σ 0 0), .int (σ 0 1), .int (σ 0 2), .ref (u 1), .ref q1])) :: (u 1, .inl (cB, nb, .inr (.inr (.inr (.inr (zjA bd)))))) :: (u 2, .inl (cS, ns, .inr (.inr (.inr (.inr (zjA sl)))))) :: ((List.range nb).map (fun k => (bd k, zjB sl σ k)) ++ (List.range ns).map (fun k => (sl k, zjS bd σ k))))) ++ [(q1, .inl (cS, ns + 1, .inr (.inr (.inr (.inr (va_up (q_cq sl ns) (nI ns).toNatClampNeg (some q2))))))), (q2, .inr (5, [.int (nI ns), .int (nI (q_bel (v >>> (1 &&& 31)) 3)), .int (nI (q_bel (v >>> (2 &&& 31)) 10)), .int (nI (q_bel (v >>> (4 &&& 31)) 21)), .int (nI (q_bel (v >>> (5 &&& 31)) 9)), .int 1, .null, .null, .int 0, .int 0, .int 0, .int 0, .int 0]))]) H := by rw [zxs2 (Nat.succ_pos _)] at hP; exact hP
        have hD : va_D A ((zw_X cI x a b σ τ ++ ((u 0, .inr (6, [.int (σ 0 0), .int (σ 0 1), .int (σ 0 2), .ref (u 1), .ref q1])) :: (u 1, .inl (cB, nb, .inr (.inr (.inr (.inr (zjA bd)))))) :: (u 2, .inl (cS, ns, .inr (.inr (.inr (.inr (zjA sl)))))) :: ((List.range nb).map (fun k => (bd k, zjB sl σ k)) ++ (List.range ns).map (fun k => (sl k, zjS bd σ k))))) ++ [(q1, .inl (cS, ns + 1, .inr (.inr (.inr (.inr (va_up (q_cq sl ns) (nI ns).toNatClampNeg (some q2))))))), (q2, .inr (5, [.int (nI ns), .int (nI (q_bel (v >>> (1 &&& 31)) 3)), .int (nI (q_bel (v >>> (2 &&& 31)) 10)), .int (nI (q_bel (v >>> (4 &&& 31)) 21)), .int (nI (q_bel (v >>> (5 &&& 31)) 9)), .int 1, .null, .null, .int 0, .int 0, .int 0, .int 0, .int 0]))]) := by rw [zxs2 (Nat.succ_pos _)] at hD; exact hD
        refine lv_aload_n hx hb dL_act_310 rfl (lv_at hl 6 rfl) ?_
        refine lv_aload hx hb dL_act_311 (lv_at hl 0 rfl) ?_
        refine va_get (D := D) (ci := 5) (v := .int (nI (q_bel (v >>> (1 &&& 31)) 3))) (C := RX5) (T := TX5) (N := 13) hx hb hts hinX5 hown hK hP ((zw_X cI x a b σ τ ++ ((u 0, .inr (6, [.int (σ 0 0), .int (σ 0 1), .int (σ 0 2), .ref (u 1), .ref q1])) :: (u 1, .inl (cB, nb, .inr (.inr (.inr (.inr (zjA bd)))))) :: (u 2, .inl (cS, ns, .inr (.inr (.inr (.inr (zjA sl)))))) :: ((List.range nb).map (fun k => (bd k, zjB sl σ k)) ++ (List.range ns).map (fun k => (sl k, zjS bd σ k))))).length + 1) (zxr (i := 1) rfl) rfl 1 (by decide) hf45 (fun _ h9 => h9) rfl dL_act_313 ?_
        refine lv_aload hx hb dL_act_316 (lv_at hl 0 rfl) ?_
        refine va_get (D := D) (ci := 5) (v := .int (nI (q_bel (v >>> (2 &&& 31)) 10))) (C := RX5) (T := TX5) (N := 13) hx hb hts hinX5 hown hK hP ((zw_X cI x a b σ τ ++ ((u 0, .inr (6, [.int (σ 0 0), .int (σ 0 1), .int (σ 0 2), .ref (u 1), .ref q1])) :: (u 1, .inl (cB, nb, .inr (.inr (.inr (.inr (zjA bd)))))) :: (u 2, .inl (cS, ns, .inr (.inr (.inr (.inr (zjA sl)))))) :: ((List.range nb).map (fun k => (bd k, zjB sl σ k)) ++ (List.range ns).map (fun k => (sl k, zjS bd σ k))))).length + 1) (zxr (i := 1) rfl) rfl 2 (by decide) hf48 (fun _ h9 => h9) rfl dL_act_318 ?_
        refine lv_aload hx hb dL_act_321 (lv_at hl 0 rfl) ?_
        refine va_get (D := D) (ci := 5) (v := .int (nI (q_bel (v >>> (4 &&& 31)) 21))) (C := RX5) (T := TX5) (N := 13) hx hb hts hinX5 hown hK hP ((zw_X cI x a b σ τ ++ ((u 0, .inr (6, [.int (σ 0 0), .int (σ 0 1), .int (σ 0 2), .ref (u 1), .ref q1])) :: (u 1, .inl (cB, nb, .inr (.inr (.inr (.inr (zjA bd)))))) :: (u 2, .inl (cS, ns, .inr (.inr (.inr (.inr (zjA sl)))))) :: ((List.range nb).map (fun k => (bd k, zjB sl σ k)) ++ (List.range ns).map (fun k => (sl k, zjS bd σ k))))).length + 1) (zxr (i := 1) rfl) rfl 3 (by decide) hf51 (fun _ h9 => h9) rfl dL_act_323 ?_
        refine lv_aload hx hb dL_act_326 (lv_at hl 0 rfl) ?_
        refine va_get (D := D) (ci := 5) (v := .int (nI (q_bel (v >>> (5 &&& 31)) 9))) (C := RX5) (T := TX5) (N := 13) hx hb hts hinX5 hown hK hP ((zw_X cI x a b σ τ ++ ((u 0, .inr (6, [.int (σ 0 0), .int (σ 0 1), .int (σ 0 2), .ref (u 1), .ref q1])) :: (u 1, .inl (cB, nb, .inr (.inr (.inr (.inr (zjA bd)))))) :: (u 2, .inl (cS, ns, .inr (.inr (.inr (.inr (zjA sl)))))) :: ((List.range nb).map (fun k => (bd k, zjB sl σ k)) ++ (List.range ns).map (fun k => (sl k, zjS bd σ k))))).length + 1) (zxr (i := 1) rfl) rfl 4 (by decide) hf54 (fun _ h9 => h9) rfl dL_act_328 ?_
        obtain ⟨hP, hD⟩ := zj_addS hV (nI (q_bel (v >>> (1 &&& 31)) 3)) (nI (q_bel (v >>> (2 &&& 31)) 10)) (nI (q_bel (v >>> (4 &&& 31)) 21)) (nI (q_bel (v >>> (5 &&& 31)) 9)) hq.1 hq.2 hP hD
        have hF := zfree (zxd_D hD) hS hA
        refine zk_I (va_runV (As := [.int (nI (q_bel (v >>> (1 &&& 31)) 3)), .int (nI (q_bel (v >>> (2 &&& 31)) 10)), .int (nI (q_bel (v >>> (4 &&& 31)) 21)), .int (nI (q_bel (v >>> (5 &&& 31)) 9))]) (rest := []) ⟨hx, hb, hml, hown, hts⟩ (c_X3_sailor l D cI x a b σ τ (nI (q_bel (v >>> (1 &&& 31)) 3)) (nI (q_bel (v >>> (2 &&& 31)) 10)) (nI (q_bel (v >>> (4 &&& 31)) 21)) (nI (q_bel (v >>> (5 &&& 31)) 9)) hV.1 (nI_pos (by have := q_bel_lt (v >>> (1 &&& 31)) (N := 3) (by decide); omega)) (nI_lt (b := 3) (q_bel_lt (v >>> (1 &&& 31)) (N := 3) (by decide)) (by decide)) (nI_pos (by have := q_bel_lt (v >>> (2 &&& 31)) (N := 10) (by decide); omega)) (nI_le (b := 9) (by have := q_bel_lt (v >>> (2 &&& 31)) (N := 10) (by decide); omega) (by decide)) (nI_pos (by have := q_bel_lt (v >>> (4 &&& 31)) (N := 21) (by decide); omega)) (nI_le (b := 20) (by have := q_bel_lt (v >>> (4 &&& 31)) (N := 21) (by decide); omega) (by decide)) (nI_pos (by have := q_bel_lt (v >>> (5 &&& 31)) (N := 9) (by decide); omega)) (nI_le (b := 99) (by have := q_bel_lt (v >>> (5 &&& 31)) (N := 9) (by decide); omega) (by decide)) hn10 _) (cwV 4 hts gL_act_X3_sailor rfl rfl rfl zdX3_sailor ⟨Nat.le_of_ble_eq_true rfl, Nat.le_of_ble_eq_true rfl⟩) ⟨zbl _, va_recv hKi (zxd_P hP) (ci := 3) (q0 := 0) rfl rfl, zpr hKi (zxd_P hP) (zxd_D hD)⟩ rfl rfl hl.1 rfl (lv_room (Nat.le_of_ble_eq_true rfl)) dL_act_331 ⟨Nat.le_of_ble_eq_true rfl, Nat.le_of_ble_eq_true rfl⟩) hS hF (fun r H locs hw hkp hP1 hD1 hS => ?_)
        obtain ⟨hP, hD⟩ := zx_JL hP hD hkp hF hP1 hD1
        have hw : r = nI ns := hw
        subst hw
        refine lv_iload hx hb dL_act_334 (lv_at hl 2 rfl) ?_
        refine lv_icmp_ne (tgt := 343) hx hb dL_act_336 (by decide) (fun c => absurd (rfl) c) (fun _ => ?_)
        refine lv_iconst (v := 1) hx hb dL_act_339 (by decide) ?_
        refine lv_goto (tgt := 344) hx hb dL_act_340 (by decide) ?_
        exact kk (f_addS σ ns (nI (q_bel (v >>> (1 &&& 31)) 3)) (nI (q_bel (v >>> (2 &&& 31)) 10)) (nI (q_bel (v >>> (4 &&& 31)) 21)) (nI (q_bel (v >>> (5 &&& 31)) 9)), va_up u 2 q1, bd, va_up sl ns q2, nb, ns + 1, h) _ _ _ _ dL_act_344 ⟨rfl, hV.addS (q_bel_lt (v >>> (1 &&& 31)) (N := 3) (by decide)) (zle.of (by have := q_bel_lt (v >>> (2 &&& 31)) (N := 10) (by decide); omega)) (zle.of (by have := q_bel_lt (v >>> (4 &&& 31)) (N := 21) (by decide); omega)) (zle.of (by have := q_bel_lt (v >>> (5 &&& 31)) (N := 9) (by decide); omega)) hn10, Nat.le_add_right _ _, Nat.le_refl _, mo_addS _ _ _ _ _ _⟩ hP hD hS
      · refine lv_bipush (v := 100) hx hb dL_act_284 (by decide) ?_
        refine lv_goto (tgt := 291) hx hb dL_act_286 (by decide) ?_
        refine zk_R (D := D) (va_runS (As := [.int (v >>> (5 &&& 31)), .int (nI 100)]) (rest := [.ref q2]) ⟨hx, hb, hml, hown, hts⟩ (c_L_below l D (zT3 cI cB cS) (v >>> (5 &&& 31)) (N := 100) (by decide) (by decide) _) (va_cwS 2 hts gL_act_L_below rfl rfl rfl zdL_below.2 ⟨Nat.le_of_ble_eq_true rfl, Nat.le_of_ble_eq_true rfl⟩) ⟨zbl _, zpr hK zP0 (A := fun _ => True) zD0⟩ rfl rfl hl.1 rfl (lv_room (Nat.le_of_ble_eq_true rfl)) dL_act_291 ⟨Nat.le_of_ble_eq_true rfl, Nat.le_of_ble_eq_true rfl⟩) hS (fun r H locs hw hkp hS => ?_)
        have hP := hkp _ hP
        have hw : r = nI (q_bel (v >>> (5 &&& 31)) 100) := hw
        subst hw
        have hlt_q_19 : q_bel (v >>> (5 &&& 31)) 100 < 100 := q_bel_lt _ (by decide)
        refine va_put (D := D) (ci := 5) (v := .int (nI (q_bel (v >>> (5 &&& 31)) 100))) (ty := .int) (C := RX5) (T := TX5) (N := 13) hx hb hts hinX5 tyX5 tyX5_ok nmX5 hown hK hP hD hS ((zw_X cI x a b σ τ ++ zj cB cS u bd sl nb ns σ).length + 1) (zxr (i := 1) rfl) rfl 4 (by decide) hf54 (fun _ h9 => h9)  rfl (by decide +kernel) rfl rfl (Nat.le_of_ble_eq_true rfl) dL_act_294 (fun H locs hP hD hS => ?_)
        have hP : va_P D vwCl ((zw_X cI x a b σ τ ++ zj cB cS u bd sl nb ns σ) ++ [(q1, .inl (cS, ns + 1, .inr (.inr (.inr (.inr (q_cq sl ns)))))), (q2, .inr (5, [.int (nI ns), .int (nI (q_bel (v >>> (1 &&& 31)) 3)), .int (nI (q_bel (v >>> (2 &&& 31)) 10)), .int (nI (q_bel (v >>> (4 &&& 31)) 21)), .int (nI (q_bel (v >>> (5 &&& 31)) 100)), .int 1, .null, .null, .int 0, .int 0, .int 0, .int 0, .int 0]))]) H := by rw [zxs] at hP; exact hP
        have hD : va_D A ((zw_X cI x a b σ τ ++ zj cB cS u bd sl nb ns σ) ++ [(q1, .inl (cS, ns + 1, .inr (.inr (.inr (.inr (q_cq sl ns)))))), (q2, .inr (5, [.int (nI ns), .int (nI (q_bel (v >>> (1 &&& 31)) 3)), .int (nI (q_bel (v >>> (2 &&& 31)) 10)), .int (nI (q_bel (v >>> (4 &&& 31)) 21)), .int (nI (q_bel (v >>> (5 &&& 31)) 100)), .int 1, .null, .null, .int 0, .int 0, .int 0, .int 0, .int 0]))]) := by rw [zxs] at hD; exact hD
        refine lv_aload hx hb dL_act_297 (lv_at hl 1 rfl) ?_
        refine lv_iload hx hb dL_act_299 (lv_at hl 2 rfl) ?_
        refine lv_aload hx hb dL_act_301 (lv_at hl 0 rfl) ?_
        refine va_astq hx hb hK hP hD hS ((zw_X cI x a b σ τ ++ zj cB cS u bd sl nb ns σ).length + 0) 2 ((zw_X cI x a b σ τ ++ zj cB cS u bd sl nb ns σ).length + 1) 5 (zxr (i := 0) rfl) rfl (zxr (i := 1) rfl) rfl (vp_in_nI (by omega) (by omega)) dL_act_303 (fun H locs hP hD hS => ?_)
        have hP : va_P D vwCl ((zw_X cI x a b σ τ ++ zj cB cS u bd sl nb ns σ) ++ [(q1, .inl (cS, ns + 1, .inr (.inr (.inr (.inr (va_up (q_cq sl ns) (nI ns).toNatClampNeg (some q2))))))), (q2, .inr (5, [.int (nI ns), .int (nI (q_bel (v >>> (1 &&& 31)) 3)), .int (nI (q_bel (v >>> (2 &&& 31)) 10)), .int (nI (q_bel (v >>> (4 &&& 31)) 21)), .int (nI (q_bel (v >>> (5 &&& 31)) 100)), .int 1, .null, .null, .int 0, .int 0, .int 0, .int 0, .int 0]))]) H := by rw [zxs] at hP; exact hP
        have hD : va_D A ((zw_X cI x a b σ τ ++ zj cB cS u bd sl nb ns σ) ++ [(q1, .inl (cS, ns + 1, .inr (.inr (.inr (.inr (va_up (q_cq sl ns) (nI ns).toNatClampNeg (some q2))))))), (q2, .inr (5, [.int (nI ns), .int (nI (q_bel (v >>> (1 &&& 31)) 3)), .int (nI (q_bel (v >>> (2 &&& 31)) 10)), .int (nI (q_bel (v >>> (4 &&& 31)) 21)), .int (nI (q_bel (v >>> (5 &&& 31)) 100)), .int 1, .null, .null, .int 0, .int 0, .int 0, .int 0, .int 0]))]) := by rw [zxs] at hD; exact hD
        have hq := q_cq_n sl (k := ns) (by omega) q2
        refine lv_aload_n hx hb dL_act_304 rfl (lv_at hl 5 rfl) ?_
        refine lv_aload hx hb dL_act_305 (lv_at hl 1 rfl) ?_
        refine va_put (D := D) (ci := 6) (v := .ref q1) (ty := .array (.object "HotBedsLaw$Sailor")) (C := RX6) (T := TX6) (N := 5) hx hb hts hinX6 tyX6 tyX6_ok nmX6 hown hK hP hD hS ((zw_X cI x a b σ τ).length + 0) (zx_l (zxr (i := 0) rfl)) rfl 4 (by decide) hf15 (fun _ h9 => h9)  rfl (by decide +kernel) rfl rfl (Nat.le_of_ble_eq_true rfl) dL_act_307 (fun H locs hP hD hS => ?_)
        have hP : va_P D vwCl ((zw_X cI x a b σ τ ++ ((u 0, .inr (6, [.int (σ 0 0), .int (σ 0 1), .int (σ 0 2), .ref (u 1), .ref q1])) :: (u 1, .inl (cB, nb, .inr (.inr (.inr (.inr (zjA bd)))))) :: (u 2, .inl (cS, ns, .inr (.inr (.inr (.inr (zjA sl)))))) :: ((List.range nb).map (fun k => (bd k, zjB sl σ k)) ++ (List.range ns).map (fun k => (sl k, zjS bd σ k))))) ++ [(q1, .inl (cS, ns + 1, .inr (.inr (.inr (.inr (va_up (q_cq sl ns) (nI ns).toNatClampNeg (some q2))))))), (q2, .inr (5, [.int (nI ns), .int (nI (q_bel (v >>> (1 &&& 31)) 3)), .int (nI (q_bel (v >>> (2 &&& 31)) 10)), .int (nI (q_bel (v >>> (4 &&& 31)) 21)), .int (nI (q_bel (v >>> (5 &&& 31)) 100)), .int 1, .null, .null, .int 0, .int 0, .int 0, .int 0, .int 0]))]) H := by rw [zxs2 (Nat.succ_pos _)] at hP; exact hP
        have hD : va_D A ((zw_X cI x a b σ τ ++ ((u 0, .inr (6, [.int (σ 0 0), .int (σ 0 1), .int (σ 0 2), .ref (u 1), .ref q1])) :: (u 1, .inl (cB, nb, .inr (.inr (.inr (.inr (zjA bd)))))) :: (u 2, .inl (cS, ns, .inr (.inr (.inr (.inr (zjA sl)))))) :: ((List.range nb).map (fun k => (bd k, zjB sl σ k)) ++ (List.range ns).map (fun k => (sl k, zjS bd σ k))))) ++ [(q1, .inl (cS, ns + 1, .inr (.inr (.inr (.inr (va_up (q_cq sl ns) (nI ns).toNatClampNeg (some q2))))))), (q2, .inr (5, [.int (nI ns), .int (nI (q_bel (v >>> (1 &&& 31)) 3)), .int (nI (q_bel (v >>> (2 &&& 31)) 10)), .int (nI (q_bel (v >>> (4 &&& 31)) 21)), .int (nI (q_bel (v >>> (5 &&& 31)) 100)), .int 1, .null, .null, .int 0, .int 0, .int 0, .int 0, .int 0]))]) := by rw [zxs2 (Nat.succ_pos _)] at hD; exact hD
        refine lv_aload_n hx hb dL_act_310 rfl (lv_at hl 6 rfl) ?_
        refine lv_aload hx hb dL_act_311 (lv_at hl 0 rfl) ?_
        refine va_get (D := D) (ci := 5) (v := .int (nI (q_bel (v >>> (1 &&& 31)) 3))) (C := RX5) (T := TX5) (N := 13) hx hb hts hinX5 hown hK hP ((zw_X cI x a b σ τ ++ ((u 0, .inr (6, [.int (σ 0 0), .int (σ 0 1), .int (σ 0 2), .ref (u 1), .ref q1])) :: (u 1, .inl (cB, nb, .inr (.inr (.inr (.inr (zjA bd)))))) :: (u 2, .inl (cS, ns, .inr (.inr (.inr (.inr (zjA sl)))))) :: ((List.range nb).map (fun k => (bd k, zjB sl σ k)) ++ (List.range ns).map (fun k => (sl k, zjS bd σ k))))).length + 1) (zxr (i := 1) rfl) rfl 1 (by decide) hf45 (fun _ h9 => h9) rfl dL_act_313 ?_
        refine lv_aload hx hb dL_act_316 (lv_at hl 0 rfl) ?_
        refine va_get (D := D) (ci := 5) (v := .int (nI (q_bel (v >>> (2 &&& 31)) 10))) (C := RX5) (T := TX5) (N := 13) hx hb hts hinX5 hown hK hP ((zw_X cI x a b σ τ ++ ((u 0, .inr (6, [.int (σ 0 0), .int (σ 0 1), .int (σ 0 2), .ref (u 1), .ref q1])) :: (u 1, .inl (cB, nb, .inr (.inr (.inr (.inr (zjA bd)))))) :: (u 2, .inl (cS, ns, .inr (.inr (.inr (.inr (zjA sl)))))) :: ((List.range nb).map (fun k => (bd k, zjB sl σ k)) ++ (List.range ns).map (fun k => (sl k, zjS bd σ k))))).length + 1) (zxr (i := 1) rfl) rfl 2 (by decide) hf48 (fun _ h9 => h9) rfl dL_act_318 ?_
        refine lv_aload hx hb dL_act_321 (lv_at hl 0 rfl) ?_
        refine va_get (D := D) (ci := 5) (v := .int (nI (q_bel (v >>> (4 &&& 31)) 21))) (C := RX5) (T := TX5) (N := 13) hx hb hts hinX5 hown hK hP ((zw_X cI x a b σ τ ++ ((u 0, .inr (6, [.int (σ 0 0), .int (σ 0 1), .int (σ 0 2), .ref (u 1), .ref q1])) :: (u 1, .inl (cB, nb, .inr (.inr (.inr (.inr (zjA bd)))))) :: (u 2, .inl (cS, ns, .inr (.inr (.inr (.inr (zjA sl)))))) :: ((List.range nb).map (fun k => (bd k, zjB sl σ k)) ++ (List.range ns).map (fun k => (sl k, zjS bd σ k))))).length + 1) (zxr (i := 1) rfl) rfl 3 (by decide) hf51 (fun _ h9 => h9) rfl dL_act_323 ?_
        refine lv_aload hx hb dL_act_326 (lv_at hl 0 rfl) ?_
        refine va_get (D := D) (ci := 5) (v := .int (nI (q_bel (v >>> (5 &&& 31)) 100))) (C := RX5) (T := TX5) (N := 13) hx hb hts hinX5 hown hK hP ((zw_X cI x a b σ τ ++ ((u 0, .inr (6, [.int (σ 0 0), .int (σ 0 1), .int (σ 0 2), .ref (u 1), .ref q1])) :: (u 1, .inl (cB, nb, .inr (.inr (.inr (.inr (zjA bd)))))) :: (u 2, .inl (cS, ns, .inr (.inr (.inr (.inr (zjA sl)))))) :: ((List.range nb).map (fun k => (bd k, zjB sl σ k)) ++ (List.range ns).map (fun k => (sl k, zjS bd σ k))))).length + 1) (zxr (i := 1) rfl) rfl 4 (by decide) hf54 (fun _ h9 => h9) rfl dL_act_328 ?_
        obtain ⟨hP, hD⟩ := zj_addS hV (nI (q_bel (v >>> (1 &&& 31)) 3)) (nI (q_bel (v >>> (2 &&& 31)) 10)) (nI (q_bel (v >>> (4 &&& 31)) 21)) (nI (q_bel (v >>> (5 &&& 31)) 100)) hq.1 hq.2 hP hD
        have hF := zfree (zxd_D hD) hS hA
        refine zk_I (va_runV (As := [.int (nI (q_bel (v >>> (1 &&& 31)) 3)), .int (nI (q_bel (v >>> (2 &&& 31)) 10)), .int (nI (q_bel (v >>> (4 &&& 31)) 21)), .int (nI (q_bel (v >>> (5 &&& 31)) 100))]) (rest := []) ⟨hx, hb, hml, hown, hts⟩ (c_X3_sailor l D cI x a b σ τ (nI (q_bel (v >>> (1 &&& 31)) 3)) (nI (q_bel (v >>> (2 &&& 31)) 10)) (nI (q_bel (v >>> (4 &&& 31)) 21)) (nI (q_bel (v >>> (5 &&& 31)) 100)) hV.1 (nI_pos (by have := q_bel_lt (v >>> (1 &&& 31)) (N := 3) (by decide); omega)) (nI_lt (b := 3) (q_bel_lt (v >>> (1 &&& 31)) (N := 3) (by decide)) (by decide)) (nI_pos (by have := q_bel_lt (v >>> (2 &&& 31)) (N := 10) (by decide); omega)) (nI_le (b := 9) (by have := q_bel_lt (v >>> (2 &&& 31)) (N := 10) (by decide); omega) (by decide)) (nI_pos (by have := q_bel_lt (v >>> (4 &&& 31)) (N := 21) (by decide); omega)) (nI_le (b := 20) (by have := q_bel_lt (v >>> (4 &&& 31)) (N := 21) (by decide); omega) (by decide)) (nI_pos (by have := q_bel_lt (v >>> (5 &&& 31)) (N := 100) (by decide); omega)) (nI_le (b := 99) (by have := q_bel_lt (v >>> (5 &&& 31)) (N := 100) (by decide); omega) (by decide)) hn10 _) (cwV 4 hts gL_act_X3_sailor rfl rfl rfl zdX3_sailor ⟨Nat.le_of_ble_eq_true rfl, Nat.le_of_ble_eq_true rfl⟩) ⟨zbl _, va_recv hKi (zxd_P hP) (ci := 3) (q0 := 0) rfl rfl, zpr hKi (zxd_P hP) (zxd_D hD)⟩ rfl rfl hl.1 rfl (lv_room (Nat.le_of_ble_eq_true rfl)) dL_act_331 ⟨Nat.le_of_ble_eq_true rfl, Nat.le_of_ble_eq_true rfl⟩) hS hF (fun r H locs hw hkp hP1 hD1 hS => ?_)
        obtain ⟨hP, hD⟩ := zx_JL hP hD hkp hF hP1 hD1
        have hw : r = nI ns := hw
        subst hw
        refine lv_iload hx hb dL_act_334 (lv_at hl 2 rfl) ?_
        refine lv_icmp_ne (tgt := 343) hx hb dL_act_336 (by decide) (fun c => absurd (rfl) c) (fun _ => ?_)
        refine lv_iconst (v := 1) hx hb dL_act_339 (by decide) ?_
        refine lv_goto (tgt := 344) hx hb dL_act_340 (by decide) ?_
        exact kk (f_addS σ ns (nI (q_bel (v >>> (1 &&& 31)) 3)) (nI (q_bel (v >>> (2 &&& 31)) 10)) (nI (q_bel (v >>> (4 &&& 31)) 21)) (nI (q_bel (v >>> (5 &&& 31)) 100)), va_up u 2 q1, bd, va_up sl ns q2, nb, ns + 1, h) _ _ _ _ dL_act_344 ⟨rfl, hV.addS (q_bel_lt (v >>> (1 &&& 31)) (N := 3) (by decide)) (zle.of (by have := q_bel_lt (v >>> (2 &&& 31)) (N := 10) (by decide); omega)) (zle.of (by have := q_bel_lt (v >>> (4 &&& 31)) (N := 21) (by decide); omega)) (zle.of (by have := q_bel_lt (v >>> (5 &&& 31)) (N := 100) (by decide); omega)) hn10, Nat.le_add_right _ _, Nat.le_refl _, mo_addS _ _ _ _ _ _⟩ hP hD hS
