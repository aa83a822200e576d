set_option maxHeartbeats 4000000 in
set_option maxRecDepth 100000 in
theorem c_X6_free (l : Launch) (D : va_G) (cI cB cS : ClassId) (u bd sl : Nat → Nat) (σ : zS) {k : Nat} {nb ns h B : Nat} (hV : zV σ nb ns h B) (hk : k < ns) : zMF l yX6_free wsX6_free ({ frames := 0, cells := 0, slots := 0, locals := 0 }) [.ref (u 0), .ref (sl k)] D (zT3 cI cB cS) (zj cB cS u bd sl nb ns σ) (fun r => r = zro bd (f_choose σ nb k)) := by
  intro sz
  refine Met.ofW (cc := cX6_free) (maxL := 7) (ret := (some (.object "HotBedsLaw$Bed"))) (by decide) rfl ?_
  intro p e s m args below meth c s₁ B hml hv
  obtain ⟨rfl, hsz, hP, hK, hD⟩ := hv
  have hx := B.exec
  have hb := B.bytes
  have hr := B.returns
  have hts := atoms_spec (ws := wsX6_free) B.pre
  have hown : s.vm.findClass RX6 = some m.cls := findClass_of_methodNamed B.named
  have hlocks := B.notSynchronized
  have hS : va_S (fun _ => False) s.heap s.heap [] := va_S.rf
  have hP : va_P D vwCl (zj cB cS u bd sl nb ns σ) s.heap := hP
  have hl := lv_entry ([.ref (u 0), .ref (sl k)]) (n := 7) (Nat.le_of_ble_eq_true rfl)
  rw [lg_entry_eq]
  generalize (lg_sl ([.ref (u 0), .ref (sl k)]) ++ List.replicate (7 - (lg_sl ([.ref (u 0), .ref (sl k)])).length) Slot.unset).toArray = ls at hl ⊢
  have hl : lv_has ls 7 [(0, .ref (u 0)), (1, .ref (sl k))] := hl
  have hf18 := hts (.fieldLink RX6 18 "HotBedsLaw$Sim" "beds" "[LHotBedsLaw$Bed;") (by decide +kernel)
  have hf36 := hts (.fieldLink RX6 36 "HotBedsLaw$Bed" "price" "I") (by decide +kernel)
  have hf66 := hts (.fieldLink RX6 66 "HotBedsLaw$Sailor" "kept" "LHotBedsLaw$Bed;") (by decide +kernel)
  have hf73 := hts (.fieldLink RX6 73 "HotBedsLaw$Bed" "who" "LHotBedsLaw$Sailor;") (by decide +kernel)
  have hinX4 : ∀ w ∈ u_ws RX4 TX4 6, w ∈ wsX6_free := by decide +kernel
  have hinX5 : ∀ w ∈ u_ws RX5 TX5 13, w ∈ wsX6_free := by decide +kernel
  have hinX6 : ∀ w ∈ u_ws RX6 TX6 5, w ∈ wsX6_free := by decide +kernel
  have hh := hV.1.2.2.2.2.2.1
  have hnb := hV.1.2.1
  have hns := hV.1.2.2.2.1
  refine lv_aload_n hx hb dX6_free_0 rfl (lv_at hl 1 rfl) ?_
  rcases (hV.ksk hk).2.2.1 with e11b_1 | ⟨b_1, hb_1, e11b_1⟩
  · refine va_get (D := D) (ci := 5) (v := .null) (C := RX5) (T := TX5) (N := 13) hx hb hts hinX5 hown hK hP (3 + nb + k) (zjq_S hk) rfl 6 (by decide) hf66 (fun _ h9 => h9) (congrArg some (zrf_n e11b_1)) dX6_free_1 ?_
    refine lv_ifnullN (tgt := 22) hx hb dX6_free_4 (by decide) ?_
    refine lv_null hx hb dX6_free_22 ?_
    refine lv_astore_nN (lv' := [(2, .null), (0, .ref (u 0)), (1, .ref (sl k))]) hx hb dX6_free_23 rfl hl (by decide) rfl (fun ls hl => ?_)
    refine lv_aload_n hx hb dX6_free_24 rfl (lv_at hl 1 rfl) ?_
    refine va_get (D := D) (ci := 6) (v := .ref (u 1)) (C := RX6) (T := TX6) (N := 5) hx hb hts hinX6 hown hK hP 0 rfl rfl 3 (by decide) hf18 (fun _ h9 => h9) rfl dX6_free_25 ?_
    refine lv_astore_n (lv' := [(3, .ref (u 1)), (2, .null), (0, .ref (u 0)), (1, .ref (sl k))]) hx hb dX6_free_28 rfl hl (by decide) rfl (fun ls hl => ?_)
    refine lv_aload_n hx hb dX6_free_29 rfl (lv_at hl 0 rfl) ?_
    refine va_alen hx hb hK hP 1 1 rfl rfl (v := nI nb) rfl dX6_free_30 ?_
    refine lv_istore (lv' := [(4, .int (nI nb)), (3, .ref (u 1)), (2, .null), (0, .ref (u 0)), (1, .ref (sl k))]) hx hb dX6_free_31 hl (by decide) rfl (fun ls hl => ?_)
    refine lv_iconst (v := 0) hx hb dX6_free_33 (by decide) ?_
    refine lv_istore (lv' := [(5, .int 0), (4, .int (nI nb)), (3, .ref (u 1)), (2, .null), (0, .ref (u 0)), (1, .ref (sl k))]) hx hb dX6_free_34 hl (by decide) rfl (fun ls hl => ?_)
    have hfc : f_choose σ nb k = f_ch σ nb := by unfold f_choose; rw [if_neg (by rw [e11b_1]; exact fun z => zm1_nhas z.1)]
    have e0 : zrf bd (f_ch σ 0) = .null := zrf_n rfl
    refine zk_loop (pc := 36) (fun j H locs ls => va_P D vwCl (zj cB cS u bd sl nb ns σ) H ∧ va_S (fun _ => False) s.heap H locs ∧ lv_has ls 7 [(0, .ref (u 0)), (1, .ref (sl k)), (2, zrf bd (f_ch σ j)), (3, .ref (u 1)), (4, .int (nI nb)), (5, .int (nI j))]) nb (fun j hj ih H locs ls hI => ?_) (fun H locs ls hI => ?_) _ _ _ ⟨hP, hS, by rw [e0]; exact lv_sub hl [4, 5, 3, 2, 1, 0] rfl⟩
    · obtain ⟨hP, hS, hl⟩ := hI
      rcases zch σ j with ec | ⟨b2, hb2, ec⟩
      · rw [zrf_n ec] at hl
        refine lv_iload hx hb dX6_free_36 (lv_at hl 5 rfl) ?_
        refine lv_iload hx hb dX6_free_38 (lv_at hl 4 rfl) ?_
        refine lv_icmp_ge (tgt := 82) hx hb dX6_free_40 (by decide) (fun c => absurd c (nI_ge hj (by omega))) (fun _ => ?_)
        refine lv_aload_n hx hb dX6_free_43 rfl (lv_at hl 3 rfl) ?_
        refine lv_iload hx hb dX6_free_44 (lv_at hl 5 rfl) ?_
        refine zk_ldq hx hb hK hP 1 1 rfl rfl (k := j) hj (by omega) (v := bd j) rfl dX6_free_46 ?_
        refine lv_astore (lv' := [(6, .ref (bd j)), (0, .ref (u 0)), (1, .ref (sl k)), (2, .null), (3, .ref (u 1)), (4, .int (nI nb)), (5, .int (nI j))]) hx hb dX6_free_47 hl (by decide) rfl (fun ls hl => ?_)
        refine lv_aload hx hb dX6_free_49 (lv_at hl 0 rfl) ?_
        rcases (hV.kbd hj).2.2.2 with e5b_3 | ⟨k_3, hk_3, e5b_3, -⟩
        · refine va_get (D := D) (ci := 4) (v := .null) (C := RX4) (T := TX4) (N := 6) hx hb hts hinX4 hown hK hP (3 + j) (zjq_B hj) rfl 4 (by decide) hf73 (fun _ h9 => h9) (congrArg some (zrf_n e5b_3)) dX6_free_51 ?_
          refine lv_ifnonnullN hx hb dX6_free_54 ?_
          refine lv_aload_nN hx hb dX6_free_57 rfl (lv_at hl 3 rfl) ?_
          refine lv_ifnullN (tgt := 73) hx hb dX6_free_58 (by decide) ?_
          refine lv_aload hx hb dX6_free_73 (lv_at hl 0 rfl) ?_
          refine lv_astore_n (lv' := [(2, .ref (bd j)), (6, .ref (bd j)), (0, .ref (u 0)), (1, .ref (sl k)), (3, .ref (u 1)), (4, .int (nI nb)), (5, .int (nI j))]) hx hb dX6_free_75 rfl hl (by decide) rfl (fun ls hl => ?_)
          refine lv_iinc (v := nI (j + 1)) (lv' := [(5, .int (nI (j + 1))), (2, .ref (bd j)), (6, .ref (bd j)), (0, .ref (u 0)), (1, .ref (sl k)), (3, .ref (u 1)), (4, .int (nI nb))]) hx hb dX6_free_76 hl (k := 6) rfl (nI_1 j) (by decide) rfl (fun ls hl => ?_)
          refine lv_goto (tgt := 36) hx hb dX6_free_79 (by decide) ?_
          have e1 : f_ch σ (j + 1) = nI j := if_pos ⟨e5b_3, Or.inl ec⟩
          exact ih _ _ _ ⟨hP, hS, by rw [e1, zrf_r (b := j) rfl (by omega)]; exact lv_sub hl [3, 4, 1, 5, 6, 0] rfl⟩
        · refine va_get (D := D) (ci := 4) (v := .ref (sl k_3)) (C := RX4) (T := TX4) (N := 6) hx hb hts hinX4 hown hK hP (3 + j) (zjq_B hj) rfl 4 (by decide) hf73 (fun _ h9 => h9) (congrArg some (zrf_r e5b_3 (by omega))) dX6_free_51 ?_
          refine lv_ifnonnull (tgt := 76) hx hb dX6_free_54 (by decide) ?_
          refine lv_iinc (v := nI (j + 1)) (lv' := [(5, .int (nI (j + 1))), (6, .ref (bd j)), (0, .ref (u 0)), (1, .ref (sl k)), (2, .null), (3, .ref (u 1)), (4, .int (nI nb))]) hx hb dX6_free_76 hl (k := 6) rfl (nI_1 j) (by decide) rfl (fun ls hl => ?_)
          refine lv_goto (tgt := 36) hx hb dX6_free_79 (by decide) ?_
          have e1 : f_ch σ (j + 1) = f_ch σ j := if_neg (fun z => zn_m1 (k := k_3) (by omega) (e5b_3.symm.trans z.1))
          exact ih _ _ _ ⟨hP, hS, by rw [e1, zrf_n ec]; exact lv_sub hl [2, 3, 4, 5, 6, 0] rfl⟩
      · rw [zrf_r ec (by omega)] at hl
        refine lv_iload hx hb dX6_free_36 (lv_at hl 5 rfl) ?_
        refine lv_iload hx hb dX6_free_38 (lv_at hl 4 rfl) ?_
        refine lv_icmp_ge (tgt := 82) hx hb dX6_free_40 (by decide) (fun c => absurd c (nI_ge hj (by omega))) (fun _ => ?_)
        refine lv_aload_n hx hb dX6_free_43 rfl (lv_at hl 3 rfl) ?_
        refine lv_iload hx hb dX6_free_44 (lv_at hl 5 rfl) ?_
        refine zk_ldq hx hb hK hP 1 1 rfl rfl (k := j) hj (by omega) (v := bd j) rfl dX6_free_46 ?_
        refine lv_astore (lv' := [(6, .ref (bd j)), (0, .ref (u 0)), (1, .ref (sl k)), (2, .ref (bd b2)), (3, .ref (u 1)), (4, .int (nI nb)), (5, .int (nI j))]) hx hb dX6_free_47 hl (by decide) rfl (fun ls hl => ?_)
        refine lv_aload hx hb dX6_free_49 (lv_at hl 0 rfl) ?_
        rcases (hV.kbd hj).2.2.2 with e5b_5 | ⟨k_5, hk_5, e5b_5, -⟩
        · refine va_get (D := D) (ci := 4) (v := .null) (C := RX4) (T := TX4) (N := 6) hx hb hts hinX4 hown hK hP (3 + j) (zjq_B hj) rfl 4 (by decide) hf73 (fun _ h9 => h9) (congrArg some (zrf_n e5b_5)) dX6_free_51 ?_
          refine lv_ifnonnullN hx hb dX6_free_54 ?_
          refine lv_aload_n hx hb dX6_free_57 rfl (lv_at hl 3 rfl) ?_
          refine lv_ifnull hx hb dX6_free_58 ?_
          refine lv_aload hx hb dX6_free_61 (lv_at hl 0 rfl) ?_
          refine va_get (D := D) (ci := 4) (v := .int (σ 1 j)) (C := RX4) (T := TX4) (N := 6) hx hb hts hinX4 hown hK hP (3 + j) (zjq_B hj) rfl 0 (by decide) hf36 (fun _ h9 => h9) rfl dX6_free_63 ?_
          refine lv_aload_n hx hb dX6_free_66 rfl (lv_at hl 3 rfl) ?_
          refine va_get (D := D) (ci := 4) (v := .int (σ 1 b2)) (C := RX4) (T := TX4) (N := 6) hx hb hts hinX4 hown hK hP (3 + b2) (zjq_B (Nat.lt_trans hb2 hj)) rfl 0 (by decide) hf36 (fun _ h9 => h9) rfl dX6_free_67 ?_
          refine lv_icmp_ge (tgt := 76) hx hb dX6_free_70 (by decide) (fun c_6 => ?_) (fun c_6 => ?_)
          · refine lv_iinc (v := nI (j + 1)) (lv' := [(5, .int (nI (j + 1))), (6, .ref (bd j)), (0, .ref (u 0)), (1, .ref (sl k)), (2, .ref (bd b2)), (3, .ref (u 1)), (4, .int (nI nb))]) hx hb dX6_free_76 hl (k := 6) rfl (nI_1 j) (by decide) rfl (fun ls hl => ?_)
            refine lv_goto (tgt := 36) hx hb dX6_free_79 (by decide) ?_
            have e1 : f_ch σ (j + 1) = f_ch σ j := if_neg (fun z => z.2.elim (fun y => zn_m1 (k := b2) (by omega) (ec.symm.trans y)) (fun y => y (by rw [ec, nI_clamp (by omega)]; exact c_6)))
            exact ih _ _ _ ⟨hP, hS, by rw [e1, zrf_r ec (by omega)]; exact lv_sub hl [2, 3, 4, 5, 6, 0] rfl⟩
          · refine lv_aload hx hb dX6_free_73 (lv_at hl 0 rfl) ?_
            refine lv_astore_n (lv' := [(2, .ref (bd j)), (6, .ref (bd j)), (0, .ref (u 0)), (1, .ref (sl k)), (3, .ref (u 1)), (4, .int (nI nb)), (5, .int (nI j))]) hx hb dX6_free_75 rfl hl (by decide) rfl (fun ls hl => ?_)
            refine lv_iinc (v := nI (j + 1)) (lv' := [(5, .int (nI (j + 1))), (2, .ref (bd j)), (6, .ref (bd j)), (0, .ref (u 0)), (1, .ref (sl k)), (3, .ref (u 1)), (4, .int (nI nb))]) hx hb dX6_free_76 hl (k := 6) rfl (nI_1 j) (by decide) rfl (fun ls hl => ?_)
            refine lv_goto (tgt := 36) hx hb dX6_free_79 (by decide) ?_
            have e1 : f_ch σ (j + 1) = nI j := if_pos ⟨e5b_5, Or.inr (by rw [ec, nI_clamp (by omega)]; exact c_6)⟩
            exact ih _ _ _ ⟨hP, hS, by rw [e1, zrf_r (b := j) rfl (by omega)]; exact lv_sub hl [3, 4, 1, 5, 6, 0] rfl⟩
        · refine va_get (D := D) (ci := 4) (v := .ref (sl k_5)) (C := RX4) (T := TX4) (N := 6) hx hb hts hinX4 hown hK hP (3 + j) (zjq_B hj) rfl 4 (by decide) hf73 (fun _ h9 => h9) (congrArg some (zrf_r e5b_5 (by omega))) dX6_free_51 ?_
          refine lv_ifnonnull (tgt := 76) hx hb dX6_free_54 (by decide) ?_
          refine lv_iinc (v := nI (j + 1)) (lv' := [(5, .int (nI (j + 1))), (6, .ref (bd j)), (0, .ref (u 0)), (1, .ref (sl k)), (2, .ref (bd b2)), (3, .ref (u 1)), (4, .int (nI nb))]) hx hb dX6_free_76 hl (k := 6) rfl (nI_1 j) (by decide) rfl (fun ls hl => ?_)
          refine lv_goto (tgt := 36) hx hb dX6_free_79 (by decide) ?_
          have e1 : f_ch σ (j + 1) = f_ch σ j := if_neg (fun z => zn_m1 (k := k_5) (by omega) (e5b_5.symm.trans z.1))
          exact ih _ _ _ ⟨hP, hS, by rw [e1, zrf_r ec (by omega)]; exact lv_sub hl [2, 3, 4, 5, 6, 0] rfl⟩
    · obtain ⟨hP, hS, hl⟩ := hI
      rcases zch σ nb with ec | ⟨b2, hb2, ec⟩
      · rw [zrf_n ec] at hl
        refine lv_iload hx hb dX6_free_36 (lv_at hl 5 rfl) ?_
        refine lv_iload hx hb dX6_free_38 (lv_at hl 4 rfl) ?_
        refine lv_icmp_ge (tgt := 82) hx hb dX6_free_40 (by decide) (fun _ => ?_) (fun c => absurd (i32_rf _) c)
        refine lv_aload_nN hx hb dX6_free_82 rfl (lv_at hl 2 rfl) ?_
        exact W.aret (v := .null) hx hb hr (Or.inl ⟨_, rfl⟩) (Or.inl rfl) (fun t ht hW => ⟨⟨none, (), rfl, (by show none = zro bd _; rw [hfc, zro_n ec]), trivial⟩, hS.F ht⟩) hS.2.2 dX6_free_83
      · rw [zrf_r ec (by omega)] at hl
        refine lv_iload hx hb dX6_free_36 (lv_at hl 5 rfl) ?_
        refine lv_iload hx hb dX6_free_38 (lv_at hl 4 rfl) ?_
        refine lv_icmp_ge (tgt := 82) hx hb dX6_free_40 (by decide) (fun _ => ?_) (fun c => absurd (i32_rf _) c)
        refine lv_aload_n hx hb dX6_free_82 rfl (lv_at hl 2 rfl) ?_
        exact W.aret (v := .ref (bd b2)) hx hb hr (Or.inl ⟨_, rfl⟩) (Or.inr ⟨_, rfl⟩) (fun t ht hW => ⟨⟨(some (bd b2)), (), rfl, (by show some (bd b2) = zro bd _; rw [hfc, zro_r ec (by omega)]), trivial⟩, hS.F ht⟩) hS.2.2 dX6_free_83
  · refine va_get (D := D) (ci := 5) (v := .ref (bd b_1)) (C := RX5) (T := TX5) (N := 13) hx hb hts hinX5 hown hK hP (3 + nb + k) (zjq_S hk) rfl 6 (by decide) hf66 (fun _ h9 => h9) (congrArg some (zrf_r e11b_1 (by omega))) dX6_free_1 ?_
    refine lv_ifnull hx hb dX6_free_4 ?_
    refine lv_aload_n hx hb dX6_free_7 rfl (lv_at hl 1 rfl) ?_
    refine va_get (D := D) (ci := 5) (v := .ref (bd b_1)) (C := RX5) (T := TX5) (N := 13) hx hb hts hinX5 hown hK hP (3 + nb + k) (zjq_S hk) rfl 6 (by decide) hf66 (fun _ h9 => h9) (congrArg some (zrf_r e11b_1 (by omega))) dX6_free_8 ?_
    rcases (hV.kbd hb_1).2.2.2 with e5b_9 | ⟨k_9, hk_9, e5b_9, -⟩
    · refine va_get (D := D) (ci := 4) (v := .null) (C := RX4) (T := TX4) (N := 6) hx hb hts hinX4 hown hK hP (3 + b_1) (zjq_B hb_1) rfl 4 (by decide) hf73 (fun _ h9 => h9) (congrArg some (zrf_n e5b_9)) dX6_free_11 ?_
      refine lv_ifnonnullN hx hb dX6_free_14 ?_
      refine lv_aload_n hx hb dX6_free_17 rfl (lv_at hl 1 rfl) ?_
      refine va_get (D := D) (ci := 5) (v := .ref (bd b_1)) (C := RX5) (T := TX5) (N := 13) hx hb hts hinX5 hown hK hP (3 + nb + k) (zjq_S hk) rfl 6 (by decide) hf66 (fun _ h9 => h9) (congrArg some (zrf_r e11b_1 (by omega))) dX6_free_18 ?_
      exact W.aret (v := .ref (bd b_1)) hx hb hr (Or.inl ⟨_, rfl⟩) (Or.inr ⟨_, rfl⟩) (fun t ht hW => ⟨⟨(some (bd b_1)), (), rfl, (by show some _ = zro bd _; unfold f_choose; rw [if_pos (by rw [e11b_1]; exact (zfree_k hV.1 hb_1).mpr e5b_9), zro_r e11b_1 (by omega)]), trivial⟩, hS.F ht⟩) hS.2.2 dX6_free_21
    · refine va_get (D := D) (ci := 4) (v := .ref (sl k_9)) (C := RX4) (T := TX4) (N := 6) hx hb hts hinX4 hown hK hP (3 + b_1) (zjq_B hb_1) rfl 4 (by decide) hf73 (fun _ h9 => h9) (congrArg some (zrf_r e5b_9 (by omega))) dX6_free_11 ?_
      refine lv_ifnonnull (tgt := 22) hx hb dX6_free_14 (by decide) ?_
      refine lv_null hx hb dX6_free_22 ?_
      refine lv_astore_nN (lv' := [(2, .null), (0, .ref (u 0)), (1, .ref (sl k))]) hx hb dX6_free_23 rfl hl (by decide) rfl (fun ls hl => ?_)
      refine lv_aload_n hx hb dX6_free_24 rfl (lv_at hl 1 rfl) ?_
      refine va_get (D := D) (ci := 6) (v := .ref (u 1)) (C := RX6) (T := TX6) (N := 5) hx hb hts hinX6 hown hK hP 0 rfl rfl 3 (by decide) hf18 (fun _ h9 => h9) rfl dX6_free_25 ?_
      refine lv_astore_n (lv' := [(3, .ref (u 1)), (2, .null), (0, .ref (u 0)), (1, .ref (sl k))]) hx hb dX6_free_28 rfl hl (by decide) rfl (fun ls hl => ?_)
      refine lv_aload_n hx hb dX6_free_29 rfl (lv_at hl 0 rfl) ?_
      refine va_alen hx hb hK hP 1 1 rfl rfl (v := nI nb) rfl dX6_free_30 ?_
      refine lv_istore (lv' := [(4, .int (nI nb)), (3, .ref (u 1)), (2, .null), (0, .ref (u 0)), (1, .ref (sl k))]) hx hb dX6_free_31 hl (by decide) rfl (fun ls hl => ?_)
      refine lv_iconst (v := 0) hx hb dX6_free_33 (by decide) ?_
      refine lv_istore (lv' := [(5, .int 0), (4, .int (nI nb)), (3, .ref (u 1)), (2, .null), (0, .ref (u 0)), (1, .ref (sl k))]) hx hb dX6_free_34 hl (by decide) rfl (fun ls hl => ?_)
      have hfc : f_choose σ nb k = f_ch σ nb := by unfold f_choose; rw [if_neg (by rw [e11b_1]; exact fun z => zn_m1 (k := k_9) (by omega) (e5b_9.symm.trans ((zfree_k hV.1 hb_1).mp z)))]
      have e0 : zrf bd (f_ch σ 0) = .null := zrf_n rfl
      refine zk_loop (pc := 36) (fun j H locs ls => va_P D vwCl (zj cB cS u bd sl nb ns σ) H ∧ va_S (fun _ => False) s.heap H locs ∧ lv_has ls 7 [(0, .ref (u 0)), (1, .ref (sl k)), (2, zrf bd (f_ch σ j)), (3, .ref (u 1)), (4, .int (nI nb)), (5, .int (nI j))]) nb (fun j hj ih H locs ls hI => ?_) (fun H locs ls hI => ?_) _ _ _ ⟨hP, hS, by rw [e0]; exact lv_sub hl [4, 5, 3, 2, 1, 0] rfl⟩
      · obtain ⟨hP, hS, hl⟩ := hI
        rcases zch σ j with ec | ⟨b2, hb2, ec⟩
        · rw [zrf_n ec] at hl
          refine lv_iload hx hb dX6_free_36 (lv_at hl 5 rfl) ?_
          refine lv_iload hx hb dX6_free_38 (lv_at hl 4 rfl) ?_
          refine lv_icmp_ge (tgt := 82) hx hb dX6_free_40 (by decide) (fun c => absurd c (nI_ge hj (by omega))) (fun _ => ?_)
          refine lv_aload_n hx hb dX6_free_43 rfl (lv_at hl 3 rfl) ?_
          refine lv_iload hx hb dX6_free_44 (lv_at hl 5 rfl) ?_
          refine zk_ldq hx hb hK hP 1 1 rfl rfl (k := j) hj (by omega) (v := bd j) rfl dX6_free_46 ?_
          refine lv_astore (lv' := [(6, .ref (bd j)), (0, .ref (u 0)), (1, .ref (sl k)), (2, .null), (3, .ref (u 1)), (4, .int (nI nb)), (5, .int (nI j))]) hx hb dX6_free_47 hl (by decide) rfl (fun ls hl => ?_)
          refine lv_aload hx hb dX6_free_49 (lv_at hl 0 rfl) ?_
          rcases (hV.kbd hj).2.2.2 with e5b_11 | ⟨k_11, hk_11, e5b_11, -⟩
          · refine va_get (D := D) (ci := 4) (v := .null) (C := RX4) (T := TX4) (N := 6) hx hb hts hinX4 hown hK hP (3 + j) (zjq_B hj) rfl 4 (by decide) hf73 (fun _ h9 => h9) (congrArg some (zrf_n e5b_11)) dX6_free_51 ?_
            refine lv_ifnonnullN hx hb dX6_free_54 ?_
            refine lv_aload_nN hx hb dX6_free_57 rfl (lv_at hl 3 rfl) ?_
            refine lv_ifnullN (tgt := 73) hx hb dX6_free_58 (by decide) ?_
            refine lv_aload hx hb dX6_free_73 (lv_at hl 0 rfl) ?_
            refine lv_astore_n (lv' := [(2, .ref (bd j)), (6, .ref (bd j)), (0, .ref (u 0)), (1, .ref (sl k)), (3, .ref (u 1)), (4, .int (nI nb)), (5, .int (nI j))]) hx hb dX6_free_75 rfl hl (by decide) rfl (fun ls hl => ?_)
            refine lv_iinc (v := nI (j + 1)) (lv' := [(5, .int (nI (j + 1))), (2, .ref (bd j)), (6, .ref (bd j)), (0, .ref (u 0)), (1, .ref (sl k)), (3, .ref (u 1)), (4, .int (nI nb))]) hx hb dX6_free_76 hl (k := 6) rfl (nI_1 j) (by decide) rfl (fun ls hl => ?_)
            refine lv_goto (tgt := 36) hx hb dX6_free_79 (by decide) ?_
            have e1 : f_ch σ (j + 1) = nI j := if_pos ⟨e5b_11, Or.inl ec⟩
            exact ih _ _ _ ⟨hP, hS, by rw [e1, zrf_r (b := j) rfl (by omega)]; exact lv_sub hl [3, 4, 1, 5, 6, 0] rfl⟩
          · refine va_get (D := D) (ci := 4) (v := .ref (sl k_11)) (C := RX4) (T := TX4) (N := 6) hx hb hts hinX4 hown hK hP (3 + j) (zjq_B hj) rfl 4 (by decide) hf73 (fun _ h9 => h9) (congrArg some (zrf_r e5b_11 (by omega))) dX6_free_51 ?_
            refine lv_ifnonnull (tgt := 76) hx hb dX6_free_54 (by decide) ?_
            refine lv_iinc (v := nI (j + 1)) (lv' := [(5, .int (nI (j + 1))), (6, .ref (bd j)), (0, .ref (u 0)), (1, .ref (sl k)), (2, .null), (3, .ref (u 1)), (4, .int (nI nb))]) hx hb dX6_free_76 hl (k := 6) rfl (nI_1 j) (by decide) rfl (fun ls hl => ?_)
            refine lv_goto (tgt := 36) hx hb dX6_free_79 (by decide) ?_
            have e1 : f_ch σ (j + 1) = f_ch σ j := if_neg (fun z => zn_m1 (k := k_11) (by omega) (e5b_11.symm.trans z.1))
            exact ih _ _ _ ⟨hP, hS, by rw [e1, zrf_n ec]; exact lv_sub hl [2, 3, 4, 5, 6, 0] rfl⟩
        · rw [zrf_r ec (by omega)] at hl
          refine lv_iload hx hb dX6_free_36 (lv_at hl 5 rfl) ?_
          refine lv_iload hx hb dX6_free_38 (lv_at hl 4 rfl) ?_
          refine lv_icmp_ge (tgt := 82) hx hb dX6_free_40 (by decide) (fun c => absurd c (nI_ge hj (by omega))) (fun _ => ?_)
          refine lv_aload_n hx hb dX6_free_43 rfl (lv_at hl 3 rfl) ?_
          refine lv_iload hx hb dX6_free_44 (lv_at hl 5 rfl) ?_
          refine zk_ldq hx hb hK hP 1 1 rfl rfl (k := j) hj (by omega) (v := bd j) rfl dX6_free_46 ?_
          refine lv_astore (lv' := [(6, .ref (bd j)), (0, .ref (u 0)), (1, .ref (sl k)), (2, .ref (bd b2)), (3, .ref (u 1)), (4, .int (nI nb)), (5, .int (nI j))]) hx hb dX6_free_47 hl (by decide) rfl (fun ls hl => ?_)
          refine lv_aload hx hb dX6_free_49 (lv_at hl 0 rfl) ?_
          rcases (hV.kbd hj).2.2.2 with e5b_13 | ⟨k_13, hk_13, e5b_13, -⟩
          · refine va_get (D := D) (ci := 4) (v := .null) (C := RX4) (T := TX4) (N := 6) hx hb hts hinX4 hown hK hP (3 + j) (zjq_B hj) rfl 4 (by decide) hf73 (fun _ h9 => h9) (congrArg some (zrf_n e5b_13)) dX6_free_51 ?_
            refine lv_ifnonnullN hx hb dX6_free_54 ?_
            refine lv_aload_n hx hb dX6_free_57 rfl (lv_at hl 3 rfl) ?_
            refine lv_ifnull hx hb dX6_free_58 ?_
            refine lv_aload hx hb dX6_free_61 (lv_at hl 0 rfl) ?_
            refine va_get (D := D) (ci := 4) (v := .int (σ 1 j)) (C := RX4) (T := TX4) (N := 6) hx hb hts hinX4 hown hK hP (3 + j) (zjq_B hj) rfl 0 (by decide) hf36 (fun _ h9 => h9) rfl dX6_free_63 ?_
            refine lv_aload_n hx hb dX6_free_66 rfl (lv_at hl 3 rfl) ?_
            refine va_get (D := D) (ci := 4) (v := .int (σ 1 b2)) (C := RX4) (T := TX4) (N := 6) hx hb hts hinX4 hown hK hP (3 + b2) (zjq_B (Nat.lt_trans hb2 hj)) rfl 0 (by decide) hf36 (fun _ h9 => h9) rfl dX6_free_67 ?_
            refine lv_icmp_ge (tgt := 76) hx hb dX6_free_70 (by decide) (fun c_14 => ?_) (fun c_14 => ?_)
            · refine lv_iinc (v := nI (j + 1)) (lv' := [(5, .int (nI (j + 1))), (6, .ref (bd j)), (0, .ref (u 0)), (1, .ref (sl k)), (2, .ref (bd b2)), (3, .ref (u 1)), (4, .int (nI nb))]) hx hb dX6_free_76 hl (k := 6) rfl (nI_1 j) (by decide) rfl (fun ls hl => ?_)
              refine lv_goto (tgt := 36) hx hb dX6_free_79 (by decide) ?_
              have e1 : f_ch σ (j + 1) = f_ch σ j := if_neg (fun z => z.2.elim (fun y => zn_m1 (k := b2) (by omega) (ec.symm.trans y)) (fun y => y (by rw [ec, nI_clamp (by omega)]; exact c_14)))
              exact ih _ _ _ ⟨hP, hS, by rw [e1, zrf_r ec (by omega)]; exact lv_sub hl [2, 3, 4, 5, 6, 0] rfl⟩
            · refine lv_aload hx hb dX6_free_73 (lv_at hl 0 rfl) ?_
              refine lv_astore_n (lv' := [(2, .ref (bd j)), (6, .ref (bd j)), (0, .ref (u 0)), (1, .ref (sl k)), (3, .ref (u 1)), (4, .int (nI nb)), (5, .int (nI j))]) hx hb dX6_free_75 rfl hl (by decide) rfl (fun ls hl => ?_)
              refine lv_iinc (v := nI (j + 1)) (lv' := [(5, .int (nI (j + 1))), (2, .ref (bd j)), (6, .ref (bd j)), (0, .ref (u 0)), (1, .ref (sl k)), (3, .ref (u 1)), (4, .int (nI nb))]) hx hb dX6_free_76 hl (k := 6) rfl (nI_1 j) (by decide) rfl (fun ls hl => ?_)
              refine lv_goto (tgt := 36) hx hb dX6_free_79 (by decide) ?_
              have e1 : f_ch σ (j + 1) = nI j := if_pos ⟨e5b_13, Or.inr (by rw [ec, nI_clamp (by omega)]; exact c_14)⟩
              exact ih _ _ _ ⟨hP, hS, by rw [e1, zrf_r (b := j) rfl (by omega)]; exact lv_sub hl [3, 4, 1, 5, 6, 0] rfl⟩
          · refine va_get (D := D) (ci := 4) (v := .ref (sl k_13)) (C := RX4) (T := TX4) (N := 6) hx hb hts hinX4 hown hK hP (3 + j) (zjq_B hj) rfl 4 (by decide) hf73 (fun _ h9 => h9) (congrArg some (zrf_r e5b_13 (by omega))) dX6_free_51 ?_
            refine lv_ifnonnull (tgt := 76) hx hb dX6_free_54 (by decide) ?_
            refine lv_iinc (v := nI (j + 1)) (lv' := [(5, .int (nI (j + 1))), (6, .ref (bd j)), (0, .ref (u 0)), (1, .ref (sl k)), (2, .ref (bd b2)), (3, .ref (u 1)), (4, .int (nI nb))]) hx hb dX6_free_76 hl (k := 6) rfl (nI_1 j) (by decide) rfl (fun ls hl => ?_)
            refine lv_goto (tgt := 36) hx hb dX6_free_79 (by decide) ?_
            have e1 : f_ch σ (j + 1) = f_ch σ j := if_neg (fun z => zn_m1 (k := k_13) (by omega) (e5b_13.symm.trans z.1))
            exact ih _ _ _ ⟨hP, hS, by rw [e1, zrf_r ec (by omega)]; exact lv_sub hl [2, 3, 4, 5, 6, 0] rfl⟩
      · obtain ⟨hP, hS, hl⟩ := hI
        rcases zch σ nb with ec | ⟨b2, hb2, ec⟩
        · rw [zrf_n ec] at hl
          refine lv_iload hx hb dX6_free_36 (lv_at hl 5 rfl) ?_
          refine lv_iload hx hb dX6_free_38 (lv_at hl 4 rfl) ?_
          refine lv_icmp_ge (tgt := 82) hx hb dX6_free_40 (by decide) (fun _ => ?_) (fun c => absurd (i32_rf _) c)
          refine lv_aload_nN hx hb dX6_free_82 rfl (lv_at hl 2 rfl) ?_
          exact W.aret (v := .null) hx hb hr (Or.inl ⟨_, rfl⟩) (Or.inl rfl) (fun t ht hW => ⟨⟨none, (), rfl, (by show none = zro bd _; rw [hfc, zro_n ec]), trivial⟩, hS.F ht⟩) hS.2.2 dX6_free_83
        · rw [zrf_r ec (by omega)] at hl
          refine lv_iload hx hb dX6_free_36 (lv_at hl 5 rfl) ?_
          refine lv_iload hx hb dX6_free_38 (lv_at hl 4 rfl) ?_
          refine lv_icmp_ge (tgt := 82) hx hb dX6_free_40 (by decide) (fun _ => ?_) (fun c => absurd (i32_rf _) c)
          refine lv_aload_n hx hb dX6_free_82 rfl (lv_at hl 2 rfl) ?_
          exact W.aret (v := .ref (bd b2)) hx hb hr (Or.inl ⟨_, rfl⟩) (Or.inr ⟨_, rfl⟩) (fun t ht hW => ⟨⟨(some (bd b2)), (), rfl, (by show some (bd b2) = zro bd _; rw [hfc, zro_r ec (by omega)]), trivial⟩, hS.F ht⟩) hS.2.2 dX6_free_83
