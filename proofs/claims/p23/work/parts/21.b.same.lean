set_option maxHeartbeats 4000000 in
set_option maxRecDepth 100000 in
theorem i_who {p : Program} {l : Launch} {e : Env} {s : State} {m : MethodId} {args : Array Value} {below : List Frame} {meth : Method} {c : Code} {Q : State → Prop} {D : va_G} {cI cB cS : ClassId} {x : Nat} {a b u bd sl : Nat → Nat} {A : Nat → Prop} {σ τ : zS} {ce sz : Nat} {H : Heap} {locs : List Loc} {ls : Array Slot} (C : zSa p s m args meth c D cI cB cS) (hA : ∀ q : Nat, s.heap.size ≤ q → A q) {nb ns h B : Nat} (hV : zV σ nb ns h B) {k q3 : Nat} {f : Nat → Int32} (hk : k < nb) (hP : va_P D vwCl ((zw_X cI x a b σ τ ++ zj cB cS u bd sl nb ns σ) ++ [(q3, .inl (cI, 5, .inl f))]) H) (hD : va_D A ((zw_X cI x a b σ τ ++ zj cB cS u bd sl nb ns σ) ++ [(q3, .inl (cI, 5, .inl f))])) (hS : va_S A s.heap H locs) (hl : lv_has ls 9 [(5, .ref (bd k)), (4, .int (nI k)), (1, .ref x), (0, .ref (u 0))])  (kk : ∀ (H : Heap) (locs : List Loc) (ls : Array Slot), va_P D vwCl ((zw_X cI x a b σ τ ++ zj cB cS u bd sl nb ns σ) ++ [(q3, .inl (cI, 5, .inl f))]) H → va_D A ((zw_X cI x a b σ τ ++ zj cB cS u bd sl nb ns σ) ++ [(q3, .inl (cI, 5, .inl f))]) → va_S A s.heap H locs → lv_has ls 9 [(5, .ref (bd k)), (4, .int (nI k)), (1, .ref x), (0, .ref (u 0))] → W p l e zRs s m args below meth c H locs ce sz Q (F0 m 197 ls [.int (σ 5 k), .int 4, .ref q3, .ref q3])) : W p l e zRs s m args below meth c H locs ce sz Q (F0 m 177 ls [.int 4, .ref q3, .ref q3]) := by
  obtain ⟨hx, hb, hml, hown, hts, hK⟩ := C
  have hnb := hV.1.2.1
  have hns := hV.1.2.2.2.1
  have hh := hV.1.2.2.2.2.2.1
  have hf49 := hts (.fieldLink RX6 49 "HotBedsLaw$Sailor" "number" "I") (by decide +kernel)
  have hf73 := hts (.fieldLink RX6 73 "HotBedsLaw$Bed" "who" "LHotBedsLaw$Sailor;") (by decide +kernel)
  have hinX4 : ∀ w ∈ u_ws RX4 TX4 6, w ∈ wsX6_isSame := by decide +kernel
  have hinX5 : ∀ w ∈ u_ws RX5 TX5 13, w ∈ wsX6_isSame := by decide +kernel
  refine lv_aload hx hb dX6_isSame_177 (lv_at hl 0 rfl) ?_
  rcases (hV.kbd hk).2.2.2 with e5b_1 | ⟨k_1, hk_1, e5b_1, -⟩
  · refine va_get (D := D) (ci := 4) (v := .null) (C := RX4) (T := TX4) (N := 6) hx hb hts hinX4 hown hK hP ((zw_X cI x a b σ τ).length + (3 + k)) (zx_l (zxr (zjq_B hk))) rfl 4 (by decide) hf73 (fun _ h9 => h9) (congrArg some (zrf_n e5b_1)) dX6_isSame_179 ?_
    refine lv_ifnonnullN hx hb dX6_isSame_182 ?_
    refine lv_iconst (v := (-1)) hx hb dX6_isSame_185 (by decide) ?_
    refine lv_goto (tgt := 197) hx hb dX6_isSame_186 (by decide) ?_
    refine W.eq (g2 := F0 m 197 ls [.int (σ 5 k), .int 4, .ref q3, .ref q3]) (by rw [e5b_1]) ?_
    exact kk _ _ _ hP hD hS (lv_sub hl [0, 1, 2, 3] rfl)
  · refine va_get (D := D) (ci := 4) (v := .ref (sl k_1)) (C := RX4) (T := TX4) (N := 6) hx hb hts hinX4 hown hK hP ((zw_X cI x a b σ τ).length + (3 + k)) (zx_l (zxr (zjq_B hk))) rfl 4 (by decide) hf73 (fun _ h9 => h9) (congrArg some (zrf_r e5b_1 (by omega))) dX6_isSame_179 ?_
    refine lv_ifnonnull (tgt := 189) hx hb dX6_isSame_182 (by decide) ?_
    refine lv_aload hx hb dX6_isSame_189 (lv_at hl 0 rfl) ?_
    refine va_get (D := D) (ci := 4) (v := .ref (sl k_1)) (C := RX4) (T := TX4) (N := 6) hx hb hts hinX4 hown hK hP ((zw_X cI x a b σ τ).length + (3 + k)) (zx_l (zxr (zjq_B hk))) rfl 4 (by decide) hf73 (fun _ h9 => h9) (congrArg some (zrf_r e5b_1 (by omega))) dX6_isSame_191 ?_
    refine va_get (D := D) (ci := 5) (v := .int (nI k_1)) (C := RX5) (T := TX5) (N := 13) hx hb hts hinX5 hown hK hP ((zw_X cI x a b σ τ).length + (3 + nb + k_1)) (zx_l (zxr (zjq_S hk_1))) rfl 0 (by decide) hf49 (fun _ h9 => h9) rfl dX6_isSame_194 ?_
    refine W.eq (g2 := F0 m 197 ls [.int (σ 5 k), .int 4, .ref q3, .ref q3]) (by rw [e5b_1]) ?_
    exact kk _ _ _ hP hD hS (lv_sub hl [0, 1, 2, 3] rfl)
set_option maxHeartbeats 4000000 in
set_option maxRecDepth 100000 in
theorem i_s3 {p : Program} {l : Launch} {e : Env} {s : State} {m : MethodId} {args : Array Value} {below : List Frame} {meth : Method} {c : Code} {Q : State → Prop} {D : va_G} {cI cB cS : ClassId} {x : Nat} {a b u bd sl : Nat → Nat} {A : Nat → Prop} {σ τ : zS} {H : Heap} {locs : List Loc} {ls : Array Slot} (C : zSa p s m args meth c D cI cB cS) (hA : ∀ q : Nat, s.heap.size ≤ q → A q) {nb ns h B : Nat} (hV : zV σ nb ns h B) (hP : va_P D vwCl (zw_X cI x a b σ τ ++ zj cB cS u bd sl nb ns σ) H) (hD : va_D A (zw_X cI x a b σ τ ++ zj cB cS u bd sl nb ns σ)) (hS : va_S A s.heap H locs) (hl : lv_has ls 9 [(1, .ref x), (0, .ref (u 0))])  (kk : ∀ (H : Heap) (locs : List Loc) (ls : Array Slot), va_P D vwCl (zw_X cI x a b σ τ ++ zj cB cS u bd sl nb ns σ) H → va_D A (zw_X cI x a b σ τ ++ zj cB cS u bd sl nb ns σ) → va_S A s.heap H locs → lv_has ls 9 [(1, .ref x), (0, .ref (u 0))] → W p l e zRs s m args below meth c H locs (2 + nb) (14 + 5 * nb) Q (F0 m 239 ls [])) : W p l e zRs s m args below meth c H locs 2 14 Q (F0 m 118 ls []) := by
  obtain ⟨hx, hb, hml, hown, hts, hK⟩ := C
  have hnb := hV.1.2.1
  have hns := hV.1.2.2.2.1
  have hh := hV.1.2.2.2.2.2.1
  have hf18 := hts (.fieldLink RX6 18 "HotBedsLaw$Sim" "beds" "[LHotBedsLaw$Bed;") (by decide +kernel)
  have hf36 := hts (.fieldLink RX6 36 "HotBedsLaw$Bed" "price" "I") (by decide +kernel)
  have hf39 := hts (.fieldLink RX6 39 "HotBedsLaw$Bed" "warmth" "I") (by decide +kernel)
  have hf42 := hts (.fieldLink RX6 42 "HotBedsLaw$Bed" "times" "I") (by decide +kernel)
  have hf45 := hts (.fieldLink RX6 45 "HotBedsLaw$Bed" "coins" "I") (by decide +kernel)
  have hinX4 : ∀ w ∈ u_ws RX4 TX4 6, w ∈ wsX6_isSame := by decide +kernel
  have hinX6 : ∀ w ∈ u_ws RX6 TX6 5, w ∈ wsX6_isSame := by decide +kernel
  have hKi : va_K D vwCl [(cI, .int)] s := hK.sub [0] rfl
  have harr := hts (.arrayClass .int) (by decide +kernel)
  refine lv_iconst (v := 0) hx hb dX6_isSame_118 (by decide) ?_
  refine lv_istore (lv' := [(4, .int 0), (1, .ref x), (0, .ref (u 0))]) hx hb dX6_isSame_119 hl (by decide) rfl (fun ls hl => ?_)
  have C0 : zSa p s m args meth c D cI cB cS := ⟨hx, hb, hml, hown, hts, hK⟩
  refine zk_loopC (pc := 121) (fun k H locs ls => va_P D vwCl (zw_X cI x a b σ τ ++ zj cB cS u bd sl nb ns σ) H ∧ va_D A (zw_X cI x a b σ τ ++ zj cB cS u bd sl nb ns σ) ∧ va_S A s.heap H locs ∧ lv_has ls 9 [(4, .int (nI k)), (1, .ref x), (0, .ref (u 0))]) nb (fun k => 2 + k) (fun k => 14 + 5 * k) (fun k hk ih H locs ls hI => ?_) (fun H locs ls hI => ?_) _ _ _ ⟨hP, hD, hS, lv_sub hl [0, 1, 2] rfl⟩
  · obtain ⟨hP, hD, hS, hl⟩ := hI
    refine W.widen (k := 2 + k) (n := 14 + 5 * k) (Nat.le_refl _) (Nat.le_refl _) ?_
    refine lv_iload hx hb dX6_isSame_121 (lv_at hl 0 rfl) ?_
    refine lv_aload_n hx hb dX6_isSame_123 rfl (lv_at hl 2 rfl) ?_
    refine va_get (D := D) (ci := 6) (v := .ref (u 1)) (C := RX6) (T := TX6) (N := 5) hx hb hts hinX6 hown hK hP ((zw_X cI x a b σ τ).length + 0) (zxr (i := 0) rfl) rfl 3 (by decide) hf18 (fun _ h9 => h9) rfl dX6_isSame_124 ?_
    refine va_alen hx hb hK hP ((zw_X cI x a b σ τ).length + 1) 1 (zxr (i := 1) rfl) rfl (v := nI nb) rfl dX6_isSame_127 ?_
    refine lv_icmp_ge (tgt := 239) hx hb dX6_isSame_128 (by decide) (fun c => absurd c (nI_ge hk (by omega))) (fun _ => ?_)
    refine lv_aload_n hx hb dX6_isSame_131 rfl (lv_at hl 2 rfl) ?_
    refine va_get (D := D) (ci := 6) (v := .ref (u 1)) (C := RX6) (T := TX6) (N := 5) hx hb hts hinX6 hown hK hP ((zw_X cI x a b σ τ).length + 0) (zxr (i := 0) rfl) rfl 3 (by decide) hf18 (fun _ h9 => h9) rfl dX6_isSame_132 ?_
    refine lv_iload hx hb dX6_isSame_135 (lv_at hl 0 rfl) ?_
    refine zk_ldq hx hb hK hP ((zw_X cI x a b σ τ).length + 1) 1 (zxr (i := 1) rfl) rfl (k := k) hk (by omega) (v := bd k) rfl dX6_isSame_137 ?_
    refine lv_astore (lv' := [(5, .ref (bd k)), (4, .int (nI k)), (1, .ref x), (0, .ref (u 0))]) hx hb dX6_isSame_138 hl (by decide) rfl (fun ls hl => ?_)
    refine lv_iconst (v := 5) hx hb dX6_isSame_140 (by decide) ?_
    refine zk_newI (N' := 5) hx hb harr hKi hP hD hS hA (by decide) (by decide) (by decide) (by show _ ≤ 18; omega) (by show _ ≤ 154; omega) dX6_isSame_141 (fun q3 H hP hD hS => ?_)
    have hP : va_P D vwCl ((zw_X cI x a b σ τ ++ zj cB cS u bd sl nb ns σ) ++ [(q3, .inl (cI, 5, .inl (fun _ => 0)))]) H := by simpa only [List.append_assoc, List.cons_append, List.nil_append] using hP
    have hD : va_D A ((zw_X cI x a b σ τ ++ zj cB cS u bd sl nb ns σ) ++ [(q3, .inl (cI, 5, .inl (fun _ => 0)))]) := by simpa only [List.append_assoc, List.cons_append, List.nil_append] using hD
    refine lv_dup hx hb dX6_isSame_143 rfl ?_
    refine lv_iconst (v := 0) hx hb dX6_isSame_144 (by decide) ?_
    refine lv_aload hx hb dX6_isSame_145 (lv_at hl 0 rfl) ?_
    refine va_get (D := D) (ci := 4) (v := .int (σ 1 k)) (C := RX4) (T := TX4) (N := 6) hx hb hts hinX4 hown hK hP ((zw_X cI x a b σ τ).length + (3 + k)) (zx_l (zxr (zjq_B hk))) rfl 0 (by decide) hf36 (fun _ h9 => h9) rfl dX6_isSame_147 ?_
    refine zk_st hx hb hK hP hD hS ((zw_X cI x a b σ τ ++ zj cB cS u bd sl nb ns σ).length + 0) 0 (zxr (i := 0) rfl) rfl (k := 0) (by omega) (by decide) zxs dX6_isSame_150 (fun H locs hP hD hS => ?_)
    have hP : va_P D vwCl ((zw_X cI x a b σ τ ++ zj cB cS u bd sl nb ns σ) ++ [(q3, .inl (cI, 5, .inl (upd (fun _ => 0) 0 (σ 1 k))))]) H := hP
    have hD : va_D A ((zw_X cI x a b σ τ ++ zj cB cS u bd sl nb ns σ) ++ [(q3, .inl (cI, 5, .inl (upd (fun _ => 0) 0 (σ 1 k))))]) := hD
    refine lv_dup hx hb dX6_isSame_151 rfl ?_
    refine lv_iconst (v := 1) hx hb dX6_isSame_152 (by decide) ?_
    refine lv_aload hx hb dX6_isSame_153 (lv_at hl 0 rfl) ?_
    refine va_get (D := D) (ci := 4) (v := .int (σ 2 k)) (C := RX4) (T := TX4) (N := 6) hx hb hts hinX4 hown hK hP ((zw_X cI x a b σ τ).length + (3 + k)) (zx_l (zxr (zjq_B hk))) rfl 1 (by decide) hf39 (fun _ h9 => h9) rfl dX6_isSame_155 ?_
    refine zk_st hx hb hK hP hD hS ((zw_X cI x a b σ τ ++ zj cB cS u bd sl nb ns σ).length + 0) 0 (zxr (i := 0) rfl) rfl (k := 1) (by omega) (by decide) zxs dX6_isSame_158 (fun H locs hP hD hS => ?_)
    have hP : va_P D vwCl ((zw_X cI x a b σ τ ++ zj cB cS u bd sl nb ns σ) ++ [(q3, .inl (cI, 5, .inl (upd (upd (fun _ => 0) 0 (σ 1 k)) 1 (σ 2 k))))]) H := hP
    have hD : va_D A ((zw_X cI x a b σ τ ++ zj cB cS u bd sl nb ns σ) ++ [(q3, .inl (cI, 5, .inl (upd (upd (fun _ => 0) 0 (σ 1 k)) 1 (σ 2 k))))]) := hD
    refine lv_dup hx hb dX6_isSame_159 rfl ?_
    refine lv_iconst (v := 2) hx hb dX6_isSame_160 (by decide) ?_
    refine lv_aload hx hb dX6_isSame_161 (lv_at hl 0 rfl) ?_
    refine va_get (D := D) (ci := 4) (v := .int (σ 3 k)) (C := RX4) (T := TX4) (N := 6) hx hb hts hinX4 hown hK hP ((zw_X cI x a b σ τ).length + (3 + k)) (zx_l (zxr (zjq_B hk))) rfl 2 (by decide) hf42 (fun _ h9 => h9) rfl dX6_isSame_163 ?_
    refine zk_st hx hb hK hP hD hS ((zw_X cI x a b σ τ ++ zj cB cS u bd sl nb ns σ).length + 0) 0 (zxr (i := 0) rfl) rfl (k := 2) (by omega) (by decide) zxs dX6_isSame_166 (fun H locs hP hD hS => ?_)
    have hP : va_P D vwCl ((zw_X cI x a b σ τ ++ zj cB cS u bd sl nb ns σ) ++ [(q3, .inl (cI, 5, .inl (upd (upd (upd (fun _ => 0) 0 (σ 1 k)) 1 (σ 2 k)) 2 (σ 3 k))))]) H := hP
    have hD : va_D A ((zw_X cI x a b σ τ ++ zj cB cS u bd sl nb ns σ) ++ [(q3, .inl (cI, 5, .inl (upd (upd (upd (fun _ => 0) 0 (σ 1 k)) 1 (σ 2 k)) 2 (σ 3 k))))]) := hD
    refine lv_dup hx hb dX6_isSame_167 rfl ?_
    refine lv_iconst (v := 3) hx hb dX6_isSame_168 (by decide) ?_
    refine lv_aload hx hb dX6_isSame_169 (lv_at hl 0 rfl) ?_
    refine va_get (D := D) (ci := 4) (v := .int (σ 4 k)) (C := RX4) (T := TX4) (N := 6) hx hb hts hinX4 hown hK hP ((zw_X cI x a b σ τ).length + (3 + k)) (zx_l (zxr (zjq_B hk))) rfl 3 (by decide) hf45 (fun _ h9 => h9) rfl dX6_isSame_171 ?_
    refine zk_st hx hb hK hP hD hS ((zw_X cI x a b σ τ ++ zj cB cS u bd sl nb ns σ).length + 0) 0 (zxr (i := 0) rfl) rfl (k := 3) (by omega) (by decide) zxs dX6_isSame_174 (fun H locs hP hD hS => ?_)
    have hP : va_P D vwCl ((zw_X cI x a b σ τ ++ zj cB cS u bd sl nb ns σ) ++ [(q3, .inl (cI, 5, .inl (upd (upd (upd (upd (fun _ => 0) 0 (σ 1 k)) 1 (σ 2 k)) 2 (σ 3 k)) 3 (σ 4 k))))]) H := hP
    have hD : va_D A ((zw_X cI x a b σ τ ++ zj cB cS u bd sl nb ns σ) ++ [(q3, .inl (cI, 5, .inl (upd (upd (upd (upd (fun _ => 0) 0 (σ 1 k)) 1 (σ 2 k)) 2 (σ 3 k)) 3 (σ 4 k))))]) := hD
    refine lv_dup hx hb dX6_isSame_175 rfl ?_
    refine lv_iconst (v := 4) hx hb dX6_isSame_176 (by decide) ?_
    refine i_who (f := upd (upd (upd (upd (fun _ => 0) 0 (σ 1 k)) 1 (σ 2 k)) 2 (σ 3 k)) 3 (σ 4 k)) C0 hA hV hk hP hD hS (lv_sub hl [0, 1, 2, 3] rfl) (fun H locs ls hP hD hS hl => ?_)
    refine zk_st hx hb hK hP hD hS ((zw_X cI x a b σ τ ++ zj cB cS u bd sl nb ns σ).length + 0) 0 (zxr (i := 0) rfl) rfl (k := 4) (by omega) (by decide) zxs dX6_isSame_197 (fun H locs hP hD hS => ?_)
    have hP : va_P D vwCl ((zw_X cI x a b σ τ ++ zj cB cS u bd sl nb ns σ) ++ [(q3, .inl (cI, 5, .inl (upd (upd (upd (upd (upd (fun _ => 0) 0 (σ 1 k)) 1 (σ 2 k)) 2 (σ 3 k)) 3 (σ 4 k)) 4 (σ 5 k))))]) H := hP
    have hD : va_D A ((zw_X cI x a b σ τ ++ zj cB cS u bd sl nb ns σ) ++ [(q3, .inl (cI, 5, .inl (upd (upd (upd (upd (upd (fun _ => 0) 0 (σ 1 k)) 1 (σ 2 k)) 2 (σ 3 k)) 3 (σ 4 k)) 4 (σ 5 k))))]) := hD
    refine lv_astore (lv' := [(6, .ref q3), (5, .ref (bd k)), (4, .int (nI k)), (1, .ref x), (0, .ref (u 0))]) hx hb dX6_isSame_198 hl (by decide) rfl (fun ls hl => ?_)
    have hP : va_P D vwCl ((zw_X cI x a b σ τ ++ zj cB cS u bd sl nb ns σ) ++ [(q3, .inl (cI, 5, .inl (q_b5 σ k)))]) H := by rw [← q_b5_e]; exact hP
    have hD : va_D A ((zw_X cI x a b σ τ ++ zj cB cS u bd sl nb ns σ) ++ [(q3, .inl (cI, 5, .inl (q_b5 σ k)))]) := by rw [← q_b5_e]; exact hD
    refine lv_iconst (v := 0) hx hb dX6_isSame_200 (by decide) ?_
    refine lv_istore (lv' := [(7, .int 0), (6, .ref q3), (5, .ref (bd k)), (4, .int (nI k)), (1, .ref x), (0, .ref (u 0))]) hx hb dX6_isSame_201 hl (by decide) rfl (fun ls hl => ?_)
    refine zk_loop (pc := 203) (fun v H locs ls => va_P D vwCl ((zw_X cI x a b σ τ ++ zj cB cS u bd sl nb ns σ) ++ [(q3, .inl (cI, 5, .inl (q_b5 σ k)))]) H ∧ va_D A ((zw_X cI x a b σ τ ++ zj cB cS u bd sl nb ns σ) ++ [(q3, .inl (cI, 5, .inl (q_b5 σ k)))]) ∧ va_S A s.heap H locs ∧ lv_has ls 9 [(7, .int (nI v)), (6, .ref q3), (5, .ref (bd k)), (4, .int (nI k)), (1, .ref x), (0, .ref (u 0))]) 5 (fun v hv ih2 H locs ls hI => ?_) (fun H locs ls hI => ?_) _ _ _ ⟨hP, hD, hS, lv_sub hl [0, 1, 2, 3, 4, 5] rfl⟩
    · obtain ⟨hP, hD, hS, hl⟩ := hI
      refine lv_iload hx hb dX6_isSame_203 (lv_at hl 0 rfl) ?_
      refine lv_iconst (v := 5) hx hb dX6_isSame_205 (by decide) ?_
      refine lv_icmp_ge (tgt := 233) hx hb dX6_isSame_206 (by decide) (fun c => absurd c (nI_ge (b := 5) hv (by decide))) (fun _ => ?_)
      refine lv_aload_n hx hb dX6_isSame_209 rfl (lv_at hl 4 rfl) ?_
      refine lv_iload hx hb dX6_isSame_210 (lv_at hl 3 rfl) ?_
      refine lv_iload hx hb dX6_isSame_212 (lv_at hl 0 rfl) ?_
      refine zk_R (D := D) (va_runV (As := [.int (nI k), .int (nI v)]) (rest := []) ⟨hx, hb, hml, hown, hts⟩ (c_X3_about l D cI x a b σ τ hV.1 hk (Nat.le_of_lt_succ hv) _) (cwV 2 hts gX6_isSame_X3_about rfl rfl rfl zdX3_about ⟨Nat.le_of_ble_eq_true rfl, Nat.le_of_ble_eq_true rfl⟩) ⟨zbl _, va_recv hKi (zxd_P (zxd_P hP)) (ci := 3) (q0 := 0) rfl rfl, zpr hKi (zxd_P (zxd_P hP)) (zxd_D (zxd_D hD))⟩ rfl rfl hl.1 rfl (lv_room (Nat.le_of_ble_eq_true rfl)) dX6_isSame_214 ⟨by show _ ≤ 18; omega, by show _ ≤ 154; omega⟩) hS (fun r H locs hw hkp hS => ?_)
      have hP := hkp _ hP
      have hw : r = σ (v + 1) k := hw
      subst hw
      refine lv_aload hx hb dX6_isSame_217 (lv_at hl 1 rfl) ?_
      refine lv_iload hx hb dX6_isSame_219 (lv_at hl 0 rfl) ?_
      refine zk_ld hx hb hK hP ((zw_X cI x a b σ τ ++ zj cB cS u bd sl nb ns σ).length + 0) 0 (zxr (i := 0) rfl) rfl (k := v) hv (by decide) (v := σ (v + 1) k) (if_pos hv) dX6_isSame_221 ?_
      refine lv_icmp_eq (tgt := 227) hx hb dX6_isSame_222 (by decide) (fun _ => ?_) (fun c => absurd (rfl) c)
      refine lv_iinc (v := nI (v + 1)) (lv' := [(7, .int (nI (v + 1))), (6, .ref q3), (5, .ref (bd k)), (4, .int (nI k)), (1, .ref x), (0, .ref (u 0))]) hx hb dX6_isSame_227 hl (k := 0) rfl (nI_1 v) (by decide) rfl (fun ls hl => ?_)
      refine lv_goto (tgt := 203) hx hb dX6_isSame_230 (by decide) ?_
      exact ih2 _ _ _ ⟨hP, hD, hS, lv_sub hl [0, 1, 2, 3, 4, 5] rfl⟩
    · obtain ⟨hP, hD, hS, hl⟩ := hI
      refine lv_iload hx hb dX6_isSame_203 (lv_at hl 0 rfl) ?_
      refine lv_iconst (v := 5) hx hb dX6_isSame_205 (by decide) ?_
      refine lv_icmp_ge (tgt := 233) hx hb dX6_isSame_206 (by decide) (fun _ => ?_) (fun c => absurd (by decide) c)
      have hP := zxd_P hP
      have hD := zxd_D hD
      refine lv_iinc (v := nI (k + 1)) (lv' := [(4, .int (nI (k + 1))), (7, .int (nI 5)), (6, .ref q3), (5, .ref (bd k)), (1, .ref x), (0, .ref (u 0))]) hx hb dX6_isSame_233 hl (k := 3) rfl (nI_1 k) (by decide) rfl (fun ls hl => ?_)
      refine lv_goto (tgt := 121) hx hb dX6_isSame_236 (by decide) ?_
      refine W.widen (k := 2 + (k + 1)) (n := 14 + 5 * (k + 1)) (by omega) (by omega) ?_
      exact ih _ _ _ ⟨hP, hD, hS, lv_sub hl [0, 4, 5] rfl⟩
  · obtain ⟨hP, hD, hS, hl⟩ := hI
    refine W.widen (k := 2 + nb) (n := 14 + 5 * nb) (Nat.le_refl _) (Nat.le_refl _) ?_
    refine lv_iload hx hb dX6_isSame_121 (lv_at hl 0 rfl) ?_
    refine lv_aload_n hx hb dX6_isSame_123 rfl (lv_at hl 2 rfl) ?_
    refine va_get (D := D) (ci := 6) (v := .ref (u 1)) (C := RX6) (T := TX6) (N := 5) hx hb hts hinX6 hown hK hP ((zw_X cI x a b σ τ).length + 0) (zxr (i := 0) rfl) rfl 3 (by decide) hf18 (fun _ h9 => h9) rfl dX6_isSame_124 ?_
    refine va_alen hx hb hK hP ((zw_X cI x a b σ τ).length + 1) 1 (zxr (i := 1) rfl) rfl (v := nI nb) rfl dX6_isSame_127 ?_
    refine lv_icmp_ge (tgt := 239) hx hb dX6_isSame_128 (by decide) (fun _ => ?_) (fun c => absurd (i32_rf _) c)
    exact kk _ _ _ hP hD hS (lv_sub hl [1, 2] rfl)
set_option maxHeartbeats 4000000 in
set_option maxRecDepth 100000 in
theorem i_boots {p : Program} {l : Launch} {e : Env} {s : State} {m : MethodId} {args : Array Value} {below : List Frame} {meth : Method} {c : Code} {Q : State → Prop} {D : va_G} {cI cB cS : ClassId} {x : Nat} {a b u bd sl : Nat → Nat} {A : Nat → Prop} {σ τ : zS} {ce sz : Nat} {H : Heap} {locs : List Loc} {ls : Array Slot} (C : zSa p s m args meth c D cI cB cS) (hA : ∀ q : Nat, s.heap.size ≤ q → A q) {nb ns h B : Nat} (hV : zV σ nb ns h B) {k q3 : Nat} {f : Nat → Int32} (hk : k < ns) (hP : va_P D vwCl ((zw_X cI x a b σ τ ++ zj cB cS u bd sl nb ns σ) ++ [(q3, .inl (cI, 11, .inl f))]) H) (hD : va_D A ((zw_X cI x a b σ τ ++ zj cB cS u bd sl nb ns σ) ++ [(q3, .inl (cI, 11, .inl f))])) (hS : va_S A s.heap H locs) (hl : lv_has ls 9 [(6, .ref (sl k)), (5, .int (nI k)), (4, .int (f_sum (σ 14) k)), (1, .ref x), (0, .ref (u 0))])  (kk : ∀ (H : Heap) (locs : List Loc) (ls : Array Slot), va_P D vwCl ((zw_X cI x a b σ τ ++ zj cB cS u bd sl nb ns σ) ++ [(q3, .inl (cI, 11, .inl f))]) H → va_D A ((zw_X cI x a b σ τ ++ zj cB cS u bd sl nb ns σ) ++ [(q3, .inl (cI, 11, .inl f))]) → va_S A s.heap H locs → lv_has ls 9 [(6, .ref (sl k)), (5, .int (nI k)), (4, .int (f_sum (σ 14) k)), (1, .ref x), (0, .ref (u 0))] → W p l e zRs s m args below meth c H locs ce sz Q (F0 m 315 ls [.int (σ 10 k), .int 4, .ref q3, .ref q3])) : W p l e zRs s m args below meth c H locs ce sz Q (F0 m 302 ls [.int 4, .ref q3, .ref q3]) := by
  obtain ⟨hx, hb, hml, hown, hts, hK⟩ := C
  have hnb := hV.1.2.1
  have hns := hV.1.2.2.2.1
  have hh := hV.1.2.2.2.2.2.1
  have hf62 := hts (.fieldLink RX6 62 "HotBedsLaw$Sailor" "hasBoots" "Z") (by decide +kernel)
  have hinX5 : ∀ w ∈ u_ws RX5 TX5 13, w ∈ wsX6_isSame := by decide +kernel
  refine lv_aload hx hb dX6_isSame_302 (lv_at hl 0 rfl) ?_
  rcases (hV.ksk hk).2.1 with e10_1 | e10_1
  · refine va_get (D := D) (ci := 5) (v := .int 0) (C := RX5) (T := TX5) (N := 13) hx hb hts hinX5 hown hK hP ((zw_X cI x a b σ τ).length + (3 + nb + k)) (zx_l (zxr (zjq_S hk))) rfl 5 (by decide) hf62 (fun _ h9 => h9) (congrArg (fun z => some (Value.int z)) e10_1) dX6_isSame_304 ?_
    refine lv_if_eq (tgt := 314) hx hb dX6_isSame_307 (by decide) (fun _ => ?_) (fun c => absurd (by decide) c)
    refine lv_iconst (v := 0) hx hb dX6_isSame_314 (by decide) ?_
    refine W.eq (g2 := F0 m 315 ls [.int (σ 10 k), .int 4, .ref q3, .ref q3]) (by rw [e10_1]) ?_
    exact kk _ _ _ hP hD hS (lv_sub hl [0, 1, 2, 3, 4] rfl)
  · refine va_get (D := D) (ci := 5) (v := .int 1) (C := RX5) (T := TX5) (N := 13) hx hb hts hinX5 hown hK hP ((zw_X cI x a b σ τ).length + (3 + nb + k)) (zx_l (zxr (zjq_S hk))) rfl 5 (by decide) hf62 (fun _ h9 => h9) (congrArg (fun z => some (Value.int z)) e10_1) dX6_isSame_304 ?_
    refine lv_if_eq (tgt := 314) hx hb dX6_isSame_307 (by decide) (fun c => absurd c (by decide)) (fun _ => ?_)
    refine lv_iconst (v := 1) hx hb dX6_isSame_310 (by decide) ?_
    refine lv_goto (tgt := 315) hx hb dX6_isSame_311 (by decide) ?_
    refine W.eq (g2 := F0 m 315 ls [.int (σ 10 k), .int 4, .ref q3, .ref q3]) (by rw [e10_1]) ?_
    exact kk _ _ _ hP hD hS (lv_sub hl [0, 1, 2, 3, 4] rfl)
set_option maxHeartbeats 4000000 in
set_option maxRecDepth 100000 in
theorem i_kept {p : Program} {l : Launch} {e : Env} {s : State} {m : MethodId} {args : Array Value} {below : List Frame} {meth : Method} {c : Code} {Q : State → Prop} {D : va_G} {cI cB cS : ClassId} {x : Nat} {a b u bd sl : Nat → Nat} {A : Nat → Prop} {σ τ : zS} {ce sz : Nat} {H : Heap} {locs : List Loc} {ls : Array Slot} (C : zSa p s m args meth c D cI cB cS) (hA : ∀ q : Nat, s.heap.size ≤ q → A q) {nb ns h B : Nat} (hV : zV σ nb ns h B) {k q3 : Nat} {f : Nat → Int32} (hk : k < ns) (hP : va_P D vwCl ((zw_X cI x a b σ τ ++ zj cB cS u bd sl nb ns σ) ++ [(q3, .inl (cI, 11, .inl f))]) H) (hD : va_D A ((zw_X cI x a b σ τ ++ zj cB cS u bd sl nb ns σ) ++ [(q3, .inl (cI, 11, .inl f))])) (hS : va_S A s.heap H locs) (hl : lv_has ls 9 [(6, .ref (sl k)), (5, .int (nI k)), (4, .int (f_sum (σ 14) k)), (1, .ref x), (0, .ref (u 0))])  (kk : ∀ (H : Heap) (locs : List Loc) (ls : Array Slot), va_P D vwCl ((zw_X cI x a b σ τ ++ zj cB cS u bd sl nb ns σ) ++ [(q3, .inl (cI, 11, .inl f))]) H → va_D A ((zw_X cI x a b σ τ ++ zj cB cS u bd sl nb ns σ) ++ [(q3, .inl (cI, 11, .inl f))]) → va_S A s.heap H locs → lv_has ls 9 [(6, .ref (sl k)), (5, .int (nI k)), (4, .int (f_sum (σ 14) k)), (1, .ref x), (0, .ref (u 0))] → W p l e zRs s m args below meth c H locs ce sz Q (F0 m 338 ls [.int (σ 11 k), .int 5, .ref q3, .ref q3])) : W p l e zRs s m args below meth c H locs ce sz Q (F0 m 318 ls [.int 5, .ref q3, .ref q3]) := by
  obtain ⟨hx, hb, hml, hown, hts, hK⟩ := C
  have hnb := hV.1.2.1
  have hns := hV.1.2.2.2.1
  have hh := hV.1.2.2.2.2.2.1
  have hf33 := hts (.fieldLink RX6 33 "HotBedsLaw$Bed" "number" "I") (by decide +kernel)
  have hf66 := hts (.fieldLink RX6 66 "HotBedsLaw$Sailor" "kept" "LHotBedsLaw$Bed;") (by decide +kernel)
  have hinX4 : ∀ w ∈ u_ws RX4 TX4 6, w ∈ wsX6_isSame := by decide +kernel
  have hinX5 : ∀ w ∈ u_ws RX5 TX5 13, w ∈ wsX6_isSame := by decide +kernel
  refine lv_aload hx hb dX6_isSame_318 (lv_at hl 0 rfl) ?_
  rcases (hV.ksk hk).2.2.1 with e11b_1 | ⟨b_1, hb_1, e11b_1⟩
  · refine va_get (D := D) (ci := 5) (v := .null) (C := RX5) (T := TX5) (N := 13) hx hb hts hinX5 hown hK hP ((zw_X cI x a b σ τ).length + (3 + nb + k)) (zx_l (zxr (zjq_S hk))) rfl 6 (by decide) hf66 (fun _ h9 => h9) (congrArg some (zrf_n e11b_1)) dX6_isSame_320 ?_
    refine lv_ifnonnullN hx hb dX6_isSame_323 ?_
    refine lv_iconst (v := (-1)) hx hb dX6_isSame_326 (by decide) ?_
    refine lv_goto (tgt := 338) hx hb dX6_isSame_327 (by decide) ?_
    refine W.eq (g2 := F0 m 338 ls [.int (σ 11 k), .int 5, .ref q3, .ref q3]) (by rw [e11b_1]) ?_
    exact kk _ _ _ hP hD hS (lv_sub hl [0, 1, 2, 3, 4] rfl)
  · refine va_get (D := D) (ci := 5) (v := .ref (bd b_1)) (C := RX5) (T := TX5) (N := 13) hx hb hts hinX5 hown hK hP ((zw_X cI x a b σ τ).length + (3 + nb + k)) (zx_l (zxr (zjq_S hk))) rfl 6 (by decide) hf66 (fun _ h9 => h9) (congrArg some (zrf_r e11b_1 (by omega))) dX6_isSame_320 ?_
    refine lv_ifnonnull (tgt := 330) hx hb dX6_isSame_323 (by decide) ?_
    refine lv_aload hx hb dX6_isSame_330 (lv_at hl 0 rfl) ?_
    refine va_get (D := D) (ci := 5) (v := .ref (bd b_1)) (C := RX5) (T := TX5) (N := 13) hx hb hts hinX5 hown hK hP ((zw_X cI x a b σ τ).length + (3 + nb + k)) (zx_l (zxr (zjq_S hk))) rfl 6 (by decide) hf66 (fun _ h9 => h9) (congrArg some (zrf_r e11b_1 (by omega))) dX6_isSame_332 ?_
    refine va_get (D := D) (ci := 4) (v := .int (nI b_1)) (C := RX4) (T := TX4) (N := 6) hx hb hts hinX4 hown hK hP ((zw_X cI x a b σ τ).length + (3 + b_1)) (zx_l (zxr (zjq_B hb_1))) rfl 5 (by decide) hf33 (fun _ h9 => h9) rfl dX6_isSame_335 ?_
    refine W.eq (g2 := F0 m 338 ls [.int (σ 11 k), .int 5, .ref q3, .ref q3]) (by rw [e11b_1]) ?_
    exact kk _ _ _ hP hD hS (lv_sub hl [0, 1, 2, 3, 4] rfl)
set_option maxHeartbeats 4000000 in
set_option maxRecDepth 100000 in
theorem i_place {p : Program} {l : Launch} {e : Env} {s : State} {m : MethodId} {args : Array Value} {below : List Frame} {meth : Method} {c : Code} {Q : State → Prop} {D : va_G} {cI cB cS : ClassId} {x : Nat} {a b u bd sl : Nat → Nat} {A : Nat → Prop} {σ τ : zS} {ce sz : Nat} {H : Heap} {locs : List Loc} {ls : Array Slot} (C : zSa p s m args meth c D cI cB cS) (hA : ∀ q : Nat, s.heap.size ≤ q → A q) {nb ns h B : Nat} (hV : zV σ nb ns h B) {k q3 : Nat} {f : Nat → Int32} (hk : k < ns) (hP : va_P D vwCl ((zw_X cI x a b σ τ ++ zj cB cS u bd sl nb ns σ) ++ [(q3, .inl (cI, 11, .inl f))]) H) (hD : va_D A ((zw_X cI x a b σ τ ++ zj cB cS u bd sl nb ns σ) ++ [(q3, .inl (cI, 11, .inl f))])) (hS : va_S A s.heap H locs) (hl : lv_has ls 9 [(6, .ref (sl k)), (5, .int (nI k)), (4, .int (f_sum (σ 14) k)), (1, .ref x), (0, .ref (u 0))])  (kk : ∀ (H : Heap) (locs : List Loc) (ls : Array Slot), va_P D vwCl ((zw_X cI x a b σ τ ++ zj cB cS u bd sl nb ns σ) ++ [(q3, .inl (cI, 11, .inl f))]) H → va_D A ((zw_X cI x a b σ τ ++ zj cB cS u bd sl nb ns σ) ++ [(q3, .inl (cI, 11, .inl f))]) → va_S A s.heap H locs → lv_has ls 9 [(6, .ref (sl k)), (5, .int (nI k)), (4, .int (f_sum (σ 14) k)), (1, .ref x), (0, .ref (u 0))] → W p l e zRs s m args below meth c H locs ce sz Q (F0 m 367 ls [.int (σ 12 k), .int 6, .ref q3, .ref q3])) : W p l e zRs s m args below meth c H locs ce sz Q (F0 m 342 ls [.int 6, .ref q3, .ref q3]) := by
  obtain ⟨hx, hb, hml, hown, hts, hK⟩ := C
  have hnb := hV.1.2.1
  have hns := hV.1.2.2.2.1
  have hh := hV.1.2.2.2.2.2.1
  have hf70 := hts (.fieldLink RX6 70 "HotBedsLaw$Sailor" "in" "LHotBedsLaw$Bed;") (by decide +kernel)
  have hf77 := hts (.fieldLink RX6 77 "HotBedsLaw$Sailor" "onFloor" "Z") (by decide +kernel)
  have hinX5 : ∀ w ∈ u_ws RX5 TX5 13, w ∈ wsX6_isSame := by decide +kernel
  refine lv_aload hx hb dX6_isSame_342 (lv_at hl 0 rfl) ?_
  rcases zplace ((hV.ksk hk).2.2.2.1) with ⟨e12b_1, b_1, hb_1, e13b_1⟩ | ⟨e12b_1, e13b_1⟩ | ⟨e12b_1, e13b_1⟩
  · refine va_get (D := D) (ci := 5) (v := .ref (bd b_1)) (C := RX5) (T := TX5) (N := 13) hx hb hts hinX5 hown hK hP ((zw_X cI x a b σ τ).length + (3 + nb + k)) (zx_l (zxr (zjq_S hk))) rfl 7 (by decide) hf70 (fun _ h9 => h9) (congrArg some (zrf_r e13b_1 (by omega))) dX6_isSame_344 ?_
    refine lv_ifnull hx hb dX6_isSame_347 ?_
    refine lv_iconst (v := 1) hx hb dX6_isSame_350 (by decide) ?_
    refine lv_goto (tgt := 367) hx hb dX6_isSame_351 (by decide) ?_
    refine W.eq (g2 := F0 m 367 ls [.int (σ 12 k), .int 6, .ref q3, .ref q3]) (by rw [e12b_1]) ?_
    exact kk _ _ _ hP hD hS (lv_sub hl [0, 1, 2, 3, 4] rfl)
  · refine va_get (D := D) (ci := 5) (v := .null) (C := RX5) (T := TX5) (N := 13) hx hb hts hinX5 hown hK hP ((zw_X cI x a b σ τ).length + (3 + nb + k)) (zx_l (zxr (zjq_S hk))) rfl 7 (by decide) hf70 (fun _ h9 => h9) (congrArg some (zrf_n e13b_1)) dX6_isSame_344 ?_
    refine lv_ifnullN (tgt := 354) hx hb dX6_isSame_347 (by decide) ?_
    refine lv_aload hx hb dX6_isSame_354 (lv_at hl 0 rfl) ?_
    refine va_get (D := D) (ci := 5) (v := .int 0) (C := RX5) (T := TX5) (N := 13) hx hb hts hinX5 hown hK hP ((zw_X cI x a b σ τ).length + (3 + nb + k)) (zx_l (zxr (zjq_S hk))) rfl 8 (by decide) hf77 (fun _ h9 => h9) (congrArg (fun z => some (Value.int z)) (zfl_0 e12b_1)) dX6_isSame_356 ?_
    refine lv_if_eq (tgt := 366) hx hb dX6_isSame_359 (by decide) (fun _ => ?_) (fun c => absurd (by decide) c)
    refine lv_iconst (v := 0) hx hb dX6_isSame_366 (by decide) ?_
    refine W.eq (g2 := F0 m 367 ls [.int (σ 12 k), .int 6, .ref q3, .ref q3]) (by rw [e12b_1]) ?_
    exact kk _ _ _ hP hD hS (lv_sub hl [0, 1, 2, 3, 4] rfl)
  · refine va_get (D := D) (ci := 5) (v := .null) (C := RX5) (T := TX5) (N := 13) hx hb hts hinX5 hown hK hP ((zw_X cI x a b σ τ).length + (3 + nb + k)) (zx_l (zxr (zjq_S hk))) rfl 7 (by decide) hf70 (fun _ h9 => h9) (congrArg some (zrf_n e13b_1)) dX6_isSame_344 ?_
    refine lv_ifnullN (tgt := 354) hx hb dX6_isSame_347 (by decide) ?_
    refine lv_aload hx hb dX6_isSame_354 (lv_at hl 0 rfl) ?_
    refine va_get (D := D) (ci := 5) (v := .int 1) (C := RX5) (T := TX5) (N := 13) hx hb hts hinX5 hown hK hP ((zw_X cI x a b σ τ).length + (3 + nb + k)) (zx_l (zxr (zjq_S hk))) rfl 8 (by decide) hf77 (fun _ h9 => h9) (congrArg (fun z => some (Value.int z)) (zfl_2 e12b_1)) dX6_isSame_356 ?_
    refine lv_if_eq (tgt := 366) hx hb dX6_isSame_359 (by decide) (fun c => absurd c (by decide)) (fun _ => ?_)
    refine lv_iconst (v := 2) hx hb dX6_isSame_362 (by decide) ?_
    refine lv_goto (tgt := 367) hx hb dX6_isSame_363 (by decide) ?_
    refine W.eq (g2 := F0 m 367 ls [.int (σ 12 k), .int 6, .ref q3, .ref q3]) (by rw [e12b_1]) ?_
    exact kk _ _ _ hP hD hS (lv_sub hl [0, 1, 2, 3, 4] rfl)
set_option maxHeartbeats 4000000 in
set_option maxRecDepth 100000 in
theorem i_in {p : Program} {l : Launch} {e : Env} {s : State} {m : MethodId} {args : Array Value} {below : List Frame} {meth : Method} {c : Code} {Q : State → Prop} {D : va_G} {cI cB cS : ClassId} {x : Nat} {a b u bd sl : Nat → Nat} {A : Nat → Prop} {σ τ : zS} {ce sz : Nat} {H : Heap} {locs : List Loc} {ls : Array Slot} (C : zSa p s m args meth c D cI cB cS) (hA : ∀ q : Nat, s.heap.size ≤ q → A q) {nb ns h B : Nat} (hV : zV σ nb ns h B) {k q3 : Nat} {f : Nat → Int32} (hk : k < ns) (hP : va_P D vwCl ((zw_X cI x a b σ τ ++ zj cB cS u bd sl nb ns σ) ++ [(q3, .inl (cI, 11, .inl f))]) H) (hD : va_D A ((zw_X cI x a b σ τ ++ zj cB cS u bd sl nb ns σ) ++ [(q3, .inl (cI, 11, .inl f))])) (hS : va_S A s.heap H locs) (hl : lv_has ls 9 [(6, .ref (sl k)), (5, .int (nI k)), (4, .int (f_sum (σ 14) k)), (1, .ref x), (0, .ref (u 0))])  (kk : ∀ (H : Heap) (locs : List Loc) (ls : Array Slot), va_P D vwCl ((zw_X cI x a b σ τ ++ zj cB cS u bd sl nb ns σ) ++ [(q3, .inl (cI, 11, .inl f))]) H → va_D A ((zw_X cI x a b σ τ ++ zj cB cS u bd sl nb ns σ) ++ [(q3, .inl (cI, 11, .inl f))]) → va_S A s.heap H locs → lv_has ls 9 [(6, .ref (sl k)), (5, .int (nI k)), (4, .int (f_sum (σ 14) k)), (1, .ref x), (0, .ref (u 0))] → W p l e zRs s m args below meth c H locs ce sz Q (F0 m 391 ls [.int (σ 13 k), .int 7, .ref q3, .ref q3])) : W p l e zRs s m args below meth c H locs ce sz Q (F0 m 371 ls [.int 7, .ref q3, .ref q3]) := by
  obtain ⟨hx, hb, hml, hown, hts, hK⟩ := C
  have hnb := hV.1.2.1
  have hns := hV.1.2.2.2.1
  have hh := hV.1.2.2.2.2.2.1
  have hf33 := hts (.fieldLink RX6 33 "HotBedsLaw$Bed" "number" "I") (by decide +kernel)
  have hf70 := hts (.fieldLink RX6 70 "HotBedsLaw$Sailor" "in" "LHotBedsLaw$Bed;") (by decide +kernel)
  have hinX4 : ∀ w ∈ u_ws RX4 TX4 6, w ∈ wsX6_isSame := by decide +kernel
  have hinX5 : ∀ w ∈ u_ws RX5 TX5 13, w ∈ wsX6_isSame := by decide +kernel
  refine lv_aload hx hb dX6_isSame_371 (lv_at hl 0 rfl) ?_
  rcases zplace ((hV.ksk hk).2.2.2.1) with ⟨e12b_1, b_1, hb_1, e13b_1⟩ | ⟨e12b_1, e13b_1⟩ | ⟨e12b_1, e13b_1⟩
  · refine va_get (D := D) (ci := 5) (v := .ref (bd b_1)) (C := RX5) (T := TX5) (N := 13) hx hb hts hinX5 hown hK hP ((zw_X cI x a b σ τ).length + (3 + nb + k)) (zx_l (zxr (zjq_S hk))) rfl 7 (by decide) hf70 (fun _ h9 => h9) (congrArg some (zrf_r e13b_1 (by omega))) dX6_isSame_373 ?_
    refine lv_ifnonnull (tgt := 383) hx hb dX6_isSame_376 (by decide) ?_
    refine lv_aload hx hb dX6_isSame_383 (lv_at hl 0 rfl) ?_
    refine va_get (D := D) (ci := 5) (v := .ref (bd b_1)) (C := RX5) (T := TX5) (N := 13) hx hb hts hinX5 hown hK hP ((zw_X cI x a b σ τ).length + (3 + nb + k)) (zx_l (zxr (zjq_S hk))) rfl 7 (by decide) hf70 (fun _ h9 => h9) (congrArg some (zrf_r e13b_1 (by omega))) dX6_isSame_385 ?_
    refine va_get (D := D) (ci := 4) (v := .int (nI b_1)) (C := RX4) (T := TX4) (N := 6) hx hb hts hinX4 hown hK hP ((zw_X cI x a b σ τ).length + (3 + b_1)) (zx_l (zxr (zjq_B hb_1))) rfl 5 (by decide) hf33 (fun _ h9 => h9) rfl dX6_isSame_388 ?_
    refine W.eq (g2 := F0 m 391 ls [.int (σ 13 k), .int 7, .ref q3, .ref q3]) (by rw [e13b_1]) ?_
    exact kk _ _ _ hP hD hS (lv_sub hl [0, 1, 2, 3, 4] rfl)
  · refine va_get (D := D) (ci := 5) (v := .null) (C := RX5) (T := TX5) (N := 13) hx hb hts hinX5 hown hK hP ((zw_X cI x a b σ τ).length + (3 + nb + k)) (zx_l (zxr (zjq_S hk))) rfl 7 (by decide) hf70 (fun _ h9 => h9) (congrArg some (zrf_n e13b_1)) dX6_isSame_373 ?_
    refine lv_ifnonnullN hx hb dX6_isSame_376 ?_
    refine lv_iconst (v := (-1)) hx hb dX6_isSame_379 (by decide) ?_
    refine lv_goto (tgt := 391) hx hb dX6_isSame_380 (by decide) ?_
    refine W.eq (g2 := F0 m 391 ls [.int (σ 13 k), .int 7, .ref q3, .ref q3]) (by rw [e13b_1]) ?_
    exact kk _ _ _ hP hD hS (lv_sub hl [0, 1, 2, 3, 4] rfl)
  · refine va_get (D := D) (ci := 5) (v := .null) (C := RX5) (T := TX5) (N := 13) hx hb hts hinX5 hown hK hP ((zw_X cI x a b σ τ).length + (3 + nb + k)) (zx_l (zxr (zjq_S hk))) rfl 7 (by decide) hf70 (fun _ h9 => h9) (congrArg some (zrf_n e13b_1)) dX6_isSame_373 ?_
    refine lv_ifnonnullN hx hb dX6_isSame_376 ?_
    refine lv_iconst (v := (-1)) hx hb dX6_isSame_379 (by decide) ?_
    refine lv_goto (tgt := 391) hx hb dX6_isSame_380 (by decide) ?_
    refine W.eq (g2 := F0 m 391 ls [.int (σ 13 k), .int 7, .ref q3, .ref q3]) (by rw [e13b_1]) ?_
    exact kk _ _ _ hP hD hS (lv_sub hl [0, 1, 2, 3, 4] rfl)
set_option maxHeartbeats 4000000 in
set_option maxRecDepth 100000 in
theorem i_s4 {p : Program} {l : Launch} {e : Env} {s : State} {m : MethodId} {args : Array Value} {below : List Frame} {meth : Method} {c : Code} {Q : State → Prop} {D : va_G} {cI cB cS : ClassId} {x : Nat} {a b u bd sl : Nat → Nat} {A : Nat → Prop} {σ τ : zS} {H : Heap} {locs : List Loc} {ls : Array Slot} (C : zSa p s m args meth c D cI cB cS) (hA : ∀ q : Nat, s.heap.size ≤ q → A q) {nb ns h B : Nat} (hV : zV σ nb ns h B) (hP : va_P D vwCl (zw_X cI x a b σ τ ++ zj cB cS u bd sl nb ns σ) H) (hD : va_D A (zw_X cI x a b σ τ ++ zj cB cS u bd sl nb ns σ)) (hS : va_S A s.heap H locs) (hl : lv_has ls 9 [(1, .ref x), (0, .ref (u 0))])  (kk : ∀ (H : Heap) (locs : List Loc) (ls : Array Slot), va_P D vwCl (zw_X cI x a b σ τ ++ zj cB cS u bd sl nb ns σ) H → va_D A (zw_X cI x a b σ τ ++ zj cB cS u bd sl nb ns σ) → va_S A s.heap H locs → lv_has ls 9 [(4, .int (f_sum (σ 14) ns)), (1, .ref x), (0, .ref (u 0))] → W p l e zRs s m args below meth c H locs (2 + nb + ns) (14 + 5 * nb + 11 * ns) Q (F0 m 471 ls [])) : W p l e zRs s m args below meth c H locs (2 + nb) (14 + 5 * nb) Q (F0 m 239 ls []) := by
  obtain ⟨hx, hb, hml, hown, hts, hK⟩ := C
  have hnb := hV.1.2.1
  have hns := hV.1.2.2.2.1
  have hh := hV.1.2.2.2.2.2.1
  have hf24 := hts (.fieldLink RX6 24 "HotBedsLaw$Sim" "sailors" "[LHotBedsLaw$Sailor;") (by decide +kernel)
  have hf50 := hts (.fieldLink RX6 50 "HotBedsLaw$Sailor" "watch" "I") (by decide +kernel)
  have hf53 := hts (.fieldLink RX6 53 "HotBedsLaw$Sailor" "heavy" "I") (by decide +kernel)
  have hf56 := hts (.fieldLink RX6 56 "HotBedsLaw$Sailor" "wage" "I") (by decide +kernel)
  have hf59 := hts (.fieldLink RX6 59 "HotBedsLaw$Sailor" "purse" "I") (by decide +kernel)
  have hf80 := hts (.fieldLink RX6 80 "HotBedsLaw$Sailor" "rest" "I") (by decide +kernel)
  have hf83 := hts (.fieldLink RX6 83 "HotBedsLaw$Sailor" "late" "I") (by decide +kernel)
  have hf89 := hts (.fieldLink RX6 89 "HotBedsLaw$Sailor" "floors" "I") (by decide +kernel)
  have hinX5 : ∀ w ∈ u_ws RX5 TX5 13, w ∈ wsX6_isSame := by decide +kernel
  have hinX6 : ∀ w ∈ u_ws RX6 TX6 5, w ∈ wsX6_isSame := by decide +kernel
  have hKi : va_K D vwCl [(cI, .int)] s := hK.sub [0] rfl
  have harr := hts (.arrayClass .int) (by decide +kernel)
  refine lv_iconst (v := 0) hx hb dX6_isSame_239 (by decide) ?_
  refine lv_istore (lv' := [(4, .int 0), (1, .ref x), (0, .ref (u 0))]) hx hb dX6_isSame_240 hl (by decide) rfl (fun ls hl => ?_)
  refine lv_iconst (v := 0) hx hb dX6_isSame_242 (by decide) ?_
  refine lv_istore (lv' := [(5, .int 0), (4, .int 0), (1, .ref x), (0, .ref (u 0))]) hx hb dX6_isSame_243 hl (by decide) rfl (fun ls hl => ?_)
  have C0 : zSa p s m args meth c D cI cB cS := ⟨hx, hb, hml, hown, hts, hK⟩
  refine zk_loopC (pc := 245) (fun k H locs ls => va_P D vwCl (zw_X cI x a b σ τ ++ zj cB cS u bd sl nb ns σ) H ∧ va_D A (zw_X cI x a b σ τ ++ zj cB cS u bd sl nb ns σ) ∧ va_S A s.heap H locs ∧ lv_has ls 9 [(5, .int (nI k)), (4, .int (f_sum (σ 14) k)), (1, .ref x), (0, .ref (u 0))]) ns (fun k => 2 + nb + k) (fun k => 14 + 5 * nb + 11 * k) (fun k hk ih H locs ls hI => ?_) (fun H locs ls hI => ?_) _ _ _ ⟨hP, hD, hS, lv_sub hl [0, 1, 2, 3] rfl⟩
  · obtain ⟨hP, hD, hS, hl⟩ := hI
    refine W.widen (k := 2 + nb + k) (n := 14 + 5 * nb + 11 * k) (Nat.le_refl _) (Nat.le_refl _) ?_
    refine lv_iload hx hb dX6_isSame_245 (lv_at hl 0 rfl) ?_
    refine lv_aload_n hx hb dX6_isSame_247 rfl (lv_at hl 3 rfl) ?_
    refine va_get (D := D) (ci := 6) (v := .ref (u 2)) (C := RX6) (T := TX6) (N := 5) hx hb hts hinX6 hown hK hP ((zw_X cI x a b σ τ).length + 0) (zxr (i := 0) rfl) rfl 4 (by decide) hf24 (fun _ h9 => h9) rfl dX6_isSame_248 ?_
    refine va_alen hx hb hK hP ((zw_X cI x a b σ τ).length + 2) 2 (zxr (i := 2) rfl) rfl (v := nI ns) rfl dX6_isSame_251 ?_
    refine lv_icmp_ge (tgt := 471) hx hb dX6_isSame_252 (by decide) (fun c => absurd c (nI_ge hk (by omega))) (fun _ => ?_)
    refine lv_aload_n hx hb dX6_isSame_255 rfl (lv_at hl 3 rfl) ?_
    refine va_get (D := D) (ci := 6) (v := .ref (u 2)) (C := RX6) (T := TX6) (N := 5) hx hb hts hinX6 hown hK hP ((zw_X cI x a b σ τ).length + 0) (zxr (i := 0) rfl) rfl 4 (by decide) hf24 (fun _ h9 => h9) rfl dX6_isSame_256 ?_
    refine lv_iload hx hb dX6_isSame_259 (lv_at hl 0 rfl) ?_
    refine zk_ldq hx hb hK hP ((zw_X cI x a b σ τ).length + 2) 2 (zxr (i := 2) rfl) rfl (k := k) hk (by omega) (v := sl k) rfl dX6_isSame_261 ?_
    refine lv_astore (lv' := [(6, .ref (sl k)), (5, .int (nI k)), (4, .int (f_sum (σ 14) k)), (1, .ref x), (0, .ref (u 0))]) hx hb dX6_isSame_262 hl (by decide) rfl (fun ls hl => ?_)
    refine lv_bipush (v := 11) hx hb dX6_isSame_264 (by decide) ?_
    refine zk_newI (N' := 11) hx hb harr hKi hP hD hS hA (by decide) (by decide) (by decide) (by show _ ≤ 18; omega) (by show _ ≤ 154; omega) dX6_isSame_266 (fun q3 H hP hD hS => ?_)
    have hP : va_P D vwCl ((zw_X cI x a b σ τ ++ zj cB cS u bd sl nb ns σ) ++ [(q3, .inl (cI, 11, .inl (fun _ => 0)))]) H := by simpa only [List.append_assoc, List.cons_append, List.nil_append] using hP
    have hD : va_D A ((zw_X cI x a b σ τ ++ zj cB cS u bd sl nb ns σ) ++ [(q3, .inl (cI, 11, .inl (fun _ => 0)))]) := by simpa only [List.append_assoc, List.cons_append, List.nil_append] using hD
    refine lv_dup hx hb dX6_isSame_268 rfl ?_
    refine lv_iconst (v := 0) hx hb dX6_isSame_269 (by decide) ?_
    refine lv_aload hx hb dX6_isSame_270 (lv_at hl 0 rfl) ?_
    refine va_get (D := D) (ci := 5) (v := .int (σ 6 k)) (C := RX5) (T := TX5) (N := 13) hx hb hts hinX5 hown hK hP ((zw_X cI x a b σ τ).length + (3 + nb + k)) (zx_l (zxr (zjq_S hk))) rfl 1 (by decide) hf50 (fun _ h9 => h9) rfl dX6_isSame_272 ?_
    refine zk_st hx hb hK hP hD hS ((zw_X cI x a b σ τ ++ zj cB cS u bd sl nb ns σ).length + 0) 0 (zxr (i := 0) rfl) rfl (k := 0) (by omega) (by decide) zxs dX6_isSame_275 (fun H locs hP hD hS => ?_)
    have hP : va_P D vwCl ((zw_X cI x a b σ τ ++ zj cB cS u bd sl nb ns σ) ++ [(q3, .inl (cI, 11, .inl (upd (fun _ => 0) 0 (σ 6 k))))]) H := hP
    have hD : va_D A ((zw_X cI x a b σ τ ++ zj cB cS u bd sl nb ns σ) ++ [(q3, .inl (cI, 11, .inl (upd (fun _ => 0) 0 (σ 6 k))))]) := hD
    refine lv_dup hx hb dX6_isSame_276 rfl ?_
    refine lv_iconst (v := 1) hx hb dX6_isSame_277 (by decide) ?_
    refine lv_aload hx hb dX6_isSame_278 (lv_at hl 0 rfl) ?_
    refine va_get (D := D) (ci := 5) (v := .int (σ 7 k)) (C := RX5) (T := TX5) (N := 13) hx hb hts hinX5 hown hK hP ((zw_X cI x a b σ τ).length + (3 + nb + k)) (zx_l (zxr (zjq_S hk))) rfl 2 (by decide) hf53 (fun _ h9 => h9) rfl dX6_isSame_280 ?_
    refine zk_st hx hb hK hP hD hS ((zw_X cI x a b σ τ ++ zj cB cS u bd sl nb ns σ).length + 0) 0 (zxr (i := 0) rfl) rfl (k := 1) (by omega) (by decide) zxs dX6_isSame_283 (fun H locs hP hD hS => ?_)
    have hP : va_P D vwCl ((zw_X cI x a b σ τ ++ zj cB cS u bd sl nb ns σ) ++ [(q3, .inl (cI, 11, .inl (upd (upd (fun _ => 0) 0 (σ 6 k)) 1 (σ 7 k))))]) H := hP
    have hD : va_D A ((zw_X cI x a b σ τ ++ zj cB cS u bd sl nb ns σ) ++ [(q3, .inl (cI, 11, .inl (upd (upd (fun _ => 0) 0 (σ 6 k)) 1 (σ 7 k))))]) := hD
    refine lv_dup hx hb dX6_isSame_284 rfl ?_
    refine lv_iconst (v := 2) hx hb dX6_isSame_285 (by decide) ?_
    refine lv_aload hx hb dX6_isSame_286 (lv_at hl 0 rfl) ?_
    refine va_get (D := D) (ci := 5) (v := .int (σ 8 k)) (C := RX5) (T := TX5) (N := 13) hx hb hts hinX5 hown hK hP ((zw_X cI x a b σ τ).length + (3 + nb + k)) (zx_l (zxr (zjq_S hk))) rfl 3 (by decide) hf56 (fun _ h9 => h9) rfl dX6_isSame_288 ?_
    refine zk_st hx hb hK hP hD hS ((zw_X cI x a b σ τ ++ zj cB cS u bd sl nb ns σ).length + 0) 0 (zxr (i := 0) rfl) rfl (k := 2) (by omega) (by decide) zxs dX6_isSame_291 (fun H locs hP hD hS => ?_)
    have hP : va_P D vwCl ((zw_X cI x a b σ τ ++ zj cB cS u bd sl nb ns σ) ++ [(q3, .inl (cI, 11, .inl (upd (upd (upd (fun _ => 0) 0 (σ 6 k)) 1 (σ 7 k)) 2 (σ 8 k))))]) H := hP
    have hD : va_D A ((zw_X cI x a b σ τ ++ zj cB cS u bd sl nb ns σ) ++ [(q3, .inl (cI, 11, .inl (upd (upd (upd (fun _ => 0) 0 (σ 6 k)) 1 (σ 7 k)) 2 (σ 8 k))))]) := hD
    refine lv_dup hx hb dX6_isSame_292 rfl ?_
    refine lv_iconst (v := 3) hx hb dX6_isSame_293 (by decide) ?_
    refine lv_aload hx hb dX6_isSame_294 (lv_at hl 0 rfl) ?_
    refine va_get (D := D) (ci := 5) (v := .int (σ 9 k)) (C := RX5) (T := TX5) (N := 13) hx hb hts hinX5 hown hK hP ((zw_X cI x a b σ τ).length + (3 + nb + k)) (zx_l (zxr (zjq_S hk))) rfl 4 (by decide) hf59 (fun _ h9 => h9) rfl dX6_isSame_296 ?_
    refine zk_st hx hb hK hP hD hS ((zw_X cI x a b σ τ ++ zj cB cS u bd sl nb ns σ).length + 0) 0 (zxr (i := 0) rfl) rfl (k := 3) (by omega) (by decide) zxs dX6_isSame_299 (fun H locs hP hD hS => ?_)
    have hP : va_P D vwCl ((zw_X cI x a b σ τ ++ zj cB cS u bd sl nb ns σ) ++ [(q3, .inl (cI, 11, .inl (upd (upd (upd (upd (fun _ => 0) 0 (σ 6 k)) 1 (σ 7 k)) 2 (σ 8 k)) 3 (σ 9 k))))]) H := hP
    have hD : va_D A ((zw_X cI x a b σ τ ++ zj cB cS u bd sl nb ns σ) ++ [(q3, .inl (cI, 11, .inl (upd (upd (upd (upd (fun _ => 0) 0 (σ 6 k)) 1 (σ 7 k)) 2 (σ 8 k)) 3 (σ 9 k))))]) := hD
    refine lv_dup hx hb dX6_isSame_300 rfl ?_
    refine lv_iconst (v := 4) hx hb dX6_isSame_301 (by decide) ?_
    refine i_boots (f := upd (upd (upd (upd (fun _ => 0) 0 (σ 6 k)) 1 (σ 7 k)) 2 (σ 8 k)) 3 (σ 9 k)) C0 hA hV hk hP hD hS (lv_sub hl [0, 1, 2, 3, 4] rfl) (fun H locs ls hP hD hS hl => ?_)
    refine zk_st hx hb hK hP hD hS ((zw_X cI x a b σ τ ++ zj cB cS u bd sl nb ns σ).length + 0) 0 (zxr (i := 0) rfl) rfl (k := 4) (by omega) (by decide) zxs dX6_isSame_315 (fun H locs hP hD hS => ?_)
    have hP : va_P D vwCl ((zw_X cI x a b σ τ ++ zj cB cS u bd sl nb ns σ) ++ [(q3, .inl (cI, 11, .inl (upd (upd (upd (upd (upd (fun _ => 0) 0 (σ 6 k)) 1 (σ 7 k)) 2 (σ 8 k)) 3 (σ 9 k)) 4 (σ 10 k))))]) H := hP
    have hD : va_D A ((zw_X cI x a b σ τ ++ zj cB cS u bd sl nb ns σ) ++ [(q3, .inl (cI, 11, .inl (upd (upd (upd (upd (upd (fun _ => 0) 0 (σ 6 k)) 1 (σ 7 k)) 2 (σ 8 k)) 3 (σ 9 k)) 4 (σ 10 k))))]) := hD
    refine lv_dup hx hb dX6_isSame_316 rfl ?_
    refine lv_iconst (v := 5) hx hb dX6_isSame_317 (by decide) ?_
    refine i_kept (f := upd (upd (upd (upd (upd (fun _ => 0) 0 (σ 6 k)) 1 (σ 7 k)) 2 (σ 8 k)) 3 (σ 9 k)) 4 (σ 10 k)) C0 hA hV hk hP hD hS (lv_sub hl [0, 1, 2, 3, 4] rfl) (fun H locs ls hP hD hS hl => ?_)
    refine zk_st hx hb hK hP hD hS ((zw_X cI x a b σ τ ++ zj cB cS u bd sl nb ns σ).length + 0) 0 (zxr (i := 0) rfl) rfl (k := 5) (by omega) (by decide) zxs dX6_isSame_338 (fun H locs hP hD hS => ?_)
    have hP : va_P D vwCl ((zw_X cI x a b σ τ ++ zj cB cS u bd sl nb ns σ) ++ [(q3, .inl (cI, 11, .inl (upd (upd (upd (upd (upd (upd (fun _ => 0) 0 (σ 6 k)) 1 (σ 7 k)) 2 (σ 8 k)) 3 (σ 9 k)) 4 (σ 10 k)) 5 (σ 11 k))))]) H := hP
    have hD : va_D A ((zw_X cI x a b σ τ ++ zj cB cS u bd sl nb ns σ) ++ [(q3, .inl (cI, 11, .inl (upd (upd (upd (upd (upd (upd (fun _ => 0) 0 (σ 6 k)) 1 (σ 7 k)) 2 (σ 8 k)) 3 (σ 9 k)) 4 (σ 10 k)) 5 (σ 11 k))))]) := hD
    refine lv_dup hx hb dX6_isSame_339 rfl ?_
    refine lv_bipush (v := 6) hx hb dX6_isSame_340 (by decide) ?_
    refine i_place (f := upd (upd (upd (upd (upd (upd (fun _ => 0) 0 (σ 6 k)) 1 (σ 7 k)) 2 (σ 8 k)) 3 (σ 9 k)) 4 (σ 10 k)) 5 (σ 11 k)) C0 hA hV hk hP hD hS (lv_sub hl [0, 1, 2, 3, 4] rfl) (fun H locs ls hP hD hS hl => ?_)
    refine zk_st hx hb hK hP hD hS ((zw_X cI x a b σ τ ++ zj cB cS u bd sl nb ns σ).length + 0) 0 (zxr (i := 0) rfl) rfl (k := 6) (by omega) (by decide) zxs dX6_isSame_367 (fun H locs hP hD hS => ?_)
    have hP : va_P D vwCl ((zw_X cI x a b σ τ ++ zj cB cS u bd sl nb ns σ) ++ [(q3, .inl (cI, 11, .inl (upd (upd (upd (upd (upd (upd (upd (fun _ => 0) 0 (σ 6 k)) 1 (σ 7 k)) 2 (σ 8 k)) 3 (σ 9 k)) 4 (σ 10 k)) 5 (σ 11 k)) 6 (σ 12 k))))]) H := hP
    have hD : va_D A ((zw_X cI x a b σ τ ++ zj cB cS u bd sl nb ns σ) ++ [(q3, .inl (cI, 11, .inl (upd (upd (upd (upd (upd (upd (upd (fun _ => 0) 0 (σ 6 k)) 1 (σ 7 k)) 2 (σ 8 k)) 3 (σ 9 k)) 4 (σ 10 k)) 5 (σ 11 k)) 6 (σ 12 k))))]) := hD
    refine lv_dup hx hb dX6_isSame_368 rfl ?_
    refine lv_bipush (v := 7) hx hb dX6_isSame_369 (by decide) ?_
    refine i_in (f := upd (upd (upd (upd (upd (upd (upd (fun _ => 0) 0 (σ 6 k)) 1 (σ 7 k)) 2 (σ 8 k)) 3 (σ 9 k)) 4 (σ 10 k)) 5 (σ 11 k)) 6 (σ 12 k)) C0 hA hV hk hP hD hS (lv_sub hl [0, 1, 2, 3, 4] rfl) (fun H locs ls hP hD hS hl => ?_)
    refine zk_st hx hb hK hP hD hS ((zw_X cI x a b σ τ ++ zj cB cS u bd sl nb ns σ).length + 0) 0 (zxr (i := 0) rfl) rfl (k := 7) (by omega) (by decide) zxs dX6_isSame_391 (fun H locs hP hD hS => ?_)
    have hP : va_P D vwCl ((zw_X cI x a b σ τ ++ zj cB cS u bd sl nb ns σ) ++ [(q3, .inl (cI, 11, .inl (upd (upd (upd (upd (upd (upd (upd (upd (fun _ => 0) 0 (σ 6 k)) 1 (σ 7 k)) 2 (σ 8 k)) 3 (σ 9 k)) 4 (σ 10 k)) 5 (σ 11 k)) 6 (σ 12 k)) 7 (σ 13 k))))]) H := hP
    have hD : va_D A ((zw_X cI x a b σ τ ++ zj cB cS u bd sl nb ns σ) ++ [(q3, .inl (cI, 11, .inl (upd (upd (upd (upd (upd (upd (upd (upd (fun _ => 0) 0 (σ 6 k)) 1 (σ 7 k)) 2 (σ 8 k)) 3 (σ 9 k)) 4 (σ 10 k)) 5 (σ 11 k)) 6 (σ 12 k)) 7 (σ 13 k))))]) := hD
    refine lv_dup hx hb dX6_isSame_392 rfl ?_
    refine lv_bipush (v := 8) hx hb dX6_isSame_393 (by decide) ?_
    refine lv_aload hx hb dX6_isSame_395 (lv_at hl 0 rfl) ?_
    refine va_get (D := D) (ci := 5) (v := .int (σ 14 k)) (C := RX5) (T := TX5) (N := 13) hx hb hts hinX5 hown hK hP ((zw_X cI x a b σ τ).length + (3 + nb + k)) (zx_l (zxr (zjq_S hk))) rfl 9 (by decide) hf80 (fun _ h9 => h9) rfl dX6_isSame_397 ?_
    refine zk_st hx hb hK hP hD hS ((zw_X cI x a b σ τ ++ zj cB cS u bd sl nb ns σ).length + 0) 0 (zxr (i := 0) rfl) rfl (k := 8) (by omega) (by decide) zxs dX6_isSame_400 (fun H locs hP hD hS => ?_)
    have hP : va_P D vwCl ((zw_X cI x a b σ τ ++ zj cB cS u bd sl nb ns σ) ++ [(q3, .inl (cI, 11, .inl (upd (upd (upd (upd (upd (upd (upd (upd (upd (fun _ => 0) 0 (σ 6 k)) 1 (σ 7 k)) 2 (σ 8 k)) 3 (σ 9 k)) 4 (σ 10 k)) 5 (σ 11 k)) 6 (σ 12 k)) 7 (σ 13 k)) 8 (σ 14 k))))]) H := hP
    have hD : va_D A ((zw_X cI x a b σ τ ++ zj cB cS u bd sl nb ns σ) ++ [(q3, .inl (cI, 11, .inl (upd (upd (upd (upd (upd (upd (upd (upd (upd (fun _ => 0) 0 (σ 6 k)) 1 (σ 7 k)) 2 (σ 8 k)) 3 (σ 9 k)) 4 (σ 10 k)) 5 (σ 11 k)) 6 (σ 12 k)) 7 (σ 13 k)) 8 (σ 14 k))))]) := hD
    refine lv_dup hx hb dX6_isSame_401 rfl ?_
    refine lv_bipush (v := 9) hx hb dX6_isSame_402 (by decide) ?_
    refine lv_aload hx hb dX6_isSame_404 (lv_at hl 0 rfl) ?_
    refine va_get (D := D) (ci := 5) (v := .int (σ 15 k)) (C := RX5) (T := TX5) (N := 13) hx hb hts hinX5 hown hK hP ((zw_X cI x a b σ τ).length + (3 + nb + k)) (zx_l (zxr (zjq_S hk))) rfl 10 (by decide) hf83 (fun _ h9 => h9) rfl dX6_isSame_406 ?_
    refine zk_st hx hb hK hP hD hS ((zw_X cI x a b σ τ ++ zj cB cS u bd sl nb ns σ).length + 0) 0 (zxr (i := 0) rfl) rfl (k := 9) (by omega) (by decide) zxs dX6_isSame_409 (fun H locs hP hD hS => ?_)
    have hP : va_P D vwCl ((zw_X cI x a b σ τ ++ zj cB cS u bd sl nb ns σ) ++ [(q3, .inl (cI, 11, .inl (upd (upd (upd (upd (upd (upd (upd (upd (upd (upd (fun _ => 0) 0 (σ 6 k)) 1 (σ 7 k)) 2 (σ 8 k)) 3 (σ 9 k)) 4 (σ 10 k)) 5 (σ 11 k)) 6 (σ 12 k)) 7 (σ 13 k)) 8 (σ 14 k)) 9 (σ 15 k))))]) H := hP
    have hD : va_D A ((zw_X cI x a b σ τ ++ zj cB cS u bd sl nb ns σ) ++ [(q3, .inl (cI, 11, .inl (upd (upd (upd (upd (upd (upd (upd (upd (upd (upd (fun _ => 0) 0 (σ 6 k)) 1 (σ 7 k)) 2 (σ 8 k)) 3 (σ 9 k)) 4 (σ 10 k)) 5 (σ 11 k)) 6 (σ 12 k)) 7 (σ 13 k)) 8 (σ 14 k)) 9 (σ 15 k))))]) := hD
    refine lv_dup hx hb dX6_isSame_410 rfl ?_
    refine lv_bipush (v := 10) hx hb dX6_isSame_411 (by decide) ?_
    refine lv_aload hx hb dX6_isSame_413 (lv_at hl 0 rfl) ?_
    refine va_get (D := D) (ci := 5) (v := .int (σ 17 k)) (C := RX5) (T := TX5) (N := 13) hx hb hts hinX5 hown hK hP ((zw_X cI x a b σ τ).length + (3 + nb + k)) (zx_l (zxr (zjq_S hk))) rfl 12 (by decide) hf89 (fun _ h9 => h9) rfl dX6_isSame_415 ?_
    refine zk_st hx hb hK hP hD hS ((zw_X cI x a b σ τ ++ zj cB cS u bd sl nb ns σ).length + 0) 0 (zxr (i := 0) rfl) rfl (k := 10) (by omega) (by decide) zxs dX6_isSame_418 (fun H locs hP hD hS => ?_)
    have hP : va_P D vwCl ((zw_X cI x a b σ τ ++ zj cB cS u bd sl nb ns σ) ++ [(q3, .inl (cI, 11, .inl (upd (upd (upd (upd (upd (upd (upd (upd (upd (upd (upd (fun _ => 0) 0 (σ 6 k)) 1 (σ 7 k)) 2 (σ 8 k)) 3 (σ 9 k)) 4 (σ 10 k)) 5 (σ 11 k)) 6 (σ 12 k)) 7 (σ 13 k)) 8 (σ 14 k)) 9 (σ 15 k)) 10 (σ 17 k))))]) H := hP
    have hD : va_D A ((zw_X cI x a b σ τ ++ zj cB cS u bd sl nb ns σ) ++ [(q3, .inl (cI, 11, .inl (upd (upd (upd (upd (upd (upd (upd (upd (upd (upd (upd (fun _ => 0) 0 (σ 6 k)) 1 (σ 7 k)) 2 (σ 8 k)) 3 (σ 9 k)) 4 (σ 10 k)) 5 (σ 11 k)) 6 (σ 12 k)) 7 (σ 13 k)) 8 (σ 14 k)) 9 (σ 15 k)) 10 (σ 17 k))))]) := hD
    refine lv_astore (lv' := [(7, .ref q3), (6, .ref (sl k)), (5, .int (nI k)), (4, .int (f_sum (σ 14) k)), (1, .ref x), (0, .ref (u 0))]) hx hb dX6_isSame_419 hl (by decide) rfl (fun ls hl => ?_)
    have hP : va_P D vwCl ((zw_X cI x a b σ τ ++ zj cB cS u bd sl nb ns σ) ++ [(q3, .inl (cI, 11, .inl (q_s11 σ k)))]) H := by rw [← q_s11_e]; exact hP
    have hD : va_D A ((zw_X cI x a b σ τ ++ zj cB cS u bd sl nb ns σ) ++ [(q3, .inl (cI, 11, .inl (q_s11 σ k)))]) := by rw [← q_s11_e]; exact hD
    refine lv_iconst (v := 0) hx hb dX6_isSame_421 (by decide) ?_
    refine lv_istore (lv' := [(8, .int 0), (7, .ref q3), (6, .ref (sl k)), (5, .int (nI k)), (4, .int (f_sum (σ 14) k)), (1, .ref x), (0, .ref (u 0))]) hx hb dX6_isSame_422 hl (by decide) rfl (fun ls hl => ?_)
    refine zk_loop (pc := 424) (fun v H locs ls => va_P D vwCl ((zw_X cI x a b σ τ ++ zj cB cS u bd sl nb ns σ) ++ [(q3, .inl (cI, 11, .inl (q_s11 σ k)))]) H ∧ va_D A ((zw_X cI x a b σ τ ++ zj cB cS u bd sl nb ns σ) ++ [(q3, .inl (cI, 11, .inl (q_s11 σ k)))]) ∧ va_S A s.heap H locs ∧ lv_has ls 9 [(8, .int (nI v)), (7, .ref q3), (6, .ref (sl k)), (5, .int (nI k)), (4, .int (f_sum (σ 14) k)), (1, .ref x), (0, .ref (u 0))]) 11 (fun v hv ih2 H locs ls hI => ?_) (fun H locs ls hI => ?_) _ _ _ ⟨hP, hD, hS, lv_sub hl [0, 1, 2, 3, 4, 5, 6] rfl⟩
    · obtain ⟨hP, hD, hS, hl⟩ := hI
      refine lv_iload hx hb dX6_isSame_424 (lv_at hl 0 rfl) ?_
      refine lv_bipush (v := 11) hx hb dX6_isSame_426 (by decide) ?_
      refine lv_icmp_ge (tgt := 455) hx hb dX6_isSame_428 (by decide) (fun c => absurd c (nI_ge (b := 11) hv (by decide))) (fun _ => ?_)
      refine lv_aload_n hx hb dX6_isSame_431 rfl (lv_at hl 5 rfl) ?_
      refine lv_iload hx hb dX6_isSame_432 (lv_at hl 3 rfl) ?_
      refine lv_iload hx hb dX6_isSame_434 (lv_at hl 0 rfl) ?_
      refine zk_R (D := D) (va_runV (As := [.int (nI k), .int (nI v)]) (rest := []) ⟨hx, hb, hml, hown, hts⟩ (c_X3_told l D cI x a b σ τ hV.1 hk (Nat.le_of_lt_succ hv) _) (cwV 2 hts gX6_isSame_X3_told rfl rfl rfl zdX3_told ⟨Nat.le_of_ble_eq_true rfl, Nat.le_of_ble_eq_true rfl⟩) ⟨zbl _, va_recv hKi (zxd_P (zxd_P hP)) (ci := 3) (q0 := 0) rfl rfl, zpr hKi (zxd_P (zxd_P hP)) (zxd_D (zxd_D hD))⟩ rfl rfl hl.1 rfl (lv_room (Nat.le_of_ble_eq_true rfl)) dX6_isSame_436 ⟨by show _ ≤ 18; omega, by show _ ≤ 154; omega⟩) hS (fun r H locs hw hkp hS => ?_)
      have hP := hkp _ hP
      have hw : r = σ (q_row v) k := hw
      subst hw
      refine lv_aload hx hb dX6_isSame_439 (lv_at hl 1 rfl) ?_
      refine lv_iload hx hb dX6_isSame_441 (lv_at hl 0 rfl) ?_
      refine zk_ld hx hb hK hP ((zw_X cI x a b σ τ ++ zj cB cS u bd sl nb ns σ).length + 0) 0 (zxr (i := 0) rfl) rfl (k := v) hv (by decide) (v := σ (q_row v) k) (if_pos hv) dX6_isSame_443 ?_
      refine lv_icmp_eq (tgt := 449) hx hb dX6_isSame_444 (by decide) (fun _ => ?_) (fun c => absurd (rfl) c)
      refine lv_iinc (v := nI (v + 1)) (lv' := [(8, .int (nI (v + 1))), (7, .ref q3), (6, .ref (sl k)), (5, .int (nI k)), (4, .int (f_sum (σ 14) k)), (1, .ref x), (0, .ref (u 0))]) hx hb dX6_isSame_449 hl (k := 0) rfl (nI_1 v) (by decide) rfl (fun ls hl => ?_)
      refine lv_goto (tgt := 424) hx hb dX6_isSame_452 (by decide) ?_
      exact ih2 _ _ _ ⟨hP, hD, hS, lv_sub hl [0, 1, 2, 3, 4, 5, 6] rfl⟩
    · obtain ⟨hP, hD, hS, hl⟩ := hI
      refine lv_iload hx hb dX6_isSame_424 (lv_at hl 0 rfl) ?_
      refine lv_bipush (v := 11) hx hb dX6_isSame_426 (by decide) ?_
      refine lv_icmp_ge (tgt := 455) hx hb dX6_isSame_428 (by decide) (fun _ => ?_) (fun c => absurd (by decide) c)
      have hP := zxd_P hP
      have hD := zxd_D hD
      refine lv_iload hx hb dX6_isSame_455 (lv_at hl 4 rfl) ?_
      refine lv_aload hx hb dX6_isSame_457 (lv_at hl 2 rfl) ?_
      refine va_get (D := D) (ci := 5) (v := .int (σ 14 k)) (C := RX5) (T := TX5) (N := 13) hx hb hts hinX5 hown hK hP ((zw_X cI x a b σ τ).length + (3 + nb + k)) (zxr (zjq_S hk)) rfl 9 (by decide) hf80 (fun _ h9 => h9) rfl dX6_isSame_459 ?_
      refine lv_iadd hx hb dX6_isSame_462 ?_
      refine lv_istore (lv' := [(4, .int ((f_sum (σ 14) k) + (σ 14 k))), (8, .int (nI 11)), (7, .ref q3), (6, .ref (sl k)), (5, .int (nI k)), (1, .ref x), (0, .ref (u 0))]) hx hb dX6_isSame_463 hl (by decide) rfl (fun ls hl => ?_)
      refine lv_iinc (v := nI (k + 1)) (lv' := [(5, .int (nI (k + 1))), (4, .int ((f_sum (σ 14) k) + (σ 14 k))), (8, .int (nI 11)), (7, .ref q3), (6, .ref (sl k)), (1, .ref x), (0, .ref (u 0))]) hx hb dX6_isSame_465 hl (k := 4) rfl (nI_1 k) (by decide) rfl (fun ls hl => ?_)
      refine lv_goto (tgt := 245) hx hb dX6_isSame_468 (by decide) ?_
      refine W.widen (k := 2 + nb + (k + 1)) (n := 14 + 5 * nb + 11 * (k + 1)) (by omega) (by omega) ?_
      exact ih _ _ _ ⟨hP, hD, hS, lv_sub hl [0, 1, 5, 6] rfl⟩
  · obtain ⟨hP, hD, hS, hl⟩ := hI
    refine W.widen (k := 2 + nb + ns) (n := 14 + 5 * nb + 11 * ns) (Nat.le_refl _) (Nat.le_refl _) ?_
    refine lv_iload hx hb dX6_isSame_245 (lv_at hl 0 rfl) ?_
    refine lv_aload_n hx hb dX6_isSame_247 rfl (lv_at hl 3 rfl) ?_
    refine va_get (D := D) (ci := 6) (v := .ref (u 2)) (C := RX6) (T := TX6) (N := 5) hx hb hts hinX6 hown hK hP ((zw_X cI x a b σ τ).length + 0) (zxr (i := 0) rfl) rfl 4 (by decide) hf24 (fun _ h9 => h9) rfl dX6_isSame_248 ?_
    refine va_alen hx hb hK hP ((zw_X cI x a b σ τ).length + 2) 2 (zxr (i := 2) rfl) rfl (v := nI ns) rfl dX6_isSame_251 ?_
    refine lv_icmp_ge (tgt := 471) hx hb dX6_isSame_252 (by decide) (fun _ => ?_) (fun c => absurd (i32_rf _) c)
    exact kk _ _ _ hP hD hS (lv_sub hl [1, 2, 3] rfl)
