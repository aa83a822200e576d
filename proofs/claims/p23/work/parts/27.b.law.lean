set_option maxHeartbeats 4000000 in
set_option maxRecDepth 100000 in
theorem l_L1 {p : Program} {l : Launch} {e : Env} {s : State} {m : MethodId} {below : List Frame} {meth : Method} {c : Code} {Q : State → Prop} {D : va_G} {cI cB cS : ClassId} {x b0 L : Nat} {xs : Nat → Int32} {a b u bd sl : Nat → Nat} {A : Nat → Prop} {σ τ : zS} {a3 a4 a5 : Nat} {R Lt Fl : Nat → Int32} {ce sz tm : Nat} {H : Heap} {locs : List Loc} {ls : Array Slot} (C : zLw p s m meth c D cI cB cS b0 L xs A) (hA : ∀ q : Nat, s.heap.size ≤ q → A q) {nb ns h B : Nat} (hV : zV σ nb ns (h + 1) B) (hce : ce ≤ 10000) (hsz : sz ≤ 100000) (hwm : zwm σ nb) (hP : va_P D vwCl ((zw_X cI x a b σ τ ++ zj cB cS u bd sl nb ns σ) ++ [(a3, .inl (cI, 10, .inl R)), (a4, .inl (cI, 10, .inl Lt)), (a5, .inl (cI, 10, .inl Fl))]) H) (hD : va_D A ((zw_X cI x a b σ τ ++ zj cB cS u bd sl nb ns σ) ++ [(a3, .inl (cI, 10, .inl R)), (a4, .inl (cI, 10, .inl Lt)), (a5, .inl (cI, 10, .inl Fl))])) (hS : va_S A s.heap H locs) (hl : lv_has ls 20 [(10, .int (nI ns)), (9, .int (nI nb)), (8, .int (nI h)), (6, .int (nI tm)), (5, .ref a5), (4, .ref a4), (3, .ref a3), (2, .ref (u 0)), (1, .ref x), (0, .ref b0)])  (kk : ∀ (H : Heap) (locs : List Loc) (ls : Array Slot), va_P D vwCl ((zw_X cI x a b σ τ ++ zj cB cS u bd sl nb ns σ) ++ [(a3, .inl (cI, 10, .inl R)), (a4, .inl (cI, 10, .inl Lt)), (a5, .inl (cI, 10, .inl Fl))]) H → va_D A ((zw_X cI x a b σ τ ++ zj cB cS u bd sl nb ns σ) ++ [(a3, .inl (cI, 10, .inl R)), (a4, .inl (cI, 10, .inl Lt)), (a5, .inl (cI, 10, .inl Fl))]) → va_S A s.heap H locs → lv_has ls 20 [(14, .int 0), (13, .int 0), (12, .int 0), (11, .int (f_inb (σ 5) nb)), (10, .int (nI ns)), (9, .int (nI nb)), (8, .int (nI h)), (6, .int (nI tm)), (5, .ref a5), (4, .ref a4), (3, .ref a3), (2, .ref (u 0)), (1, .ref x), (0, .ref b0)] → W p l e room_1 s m #[Value.ref b0] below meth c H locs ce sz Q (F0 m 273 ls [])) : W p l e room_1 s m #[Value.ref b0] below meth c H locs ce sz Q (F0 m 118 ls []) := by
  obtain ⟨hx, hb, hml, hown, hts, hK, hL, hX, hL2, hbl, hbA⟩ := C
  have hnb := hV.1.2.1
  have hns := hV.1.2.2.2.1
  have hh := hV.1.2.2.2.2.2.1
  refine lv_iconst (v := 0) hx hb dL_law_118 (by decide) ?_
  refine lv_istore (lv' := [(11, .int 0), (10, .int (nI ns)), (9, .int (nI nb)), (8, .int (nI h)), (6, .int (nI tm)), (5, .ref a5), (4, .ref a4), (3, .ref a3), (2, .ref (u 0)), (1, .ref x), (0, .ref b0)]) hx hb dL_law_119 hl (by decide) rfl (fun ls hl => ?_)
  refine lv_iconst (v := 0) hx hb dL_law_121 (by decide) ?_
  refine lv_istore (lv' := [(12, .int 0), (11, .int 0), (10, .int (nI ns)), (9, .int (nI nb)), (8, .int (nI h)), (6, .int (nI tm)), (5, .ref a5), (4, .ref a4), (3, .ref a3), (2, .ref (u 0)), (1, .ref x), (0, .ref b0)]) hx hb dL_law_122 hl (by decide) rfl (fun ls hl => ?_)
  refine lv_iconst (v := 0) hx hb dL_law_124 (by decide) ?_
  refine lv_istore (lv' := [(13, .int 0), (12, .int 0), (11, .int 0), (10, .int (nI ns)), (9, .int (nI nb)), (8, .int (nI h)), (6, .int (nI tm)), (5, .ref a5), (4, .ref a4), (3, .ref a3), (2, .ref (u 0)), (1, .ref x), (0, .ref b0)]) hx hb dL_law_125 hl (by decide) rfl (fun ls hl => ?_)
  refine lv_iconst (v := 0) hx hb dL_law_127 (by decide) ?_
  refine lv_istore (lv' := [(14, .int 0), (13, .int 0), (12, .int 0), (11, .int 0), (10, .int (nI ns)), (9, .int (nI nb)), (8, .int (nI h)), (6, .int (nI tm)), (5, .ref a5), (4, .ref a4), (3, .ref a3), (2, .ref (u 0)), (1, .ref x), (0, .ref b0)]) hx hb dL_law_128 hl (by decide) rfl (fun ls hl => ?_)
  refine lv_iconst (v := 0) hx hb dL_law_130 (by decide) ?_
  refine lv_istore (lv' := [(15, .int 0), (14, .int 0), (13, .int 0), (12, .int 0), (11, .int 0), (10, .int (nI ns)), (9, .int (nI nb)), (8, .int (nI h)), (6, .int (nI tm)), (5, .ref a5), (4, .ref a4), (3, .ref a3), (2, .ref (u 0)), (1, .ref x), (0, .ref b0)]) hx hb dL_law_131 hl (by decide) rfl (fun ls hl => ?_)
  have C0 : zLw p s m meth c D cI cB cS b0 L xs A := ⟨hx, hb, hml, hown, hts, hK, hL, hX, hL2, hbl, hbA⟩
  refine zk_loop (pc := 133) (fun k H locs ls => va_P D vwCl ((zw_X cI x a b σ τ ++ zj cB cS u bd sl nb ns σ) ++ [(a3, .inl (cI, 10, .inl R)), (a4, .inl (cI, 10, .inl Lt)), (a5, .inl (cI, 10, .inl Fl))]) H ∧ va_D A ((zw_X cI x a b σ τ ++ zj cB cS u bd sl nb ns σ) ++ [(a3, .inl (cI, 10, .inl R)), (a4, .inl (cI, 10, .inl Lt)), (a5, .inl (cI, 10, .inl Fl))]) ∧ va_S A s.heap H locs ∧ lv_has ls 20 [(15, .int (nI k)), (14, .int 0), (13, .int 0), (12, .int 0), (11, .int (f_inb (σ 5) k)), (10, .int (nI ns)), (9, .int (nI nb)), (8, .int (nI h)), (6, .int (nI tm)), (5, .ref a5), (4, .ref a4), (3, .ref a3), (2, .ref (u 0)), (1, .ref x), (0, .ref b0)]) nb (fun k hk ih H locs ls hI => ?_) (fun H locs ls hI => ?_) _ _ _ ⟨hP, hD, hS, lv_sub hl [0, 1, 2, 3, 4, 5, 6, 7, 8, 9, 10, 11, 12, 13, 14] rfl⟩
  · obtain ⟨hP, hD, hS, hl⟩ := hI
    refine lv_iload hx hb dL_law_133 (lv_at hl 0 rfl) ?_
    refine lv_iload hx hb dL_law_135 (lv_at hl 6 rfl) ?_
    refine lv_icmp_ge (tgt := 273) hx hb dL_law_137 (by decide) (fun c => absurd c (nI_ge hk (by omega))) (fun _ => ?_)
    refine l_bed C0 hA hV hce hsz hwm hk hP hD hS (lv_sub hl [0, 1, 2, 3, 4, 5, 6, 7, 8, 9, 10, 11, 12, 13, 14] rfl) (fun H locs ls hP hD hS hl => ?_)
    refine lv_iinc (v := nI (k + 1)) (lv' := [(15, .int (nI (k + 1))), (14, .int 0), (13, .int 0), (12, .int 0), (11, .int (f_inb (σ 5) (k + 1))), (10, .int (nI ns)), (9, .int (nI nb)), (8, .int (nI h)), (6, .int (nI tm)), (5, .ref a5), (4, .ref a4), (3, .ref a3), (2, .ref (u 0)), (1, .ref x), (0, .ref b0)]) hx hb dL_law_267 hl (k := 0) rfl (nI_1 k) (by decide) rfl (fun ls hl => ?_)
    refine lv_goto (tgt := 133) hx hb dL_law_270 (by decide) ?_
    exact ih _ _ _ ⟨hP, hD, hS, lv_sub hl [0, 1, 2, 3, 4, 5, 6, 7, 8, 9, 10, 11, 12, 13, 14] rfl⟩
  · obtain ⟨hP, hD, hS, hl⟩ := hI
    refine lv_iload hx hb dL_law_133 (lv_at hl 0 rfl) ?_
    refine lv_iload hx hb dL_law_135 (lv_at hl 6 rfl) ?_
    refine lv_icmp_ge (tgt := 273) hx hb dL_law_137 (by decide) (fun _ => ?_) (fun c => absurd (i32_rf _) c)
    exact kk _ _ _ hP hD hS (lv_sub hl [1, 2, 3, 4, 5, 6, 7, 8, 9, 10, 11, 12, 13, 14] rfl)
set_option maxHeartbeats 4000000 in
set_option maxRecDepth 100000 in
theorem l_L2 {p : Program} {l : Launch} {e : Env} {s : State} {m : MethodId} {below : List Frame} {meth : Method} {c : Code} {Q : State → Prop} {D : va_G} {cI cB cS : ClassId} {x b0 L : Nat} {xs : Nat → Int32} {a b u bd sl : Nat → Nat} {A : Nat → Prop} {σ τ : zS} {a3 a4 a5 : Nat} {R Lt Fl : Nat → Int32} {ce sz tm : Nat} {H : Heap} {locs : List Loc} {ls : Array Slot} (C : zLw p s m meth c D cI cB cS b0 L xs A) (hA : ∀ q : Nat, s.heap.size ≤ q → A q) {nb ns h B : Nat} (hV : zV σ nb ns (h + 1) B) (hce : ce ≤ 10000) (hsz : sz ≤ 100000) (hld : zld σ h ns) (hmo : zmA R Lt Fl σ) (hP : va_P D vwCl ((zw_X cI x a b σ τ ++ zj cB cS u bd sl nb ns σ) ++ [(a3, .inl (cI, 10, .inl R)), (a4, .inl (cI, 10, .inl Lt)), (a5, .inl (cI, 10, .inl Fl))]) H) (hD : va_D A ((zw_X cI x a b σ τ ++ zj cB cS u bd sl nb ns σ) ++ [(a3, .inl (cI, 10, .inl R)), (a4, .inl (cI, 10, .inl Lt)), (a5, .inl (cI, 10, .inl Fl))])) (hS : va_S A s.heap H locs) (hl : lv_has ls 20 [(14, .int 0), (13, .int 0), (12, .int 0), (11, .int (f_inb (σ 5) nb)), (10, .int (nI ns)), (9, .int (nI nb)), (8, .int (nI h)), (6, .int (nI tm)), (5, .ref a5), (4, .ref a4), (3, .ref a3), (2, .ref (u 0)), (1, .ref x), (0, .ref b0)])  (kk : ∀ (H : Heap) (locs : List Loc) (ls : Array Slot), va_P D vwCl ((zw_X cI x a b σ τ ++ zj cB cS u bd sl nb ns σ) ++ [(a3, .inl (cI, 10, .inl (q_rp (σ 14) R ns))), (a4, .inl (cI, 10, .inl (q_rp (σ 15) Lt ns))), (a5, .inl (cI, 10, .inl (q_rp (σ 17) Fl ns)))]) H → va_D A ((zw_X cI x a b σ τ ++ zj cB cS u bd sl nb ns σ) ++ [(a3, .inl (cI, 10, .inl (q_rp (σ 14) R ns))), (a4, .inl (cI, 10, .inl (q_rp (σ 15) Lt ns))), (a5, .inl (cI, 10, .inl (q_rp (σ 17) Fl ns)))]) → va_S A s.heap H locs → lv_has ls 20 [(14, .int (f_sum (σ 17) ns)), (13, .int (f_sum (σ 15) ns)), (12, .int (f_many (σ 12) 2 ns)), (11, .int (f_inb (σ 5) nb)), (10, .int (nI ns)), (9, .int (nI nb)), (8, .int (nI h)), (6, .int (nI tm)), (5, .ref a5), (4, .ref a4), (3, .ref a3), (2, .ref (u 0)), (1, .ref x), (0, .ref b0)] → W p l e room_1 s m #[Value.ref b0] below meth c H locs ce sz Q (F0 m 610 ls [])) : W p l e room_1 s m #[Value.ref b0] below meth c H locs ce sz Q (F0 m 273 ls []) := by
  obtain ⟨hx, hb, hml, hown, hts, hK, hL, hX, hL2, hbl, hbA⟩ := C
  have hnb := hV.1.2.1
  have hns := hV.1.2.2.2.1
  have hh := hV.1.2.2.2.2.2.1
  refine lv_iconst (v := 0) hx hb dL_law_273 (by decide) ?_
  refine lv_istore (lv' := [(15, .int 0), (14, .int 0), (13, .int 0), (12, .int 0), (11, .int (f_inb (σ 5) nb)), (10, .int (nI ns)), (9, .int (nI nb)), (8, .int (nI h)), (6, .int (nI tm)), (5, .ref a5), (4, .ref a4), (3, .ref a3), (2, .ref (u 0)), (1, .ref x), (0, .ref b0)]) hx hb dL_law_274 hl (by decide) rfl (fun ls hl => ?_)
  have C0 : zLw p s m meth c D cI cB cS b0 L xs A := ⟨hx, hb, hml, hown, hts, hK, hL, hX, hL2, hbl, hbA⟩
  have hP : va_P D vwCl ((zw_X cI x a b σ τ ++ zj cB cS u bd sl nb ns σ) ++ [(a3, .inl (cI, 10, .inl (q_rp (σ 14) R 0))), (a4, .inl (cI, 10, .inl (q_rp (σ 15) Lt 0))), (a5, .inl (cI, 10, .inl (q_rp (σ 17) Fl 0)))]) H := by rw [q_rp_0, q_rp_0, q_rp_0]; exact hP
  have hD : va_D A ((zw_X cI x a b σ τ ++ zj cB cS u bd sl nb ns σ) ++ [(a3, .inl (cI, 10, .inl (q_rp (σ 14) R 0))), (a4, .inl (cI, 10, .inl (q_rp (σ 15) Lt 0))), (a5, .inl (cI, 10, .inl (q_rp (σ 17) Fl 0)))]) := by rw [q_rp_0, q_rp_0, q_rp_0]; exact hD
  refine zk_loop (pc := 276) (fun k H locs ls => va_P D vwCl ((zw_X cI x a b σ τ ++ zj cB cS u bd sl nb ns σ) ++ [(a3, .inl (cI, 10, .inl (q_rp (σ 14) R k))), (a4, .inl (cI, 10, .inl (q_rp (σ 15) Lt k))), (a5, .inl (cI, 10, .inl (q_rp (σ 17) Fl k)))]) H ∧ va_D A ((zw_X cI x a b σ τ ++ zj cB cS u bd sl nb ns σ) ++ [(a3, .inl (cI, 10, .inl (q_rp (σ 14) R k))), (a4, .inl (cI, 10, .inl (q_rp (σ 15) Lt k))), (a5, .inl (cI, 10, .inl (q_rp (σ 17) Fl k)))]) ∧ va_S A s.heap H locs ∧ lv_has ls 20 [(15, .int (nI k)), (14, .int (f_sum (σ 17) k)), (13, .int (f_sum (σ 15) k)), (12, .int (f_many (σ 12) 2 k)), (11, .int (f_inb (σ 5) nb)), (10, .int (nI ns)), (9, .int (nI nb)), (8, .int (nI h)), (6, .int (nI tm)), (5, .ref a5), (4, .ref a4), (3, .ref a3), (2, .ref (u 0)), (1, .ref x), (0, .ref b0)]) ns (fun k hk ih H locs ls hI => ?_) (fun H locs ls hI => ?_) _ _ _ ⟨hP, hD, hS, lv_sub hl [0, 1, 2, 3, 4, 5, 6, 7, 8, 9, 10, 11, 12, 13, 14] rfl⟩
  · obtain ⟨hP, hD, hS, hl⟩ := hI
    refine lv_iload hx hb dL_law_276 (lv_at hl 0 rfl) ?_
    refine lv_iload hx hb dL_law_278 (lv_at hl 5 rfl) ?_
    refine lv_icmp_ge (tgt := 610) hx hb dL_law_280 (by decide) (fun c => absurd c (nI_ge hk (by omega))) (fun _ => ?_)
    refine l_s1 C0 hA hV hce hsz hk hP hD hS (lv_sub hl [0, 1, 2, 3, 4, 5, 6, 7, 8, 9, 10, 11, 12, 13, 14] rfl) (fun H locs ls hP hD hS hl => ?_)
    refine l_s2 C0 hA hV hce hsz hk hP hD hS hl (fun H locs ls hP hD hS hl => ?_)
    refine l_s3 C0 hA hV hce hsz hld hk hP hD hS hl (fun H locs ls hP hD hS hl => ?_)
    refine l_s4 C0 hA hV hce hsz hmo hk hP hD hS hl (fun H locs ls hP hD hS hl => ?_)
    refine l_s5 C0 hA hV hce hsz hk hP hD hS hl (fun H locs ls hP hD hS hl => ?_)
    refine lv_iinc (v := nI (k + 1)) (lv' := [(15, .int (nI (k + 1))), (14, .int (f_sum (σ 17) (k + 1))), (13, .int (f_sum (σ 15) (k + 1))), (12, .int (f_many (σ 12) 2 (k + 1))), (11, .int (f_inb (σ 5) nb)), (10, .int (nI ns)), (9, .int (nI nb)), (8, .int (nI h)), (6, .int (nI tm)), (5, .ref a5), (4, .ref a4), (3, .ref a3), (2, .ref (u 0)), (1, .ref x), (0, .ref b0)]) hx hb dL_law_604 hl (k := 0) rfl (nI_1 k) (by decide) rfl (fun ls hl => ?_)
    refine lv_goto (tgt := 276) hx hb dL_law_607 (by decide) ?_
    exact ih _ _ _ ⟨hP, hD, hS, lv_sub hl [0, 1, 2, 3, 4, 5, 6, 7, 8, 9, 10, 11, 12, 13, 14] rfl⟩
  · obtain ⟨hP, hD, hS, hl⟩ := hI
    refine lv_iload hx hb dL_law_276 (lv_at hl 0 rfl) ?_
    refine lv_iload hx hb dL_law_278 (lv_at hl 5 rfl) ?_
    refine lv_icmp_ge (tgt := 610) hx hb dL_law_280 (by decide) (fun _ => ?_) (fun c => absurd (i32_rf _) c)
    exact kk _ _ _ hP hD hS (lv_sub hl [1, 2, 3, 4, 5, 6, 7, 8, 9, 10, 11, 12, 13, 14] rfl)
set_option maxHeartbeats 4000000 in
set_option maxRecDepth 100000 in
theorem l_fin {p : Program} {l : Launch} {e : Env} {s : State} {m : MethodId} {below : List Frame} {meth : Method} {c : Code} {Q : State → Prop} {D : va_G} {cI cB cS : ClassId} {x b0 L : Nat} {xs : Nat → Int32} {a b u bd sl : Nat → Nat} {A : Nat → Prop} {σ τ : zS} {a3 a4 a5 : Nat} {R Lt Fl : Nat → Int32} {ce sz tm : Nat} {H : Heap} {locs : List Loc} {ls : Array Slot} (C : zLw p s m meth c D cI cB cS b0 L xs A) (hA : ∀ q : Nat, s.heap.size ≤ q → A q) {nb ns h B : Nat} (hV : zV σ nb ns (h + 1) B) (hce : ce ≤ 10000) (hsz : sz ≤ 100000)  (hP : va_P D vwCl ((zw_X cI x a b σ τ ++ zj cB cS u bd sl nb ns σ) ++ [(a3, .inl (cI, 10, .inl (q_rp (σ 14) R ns))), (a4, .inl (cI, 10, .inl (q_rp (σ 15) Lt ns))), (a5, .inl (cI, 10, .inl (q_rp (σ 17) Fl ns)))]) H) (hD : va_D A ((zw_X cI x a b σ τ ++ zj cB cS u bd sl nb ns σ) ++ [(a3, .inl (cI, 10, .inl (q_rp (σ 14) R ns))), (a4, .inl (cI, 10, .inl (q_rp (σ 15) Lt ns))), (a5, .inl (cI, 10, .inl (q_rp (σ 17) Fl ns)))])) (hS : va_S A s.heap H locs) (hl : lv_has ls 20 [(14, .int (f_sum (σ 17) ns)), (13, .int (f_sum (σ 15) ns)), (12, .int (f_many (σ 12) 2 ns)), (11, .int (f_inb (σ 5) nb)), (10, .int (nI ns)), (9, .int (nI nb)), (8, .int (nI h)), (6, .int (nI tm)), (5, .ref a5), (4, .ref a4), (3, .ref a3), (2, .ref (u 0)), (1, .ref x), (0, .ref b0)])  (kk : ∀ (H : Heap) (locs : List Loc) (ls : Array Slot), va_P D vwCl ((zw_X cI x a b σ τ ++ zj cB cS u bd sl nb ns σ) ++ [(a3, .inl (cI, 10, .inl (q_rp (σ 14) R ns))), (a4, .inl (cI, 10, .inl (q_rp (σ 15) Lt ns))), (a5, .inl (cI, 10, .inl (q_rp (σ 17) Fl ns)))]) H → va_D A ((zw_X cI x a b σ τ ++ zj cB cS u bd sl nb ns σ) ++ [(a3, .inl (cI, 10, .inl (q_rp (σ 14) R ns))), (a4, .inl (cI, 10, .inl (q_rp (σ 15) Lt ns))), (a5, .inl (cI, 10, .inl (q_rp (σ 17) Fl ns)))]) → va_S A s.heap H locs → lv_has ls 20 [(6, .int (nI tm)), (5, .ref a5), (4, .ref a4), (3, .ref a3), (2, .ref (u 0)), (1, .ref x), (0, .ref b0)] → W p l e room_1 s m #[Value.ref b0] below meth c H locs ce sz Q (F0 m 672 ls [])) : W p l e room_1 s m #[Value.ref b0] below meth c H locs ce sz Q (F0 m 610 ls []) := by
  obtain ⟨hx, hb, hml, hown, hts, hK, hL, hX, hL2, hbl, hbA⟩ := C
  have hnb := hV.1.2.1
  have hns := hV.1.2.2.2.1
  have hh := hV.1.2.2.2.2.2.1
  have hKi : va_K D vwCl [(cI, .int)] s := hK.sub [0] rfl
  refine lv_iload hx hb dL_law_610 (lv_at hl 3 rfl) ?_
  refine lv_aload_n hx hb dL_law_612 rfl (lv_at hl 12 rfl) ?_
  refine lv_iconst (v := 4) hx hb dL_law_613 (by decide) ?_
  refine zk_R (D := D) (va_runV (As := [.int (nI 4)]) (rest := [.int (f_inb (σ 5) nb)]) ⟨hx, hb, hml, hown, hts⟩ (c_X3_count l D cI x a b σ τ hV.1 (w := 4) (by decide) _) (cwV 1 hts gL_law_X3_count rfl rfl rfl zdX3_count ⟨Nat.le_of_ble_eq_true rfl, Nat.le_of_ble_eq_true rfl⟩) ⟨zbl _, va_recv hKi (zxd_P (zxd_P hP)) (ci := 3) (q0 := 0) rfl rfl, zpr hKi (zxd_P (zxd_P hP)) (zxd_D (zxd_D hD))⟩ rfl rfl hl.1 rfl (lv_room (Nat.le_of_ble_eq_true rfl)) dL_law_614 ⟨by show _ ≤ 772990; omega, by show _ ≤ 6782653; omega⟩) hS (fun r H locs hw hkp hS => ?_)
  have hP := hkp _ hP
  have hw : r = f_many (σ 12) 1 ns := hw
  subst hw
  refine lv_icmp_ne (tgt := 670) hx hb dL_law_617 (by decide) (fun c => absurd (inb_many hV) c) (fun _ => ?_)
  refine lv_iload hx hb dL_law_620 (lv_at hl 2 rfl) ?_
  refine lv_aload_n hx hb dL_law_622 rfl (lv_at hl 12 rfl) ?_
  refine lv_iconst (v := 5) hx hb dL_law_623 (by decide) ?_
  refine zk_R (D := D) (va_runV (As := [.int (nI 5)]) (rest := [.int (f_many (σ 12) 2 ns)]) ⟨hx, hb, hml, hown, hts⟩ (c_X3_count l D cI x a b σ τ hV.1 (w := 5) (by decide) _) (cwV 1 hts gL_law_X3_count rfl rfl rfl zdX3_count ⟨Nat.le_of_ble_eq_true rfl, Nat.le_of_ble_eq_true rfl⟩) ⟨zbl _, va_recv hKi (zxd_P (zxd_P hP)) (ci := 3) (q0 := 0) rfl rfl, zpr hKi (zxd_P (zxd_P hP)) (zxd_D (zxd_D hD))⟩ rfl rfl hl.1 rfl (lv_room (Nat.le_of_ble_eq_true rfl)) dL_law_624 ⟨by show _ ≤ 772990; omega, by show _ ≤ 6782653; omega⟩) hS (fun r H locs hw hkp hS => ?_)
  have hP := hkp _ hP
  have hw : r = f_many (σ 12) 2 ns := hw
  subst hw
  refine lv_icmp_ne (tgt := 670) hx hb dL_law_627 (by decide) (fun c => absurd (rfl) c) (fun _ => ?_)
  refine lv_iload hx hb dL_law_630 (lv_at hl 1 rfl) ?_
  refine lv_aload_n hx hb dL_law_632 rfl (lv_at hl 12 rfl) ?_
  refine lv_bipush (v := 6) hx hb dL_law_633 (by decide) ?_
  refine zk_R (D := D) (va_runV (As := [.int (nI 6)]) (rest := [.int (f_sum (σ 15) ns)]) ⟨hx, hb, hml, hown, hts⟩ (c_X3_count l D cI x a b σ τ hV.1 (w := 6) (by decide) _) (cwV 1 hts gL_law_X3_count rfl rfl rfl zdX3_count ⟨Nat.le_of_ble_eq_true rfl, Nat.le_of_ble_eq_true rfl⟩) ⟨zbl _, va_recv hKi (zxd_P (zxd_P hP)) (ci := 3) (q0 := 0) rfl rfl, zpr hKi (zxd_P (zxd_P hP)) (zxd_D (zxd_D hD))⟩ rfl rfl hl.1 rfl (lv_room (Nat.le_of_ble_eq_true rfl)) dL_law_635 ⟨by show _ ≤ 772990; omega, by show _ ≤ 6782653; omega⟩) hS (fun r H locs hw hkp hS => ?_)
  have hP := hkp _ hP
  have hw : r = f_sum (σ 15) ns := hw
  subst hw
  refine lv_icmp_ne (tgt := 670) hx hb dL_law_638 (by decide) (fun c => absurd (rfl) c) (fun _ => ?_)
  refine lv_iload hx hb dL_law_641 (lv_at hl 0 rfl) ?_
  refine lv_aload_n hx hb dL_law_643 rfl (lv_at hl 12 rfl) ?_
  refine lv_bipush (v := 7) hx hb dL_law_644 (by decide) ?_
  refine zk_R (D := D) (va_runV (As := [.int (nI 7)]) (rest := [.int (f_sum (σ 17) ns)]) ⟨hx, hb, hml, hown, hts⟩ (c_X3_count l D cI x a b σ τ hV.1 (w := 7) (by decide) _) (cwV 1 hts gL_law_X3_count rfl rfl rfl zdX3_count ⟨Nat.le_of_ble_eq_true rfl, Nat.le_of_ble_eq_true rfl⟩) ⟨zbl _, va_recv hKi (zxd_P (zxd_P hP)) (ci := 3) (q0 := 0) rfl rfl, zpr hKi (zxd_P (zxd_P hP)) (zxd_D (zxd_D hD))⟩ rfl rfl hl.1 rfl (lv_room (Nat.le_of_ble_eq_true rfl)) dL_law_646 ⟨by show _ ≤ 772990; omega, by show _ ≤ 6782653; omega⟩) hS (fun r H locs hw hkp hS => ?_)
  have hP := hkp _ hP
  have hw : r = f_sum (σ 17) ns := hw
  subst hw
  refine lv_icmp_ne (tgt := 670) hx hb dL_law_649 (by decide) (fun c => absurd (rfl) c) (fun _ => ?_)
  refine lv_aload_n hx hb dL_law_652 rfl (lv_at hl 12 rfl) ?_
  refine lv_iconst (v := 3) hx hb dL_law_653 (by decide) ?_
  refine zk_R (D := D) (va_runV (As := [.int (nI 3)]) (rest := []) ⟨hx, hb, hml, hown, hts⟩ (c_X3_count l D cI x a b σ τ hV.1 (w := 3) (by decide) _) (cwV 1 hts gL_law_X3_count rfl rfl rfl zdX3_count ⟨Nat.le_of_ble_eq_true rfl, Nat.le_of_ble_eq_true rfl⟩) ⟨zbl _, va_recv hKi (zxd_P (zxd_P hP)) (ci := 3) (q0 := 0) rfl rfl, zpr hKi (zxd_P (zxd_P hP)) (zxd_D (zxd_D hD))⟩ rfl rfl hl.1 rfl (lv_room (Nat.le_of_ble_eq_true rfl)) dL_law_654 ⟨by show _ ≤ 772990; omega, by show _ ≤ 6782653; omega⟩) hS (fun r H locs hw hkp hS => ?_)
  have hP := hkp _ hP
  have hw : r = nI ((h + 1) % 24 / 8) := hw
  subst hw
  refine lv_aload_n hx hb dL_law_657 rfl (lv_at hl 12 rfl) ?_
  refine lv_iconst (v := 0) hx hb dL_law_658 (by decide) ?_
  refine zk_R (D := D) (va_runV (As := [.int (nI 0)]) (rest := [.int (nI ((h + 1) % 24 / 8))]) ⟨hx, hb, hml, hown, hts⟩ (c_X3_count l D cI x a b σ τ hV.1 (w := 0) (by decide) _) (cwV 1 hts gL_law_X3_count rfl rfl rfl zdX3_count ⟨Nat.le_of_ble_eq_true rfl, Nat.le_of_ble_eq_true rfl⟩) ⟨zbl _, va_recv hKi (zxd_P (zxd_P hP)) (ci := 3) (q0 := 0) rfl rfl, zpr hKi (zxd_P (zxd_P hP)) (zxd_D (zxd_D hD))⟩ rfl rfl hl.1 rfl (lv_room (Nat.le_of_ble_eq_true rfl)) dL_law_659 ⟨by show _ ≤ 772990; omega, by show _ ≤ 6782653; omega⟩) hS (fun r H locs hw hkp hS => ?_)
  have hP := hkp _ hP
  have hw : r = nI (h + 1) := hw
  subst hw
  refine lv_bipush (v := 8) hx hb dL_law_662 (by decide) ?_
  refine zk_div (x := (h + 1)) (y := 8) hx hb dL_law_664 (by omega) (by decide) (by decide) ?_
  refine lv_iconst (v := 3) hx hb dL_law_665 (by decide) ?_
  refine zk_rem (x := ((h + 1) / 8)) (y := 3) hx hb dL_law_666 (by omega) (by decide) (by decide) ?_
  refine lv_icmp_eq (tgt := 672) hx hb dL_law_667 (by decide) (fun _ => ?_) (fun c => absurd (congrArg nI (by omega)) c)
  exact kk _ _ _ hP hD hS (lv_sub hl [7, 8, 9, 10, 11, 12, 13] rfl)
set_option maxHeartbeats 4000000 in
set_option maxRecDepth 100000 in
theorem l_ask {p : Program} {l : Launch} {e : Env} {s : State} {m : MethodId} {below : List Frame} {meth : Method} {c : Code} {Q : State → Prop} {D : va_G} {cI cB cS : ClassId} {x b0 L : Nat} {xs : Nat → Int32} {a b u bd sl : Nat → Nat} {A : Nat → Prop} {σ τ : zS} {a3 a4 a5 : Nat} {R Lt Fl : Nat → Int32} {ce sz tm : Nat} {H : Heap} {locs : List Loc} {ls : Array Slot} (C : zLw p s m meth c D cI cB cS b0 L xs A) (hA : ∀ q : Nat, s.heap.size ≤ q → A q) {nb ns h B : Nat} (hV : zV σ nb ns (h + 1) B) (hce : ce ≤ 10000) (hsz : sz ≤ 100000) (hwm : zwm σ nb) (hld : zld σ h ns) (hmo : zmA R Lt Fl σ) (hP : va_P D vwCl ((zw_X cI x a b σ τ ++ zj cB cS u bd sl nb ns σ) ++ [(a3, .inl (cI, 10, .inl R)), (a4, .inl (cI, 10, .inl Lt)), (a5, .inl (cI, 10, .inl Fl))]) H) (hD : va_D A ((zw_X cI x a b σ τ ++ zj cB cS u bd sl nb ns σ) ++ [(a3, .inl (cI, 10, .inl R)), (a4, .inl (cI, 10, .inl Lt)), (a5, .inl (cI, 10, .inl Fl))])) (hS : va_S A s.heap H locs) (hl : lv_has ls 20 [(6, .int (nI tm)), (5, .ref a5), (4, .ref a4), (3, .ref a3), (2, .ref (u 0)), (1, .ref x), (0, .ref b0)])  (kk : ∀ (H : Heap) (locs : List Loc) (ls : Array Slot), va_P D vwCl ((zw_X cI x a b σ τ ++ zj cB cS u bd sl nb ns σ) ++ [(a3, .inl (cI, 10, .inl (q_rp (σ 14) R ns))), (a4, .inl (cI, 10, .inl (q_rp (σ 15) Lt ns))), (a5, .inl (cI, 10, .inl (q_rp (σ 17) Fl ns)))]) H → va_D A ((zw_X cI x a b σ τ ++ zj cB cS u bd sl nb ns σ) ++ [(a3, .inl (cI, 10, .inl (q_rp (σ 14) R ns))), (a4, .inl (cI, 10, .inl (q_rp (σ 15) Lt ns))), (a5, .inl (cI, 10, .inl (q_rp (σ 17) Fl ns)))]) → va_S A s.heap H locs → lv_has ls 20 [(6, .int (nI tm)), (5, .ref a5), (4, .ref a4), (3, .ref a3), (2, .ref (u 0)), (1, .ref x), (0, .ref b0)] → W p l e room_1 s m #[Value.ref b0] below meth c H locs ce sz Q (F0 m 672 ls [])) : W p l e room_1 s m #[Value.ref b0] below meth c H locs ce sz Q (F0 m 95 ls []) := by
  obtain ⟨hx, hb, hml, hown, hts, hK, hL, hX, hL2, hbl, hbA⟩ := C
  have hnb := hV.1.2.1
  have hns := hV.1.2.2.2.1
  have hh := hV.1.2.2.2.2.2.1
  have hKi : va_K D vwCl [(cI, .int)] s := hK.sub [0] rfl
  refine lv_aload_n hx hb dL_law_95 rfl (lv_at hl 5 rfl) ?_
  refine lv_iconst (v := 0) hx hb dL_law_96 (by decide) ?_
  refine zk_R (D := D) (va_runV (As := [.int (nI 0)]) (rest := []) ⟨hx, hb, hml, hown, hts⟩ (c_X3_count l D cI x a b σ τ hV.1 (w := 0) (by decide) _) (cwV 1 hts gL_law_X3_count rfl rfl rfl zdX3_count ⟨Nat.le_of_ble_eq_true rfl, Nat.le_of_ble_eq_true rfl⟩) ⟨zbl _, va_recv hKi (zxd_P (zxd_P hP)) (ci := 3) (q0 := 0) rfl rfl, zpr hKi (zxd_P (zxd_P hP)) (zxd_D (zxd_D hD))⟩ rfl rfl hl.1 rfl (lv_room (Nat.le_of_ble_eq_true rfl)) dL_law_97 ⟨by show _ ≤ 772990; omega, by show _ ≤ 6782653; omega⟩) hS (fun r H locs hw hkp hS => ?_)
  have hP := hkp _ hP
  have hw : r = nI (h + 1) := hw
  subst hw
  refine lv_iconst (v := 1) hx hb dL_law_100 (by decide) ?_
  refine zk_sub (x := (h + 1)) (y := 1) hx hb dL_law_101 (by omega) ?_
  refine lv_istore (lv' := [(8, .int (nI ((h + 1) - 1))), (6, .int (nI tm)), (5, .ref a5), (4, .ref a4), (3, .ref a3), (2, .ref (u 0)), (1, .ref x), (0, .ref b0)]) hx hb dL_law_102 hl (by decide) rfl (fun ls hl => ?_)
  refine lv_aload_n hx hb dL_law_104 rfl (lv_at hl 6 rfl) ?_
  refine lv_iconst (v := 1) hx hb dL_law_105 (by decide) ?_
  refine zk_R (D := D) (va_runV (As := [.int (nI 1)]) (rest := []) ⟨hx, hb, hml, hown, hts⟩ (c_X3_count l D cI x a b σ τ hV.1 (w := 1) (by decide) _) (cwV 1 hts gL_law_X3_count rfl rfl rfl zdX3_count ⟨Nat.le_of_ble_eq_true rfl, Nat.le_of_ble_eq_true rfl⟩) ⟨zbl _, va_recv hKi (zxd_P (zxd_P hP)) (ci := 3) (q0 := 0) rfl rfl, zpr hKi (zxd_P (zxd_P hP)) (zxd_D (zxd_D hD))⟩ rfl rfl hl.1 rfl (lv_room (Nat.le_of_ble_eq_true rfl)) dL_law_106 ⟨by show _ ≤ 772990; omega, by show _ ≤ 6782653; omega⟩) hS (fun r H locs hw hkp hS => ?_)
  have hP := hkp _ hP
  have hw : r = nI nb := hw
  subst hw
  refine lv_istore (lv' := [(9, .int (nI nb)), (8, .int (nI ((h + 1) - 1))), (6, .int (nI tm)), (5, .ref a5), (4, .ref a4), (3, .ref a3), (2, .ref (u 0)), (1, .ref x), (0, .ref b0)]) hx hb dL_law_109 hl (by decide) rfl (fun ls hl => ?_)
  refine lv_aload_n hx hb dL_law_111 rfl (lv_at hl 7 rfl) ?_
  refine lv_iconst (v := 2) hx hb dL_law_112 (by decide) ?_
  refine zk_R (D := D) (va_runV (As := [.int (nI 2)]) (rest := []) ⟨hx, hb, hml, hown, hts⟩ (c_X3_count l D cI x a b σ τ hV.1 (w := 2) (by decide) _) (cwV 1 hts gL_law_X3_count rfl rfl rfl zdX3_count ⟨Nat.le_of_ble_eq_true rfl, Nat.le_of_ble_eq_true rfl⟩) ⟨zbl _, va_recv hKi (zxd_P (zxd_P hP)) (ci := 3) (q0 := 0) rfl rfl, zpr hKi (zxd_P (zxd_P hP)) (zxd_D (zxd_D hD))⟩ rfl rfl hl.1 rfl (lv_room (Nat.le_of_ble_eq_true rfl)) dL_law_113 ⟨by show _ ≤ 772990; omega, by show _ ≤ 6782653; omega⟩) hS (fun r H locs hw hkp hS => ?_)
  have hP := hkp _ hP
  have hw : r = nI ns := hw
  subst hw
  refine lv_istore (lv' := [(10, .int (nI ns)), (9, .int (nI nb)), (8, .int (nI ((h + 1) - 1))), (6, .int (nI tm)), (5, .ref a5), (4, .ref a4), (3, .ref a3), (2, .ref (u 0)), (1, .ref x), (0, .ref b0)]) hx hb dL_law_116 hl (by decide) rfl (fun ls hl => ?_)
  have C0 : zLw p s m meth c D cI cB cS b0 L xs A := ⟨hx, hb, hml, hown, hts, hK, hL, hX, hL2, hbl, hbA⟩
  refine l_L1 C0 hA hV hce hsz hwm hP hD hS (lv_sub hl [0, 1, 2, 3, 4, 5, 6, 7, 8, 9] rfl) (fun H locs ls hP hD hS hl => ?_)
  refine l_L2 C0 hA hV hce hsz hld hmo hP hD hS hl (fun H locs ls hP hD hS hl => ?_)
  exact l_fin C0 hA hV hce hsz hP hD hS hl kk
theorem zmA_tr {R Lt Fl : Nat → Int32} {σ τ : zS} (h : zmA R Lt Fl σ) (hm : zmo σ τ) : zmA R Lt Fl τ := fun k hk => ⟨i32_tr (h k hk).1 (hm k).1, i32_tr (h k hk).2.1 (hm k).2.1, i32_tr (h k hk).2.2 (hm k).2.2⟩
theorem zmA_rp {R Lt Fl : Nat → Int32} {σ : zS} (h : zmA R Lt Fl σ) (n : Nat) : zmA (q_rp (σ 14) R n) (q_rp (σ 15) Lt n) (q_rp (σ 17) Fl n) σ := fun k hk => by
  unfold q_rp
  by_cases e : k < n
  · rw [if_pos e, if_pos e, if_pos e]
    exact ⟨i32_rf _, i32_rf _, i32_rf _⟩
  · rw [if_neg e, if_neg e, if_neg e]
    exact h k hk
set_option maxHeartbeats 4000000 in
set_option maxRecDepth 100000 in
theorem l_hour {p : Program} {l : Launch} {e : Env} {s : State} {m : MethodId} {below : List Frame} {meth : Method} {c : Code} {Q : State → Prop} {D : va_G} {cI cB cS : ClassId} {x b0 L : Nat} {xs : Nat → Int32} {a b u bd sl : Nat → Nat} {A : Nat → Prop} {σ τ : zS} {a3 a4 a5 : Nat} {R Lt Fl : Nat → Int32} {ce sz tm : Nat} {H : Heap} {locs : List Loc} {ls : Array Slot} (C : zLw p s m meth c D cI cB cS b0 L xs A) (hA : ∀ q : Nat, s.heap.size ≤ q → A q) {nb ns h : Nat} (hV : zG σ nb ns h) (h20 : h ≤ 2 ^ 20) (hce : ce ≤ 10000) (hsz : sz ≤ 100000) (hmo : zmA R Lt Fl σ) (hP : va_P D vwCl ((zw_X cI x a b σ τ ++ zj cB cS u bd sl nb ns σ) ++ [(a3, .inl (cI, 10, .inl R)), (a4, .inl (cI, 10, .inl Lt)), (a5, .inl (cI, 10, .inl Fl))]) H) (hD : va_D A ((zw_X cI x a b σ τ ++ zj cB cS u bd sl nb ns σ) ++ [(a3, .inl (cI, 10, .inl R)), (a4, .inl (cI, 10, .inl Lt)), (a5, .inl (cI, 10, .inl Fl))])) (hS : va_S A s.heap H locs) (hl : lv_has ls 20 [(6, .int (nI tm)), (5, .ref a5), (4, .ref a4), (3, .ref a3), (2, .ref (u 0)), (1, .ref x), (0, .ref b0)]) (kk : ∀ (H : Heap) (locs : List Loc) (ls : Array Slot), va_P D vwCl ((zw_X cI x a b (f_hour σ nb ns h) τ ++ zj cB cS u bd sl nb ns (f_hour σ nb ns h)) ++ [(a3, .inl (cI, 10, .inl (q_rp ((f_hour σ nb ns h) 14) R ns))), (a4, .inl (cI, 10, .inl (q_rp ((f_hour σ nb ns h) 15) Lt ns))), (a5, .inl (cI, 10, .inl (q_rp ((f_hour σ nb ns h) 17) Fl ns)))]) H → va_D A ((zw_X cI x a b (f_hour σ nb ns h) τ ++ zj cB cS u bd sl nb ns (f_hour σ nb ns h)) ++ [(a3, .inl (cI, 10, .inl (q_rp ((f_hour σ nb ns h) 14) R ns))), (a4, .inl (cI, 10, .inl (q_rp ((f_hour σ nb ns h) 15) Lt ns))), (a5, .inl (cI, 10, .inl (q_rp ((f_hour σ nb ns h) 17) Fl ns)))]) → va_S A s.heap H locs → lv_has ls 20 [(6, .int (nI tm)), (5, .ref a5), (4, .ref a4), (3, .ref a3), (2, .ref (u 0)), (1, .ref x), (0, .ref b0)] → W p l e room_1 s m #[Value.ref b0] below meth c H locs ce sz Q (F0 m 672 ls [])) : W p l e room_1 s m #[Value.ref b0] below meth c H locs ce sz Q (F0 m 85 ls []) := by
  have C0 := C
  obtain ⟨hx, hb, hml, hown, hts, hK, hL, hX, hL2, hbl, hbA⟩ := C
  have hKi : va_K D vwCl [(cI, .int)] s := hK.sub [0] rfl
  have hB3 : 30 * h + 30 ≤ 2 ^ 28 := by omega
  have hV2 : zV σ nb ns h (30 * h) := hV
  refine lv_aload_n hx hb dL_law_85 rfl (lv_at hl 5 rfl) ?_
  refine lv_iconst (v := 1) hx hb dL_law_86 (by decide) ?_
  rw [List.append_assoc] at hP hD
  have hF := zfree (zxd_D hD) hS hA
  refine zk_I (va_runV (As := [.int (nI 1)]) (rest := []) ⟨hx, hb, hml, hown, hts⟩ (c_X3_pass l D cI x a b σ τ hV2.1 (n := 1) (by decide) (by decide) (by omega) _) (cwV 1 hts gL_law_X3_pass rfl rfl rfl zdX3_pass ⟨Nat.le_of_ble_eq_true rfl, Nat.le_of_ble_eq_true rfl⟩) ⟨zbl _, va_recv hKi (zxd_P hP) (ci := 3) (q0 := 0) rfl rfl, zpr hKi (zxd_P hP) (zxd_D hD)⟩ rfl rfl hl.1 rfl (lv_room (Nat.le_of_ble_eq_true rfl)) dL_law_87 ⟨by show _ ≤ 772990; omega, by show _ ≤ 6782653; omega⟩) hS hF (fun r H locs hw hkp hP1 hD1 hS => ?_)
  obtain ⟨hP, hD⟩ := zx_JL hP hD hkp hF hP1 hD1
  refine lv_pop hx hb dL_law_90 rfl ?_
  refine lv_aload_n hx hb dL_law_91 rfl (lv_at hl 4 rfl) ?_
  have hF := zfree (fr_D hD) hS hA
  refine zk_V (va_runV (As := []) (rest := []) ⟨hx, hb, hml, hown, hts⟩ (c_X6_pass l D cI cB cS u bd sl σ hV2 (by omega) _) (cwV 0 hts gL_law_X6_pass rfl rfl rfl zdX6_pass ⟨Nat.le_of_ble_eq_true rfl, Nat.le_of_ble_eq_true rfl⟩) ⟨zbl _, va_recv hK (fr_P hP) (ci := 6) (q0 := 0) rfl rfl, zpr hK (fr_P hP) (fr_D hD)⟩ rfl rfl hl.1 rfl (lv_room (Nat.le_of_ble_eq_true rfl)) dL_law_92 ⟨by show _ ≤ 772990; omega, by show _ ≤ 6782653; omega⟩) hS hF (fun H locs hkp hP1 hD1 hS => ?_)
  obtain ⟨hP, hD⟩ := fr_J hP hD hkp hF hP1 hD1
  rw [← List.append_assoc] at hP hD
  have hP : va_P D vwCl ((zw_X cI x a b (f_hour σ nb ns h) τ ++ zj cB cS u bd sl nb ns (f_hour σ nb ns h)) ++ [(a3, .inl (cI, 10, .inl R)), (a4, .inl (cI, 10, .inl Lt)), (a5, .inl (cI, 10, .inl Fl))]) H := hP
  have hD : va_D A ((zw_X cI x a b (f_hour σ nb ns h) τ ++ zj cB cS u bd sl nb ns (f_hour σ nb ns h)) ++ [(a3, .inl (cI, 10, .inl R)), (a4, .inl (cI, 10, .inl Lt)), (a5, .inl (cI, 10, .inl Fl))]) := hD
  exact l_ask C0 hA (hV2.hour hB3 (by omega)) hce hsz (zwm_hour hV2 hB3) (zld_hour hV2) (zmA_tr hmo (mo_hour hV2 hB3)) hP hD hS hl kk
