/-! AN HOUR OF THE LAW'S OWN HOUSE, stage by stage -/
abbrev zRp : Room := { frames := 1, cells := 0, slots := 0, locals := 26 }
def zPa (p : Program) (s : State) (m : MethodId) (args : Array Value) (meth : Method) (c : Code) (D : va_G) (cI cB cS : ClassId) : Prop := p.tables.exec = Jvm.exec ∧ c.code = cX6_pass ∧ c.maxLocals = 9 ∧ s.vm.findClass RX6 = some m.cls ∧ (∀ w ∈ wsX6_pass, w.before args s = true) ∧ va_K D vwCl (zT3 cI cB cS) s
theorem i32_two (b g : Int32) : b + g + g = b + 2 * g := by
  have e : (2 : Int32) = 1 + 1 := rfl
  rw [e, Int32.add_mul, Int32.one_mul, Int32.add_assoc]
theorem zring_c {σ : zS} {h k w g : Nat} (hw3 : w < 3) (hw : σ 6 k = nI w) (hg : (h % 24 + 24 - (w + 1) * 8) % 24 = g) : (σ 0 1 + 2 * nI ((h % 24 + 24 - ((σ 6 k).toNatClampNeg + 1) * 8) % 24) < σ 7 k) ↔ (σ 0 1 + nI g + nI g < σ 7 k) := by
  rw [hw, nI_clamp (by omega), hg, i32_two]
set_option maxHeartbeats 4000000 in
set_option maxRecDepth 100000 in
theorem p_gone {p : Program} {l : Launch} {e : Env} {s : State} {m : MethodId} {args : Array Value} {below : List Frame} {meth : Method} {c : Code} {Q : State → Prop} {D : va_G} {cI cB cS : ClassId} {u bd sl : Nat → Nat} {A : Nat → Prop} {σ : zS} {H : Heap} {locs : List Loc} {ls : Array Slot} (C : zPa p s m args meth c D cI cB cS) (hA : ∀ q : Nat, s.heap.size ≤ q → A q) {nb ns h B k w : Nat} (hV : zV σ nb ns h B) (hk : k < ns) (hw3 : w < 3) (hw : σ 6 k = nI w) (hne : ¬ w = h % 24 / 8) (hP : va_P D vwCl (zj cB cS u bd sl nb ns σ) H) (hD : va_D A (zj cB cS u bd sl nb ns σ)) (hS : va_S A s.heap H locs) (hl : lv_has ls 9 [(6, .ref (sl k)), (5, .int (nI k)), (4, .int (nI ns)), (3, .ref (u 2)), (2, .int (nI (h % 8))), (1, .int (nI (h % 24 / 8))), (0, .ref (u 0))])  (kk : ∀ (H : Heap) (locs : List Loc) (ls : Array Slot), va_P D vwCl (zj cB cS u bd sl nb ns σ) H → va_D A (zj cB cS u bd sl nb ns σ) → va_S A s.heap H locs → lv_has ls 9 [(7, .int (nI ((h % 24 + 24 - (w + 1) * 8) % 24))), (6, .ref (sl k)), (5, .int (nI k)), (4, .int (nI ns)), (3, .ref (u 2)), (2, .int (nI (h % 8))), (1, .int (nI (h % 24 / 8))), (0, .ref (u 0))] → W p l e zRp s m args below meth c H locs 0 0 Q (F0 m 105 ls [])) : W p l e zRp s m args below meth c H locs 0 0 Q (F0 m 71 ls []) := by
  obtain ⟨hx, hb, hml, hown, hts, hK⟩ := C
  have hnb := hV.1.2.1
  have hns := hV.1.2.2.2.1
  have hh := hV.1.2.2.2.2.2.1
  have hf50 := hts (.fieldLink RX6 50 "HotBedsLaw$Sailor" "watch" "I") (by decide +kernel)
  have hinX5 : ∀ w ∈ u_ws RX5 TX5 13, w ∈ wsX6_pass := by decide +kernel
  have hv3 : h % 24 / 8 < 3 := by omega
  rcases (show w = 0 ∨ w = 1 ∨ w = 2 by omega) with rfl | rfl | rfl
  · rcases (show h % 24 / 8 = 1 ∨ h % 24 / 8 = 2 by omega) with hv | hv
    · refine lv_iload_n hx hb dX6_pass_71 rfl (lv_at hl 4 rfl) ?_
      refine lv_istore (lv' := [(7, .int (nI (h % 8))), (6, .ref (sl k)), (5, .int (nI k)), (4, .int (nI ns)), (3, .ref (u 2)), (2, .int (nI (h % 8))), (1, .int (nI (h % 24 / 8))), (0, .ref (u 0))]) hx hb dX6_pass_72 hl (by decide) rfl (fun ls hl => ?_)
      refine lv_aload hx hb dX6_pass_74 (lv_at hl 1 rfl) ?_
      refine va_get (D := D) (ci := 5) (v := .int (nI 0)) (C := RX5) (T := TX5) (N := 13) hx hb hts hinX5 hown hK hP (3 + nb + k) (zjq_S hk) rfl 1 (by decide) hf50 (fun _ h9 => h9) (congrArg (fun z => some (Value.int z)) hw) dX6_pass_76 ?_
      refine lv_iconst (v := 1) hx hb dX6_pass_79 (by decide) ?_
      refine zk_add (x := 0) (y := 1) hx hb dX6_pass_80 ?_
      refine lv_iconst (v := 3) hx hb dX6_pass_81 (by decide) ?_
      refine zk_rem (x := 1) (y := 3) hx hb dX6_pass_82 (by omega) (by decide) (by decide) ?_
      refine lv_istore (lv' := [(8, .int (nI 1)), (7, .int (nI (h % 8))), (6, .ref (sl k)), (5, .int (nI k)), (4, .int (nI ns)), (3, .ref (u 2)), (2, .int (nI (h % 8))), (1, .int (nI (h % 24 / 8))), (0, .ref (u 0))]) hx hb dX6_pass_83 hl (by decide) rfl (fun ls hl => ?_)
      refine lv_iload hx hb dX6_pass_85 (lv_at hl 0 rfl) ?_
      refine lv_iload_n hx hb dX6_pass_87 rfl (lv_at hl 7 rfl) ?_
      refine lv_icmp_eq (tgt := 105) hx hb dX6_pass_88 (by decide) (fun _ => ?_) (fun c => absurd (by rw [hv]) c)
      exact kk _ _ _ hP hD hS (by rw [show (h % 24 + 24 - (0 + 1) * 8) % 24 = h % 8 by omega]; exact lv_sub hl [1, 2, 3, 4, 5, 6, 7, 8] rfl)
    · refine lv_iload_n hx hb dX6_pass_71 rfl (lv_at hl 4 rfl) ?_
      refine lv_istore (lv' := [(7, .int (nI (h % 8))), (6, .ref (sl k)), (5, .int (nI k)), (4, .int (nI ns)), (3, .ref (u 2)), (2, .int (nI (h % 8))), (1, .int (nI (h % 24 / 8))), (0, .ref (u 0))]) hx hb dX6_pass_72 hl (by decide) rfl (fun ls hl => ?_)
      refine lv_aload hx hb dX6_pass_74 (lv_at hl 1 rfl) ?_
      refine va_get (D := D) (ci := 5) (v := .int (nI 0)) (C := RX5) (T := TX5) (N := 13) hx hb hts hinX5 hown hK hP (3 + nb + k) (zjq_S hk) rfl 1 (by decide) hf50 (fun _ h9 => h9) (congrArg (fun z => some (Value.int z)) hw) dX6_pass_76 ?_
      refine lv_iconst (v := 1) hx hb dX6_pass_79 (by decide) ?_
      refine zk_add (x := 0) (y := 1) hx hb dX6_pass_80 ?_
      refine lv_iconst (v := 3) hx hb dX6_pass_81 (by decide) ?_
      refine zk_rem (x := 1) (y := 3) hx hb dX6_pass_82 (by omega) (by decide) (by decide) ?_
      refine lv_istore (lv' := [(8, .int (nI 1)), (7, .int (nI (h % 8))), (6, .ref (sl k)), (5, .int (nI k)), (4, .int (nI ns)), (3, .ref (u 2)), (2, .int (nI (h % 8))), (1, .int (nI (h % 24 / 8))), (0, .ref (u 0))]) hx hb dX6_pass_83 hl (by decide) rfl (fun ls hl => ?_)
      refine lv_iload hx hb dX6_pass_85 (lv_at hl 0 rfl) ?_
      refine lv_iload_n hx hb dX6_pass_87 rfl (lv_at hl 7 rfl) ?_
      refine lv_icmp_eq (tgt := 105) hx hb dX6_pass_88 (by decide) (fun c => absurd c (by rw [hv]; decide)) (fun _ => ?_)
      refine lv_iinc (v := nI (h % 8 + 8)) (lv' := [(7, .int (nI (h % 8 + 8))), (8, .int (nI 1)), (6, .ref (sl k)), (5, .int (nI k)), (4, .int (nI ns)), (3, .ref (u 2)), (2, .int (nI (h % 8))), (1, .int (nI (h % 24 / 8))), (0, .ref (u 0))]) hx hb dX6_pass_91 hl (k := 1) rfl (nI_add (h % 8) 8) (by decide) rfl (fun ls hl => ?_)
      refine lv_iload hx hb dX6_pass_94 (lv_at hl 1 rfl) ?_
      refine lv_iconst (v := 1) hx hb dX6_pass_96 (by decide) ?_
      refine zk_add (x := 1) (y := 1) hx hb dX6_pass_97 ?_
      refine lv_iconst (v := 3) hx hb dX6_pass_98 (by decide) ?_
      refine zk_rem (x := 2) (y := 3) hx hb dX6_pass_99 (by omega) (by decide) (by decide) ?_
      refine lv_istore (lv' := [(8, .int (nI 2)), (7, .int (nI (h % 8 + 8))), (6, .ref (sl k)), (5, .int (nI k)), (4, .int (nI ns)), (3, .ref (u 2)), (2, .int (nI (h % 8))), (1, .int (nI (h % 24 / 8))), (0, .ref (u 0))]) hx hb dX6_pass_100 hl (by decide) rfl (fun ls hl => ?_)
      refine lv_goto (tgt := 85) hx hb dX6_pass_102 (by decide) ?_
      refine lv_iload hx hb dX6_pass_85 (lv_at hl 0 rfl) ?_
      refine lv_iload_n hx hb dX6_pass_87 rfl (lv_at hl 7 rfl) ?_
      refine lv_icmp_eq (tgt := 105) hx hb dX6_pass_88 (by decide) (fun _ => ?_) (fun c => absurd (by rw [hv]) c)
      exact kk _ _ _ hP hD hS (by rw [show (h % 24 + 24 - (0 + 1) * 8) % 24 = h % 8 + 8 by omega]; exact lv_sub hl [1, 2, 3, 4, 5, 6, 7, 8] rfl)
  · rcases (show h % 24 / 8 = 0 ∨ h % 24 / 8 = 2 by omega) with hv | hv
    · refine lv_iload_n hx hb dX6_pass_71 rfl (lv_at hl 4 rfl) ?_
      refine lv_istore (lv' := [(7, .int (nI (h % 8))), (6, .ref (sl k)), (5, .int (nI k)), (4, .int (nI ns)), (3, .ref (u 2)), (2, .int (nI (h % 8))), (1, .int (nI (h % 24 / 8))), (0, .ref (u 0))]) hx hb dX6_pass_72 hl (by decide) rfl (fun ls hl => ?_)
      refine lv_aload hx hb dX6_pass_74 (lv_at hl 1 rfl) ?_
      refine va_get (D := D) (ci := 5) (v := .int (nI 1)) (C := RX5) (T := TX5) (N := 13) hx hb hts hinX5 hown hK hP (3 + nb + k) (zjq_S hk) rfl 1 (by decide) hf50 (fun _ h9 => h9) (congrArg (fun z => some (Value.int z)) hw) dX6_pass_76 ?_
      refine lv_iconst (v := 1) hx hb dX6_pass_79 (by decide) ?_
      refine zk_add (x := 1) (y := 1) hx hb dX6_pass_80 ?_
      refine lv_iconst (v := 3) hx hb dX6_pass_81 (by decide) ?_
      refine zk_rem (x := 2) (y := 3) hx hb dX6_pass_82 (by omega) (by decide) (by decide) ?_
      refine lv_istore (lv' := [(8, .int (nI 2)), (7, .int (nI (h % 8))), (6, .ref (sl k)), (5, .int (nI k)), (4, .int (nI ns)), (3, .ref (u 2)), (2, .int (nI (h % 8))), (1, .int (nI (h % 24 / 8))), (0, .ref (u 0))]) hx hb dX6_pass_83 hl (by decide) rfl (fun ls hl => ?_)
      refine lv_iload hx hb dX6_pass_85 (lv_at hl 0 rfl) ?_
      refine lv_iload_n hx hb dX6_pass_87 rfl (lv_at hl 7 rfl) ?_
      refine lv_icmp_eq (tgt := 105) hx hb dX6_pass_88 (by decide) (fun c => absurd c (by rw [hv]; decide)) (fun _ => ?_)
      refine lv_iinc (v := nI (h % 8 + 8)) (lv' := [(7, .int (nI (h % 8 + 8))), (8, .int (nI 2)), (6, .ref (sl k)), (5, .int (nI k)), (4, .int (nI ns)), (3, .ref (u 2)), (2, .int (nI (h % 8))), (1, .int (nI (h % 24 / 8))), (0, .ref (u 0))]) hx hb dX6_pass_91 hl (k := 1) rfl (nI_add (h % 8) 8) (by decide) rfl (fun ls hl => ?_)
      refine lv_iload hx hb dX6_pass_94 (lv_at hl 1 rfl) ?_
      refine lv_iconst (v := 1) hx hb dX6_pass_96 (by decide) ?_
      refine zk_add (x := 2) (y := 1) hx hb dX6_pass_97 ?_
      refine lv_iconst (v := 3) hx hb dX6_pass_98 (by decide) ?_
      refine zk_rem (x := 3) (y := 3) hx hb dX6_pass_99 (by omega) (by decide) (by decide) ?_
      refine lv_istore (lv' := [(8, .int (nI 0)), (7, .int (nI (h % 8 + 8))), (6, .ref (sl k)), (5, .int (nI k)), (4, .int (nI ns)), (3, .ref (u 2)), (2, .int (nI (h % 8))), (1, .int (nI (h % 24 / 8))), (0, .ref (u 0))]) hx hb dX6_pass_100 hl (by decide) rfl (fun ls hl => ?_)
      refine lv_goto (tgt := 85) hx hb dX6_pass_102 (by decide) ?_
      refine lv_iload hx hb dX6_pass_85 (lv_at hl 0 rfl) ?_
      refine lv_iload_n hx hb dX6_pass_87 rfl (lv_at hl 7 rfl) ?_
      refine lv_icmp_eq (tgt := 105) hx hb dX6_pass_88 (by decide) (fun _ => ?_) (fun c => absurd (by rw [hv]) c)
      exact kk _ _ _ hP hD hS (by rw [show (h % 24 + 24 - (1 + 1) * 8) % 24 = h % 8 + 8 by omega]; exact lv_sub hl [1, 2, 3, 4, 5, 6, 7, 8] rfl)
    · refine lv_iload_n hx hb dX6_pass_71 rfl (lv_at hl 4 rfl) ?_
      refine lv_istore (lv' := [(7, .int (nI (h % 8))), (6, .ref (sl k)), (5, .int (nI k)), (4, .int (nI ns)), (3, .ref (u 2)), (2, .int (nI (h % 8))), (1, .int (nI (h % 24 / 8))), (0, .ref (u 0))]) hx hb dX6_pass_72 hl (by decide) rfl (fun ls hl => ?_)
      refine lv_aload hx hb dX6_pass_74 (lv_at hl 1 rfl) ?_
      refine va_get (D := D) (ci := 5) (v := .int (nI 1)) (C := RX5) (T := TX5) (N := 13) hx hb hts hinX5 hown hK hP (3 + nb + k) (zjq_S hk) rfl 1 (by decide) hf50 (fun _ h9 => h9) (congrArg (fun z => some (Value.int z)) hw) dX6_pass_76 ?_
      refine lv_iconst (v := 1) hx hb dX6_pass_79 (by decide) ?_
      refine zk_add (x := 1) (y := 1) hx hb dX6_pass_80 ?_
      refine lv_iconst (v := 3) hx hb dX6_pass_81 (by decide) ?_
      refine zk_rem (x := 2) (y := 3) hx hb dX6_pass_82 (by omega) (by decide) (by decide) ?_
      refine lv_istore (lv' := [(8, .int (nI 2)), (7, .int (nI (h % 8))), (6, .ref (sl k)), (5, .int (nI k)), (4, .int (nI ns)), (3, .ref (u 2)), (2, .int (nI (h % 8))), (1, .int (nI (h % 24 / 8))), (0, .ref (u 0))]) hx hb dX6_pass_83 hl (by decide) rfl (fun ls hl => ?_)
      refine lv_iload hx hb dX6_pass_85 (lv_at hl 0 rfl) ?_
      refine lv_iload_n hx hb dX6_pass_87 rfl (lv_at hl 7 rfl) ?_
      refine lv_icmp_eq (tgt := 105) hx hb dX6_pass_88 (by decide) (fun _ => ?_) (fun c => absurd (by rw [hv]) c)
      exact kk _ _ _ hP hD hS (by rw [show (h % 24 + 24 - (1 + 1) * 8) % 24 = h % 8 by omega]; exact lv_sub hl [1, 2, 3, 4, 5, 6, 7, 8] rfl)
  · rcases (show h % 24 / 8 = 0 ∨ h % 24 / 8 = 1 by omega) with hv | hv
    · refine lv_iload_n hx hb dX6_pass_71 rfl (lv_at hl 4 rfl) ?_
      refine lv_istore (lv' := [(7, .int (nI (h % 8))), (6, .ref (sl k)), (5, .int (nI k)), (4, .int (nI ns)), (3, .ref (u 2)), (2, .int (nI (h % 8))), (1, .int (nI (h % 24 / 8))), (0, .ref (u 0))]) hx hb dX6_pass_72 hl (by decide) rfl (fun ls hl => ?_)
      refine lv_aload hx hb dX6_pass_74 (lv_at hl 1 rfl) ?_
      refine va_get (D := D) (ci := 5) (v := .int (nI 2)) (C := RX5) (T := TX5) (N := 13) hx hb hts hinX5 hown hK hP (3 + nb + k) (zjq_S hk) rfl 1 (by decide) hf50 (fun _ h9 => h9) (congrArg (fun z => some (Value.int z)) hw) dX6_pass_76 ?_
      refine lv_iconst (v := 1) hx hb dX6_pass_79 (by decide) ?_
      refine zk_add (x := 2) (y := 1) hx hb dX6_pass_80 ?_
      refine lv_iconst (v := 3) hx hb dX6_pass_81 (by decide) ?_
      refine zk_rem (x := 3) (y := 3) hx hb dX6_pass_82 (by omega) (by decide) (by decide) ?_
      refine lv_istore (lv' := [(8, .int (nI 0)), (7, .int (nI (h % 8))), (6, .ref (sl k)), (5, .int (nI k)), (4, .int (nI ns)), (3, .ref (u 2)), (2, .int (nI (h % 8))), (1, .int (nI (h % 24 / 8))), (0, .ref (u 0))]) hx hb dX6_pass_83 hl (by decide) rfl (fun ls hl => ?_)
      refine lv_iload hx hb dX6_pass_85 (lv_at hl 0 rfl) ?_
      refine lv_iload_n hx hb dX6_pass_87 rfl (lv_at hl 7 rfl) ?_
      refine lv_icmp_eq (tgt := 105) hx hb dX6_pass_88 (by decide) (fun _ => ?_) (fun c => absurd (by rw [hv]) c)
      exact kk _ _ _ hP hD hS (by rw [show (h % 24 + 24 - (2 + 1) * 8) % 24 = h % 8 by omega]; exact lv_sub hl [1, 2, 3, 4, 5, 6, 7, 8] rfl)
    · refine lv_iload_n hx hb dX6_pass_71 rfl (lv_at hl 4 rfl) ?_
      refine lv_istore (lv' := [(7, .int (nI (h % 8))), (6, .ref (sl k)), (5, .int (nI k)), (4, .int (nI ns)), (3, .ref (u 2)), (2, .int (nI (h % 8))), (1, .int (nI (h % 24 / 8))), (0, .ref (u 0))]) hx hb dX6_pass_72 hl (by decide) rfl (fun ls hl => ?_)
      refine lv_aload hx hb dX6_pass_74 (lv_at hl 1 rfl) ?_
      refine va_get (D := D) (ci := 5) (v := .int (nI 2)) (C := RX5) (T := TX5) (N := 13) hx hb hts hinX5 hown hK hP (3 + nb + k) (zjq_S hk) rfl 1 (by decide) hf50 (fun _ h9 => h9) (congrArg (fun z => some (Value.int z)) hw) dX6_pass_76 ?_
      refine lv_iconst (v := 1) hx hb dX6_pass_79 (by decide) ?_
      refine zk_add (x := 2) (y := 1) hx hb dX6_pass_80 ?_
      refine lv_iconst (v := 3) hx hb dX6_pass_81 (by decide) ?_
      refine zk_rem (x := 3) (y := 3) hx hb dX6_pass_82 (by omega) (by decide) (by decide) ?_
      refine lv_istore (lv' := [(8, .int (nI 0)), (7, .int (nI (h % 8))), (6, .ref (sl k)), (5, .int (nI k)), (4, .int (nI ns)), (3, .ref (u 2)), (2, .int (nI (h % 8))), (1, .int (nI (h % 24 / 8))), (0, .ref (u 0))]) hx hb dX6_pass_83 hl (by decide) rfl (fun ls hl => ?_)
      refine lv_iload hx hb dX6_pass_85 (lv_at hl 0 rfl) ?_
      refine lv_iload_n hx hb dX6_pass_87 rfl (lv_at hl 7 rfl) ?_
      refine lv_icmp_eq (tgt := 105) hx hb dX6_pass_88 (by decide) (fun c => absurd c (by rw [hv]; decide)) (fun _ => ?_)
      refine lv_iinc (v := nI (h % 8 + 8)) (lv' := [(7, .int (nI (h % 8 + 8))), (8, .int (nI 0)), (6, .ref (sl k)), (5, .int (nI k)), (4, .int (nI ns)), (3, .ref (u 2)), (2, .int (nI (h % 8))), (1, .int (nI (h % 24 / 8))), (0, .ref (u 0))]) hx hb dX6_pass_91 hl (k := 1) rfl (nI_add (h % 8) 8) (by decide) rfl (fun ls hl => ?_)
      refine lv_iload hx hb dX6_pass_94 (lv_at hl 1 rfl) ?_
      refine lv_iconst (v := 1) hx hb dX6_pass_96 (by decide) ?_
      refine zk_add (x := 0) (y := 1) hx hb dX6_pass_97 ?_
      refine lv_iconst (v := 3) hx hb dX6_pass_98 (by decide) ?_
      refine zk_rem (x := 1) (y := 3) hx hb dX6_pass_99 (by omega) (by decide) (by decide) ?_
      refine lv_istore (lv' := [(8, .int (nI 1)), (7, .int (nI (h % 8 + 8))), (6, .ref (sl k)), (5, .int (nI k)), (4, .int (nI ns)), (3, .ref (u 2)), (2, .int (nI (h % 8))), (1, .int (nI (h % 24 / 8))), (0, .ref (u 0))]) hx hb dX6_pass_100 hl (by decide) rfl (fun ls hl => ?_)
      refine lv_goto (tgt := 85) hx hb dX6_pass_102 (by decide) ?_
      refine lv_iload hx hb dX6_pass_85 (lv_at hl 0 rfl) ?_
      refine lv_iload_n hx hb dX6_pass_87 rfl (lv_at hl 7 rfl) ?_
      refine lv_icmp_eq (tgt := 105) hx hb dX6_pass_88 (by decide) (fun _ => ?_) (fun c => absurd (by rw [hv]) c)
      exact kk _ _ _ hP hD hS (by rw [show (h % 24 + 24 - (2 + 1) * 8) % 24 = h % 8 + 8 by omega]; exact lv_sub hl [1, 2, 3, 4, 5, 6, 7, 8] rfl)
set_option maxHeartbeats 4000000 in
set_option maxRecDepth 100000 in
theorem p_ring1 {p : Program} {l : Launch} {e : Env} {s : State} {m : MethodId} {args : Array Value} {below : List Frame} {meth : Method} {c : Code} {Q : State → Prop} {D : va_G} {cI cB cS : ClassId} {u bd sl : Nat → Nat} {A : Nat → Prop} {σ : zS} {H : Heap} {locs : List Loc} {ls : Array Slot} (C : zPa p s m args meth c D cI cB cS) (hA : ∀ q : Nat, s.heap.size ≤ q → A q) {nb ns h B k : Nat} (hV : zV σ nb ns h B) (hk : k < ns) (hP : va_P D vwCl (zj cB cS u bd sl nb ns σ) H) (hD : va_D A (zj cB cS u bd sl nb ns σ)) (hS : va_S A s.heap H locs) (hl : lv_has ls 9 [(6, .ref (sl k)), (5, .int (nI k)), (4, .int (nI ns)), (3, .ref (u 2)), (2, .int (nI (h % 8))), (1, .int (nI (h % 24 / 8))), (0, .ref (u 0))])  (kk : ∀ (H : Heap) (locs : List Loc) (ls : Array Slot), va_P D vwCl (zj cB cS u bd sl nb ns (f_ring σ h k)) H → va_D A (zj cB cS u bd sl nb ns (f_ring σ h k)) → va_S A s.heap H locs → lv_has ls 9 [(5, .int (nI k)), (4, .int (nI ns)), (3, .ref (u 2)), (2, .int (nI (h % 8))), (1, .int (nI (h % 24 / 8))), (0, .ref (u 0))] → W p l e zRp s m args below meth c H locs 0 0 Q (F0 m 153 ls [])) : W p l e zRp s m args below meth c H locs 0 0 Q (F0 m 43 ls []) := by
  obtain ⟨hx, hb, hml, hown, hts, hK⟩ := C
  have hnb := hV.1.2.1
  have hns := hV.1.2.2.2.1
  have hh := hV.1.2.2.2.2.2.1
  have hf50 := hts (.fieldLink RX6 50 "HotBedsLaw$Sailor" "watch" "I") (by decide +kernel)
  have hf53 := hts (.fieldLink RX6 53 "HotBedsLaw$Sailor" "heavy" "I") (by decide +kernel)
  have hf7 := hts (.fieldLink RX6 7 "HotBedsLaw$Sim" "bell" "I") (by decide +kernel)
  have hf70 := hts (.fieldLink RX6 70 "HotBedsLaw$Sailor" "in" "LHotBedsLaw$Bed;") (by decide +kernel)
  have hf77 := hts (.fieldLink RX6 77 "HotBedsLaw$Sailor" "onFloor" "Z") (by decide +kernel)
  have hf83 := hts (.fieldLink RX6 83 "HotBedsLaw$Sailor" "late" "I") (by decide +kernel)
  have hf86 := hts (.fieldLink RX6 86 "HotBedsLaw$Sailor" "since" "I") (by decide +kernel)
  have hinX5 : ∀ w ∈ u_ws RX5 TX5 13, w ∈ wsX6_pass := by decide +kernel
  have hinX6 : ∀ w ∈ u_ws RX6 TX6 5, w ∈ wsX6_pass := by decide +kernel
  have C0 : zPa p s m args meth c D cI cB cS := ⟨hx, hb, hml, hown, hts, hK⟩
  refine lv_aload hx hb dX6_pass_43 (lv_at hl 0 rfl) ?_
  rcases zplace ((hV.ksk hk).2.2.2.1) with ⟨e12b_1, b_1, hb_1, e13b_1⟩ | ⟨e12b_1, e13b_1⟩ | ⟨e12b_1, e13b_1⟩
  · refine va_get (D := D) (ci := 5) (v := .ref (bd b_1)) (C := RX5) (T := TX5) (N := 13) hx hb hts hinX5 hown hK hP (3 + nb + k) (zjq_S hk) rfl 7 (by decide) hf70 (fun _ h9 => h9) (congrArg some (zrf_r e13b_1 (by omega))) dX6_pass_45 ?_
    refine lv_ifnonnull (tgt := 59) hx hb dX6_pass_48 (by decide) ?_
    refine lv_aload hx hb dX6_pass_59 (lv_at hl 0 rfl) ?_
    refine va_get (D := D) (ci := 5) (v := .int (σ 6 k)) (C := RX5) (T := TX5) (N := 13) hx hb hts hinX5 hown hK hP (3 + nb + k) (zjq_S hk) rfl 1 (by decide) hf50 (fun _ h9 => h9) rfl dX6_pass_61 ?_
    refine lv_iload_n hx hb dX6_pass_64 rfl (lv_at hl 5 rfl) ?_
    refine lv_icmp_ne (tgt := 71) hx hb dX6_pass_65 (by decide) (fun c_2 => ?_) (fun c_2 => ?_)
    · obtain ⟨w, hw3, hw⟩ := (hV.ksk hk).1
      refine p_gone C0 hA hV hk hw3 hw (fun z => c_2 (by rw [hw, z])) hP hD hS (lv_sub hl [0, 1, 2, 3, 4, 5, 6] rfl) (fun H locs ls hP hD hS hl => ?_)
      refine lv_aload_n hx hb dX6_pass_105 rfl (lv_at hl 7 rfl) ?_
      refine va_get (D := D) (ci := 6) (v := .int (σ 0 1)) (C := RX6) (T := TX6) (N := 5) hx hb hts hinX6 hown hK hP 0 rfl rfl 1 (by decide) hf7 (fun _ h9 => h9) rfl dX6_pass_106 ?_
      refine lv_iload hx hb dX6_pass_109 (lv_at hl 0 rfl) ?_
      refine lv_iadd hx hb dX6_pass_111 ?_
      refine lv_iload hx hb dX6_pass_112 (lv_at hl 0 rfl) ?_
      refine lv_iadd hx hb dX6_pass_114 ?_
      refine lv_aload hx hb dX6_pass_115 (lv_at hl 1 rfl) ?_
      refine va_get (D := D) (ci := 5) (v := .int (σ 7 k)) (C := RX5) (T := TX5) (N := 13) hx hb hts hinX5 hown hK hP (3 + nb + k) (zjq_S hk) rfl 2 (by decide) hf53 (fun _ h9 => h9) rfl dX6_pass_117 ?_
      refine lv_icmp_lt (tgt := 131) hx hb dX6_pass_120 (by decide) (fun c_3 => ?_) (fun c_3 => ?_)
      · refine lv_aload hx hb dX6_pass_131 (lv_at hl 1 rfl) ?_
        refine lv_dup hx hb dX6_pass_133 rfl ?_
        refine va_get (D := D) (ci := 5) (v := .int (σ 15 k)) (C := RX5) (T := TX5) (N := 13) hx hb hts hinX5 hown hK hP (3 + nb + k) (zjq_S hk) rfl 10 (by decide) hf83 (fun _ h9 => h9) rfl dX6_pass_134 ?_
        refine lv_iconst (v := 1) hx hb dX6_pass_137 (by decide) ?_
        refine lv_iadd hx hb dX6_pass_138 ?_
        refine va_put (D := D) (ci := 5) (v := .int ((σ 15 k) + 1)) (ty := .int) (C := RX5) (T := TX5) (N := 13) hx hb hts hinX5 tyX5 tyX5_ok nmX5 hown hK hP hD hS (3 + nb + k) (zjq_S hk) rfl 10 (by decide) hf83 (fun _ h9 => h9)  rfl (by decide +kernel) rfl rfl (Nat.le_of_ble_eq_true rfl) dX6_pass_139 (fun H locs hP hD hS => ?_)
        have hP : va_P D vwCl (zj cB cS u bd sl nb ns (zs σ 15 k ((σ 15 k) + 1))) H := by rw [← zjw15 hk _]; exact hP
        have hD : va_D A (zj cB cS u bd sl nb ns (zs σ 15 k ((σ 15 k) + 1))) := by rw [← zjw15 hk _]; exact hD
        refine lv_aload hx hb dX6_pass_142 (lv_at hl 1 rfl) ?_
        refine lv_dup hx hb dX6_pass_144 rfl ?_
        refine va_get (D := D) (ci := 5) (v := .int (σ 16 k)) (C := RX5) (T := TX5) (N := 13) hx hb hts hinX5 hown hK hP (3 + nb + k) (zjq_S hk) rfl 11 (by decide) hf86 (fun _ h9 => h9) rfl dX6_pass_145 ?_
        refine lv_iconst (v := 1) hx hb dX6_pass_148 (by decide) ?_
        refine lv_iadd hx hb dX6_pass_149 ?_
        refine va_put (D := D) (ci := 5) (v := .int ((σ 16 k) + 1)) (ty := .int) (C := RX5) (T := TX5) (N := 13) hx hb hts hinX5 tyX5 tyX5_ok nmX5 hown hK hP hD hS (3 + nb + k) (zjq_S hk) rfl 11 (by decide) hf86 (fun _ h9 => h9)  rfl (by decide +kernel) rfl rfl (Nat.le_of_ble_eq_true rfl) dX6_pass_150 (fun H locs hP hD hS => ?_)
        have hP : va_P D vwCl (zj cB cS u bd sl nb ns (zs (zs σ 15 k ((σ 15 k) + 1)) 16 k ((σ 16 k) + 1))) H := by rw [← zjw16 hk _]; exact hP
        have hD : va_D A (zj cB cS u bd sl nb ns (zs (zs σ 15 k ((σ 15 k) + 1)) 16 k ((σ 16 k) + 1))) := by rw [← zjw16 hk _]; exact hD
        have e9 : f_ring σ h k = zs (zs σ 15 k ((σ 15 k) + 1)) 16 k ((σ 16 k) + 1) := by (unfold f_ring; rw [if_neg (by rw [e12b_1]; decide), if_neg c_2, if_pos ((zring_c hw3 hw rfl).mpr c_3)]; rfl)
        exact kk _ _ _ (by rw [e9]; exact hP) (by rw [e9]; exact hD) hS (lv_sub hl [2, 3, 4, 5, 6, 7] rfl)
      · refine lv_aload hx hb dX6_pass_123 (lv_at hl 1 rfl) ?_
        have hF := zfree hD hS hA
        refine zk_V (va_runV (As := []) (rest := []) ⟨hx, hb, hml, hown, hts⟩ (c_X5_up l D cI cB cS u bd sl σ hV hk _) (cwV 0 hts gX6_pass_X5_up rfl rfl rfl zdX5_up ⟨Nat.le_of_ble_eq_true rfl, Nat.le_of_ble_eq_true rfl⟩) ⟨zbl _, va_recv hK hP (ci := 5) (q0 := (3 + nb + k)) rfl (zjq_S hk), zpr hK hP hD⟩ rfl rfl hl.1 rfl (lv_room (Nat.le_of_ble_eq_true rfl)) dX6_pass_125 ⟨Nat.zero_le _, Nat.zero_le _⟩) hS hF (fun H locs hkp hP1 hD1 hS => ?_)
        have hP := hP1
        have hD := hD1.weaken (fun _ _ _ z => hF _ z)
        have hP : va_P D vwCl (zj cB cS u bd sl nb ns (f_getUp σ k)) H := hP
        have hD : va_D A (zj cB cS u bd sl nb ns (f_getUp σ k)) := hD
        refine lv_goto (tgt := 153) hx hb dX6_pass_128 (by decide) ?_
        have e9 : f_ring σ h k = f_getUp σ k := by (unfold f_ring; rw [if_neg (by rw [e12b_1]; decide), if_neg c_2, if_neg (fun z => c_3 ((zring_c hw3 hw rfl).mp z))])
        exact kk _ _ _ (by rw [e9]; exact hP) (by rw [e9]; exact hD) hS (lv_sub hl [2, 3, 4, 5, 6, 7] rfl)
    · refine lv_goto (tgt := 153) hx hb dX6_pass_68 (by decide) ?_
      have e9 : f_ring σ h k = σ := by unfold f_ring; rw [if_neg (by rw [e12b_1]; decide), if_pos c_2]
      exact kk _ _ _ (by rw [e9]; exact hP) (by rw [e9]; exact hD) hS (lv_sub hl [1, 2, 3, 4, 5, 6] rfl)
  · refine va_get (D := D) (ci := 5) (v := .null) (C := RX5) (T := TX5) (N := 13) hx hb hts hinX5 hown hK hP (3 + nb + k) (zjq_S hk) rfl 7 (by decide) hf70 (fun _ h9 => h9) (congrArg some (zrf_n e13b_1)) dX6_pass_45 ?_
    refine lv_ifnonnullN hx hb dX6_pass_48 ?_
    refine lv_aload hx hb dX6_pass_51 (lv_at hl 0 rfl) ?_
    refine va_get (D := D) (ci := 5) (v := .int 0) (C := RX5) (T := TX5) (N := 13) hx hb hts hinX5 hown hK hP (3 + nb + k) (zjq_S hk) rfl 8 (by decide) hf77 (fun _ h9 => h9) (congrArg (fun z => some (Value.int z)) (zfl_0 e12b_1)) dX6_pass_53 ?_
    refine lv_if_eq (tgt := 153) hx hb dX6_pass_56 (by decide) (fun _ => ?_) (fun c => absurd (by decide) c)
    have e9 : f_ring σ h k = σ := by unfold f_ring; rw [if_pos e12b_1]
    exact kk _ _ _ (by rw [e9]; exact hP) (by rw [e9]; exact hD) hS (lv_sub hl [1, 2, 3, 4, 5, 6] rfl)
  · refine va_get (D := D) (ci := 5) (v := .null) (C := RX5) (T := TX5) (N := 13) hx hb hts hinX5 hown hK hP (3 + nb + k) (zjq_S hk) rfl 7 (by decide) hf70 (fun _ h9 => h9) (congrArg some (zrf_n e13b_1)) dX6_pass_45 ?_
    refine lv_ifnonnullN hx hb dX6_pass_48 ?_
    refine lv_aload hx hb dX6_pass_51 (lv_at hl 0 rfl) ?_
    refine va_get (D := D) (ci := 5) (v := .int 1) (C := RX5) (T := TX5) (N := 13) hx hb hts hinX5 hown hK hP (3 + nb + k) (zjq_S hk) rfl 8 (by decide) hf77 (fun _ h9 => h9) (congrArg (fun z => some (Value.int z)) (zfl_2 e12b_1)) dX6_pass_53 ?_
    refine lv_if_eq (tgt := 153) hx hb dX6_pass_56 (by decide) (fun c => absurd c (by decide)) (fun _ => ?_)
    refine lv_aload hx hb dX6_pass_59 (lv_at hl 0 rfl) ?_
    refine va_get (D := D) (ci := 5) (v := .int (σ 6 k)) (C := RX5) (T := TX5) (N := 13) hx hb hts hinX5 hown hK hP (3 + nb + k) (zjq_S hk) rfl 1 (by decide) hf50 (fun _ h9 => h9) rfl dX6_pass_61 ?_
    refine lv_iload_n hx hb dX6_pass_64 rfl (lv_at hl 5 rfl) ?_
    refine lv_icmp_ne (tgt := 71) hx hb dX6_pass_65 (by decide) (fun c_6 => ?_) (fun c_6 => ?_)
    · obtain ⟨w, hw3, hw⟩ := (hV.ksk hk).1
      refine p_gone C0 hA hV hk hw3 hw (fun z => c_6 (by rw [hw, z])) hP hD hS (lv_sub hl [0, 1, 2, 3, 4, 5, 6] rfl) (fun H locs ls hP hD hS hl => ?_)
      refine lv_aload_n hx hb dX6_pass_105 rfl (lv_at hl 7 rfl) ?_
      refine va_get (D := D) (ci := 6) (v := .int (σ 0 1)) (C := RX6) (T := TX6) (N := 5) hx hb hts hinX6 hown hK hP 0 rfl rfl 1 (by decide) hf7 (fun _ h9 => h9) rfl dX6_pass_106 ?_
      refine lv_iload hx hb dX6_pass_109 (lv_at hl 0 rfl) ?_
      refine lv_iadd hx hb dX6_pass_111 ?_
      refine lv_iload hx hb dX6_pass_112 (lv_at hl 0 rfl) ?_
      refine lv_iadd hx hb dX6_pass_114 ?_
      refine lv_aload hx hb dX6_pass_115 (lv_at hl 1 rfl) ?_
      refine va_get (D := D) (ci := 5) (v := .int (σ 7 k)) (C := RX5) (T := TX5) (N := 13) hx hb hts hinX5 hown hK hP (3 + nb + k) (zjq_S hk) rfl 2 (by decide) hf53 (fun _ h9 => h9) rfl dX6_pass_117 ?_
      refine lv_icmp_lt (tgt := 131) hx hb dX6_pass_120 (by decide) (fun c_7 => ?_) (fun c_7 => ?_)
      · refine lv_aload hx hb dX6_pass_131 (lv_at hl 1 rfl) ?_
        refine lv_dup hx hb dX6_pass_133 rfl ?_
        refine va_get (D := D) (ci := 5) (v := .int (σ 15 k)) (C := RX5) (T := TX5) (N := 13) hx hb hts hinX5 hown hK hP (3 + nb + k) (zjq_S hk) rfl 10 (by decide) hf83 (fun _ h9 => h9) rfl dX6_pass_134 ?_
        refine lv_iconst (v := 1) hx hb dX6_pass_137 (by decide) ?_
        refine lv_iadd hx hb dX6_pass_138 ?_
        refine va_put (D := D) (ci := 5) (v := .int ((σ 15 k) + 1)) (ty := .int) (C := RX5) (T := TX5) (N := 13) hx hb hts hinX5 tyX5 tyX5_ok nmX5 hown hK hP hD hS (3 + nb + k) (zjq_S hk) rfl 10 (by decide) hf83 (fun _ h9 => h9)  rfl (by decide +kernel) rfl rfl (Nat.le_of_ble_eq_true rfl) dX6_pass_139 (fun H locs hP hD hS => ?_)
        have hP : va_P D vwCl (zj cB cS u bd sl nb ns (zs σ 15 k ((σ 15 k) + 1))) H := by rw [← zjw15 hk _]; exact hP
        have hD : va_D A (zj cB cS u bd sl nb ns (zs σ 15 k ((σ 15 k) + 1))) := by rw [← zjw15 hk _]; exact hD
        refine lv_aload hx hb dX6_pass_142 (lv_at hl 1 rfl) ?_
        refine lv_dup hx hb dX6_pass_144 rfl ?_
        refine va_get (D := D) (ci := 5) (v := .int (σ 16 k)) (C := RX5) (T := TX5) (N := 13) hx hb hts hinX5 hown hK hP (3 + nb + k) (zjq_S hk) rfl 11 (by decide) hf86 (fun _ h9 => h9) rfl dX6_pass_145 ?_
        refine lv_iconst (v := 1) hx hb dX6_pass_148 (by decide) ?_
        refine lv_iadd hx hb dX6_pass_149 ?_
        refine va_put (D := D) (ci := 5) (v := .int ((σ 16 k) + 1)) (ty := .int) (C := RX5) (T := TX5) (N := 13) hx hb hts hinX5 tyX5 tyX5_ok nmX5 hown hK hP hD hS (3 + nb + k) (zjq_S hk) rfl 11 (by decide) hf86 (fun _ h9 => h9)  rfl (by decide +kernel) rfl rfl (Nat.le_of_ble_eq_true rfl) dX6_pass_150 (fun H locs hP hD hS => ?_)
        have hP : va_P D vwCl (zj cB cS u bd sl nb ns (zs (zs σ 15 k ((σ 15 k) + 1)) 16 k ((σ 16 k) + 1))) H := by rw [← zjw16 hk _]; exact hP
        have hD : va_D A (zj cB cS u bd sl nb ns (zs (zs σ 15 k ((σ 15 k) + 1)) 16 k ((σ 16 k) + 1))) := by rw [← zjw16 hk _]; exact hD
        have e9 : f_ring σ h k = zs (zs σ 15 k ((σ 15 k) + 1)) 16 k ((σ 16 k) + 1) := by (unfold f_ring; rw [if_neg (by rw [e12b_1]; decide), if_neg c_6, if_pos ((zring_c hw3 hw rfl).mpr c_7)]; rfl)
        exact kk _ _ _ (by rw [e9]; exact hP) (by rw [e9]; exact hD) hS (lv_sub hl [2, 3, 4, 5, 6, 7] rfl)
      · refine lv_aload hx hb dX6_pass_123 (lv_at hl 1 rfl) ?_
        have hF := zfree hD hS hA
        refine zk_V (va_runV (As := []) (rest := []) ⟨hx, hb, hml, hown, hts⟩ (c_X5_up l D cI cB cS u bd sl σ hV hk _) (cwV 0 hts gX6_pass_X5_up rfl rfl rfl zdX5_up ⟨Nat.le_of_ble_eq_true rfl, Nat.le_of_ble_eq_true rfl⟩) ⟨zbl _, va_recv hK hP (ci := 5) (q0 := (3 + nb + k)) rfl (zjq_S hk), zpr hK hP hD⟩ rfl rfl hl.1 rfl (lv_room (Nat.le_of_ble_eq_true rfl)) dX6_pass_125 ⟨Nat.zero_le _, Nat.zero_le _⟩) hS hF (fun H locs hkp hP1 hD1 hS => ?_)
        have hP := hP1
        have hD := hD1.weaken (fun _ _ _ z => hF _ z)
        have hP : va_P D vwCl (zj cB cS u bd sl nb ns (f_getUp σ k)) H := hP
        have hD : va_D A (zj cB cS u bd sl nb ns (f_getUp σ k)) := hD
        refine lv_goto (tgt := 153) hx hb dX6_pass_128 (by decide) ?_
        have e9 : f_ring σ h k = f_getUp σ k := by (unfold f_ring; rw [if_neg (by rw [e12b_1]; decide), if_neg c_6, if_neg (fun z => c_7 ((zring_c hw3 hw rfl).mp z))])
        exact kk _ _ _ (by rw [e9]; exact hP) (by rw [e9]; exact hD) hS (lv_sub hl [2, 3, 4, 5, 6, 7] rfl)
    · refine lv_goto (tgt := 153) hx hb dX6_pass_68 (by decide) ?_
      have e9 : f_ring σ h k = σ := by unfold f_ring; rw [if_neg (by rw [e12b_1]; decide), if_pos c_6]
      exact kk _ _ _ (by rw [e9]; exact hP) (by rw [e9]; exact hD) hS (lv_sub hl [1, 2, 3, 4, 5, 6] rfl)
