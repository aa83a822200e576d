theorem i32_lt {a b : Int32} (h : ¬ b ≤ a) : a < b := Int32.lt_iff_toInt_lt.mpr (by have := mt Int32.le_iff_toInt_le.mpr h; omega)
theorem f_max0_p {v : Int32} (h : ¬ v ≤ 0) : f_max0 v = v := by unfold f_max0; rw [if_pos (i32_lt h)]
theorem f_max0_n {v : Int32} (h : v ≤ 0) : f_max0 v = 0 := by unfold f_max0; rw [if_neg (i32_nlt h)]
theorem f_earn_0 {σ : zS} {k : Nat} (hq : zle (σ 9 k) 99) : f_earn σ k 0 = σ := by
  have e : f_min99 (σ 9 k + 0) = σ 9 k := by
    rw [Int32.add_zero, f_min99_le (hq.le (by decide))]
  unfold f_earn
  rw [e, zs_self]
theorem zcan {x q : Int32} (hq : ∃ p, 1 ≤ p ∧ p ≤ 20 ∧ q = nI p) : x ≤ q + 1 ↔ x < q + 2 := by
  obtain ⟨p, h1, h2, rfl⟩ := hq
  have e1 : nI p + 1 = nI (p + 1) := nI_add p 1
  have e2 : nI p + 2 = nI (p + 2) := nI_add p 2
  rw [e1, e2, Int32.le_iff_toInt_le, Int32.lt_iff_toInt_lt, nI_toInt (by omega), nI_toInt (by omega)]
  omega
theorem f_min8_le {v : Int32} (hw : zle v 8) (h : v ≤ 5) : f_min8 (v + 2) = v + 2 := by
  obtain ⟨w, h1, rfl⟩ := hw
  have e2 : nI w + 2 = nI (w + 2) := nI_add w 2
  have h5 : w ≤ 5 := (nI_leI (a := w) (b := 5) (by omega) (by decide)).mp h
  unfold f_min8
  rw [e2]
  exact if_pos (nI_lt (a := w + 2) (b := 8) (by omega) (by decide))
theorem f_min8_gt {v : Int32} (hw : zle v 8) (h : ¬ v ≤ 5) : f_min8 (v + 2) = 8 := by
  obtain ⟨w, h1, rfl⟩ := hw
  have e2 : nI w + 2 = nI (w + 2) := nI_add w 2
  have h5 : ¬ w ≤ 5 := fun z => h (nI_le (a := w) (b := 5) z (by decide))
  unfold f_min8
  rw [e2]
  exact if_neg (nI_nlt (a := w + 2) (b := 8) (by omega) (by omega))
theorem f_max0_w {v : Int32} (hw : zle v 8) (h : ¬ v ≤ 0) : f_max0 (v - 1) = v - 1 := by
  obtain ⟨w, h1, rfl⟩ := hw
  have h5 : 1 ≤ w := by
    rcases Nat.eq_zero_or_pos w with z | z
    · subst z; exact absurd (i32_rf _) h
    · exact z
  have e2 : nI w - 1 = nI (w - 1) := pk_sub (a := w) (b := 1) h5
  rw [e2]
  unfold f_max0
  split
  · rfl
  · rename_i z
    rcases Nat.eq_zero_or_pos (w - 1) with y | y
    · rw [y]; rfl
    · exact absurd (nI_lt (a := 0) (b := w - 1) y (by omega)) z
theorem f_max0_v {v : Int32} (hw : zle v 8) (h : v ≤ 0) : f_max0 (v - 1) = 0 := by
  obtain ⟨w, h1, rfl⟩ := hw
  have h5 : w = 0 := by
    have := (nI_leI (a := w) (b := 0) (by omega) (by decide)).mp h
    omega
  subst h5
  decide
theorem zV.bt0 {σ : zS} {nb ns h B k : Nat} (hV : zV σ nb ns h B) (hk : k < ns) : zV (zs σ 10 k 0) nb ns h B := by
  have h1 := hV.2.2.1 k hk
  exact hV.col (Nat.le_refl B) hV.2.1.1 hk rfl (fun r z1 z2 => zs_row _ (by omega) _ _) (fun _ => zco_ne) rfl rfl ⟨h1.1.1, Or.inl (zs_eq σ 10 k 0), h1.1.2.2.1, h1.1.2.2.2.1, h1.1.2.2.2.2⟩ h1.2.1
def f_try2 (σ : zS) (k b : Nat) : zS := if σ 9 k < σ 1 b then f_floor σ k else f_into σ k b
theorem f_try_2 (σ : zS) (k b : Nat) : f_try σ k b = f_try2 (f_try1 σ k b) k b := by
  have e : f_try1 σ k b 1 = σ 1 := by unfold f_try1; split <;> rfl
  unfold f_try f_try2
  rw [e]
theorem f_into_eq (σ : zS) (k b : Nat) : f_into σ k b = zs (zs (zs (zs (zs (zs σ 9 k (σ 9 k - σ 1 b)) 4 b (σ 4 b + σ 1 b)) 3 b (σ 3 b + 1)) 5 b (nI k)) 13 k (nI b)) 12 k 1 := by
  unfold f_into
  funext r j
  simp only [zs_at]
  by_cases e12 : r = 12
  · subst e12; simp
  · by_cases e13 : r = 13
    · subst e13; simp
    · simp [e12, e13]
set_option maxHeartbeats 4000000 in
set_option maxRecDepth 100000 in
theorem p_pay {p : Program} {l : Launch} {e : Env} {s : State} {m : MethodId} {args : Array Value} {below : List Frame} {meth : Method} {c : Code} {Q : State → Prop} {D : va_G} {cI cB cS : ClassId} {u bd sl : Nat → Nat} {A : Nat → Prop} {σ : zS} {H : Heap} {locs : List Loc} {ls : Array Slot} (C : zPa p s m args meth c D cI cB cS) (hA : ∀ q : Nat, s.heap.size ≤ q → A q) {nb ns h B k : Nat} (hV : zV σ nb ns h B) (hk : k < ns) (h0 : nI (h % 8) = 0) (hP : va_P D vwCl (zj cB cS u bd sl nb ns σ) H) (hD : va_D A (zj cB cS u bd sl nb ns σ)) (hS : va_S A s.heap H locs) (hl : lv_has ls 9 [(6, .ref (sl k)), (5, .int (nI k)), (4, .int (nI ns)), (3, .ref (u 2)), (2, .int (nI (h % 8))), (1, .int (nI (h % 24 / 8))), (0, .ref (u 0))])  (kk : ∀ (H : Heap) (locs : List Loc) (ls : Array Slot), va_P D vwCl (zj cB cS u bd sl nb ns (f_payR σ h k)) H → va_D A (zj cB cS u bd sl nb ns (f_payR σ h k)) → va_S A s.heap H locs → lv_has ls 9 [(6, .ref (sl k)), (5, .int (nI k)), (4, .int (nI ns)), (3, .ref (u 2)), (2, .int (nI (h % 8))), (1, .int (nI (h % 24 / 8))), (0, .ref (u 0))] → W p l e zRp s m args below meth c H locs 0 0 Q (F0 m 293 ls [])) : W p l e zRp s m args below meth c H locs 0 0 Q (F0 m 200 ls []) := by
  obtain ⟨hx, hb, hml, hown, hts, hK⟩ := C
  have hnb := hV.1.2.1
  have hns := hV.1.2.2.2.1
  have hh := hV.1.2.2.2.2.2.1
  have hf13 := hts (.fieldLink RX6 13 "HotBedsLaw$Sim" "pawn" "I") (by decide +kernel)
  have hf56 := hts (.fieldLink RX6 56 "HotBedsLaw$Sailor" "wage" "I") (by decide +kernel)
  have hf59 := hts (.fieldLink RX6 59 "HotBedsLaw$Sailor" "purse" "I") (by decide +kernel)
  have hf62 := hts (.fieldLink RX6 62 "HotBedsLaw$Sailor" "hasBoots" "Z") (by decide +kernel)
  have hf86 := hts (.fieldLink RX6 86 "HotBedsLaw$Sailor" "since" "I") (by decide +kernel)
  have hinX5 : ∀ w ∈ u_ws RX5 TX5 13, w ∈ wsX6_pass := by decide +kernel
  have hinX6 : ∀ w ∈ u_ws RX6 TX6 5, w ∈ wsX6_pass := by decide +kernel
  refine lv_aload hx hb dX6_pass_200 (lv_at hl 0 rfl) ?_
  rcases (hV.ksk hk).2.1 with e10_1 | e10_1
  · refine va_get (D := D) (ci := 5) (v := .int 0) (C := RX5) (T := TX5) (N := 13) hx hb hts hinX5 hown hK hP (3 + nb + k) (zjq_S hk) rfl 5 (by decide) hf62 (fun _ h9 => h9) (congrArg (fun z => some (Value.int z)) e10_1) dX6_pass_202 ?_
    refine lv_if_eq (tgt := 216) hx hb dX6_pass_205 (by decide) (fun _ => ?_) (fun c => absurd (by decide) c)
    refine lv_aload hx hb dX6_pass_216 (lv_at hl 0 rfl) ?_
    refine va_get (D := D) (ci := 5) (v := .int (σ 8 k)) (C := RX5) (T := TX5) (N := 13) hx hb hts hinX5 hown hK hP (3 + nb + k) (zjq_S hk) rfl 3 (by decide) hf56 (fun _ h9 => h9) rfl dX6_pass_218 ?_
    refine lv_iconst (v := 2) hx hb dX6_pass_221 (by decide) ?_
    refine lv_idiv hx hb dX6_pass_222 (by decide) ?_
    refine lv_aload hx hb dX6_pass_223 (lv_at hl 0 rfl) ?_
    refine va_get (D := D) (ci := 5) (v := .int (σ 16 k)) (C := RX5) (T := TX5) (N := 13) hx hb hts hinX5 hown hK hP (3 + nb + k) (zjq_S hk) rfl 11 (by decide) hf86 (fun _ h9 => h9) rfl dX6_pass_225 ?_
    refine lv_isub hx hb dX6_pass_228 ?_
    refine lv_istore (lv' := [(7, .int (((σ 8 k) / 2) - (σ 16 k))), (6, .ref (sl k)), (5, .int (nI k)), (4, .int (nI ns)), (3, .ref (u 2)), (2, .int (nI (h % 8))), (1, .int (nI (h % 24 / 8))), (0, .ref (u 0))]) hx hb dX6_pass_229 hl (by decide) rfl (fun ls hl => ?_)
    refine lv_iload hx hb dX6_pass_231 (lv_at hl 0 rfl) ?_
    refine lv_if_le (tgt := 243) hx hb dX6_pass_233 (by decide) (fun c_3 => ?_) (fun c_3 => ?_)
    · refine lv_aload hx hb dX6_pass_243 (lv_at hl 1 rfl) ?_
      refine lv_iconst (v := 0) hx hb dX6_pass_245 (by decide) ?_
      refine va_put (D := D) (ci := 5) (v := .int 0) (ty := .int) (C := RX5) (T := TX5) (N := 13) hx hb hts hinX5 tyX5 tyX5_ok nmX5 hown hK hP hD hS (3 + nb + k) (zjq_S hk) rfl 11 (by decide) hf86 (fun _ h9 => h9)  rfl (by decide +kernel) rfl rfl (Nat.le_of_ble_eq_true rfl) dX6_pass_246 (fun H locs hP hD hS => ?_)
      have hP : va_P D vwCl (zj cB cS u bd sl nb ns (zs σ 16 k 0)) H := by rw [← zjw16 hk _]; exact hP
      have hD : va_D A (zj cB cS u bd sl nb ns (zs σ 16 k 0)) := by rw [← zjw16 hk _]; exact hD
      have e8 : f_pay σ k = zs σ 16 k 0 := by unfold f_pay; rw [if_neg (by rw [e10_1]; decide), f_max0_n c_3, f_earn_0 (hV.ksm hk).2.2.1]
      have hP : va_P D vwCl (zj cB cS u bd sl nb ns (f_pay σ k)) H := by rw [e8]; exact hP
      have hD : va_D A (zj cB cS u bd sl nb ns (f_pay σ k)) := by rw [e8]; exact hD
      refine lv_aload hx hb dX6_pass_249 (lv_at hl 1 rfl) ?_
      refine va_get (D := D) (ci := 5) (v := .int 0) (C := RX5) (T := TX5) (N := 13) hx hb hts hinX5 hown hK hP (3 + nb + k) (zjq_S hk) rfl 5 (by decide) hf62 (fun _ h9 => h9) (congrArg (fun z => some (Value.int z)) e10_1) dX6_pass_251 ?_
      refine lv_if_ne (tgt := 293) hx hb dX6_pass_254 (by decide) (fun c => absurd (by decide) c) (fun _ => ?_)
      refine lv_aload hx hb dX6_pass_257 (lv_at hl 1 rfl) ?_
      refine va_get (D := D) (ci := 5) (v := .int ((f_pay σ k) 9 k)) (C := RX5) (T := TX5) (N := 13) hx hb hts hinX5 hown hK hP (3 + nb + k) (zjq_S hk) rfl 4 (by decide) hf59 (fun _ h9 => h9) rfl dX6_pass_259 ?_
      refine lv_aload_n hx hb dX6_pass_262 rfl (lv_at hl 7 rfl) ?_
      refine va_get (D := D) (ci := 6) (v := .int ((f_pay σ k) 0 2)) (C := RX6) (T := TX6) (N := 5) hx hb hts hinX6 hown hK hP 0 rfl rfl 2 (by decide) hf13 (fun _ h9 => h9) rfl dX6_pass_263 ?_
      refine lv_iconst (v := 1) hx hb dX6_pass_266 (by decide) ?_
      refine lv_iadd hx hb dX6_pass_267 ?_
      refine lv_icmp_le (tgt := 293) hx hb dX6_pass_268 (by decide) (fun c_5 => ?_) (fun c_5 => ?_)
      · have e9 : f_payR σ h k = f_pay σ k := by unfold f_payR; rw [if_pos h0, if_neg (fun z => z.2 ((zcan hV.2.1.2.1).mp c_5))]
        exact kk _ _ _ (by rw [e9]; exact hP) (by rw [e9]; exact hD) hS (lv_sub hl [1, 2, 3, 4, 5, 6, 7] rfl)
      · refine lv_aload hx hb dX6_pass_271 (lv_at hl 1 rfl) ?_
        refine lv_dup hx hb dX6_pass_273 rfl ?_
        refine va_get (D := D) (ci := 5) (v := .int ((f_pay σ k) 9 k)) (C := RX5) (T := TX5) (N := 13) hx hb hts hinX5 hown hK hP (3 + nb + k) (zjq_S hk) rfl 4 (by decide) hf59 (fun _ h9 => h9) rfl dX6_pass_274 ?_
        refine lv_aload_n hx hb dX6_pass_277 rfl (lv_at hl 7 rfl) ?_
        refine va_get (D := D) (ci := 6) (v := .int ((f_pay σ k) 0 2)) (C := RX6) (T := TX6) (N := 5) hx hb hts hinX6 hown hK hP 0 rfl rfl 2 (by decide) hf13 (fun _ h9 => h9) rfl dX6_pass_278 ?_
        refine lv_iconst (v := 2) hx hb dX6_pass_281 (by decide) ?_
        refine lv_iadd hx hb dX6_pass_282 ?_
        refine lv_isub hx hb dX6_pass_283 ?_
        refine va_put (D := D) (ci := 5) (v := .int (((f_pay σ k) 9 k) - (((f_pay σ k) 0 2) + 2))) (ty := .int) (C := RX5) (T := TX5) (N := 13) hx hb hts hinX5 tyX5 tyX5_ok nmX5 hown hK hP hD hS (3 + nb + k) (zjq_S hk) rfl 4 (by decide) hf59 (fun _ h9 => h9)  rfl (by decide +kernel) rfl rfl (Nat.le_of_ble_eq_true rfl) dX6_pass_284 (fun H locs hP hD hS => ?_)
        have hP : va_P D vwCl (zj cB cS u bd sl nb ns (zs (f_pay σ k) 9 k (((f_pay σ k) 9 k) - (((f_pay σ k) 0 2) + 2)))) H := by rw [← zjw9 hk _]; exact hP
        have hD : va_D A (zj cB cS u bd sl nb ns (zs (f_pay σ k) 9 k (((f_pay σ k) 9 k) - (((f_pay σ k) 0 2) + 2)))) := by rw [← zjw9 hk _]; exact hD
        refine lv_aload hx hb dX6_pass_287 (lv_at hl 1 rfl) ?_
        refine lv_iconst (v := 1) hx hb dX6_pass_289 (by decide) ?_
        refine va_put (D := D) (ci := 5) (v := .int 1) (ty := .boolean) (C := RX5) (T := TX5) (N := 13) hx hb hts hinX5 tyX5 tyX5_ok nmX5 hown hK hP hD hS (3 + nb + k) (zjq_S hk) rfl 5 (by decide) hf62 (fun _ h9 => h9)  rfl (by decide +kernel) rfl rfl (Nat.le_of_ble_eq_true rfl) dX6_pass_290 (fun H locs hP hD hS => ?_)
        have hP : va_P D vwCl (zj cB cS u bd sl nb ns (zs (zs (f_pay σ k) 9 k (((f_pay σ k) 9 k) - (((f_pay σ k) 0 2) + 2))) 10 k 1)) H := by rw [← zjw10 hk _]; exact hP
        have hD : va_D A (zj cB cS u bd sl nb ns (zs (zs (f_pay σ k) 9 k (((f_pay σ k) 9 k) - (((f_pay σ k) 0 2) + 2))) 10 k 1)) := by rw [← zjw10 hk _]; exact hD
        have e9 : f_payR σ h k = zs (zs (f_pay σ k) 9 k (((f_pay σ k) 9 k) - (((f_pay σ k) 0 2) + 2))) 10 k 1 := by (unfold f_payR; rw [if_pos h0, if_pos ⟨by show ¬ σ 10 k = 1; rw [e10_1]; decide, fun z => c_5 ((zcan hV.2.1.2.1).mpr z)⟩]; rfl)
        exact kk _ _ _ (by rw [e9]; exact hP) (by rw [e9]; exact hD) hS (lv_sub hl [1, 2, 3, 4, 5, 6, 7] rfl)
    · refine lv_aload hx hb dX6_pass_236 (lv_at hl 1 rfl) ?_
      refine lv_iload hx hb dX6_pass_238 (lv_at hl 0 rfl) ?_
      have hF := zfree hD hS hA
      refine zk_V (va_runV (As := [.int (((σ 8 k) / 2) - (σ 16 k))]) (rest := []) ⟨hx, hb, hml, hown, hts⟩ (c_X5_gets l D cI cB cS u bd sl σ (((σ 8 k) / 2) - (σ 16 k)) hV hk _) (cwV 1 hts gX6_pass_X5_gets rfl rfl rfl zdX5_gets ⟨Nat.le_of_ble_eq_true rfl, Nat.le_of_ble_eq_true rfl⟩) ⟨zbl _, va_recv hK hP (ci := 5) (q0 := (3 + nb + k)) rfl (zjq_S hk), zpr hK hP hD⟩ rfl rfl hl.1 rfl (lv_room (Nat.le_of_ble_eq_true rfl)) dX6_pass_240 ⟨Nat.zero_le _, Nat.zero_le _⟩) hS hF (fun H locs hkp hP1 hD1 hS => ?_)
      have hP := hP1
      have hD := hD1.weaken (fun _ _ _ z => hF _ z)
      have hP : va_P D vwCl (zj cB cS u bd sl nb ns (f_earn σ k (((σ 8 k) / 2) - (σ 16 k)))) H := hP
      have hD : va_D A (zj cB cS u bd sl nb ns (f_earn σ k (((σ 8 k) / 2) - (σ 16 k)))) := hD
      refine lv_aload hx hb dX6_pass_243 (lv_at hl 1 rfl) ?_
      refine lv_iconst (v := 0) hx hb dX6_pass_245 (by decide) ?_
      refine va_put (D := D) (ci := 5) (v := .int 0) (ty := .int) (C := RX5) (T := TX5) (N := 13) hx hb hts hinX5 tyX5 tyX5_ok nmX5 hown hK hP hD hS (3 + nb + k) (zjq_S hk) rfl 11 (by decide) hf86 (fun _ h9 => h9)  rfl (by decide +kernel) rfl rfl (Nat.le_of_ble_eq_true rfl) dX6_pass_246 (fun H locs hP hD hS => ?_)
      have hP : va_P D vwCl (zj cB cS u bd sl nb ns (zs (f_earn σ k (((σ 8 k) / 2) - (σ 16 k))) 16 k 0)) H := by rw [← zjw16 hk _]; exact hP
      have hD : va_D A (zj cB cS u bd sl nb ns (zs (f_earn σ k (((σ 8 k) / 2) - (σ 16 k))) 16 k 0)) := by rw [← zjw16 hk _]; exact hD
      have e8 : f_pay σ k = zs (f_earn σ k (((σ 8 k) / 2) - (σ 16 k))) 16 k 0 := by unfold f_pay; rw [if_neg (by rw [e10_1]; decide), f_max0_p c_3]
      have hP : va_P D vwCl (zj cB cS u bd sl nb ns (f_pay σ k)) H := by rw [e8]; exact hP
      have hD : va_D A (zj cB cS u bd sl nb ns (f_pay σ k)) := by rw [e8]; exact hD
      refine lv_aload hx hb dX6_pass_249 (lv_at hl 1 rfl) ?_
      refine va_get (D := D) (ci := 5) (v := .int 0) (C := RX5) (T := TX5) (N := 13) hx hb hts hinX5 hown hK hP (3 + nb + k) (zjq_S hk) rfl 5 (by decide) hf62 (fun _ h9 => h9) (congrArg (fun z => some (Value.int z)) e10_1) dX6_pass_251 ?_
      refine lv_if_ne (tgt := 293) hx hb dX6_pass_254 (by decide) (fun c => absurd (by decide) c) (fun _ => ?_)
      refine lv_aload hx hb dX6_pass_257 (lv_at hl 1 rfl) ?_
      refine va_get (D := D) (ci := 5) (v := .int ((f_pay σ k) 9 k)) (C := RX5) (T := TX5) (N := 13) hx hb hts hinX5 hown hK hP (3 + nb + k) (zjq_S hk) rfl 4 (by decide) hf59 (fun _ h9 => h9) rfl dX6_pass_259 ?_
      refine lv_aload_n hx hb dX6_pass_262 rfl (lv_at hl 7 rfl) ?_
      refine va_get (D := D) (ci := 6) (v := .int ((f_pay σ k) 0 2)) (C := RX6) (T := TX6) (N := 5) hx hb hts hinX6 hown hK hP 0 rfl rfl 2 (by decide) hf13 (fun _ h9 => h9) rfl dX6_pass_263 ?_
      refine lv_iconst (v := 1) hx hb dX6_pass_266 (by decide) ?_
      refine lv_iadd hx hb dX6_pass_267 ?_
      refine lv_icmp_le (tgt := 293) hx hb dX6_pass_268 (by decide) (fun c_7 => ?_) (fun c_7 => ?_)
      · have e9 : f_payR σ h k = f_pay σ k := by unfold f_payR; rw [if_pos h0, if_neg (fun z => z.2 ((zcan hV.2.1.2.1).mp c_7))]
        exact kk _ _ _ (by rw [e9]; exact hP) (by rw [e9]; exact hD) hS (lv_sub hl [1, 2, 3, 4, 5, 6, 7] rfl)
      · refine lv_aload hx hb dX6_pass_271 (lv_at hl 1 rfl) ?_
        refine lv_dup hx hb dX6_pass_273 rfl ?_
        refine va_get (D := D) (ci := 5) (v := .int ((f_pay σ k) 9 k)) (C := RX5) (T := TX5) (N := 13) hx hb hts hinX5 hown hK hP (3 + nb + k) (zjq_S hk) rfl 4 (by decide) hf59 (fun _ h9 => h9) rfl dX6_pass_274 ?_
        refine lv_aload_n hx hb dX6_pass_277 rfl (lv_at hl 7 rfl) ?_
        refine va_get (D := D) (ci := 6) (v := .int ((f_pay σ k) 0 2)) (C := RX6) (T := TX6) (N := 5) hx hb hts hinX6 hown hK hP 0 rfl rfl 2 (by decide) hf13 (fun _ h9 => h9) rfl dX6_pass_278 ?_
        refine lv_iconst (v := 2) hx hb dX6_pass_281 (by decide) ?_
        refine lv_iadd hx hb dX6_pass_282 ?_
        refine lv_isub hx hb dX6_pass_283 ?_
        refine va_put (D := D) (ci := 5) (v := .int (((f_pay σ k) 9 k) - (((f_pay σ k) 0 2) + 2))) (ty := .int) (C := RX5) (T := TX5) (N := 13) hx hb hts hinX5 tyX5 tyX5_ok nmX5 hown hK hP hD hS (3 + nb + k) (zjq_S hk) rfl 4 (by decide) hf59 (fun _ h9 => h9)  rfl (by decide +kernel) rfl rfl (Nat.le_of_ble_eq_true rfl) dX6_pass_284 (fun H locs hP hD hS => ?_)
        have hP : va_P D vwCl (zj cB cS u bd sl nb ns (zs (f_pay σ k) 9 k (((f_pay σ k) 9 k) - (((f_pay σ k) 0 2) + 2)))) H := by rw [← zjw9 hk _]; exact hP
        have hD : va_D A (zj cB cS u bd sl nb ns (zs (f_pay σ k) 9 k (((f_pay σ k) 9 k) - (((f_pay σ k) 0 2) + 2)))) := by rw [← zjw9 hk _]; exact hD
        refine lv_aload hx hb dX6_pass_287 (lv_at hl 1 rfl) ?_
        refine lv_iconst (v := 1) hx hb dX6_pass_289 (by decide) ?_
        refine va_put (D := D) (ci := 5) (v := .int 1) (ty := .boolean) (C := RX5) (T := TX5) (N := 13) hx hb hts hinX5 tyX5 tyX5_ok nmX5 hown hK hP hD hS (3 + nb + k) (zjq_S hk) rfl 5 (by decide) hf62 (fun _ h9 => h9)  rfl (by decide +kernel) rfl rfl (Nat.le_of_ble_eq_true rfl) dX6_pass_290 (fun H locs hP hD hS => ?_)
        have hP : va_P D vwCl (zj cB cS u bd sl nb ns (zs (zs (f_pay σ k) 9 k (((f_pay σ k) 9 k) - (((f_pay σ k) 0 2) + 2))) 10 k 1)) H := by rw [← zjw10 hk _]; exact hP
        have hD : va_D A (zj cB cS u bd sl nb ns (zs (zs (f_pay σ k) 9 k (((f_pay σ k) 9 k) - (((f_pay σ k) 0 2) + 2))) 10 k 1)) := by rw [← zjw10 hk _]; exact hD
        have e9 : f_payR σ h k = zs (zs (f_pay σ k) 9 k (((f_pay σ k) 9 k) - (((f_pay σ k) 0 2) + 2))) 10 k 1 := by (unfold f_payR; rw [if_pos h0, if_pos ⟨by show ¬ σ 10 k = 1; rw [e10_1]; decide, fun z => c_7 ((zcan hV.2.1.2.1).mpr z)⟩]; rfl)
        exact kk _ _ _ (by rw [e9]; exact hP) (by rw [e9]; exact hD) hS (lv_sub hl [1, 2, 3, 4, 5, 6, 7] rfl)
  · refine va_get (D := D) (ci := 5) (v := .int 1) (C := RX5) (T := TX5) (N := 13) hx hb hts hinX5 hown hK hP (3 + nb + k) (zjq_S hk) rfl 5 (by decide) hf62 (fun _ h9 => h9) (congrArg (fun z => some (Value.int z)) e10_1) dX6_pass_202 ?_
    refine lv_if_eq (tgt := 216) hx hb dX6_pass_205 (by decide) (fun c => absurd c (by decide)) (fun _ => ?_)
    refine lv_aload hx hb dX6_pass_208 (lv_at hl 0 rfl) ?_
    refine va_get (D := D) (ci := 5) (v := .int (σ 8 k)) (C := RX5) (T := TX5) (N := 13) hx hb hts hinX5 hown hK hP (3 + nb + k) (zjq_S hk) rfl 3 (by decide) hf56 (fun _ h9 => h9) rfl dX6_pass_210 ?_
    refine lv_goto (tgt := 223) hx hb dX6_pass_213 (by decide) ?_
    refine lv_aload hx hb dX6_pass_223 (lv_at hl 0 rfl) ?_
    refine va_get (D := D) (ci := 5) (v := .int (σ 16 k)) (C := RX5) (T := TX5) (N := 13) hx hb hts hinX5 hown hK hP (3 + nb + k) (zjq_S hk) rfl 11 (by decide) hf86 (fun _ h9 => h9) rfl dX6_pass_225 ?_
    refine lv_isub hx hb dX6_pass_228 ?_
    refine lv_istore (lv' := [(7, .int ((σ 8 k) - (σ 16 k))), (6, .ref (sl k)), (5, .int (nI k)), (4, .int (nI ns)), (3, .ref (u 2)), (2, .int (nI (h % 8))), (1, .int (nI (h % 24 / 8))), (0, .ref (u 0))]) hx hb dX6_pass_229 hl (by decide) rfl (fun ls hl => ?_)
    refine lv_iload hx hb dX6_pass_231 (lv_at hl 0 rfl) ?_
    refine lv_if_le (tgt := 243) hx hb dX6_pass_233 (by decide) (fun c_9 => ?_) (fun c_9 => ?_)
    · refine lv_aload hx hb dX6_pass_243 (lv_at hl 1 rfl) ?_
      refine lv_iconst (v := 0) hx hb dX6_pass_245 (by decide) ?_
      refine va_put (D := D) (ci := 5) (v := .int 0) (ty := .int) (C := RX5) (T := TX5) (N := 13) hx hb hts hinX5 tyX5 tyX5_ok nmX5 hown hK hP hD hS (3 + nb + k) (zjq_S hk) rfl 11 (by decide) hf86 (fun _ h9 => h9)  rfl (by decide +kernel) rfl rfl (Nat.le_of_ble_eq_true rfl) dX6_pass_246 (fun H locs hP hD hS => ?_)
      have hP : va_P D vwCl (zj cB cS u bd sl nb ns (zs σ 16 k 0)) H := by rw [← zjw16 hk _]; exact hP
      have hD : va_D A (zj cB cS u bd sl nb ns (zs σ 16 k 0)) := by rw [← zjw16 hk _]; exact hD
      have e8 : f_pay σ k = zs σ 16 k 0 := by unfold f_pay; rw [if_pos e10_1, f_max0_n c_9, f_earn_0 (hV.ksm hk).2.2.1]
      have hP : va_P D vwCl (zj cB cS u bd sl nb ns (f_pay σ k)) H := by rw [e8]; exact hP
      have hD : va_D A (zj cB cS u bd sl nb ns (f_pay σ k)) := by rw [e8]; exact hD
      refine lv_aload hx hb dX6_pass_249 (lv_at hl 1 rfl) ?_
      refine va_get (D := D) (ci := 5) (v := .int 1) (C := RX5) (T := TX5) (N := 13) hx hb hts hinX5 hown hK hP (3 + nb + k) (zjq_S hk) rfl 5 (by decide) hf62 (fun _ h9 => h9) (congrArg (fun z => some (Value.int z)) e10_1) dX6_pass_251 ?_
      refine lv_if_ne (tgt := 293) hx hb dX6_pass_254 (by decide) (fun _ => ?_) (fun c => absurd c (by decide))
      have e9 : f_payR σ h k = f_pay σ k := by unfold f_payR; rw [if_pos h0, if_neg (fun z => z.1 e10_1)]
      exact kk _ _ _ (by rw [e9]; exact hP) (by rw [e9]; exact hD) hS (lv_sub hl [1, 2, 3, 4, 5, 6, 7] rfl)
    · refine lv_aload hx hb dX6_pass_236 (lv_at hl 1 rfl) ?_
      refine lv_iload hx hb dX6_pass_238 (lv_at hl 0 rfl) ?_
      have hF := zfree hD hS hA
      refine zk_V (va_runV (As := [.int ((σ 8 k) - (σ 16 k))]) (rest := []) ⟨hx, hb, hml, hown, hts⟩ (c_X5_gets l D cI cB cS u bd sl σ ((σ 8 k) - (σ 16 k)) hV hk _) (cwV 1 hts gX6_pass_X5_gets rfl rfl rfl zdX5_gets ⟨Nat.le_of_ble_eq_true rfl, Nat.le_of_ble_eq_true rfl⟩) ⟨zbl _, va_recv hK hP (ci := 5) (q0 := (3 + nb + k)) rfl (zjq_S hk), zpr hK hP hD⟩ rfl rfl hl.1 rfl (lv_room (Nat.le_of_ble_eq_true rfl)) dX6_pass_240 ⟨Nat.zero_le _, Nat.zero_le _⟩) hS hF (fun H locs hkp hP1 hD1 hS => ?_)
      have hP := hP1
      have hD := hD1.weaken (fun _ _ _ z => hF _ z)
      have hP : va_P D vwCl (zj cB cS u bd sl nb ns (f_earn σ k ((σ 8 k) - (σ 16 k)))) H := hP
      have hD : va_D A (zj cB cS u bd sl nb ns (f_earn σ k ((σ 8 k) - (σ 16 k)))) := hD
      refine lv_aload hx hb dX6_pass_243 (lv_at hl 1 rfl) ?_
      refine lv_iconst (v := 0) hx hb dX6_pass_245 (by decide) ?_
      refine va_put (D := D) (ci := 5) (v := .int 0) (ty := .int) (C := RX5) (T := TX5) (N := 13) hx hb hts hinX5 tyX5 tyX5_ok nmX5 hown hK hP hD hS (3 + nb + k) (zjq_S hk) rfl 11 (by decide) hf86 (fun _ h9 => h9)  rfl (by decide +kernel) rfl rfl (Nat.le_of_ble_eq_true rfl) dX6_pass_246 (fun H locs hP hD hS => ?_)
      have hP : va_P D vwCl (zj cB cS u bd sl nb ns (zs (f_earn σ k ((σ 8 k) - (σ 16 k))) 16 k 0)) H := by rw [← zjw16 hk _]; exact hP
      have hD : va_D A (zj cB cS u bd sl nb ns (zs (f_earn σ k ((σ 8 k) - (σ 16 k))) 16 k 0)) := by rw [← zjw16 hk _]; exact hD
      have e8 : f_pay σ k = zs (f_earn σ k ((σ 8 k) - (σ 16 k))) 16 k 0 := by unfold f_pay; rw [if_pos e10_1, f_max0_p c_9]
      have hP : va_P D vwCl (zj cB cS u bd sl nb ns (f_pay σ k)) H := by rw [e8]; exact hP
      have hD : va_D A (zj cB cS u bd sl nb ns (f_pay σ k)) := by rw [e8]; exact hD
      refine lv_aload hx hb dX6_pass_249 (lv_at hl 1 rfl) ?_
      refine va_get (D := D) (ci := 5) (v := .int 1) (C := RX5) (T := TX5) (N := 13) hx hb hts hinX5 hown hK hP (3 + nb + k) (zjq_S hk) rfl 5 (by decide) hf62 (fun _ h9 => h9) (congrArg (fun z => some (Value.int z)) e10_1) dX6_pass_251 ?_
      refine lv_if_ne (tgt := 293) hx hb dX6_pass_254 (by decide) (fun _ => ?_) (fun c => absurd c (by decide))
      have e9 : f_payR σ h k = f_pay σ k := by unfold f_payR; rw [if_pos h0, if_neg (fun z => z.1 e10_1)]
      exact kk _ _ _ (by rw [e9]; exact hP) (by rw [e9]; exact hD) hS (lv_sub hl [1, 2, 3, 4, 5, 6, 7] rfl)
set_option maxHeartbeats 4000000 in
set_option maxRecDepth 100000 in
theorem p_try1 {p : Program} {l : Launch} {e : Env} {s : State} {m : MethodId} {args : Array Value} {below : List Frame} {meth : Method} {c : Code} {Q : State → Prop} {D : va_G} {cI cB cS : ClassId} {u bd sl : Nat → Nat} {A : Nat → Prop} {σ : zS} {H : Heap} {locs : List Loc} {ls : Array Slot} (C : zPa p s m args meth c D cI cB cS) (hA : ∀ q : Nat, s.heap.size ≤ q → A q) {nb ns h B k b : Nat} (hV : zV σ nb ns h B) (hk : k < ns) (hb9 : b < nb) (hP : va_P D vwCl (zj cB cS u bd sl nb ns σ) H) (hD : va_D A (zj cB cS u bd sl nb ns σ)) (hS : va_S A s.heap H locs) (hl : lv_has ls 9 [(7, .ref (bd b)), (6, .ref (sl k)), (5, .int (nI k)), (4, .int (nI ns)), (3, .ref (u 2)), (2, .int (nI (h % 8))), (1, .int (nI (h % 24 / 8))), (0, .ref (u 0))])  (kk : ∀ (H : Heap) (locs : List Loc) (ls : Array Slot), va_P D vwCl (zj cB cS u bd sl nb ns (f_try1 σ k b)) H → va_D A (zj cB cS u bd sl nb ns (f_try1 σ k b)) → va_S A s.heap H locs → lv_has ls 9 [(7, .ref (bd b)), (6, .ref (sl k)), (5, .int (nI k)), (4, .int (nI ns)), (3, .ref (u 2)), (2, .int (nI (h % 8))), (1, .int (nI (h % 24 / 8))), (0, .ref (u 0))] → W p l e zRp s m args below meth c H locs 0 0 Q (F0 m 392 ls [])) : W p l e zRp s m args below meth c H locs 0 0 Q (F0 m 338 ls []) := by
  obtain ⟨hx, hb, hml, hown, hts, hK⟩ := C
  have hnb := hV.1.2.1
  have hns := hV.1.2.2.2.1
  have hh := hV.1.2.2.2.2.2.1
  have hf13 := hts (.fieldLink RX6 13 "HotBedsLaw$Sim" "pawn" "I") (by decide +kernel)
  have hf36 := hts (.fieldLink RX6 36 "HotBedsLaw$Bed" "price" "I") (by decide +kernel)
  have hf59 := hts (.fieldLink RX6 59 "HotBedsLaw$Sailor" "purse" "I") (by decide +kernel)
  have hf62 := hts (.fieldLink RX6 62 "HotBedsLaw$Sailor" "hasBoots" "Z") (by decide +kernel)
  have hinX4 : ∀ w ∈ u_ws RX4 TX4 6, w ∈ wsX6_pass := by decide +kernel
  have hinX5 : ∀ w ∈ u_ws RX5 TX5 13, w ∈ wsX6_pass := by decide +kernel
  have hinX6 : ∀ w ∈ u_ws RX6 TX6 5, w ∈ wsX6_pass := by decide +kernel
  refine lv_aload hx hb dX6_pass_338 (lv_at hl 1 rfl) ?_
  refine va_get (D := D) (ci := 5) (v := .int (σ 9 k)) (C := RX5) (T := TX5) (N := 13) hx hb hts hinX5 hown hK hP (3 + nb + k) (zjq_S hk) rfl 4 (by decide) hf59 (fun _ h9 => h9) rfl dX6_pass_340 ?_
  refine lv_aload hx hb dX6_pass_343 (lv_at hl 0 rfl) ?_
  refine va_get (D := D) (ci := 4) (v := .int (σ 1 b)) (C := RX4) (T := TX4) (N := 6) hx hb hts hinX4 hown hK hP (3 + b) (zjq_B hb9) rfl 0 (by decide) hf36 (fun _ h9 => h9) rfl dX6_pass_345 ?_
  refine lv_icmp_ge (tgt := 392) hx hb dX6_pass_348 (by decide) (fun c_1 => ?_) (fun c_1 => ?_)
  · have e9 : f_try1 σ k b = σ := by unfold f_try1; rw [if_neg (fun z => z.1 c_1)]
    exact kk _ _ _ (by rw [e9]; exact hP) (by rw [e9]; exact hD) hS (lv_sub hl [0, 1, 2, 3, 4, 5, 6, 7] rfl)
  · refine lv_aload hx hb dX6_pass_351 (lv_at hl 1 rfl) ?_
    rcases (hV.ksk hk).2.1 with e10_2 | e10_2
    · refine va_get (D := D) (ci := 5) (v := .int 0) (C := RX5) (T := TX5) (N := 13) hx hb hts hinX5 hown hK hP (3 + nb + k) (zjq_S hk) rfl 5 (by decide) hf62 (fun _ h9 => h9) (congrArg (fun z => some (Value.int z)) e10_2) dX6_pass_353 ?_
      refine lv_if_eq (tgt := 392) hx hb dX6_pass_356 (by decide) (fun _ => ?_) (fun c => absurd (by decide) c)
      have e9 : f_try1 σ k b = σ := by unfold f_try1; rw [if_neg (fun z => absurd z.2.2 (by rw [e10_2]; decide))]
      exact kk _ _ _ (by rw [e9]; exact hP) (by rw [e9]; exact hD) hS (lv_sub hl [0, 1, 2, 3, 4, 5, 6, 7] rfl)
    · refine va_get (D := D) (ci := 5) (v := .int 1) (C := RX5) (T := TX5) (N := 13) hx hb hts hinX5 hown hK hP (3 + nb + k) (zjq_S hk) rfl 5 (by decide) hf62 (fun _ h9 => h9) (congrArg (fun z => some (Value.int z)) e10_2) dX6_pass_353 ?_
      refine lv_if_eq (tgt := 392) hx hb dX6_pass_356 (by decide) (fun c => absurd c (by decide)) (fun _ => ?_)
      refine lv_aload hx hb dX6_pass_359 (lv_at hl 1 rfl) ?_
      refine va_get (D := D) (ci := 5) (v := .int (σ 9 k)) (C := RX5) (T := TX5) (N := 13) hx hb hts hinX5 hown hK hP (3 + nb + k) (zjq_S hk) rfl 4 (by decide) hf59 (fun _ h9 => h9) rfl dX6_pass_361 ?_
      refine lv_aload_n hx hb dX6_pass_364 rfl (lv_at hl 7 rfl) ?_
      refine va_get (D := D) (ci := 6) (v := .int (σ 0 2)) (C := RX6) (T := TX6) (N := 5) hx hb hts hinX6 hown hK hP 0 rfl rfl 2 (by decide) hf13 (fun _ h9 => h9) rfl dX6_pass_365 ?_
      refine lv_iadd hx hb dX6_pass_368 ?_
      refine lv_aload hx hb dX6_pass_369 (lv_at hl 0 rfl) ?_
      refine va_get (D := D) (ci := 4) (v := .int (σ 1 b)) (C := RX4) (T := TX4) (N := 6) hx hb hts hinX4 hown hK hP (3 + b) (zjq_B hb9) rfl 0 (by decide) hf36 (fun _ h9 => h9) rfl dX6_pass_371 ?_
      refine lv_icmp_lt (tgt := 392) hx hb dX6_pass_374 (by decide) (fun c_5 => ?_) (fun c_5 => ?_)
      · have e9 : f_try1 σ k b = σ := by unfold f_try1; rw [if_neg (fun z => z.2.1 c_5)]
        exact kk _ _ _ (by rw [e9]; exact hP) (by rw [e9]; exact hD) hS (lv_sub hl [0, 1, 2, 3, 4, 5, 6, 7] rfl)
      · refine lv_aload hx hb dX6_pass_377 (lv_at hl 1 rfl) ?_
        refine lv_iconst (v := 0) hx hb dX6_pass_379 (by decide) ?_
        refine va_put (D := D) (ci := 5) (v := .int 0) (ty := .boolean) (C := RX5) (T := TX5) (N := 13) hx hb hts hinX5 tyX5 tyX5_ok nmX5 hown hK hP hD hS (3 + nb + k) (zjq_S hk) rfl 5 (by decide) hf62 (fun _ h9 => h9)  rfl (by decide +kernel) rfl rfl (Nat.le_of_ble_eq_true rfl) dX6_pass_380 (fun H locs hP hD hS => ?_)
        have hP : va_P D vwCl (zj cB cS u bd sl nb ns (zs σ 10 k 0)) H := by rw [← zjw10 hk _]; exact hP
        have hD : va_D A (zj cB cS u bd sl nb ns (zs σ 10 k 0)) := by rw [← zjw10 hk _]; exact hD
        refine lv_aload hx hb dX6_pass_383 (lv_at hl 1 rfl) ?_
        refine lv_aload_n hx hb dX6_pass_385 rfl (lv_at hl 7 rfl) ?_
        refine va_get (D := D) (ci := 6) (v := .int (σ 0 2)) (C := RX6) (T := TX6) (N := 5) hx hb hts hinX6 hown hK hP 0 rfl rfl 2 (by decide) hf13 (fun _ h9 => h9) rfl dX6_pass_386 ?_
        have hF := zfree hD hS hA
        refine zk_V (va_runV (As := [.int (σ 0 2)]) (rest := []) ⟨hx, hb, hml, hown, hts⟩ (c_X5_gets l D cI cB cS u bd sl (zs σ 10 k 0) (σ 0 2) (hV.bt0 hk) hk _) (cwV 1 hts gX6_pass_X5_gets rfl rfl rfl zdX5_gets ⟨Nat.le_of_ble_eq_true rfl, Nat.le_of_ble_eq_true rfl⟩) ⟨zbl _, va_recv hK hP (ci := 5) (q0 := (3 + nb + k)) rfl (zjq_S hk), zpr hK hP hD⟩ rfl rfl hl.1 rfl (lv_room (Nat.le_of_ble_eq_true rfl)) dX6_pass_389 ⟨Nat.zero_le _, Nat.zero_le _⟩) hS hF (fun H locs hkp hP1 hD1 hS => ?_)
        have hP := hP1
        have hD := hD1.weaken (fun _ _ _ z => hF _ z)
        have hP : va_P D vwCl (zj cB cS u bd sl nb ns (f_earn (zs σ 10 k 0) k (σ 0 2))) H := hP
        have hD : va_D A (zj cB cS u bd sl nb ns (f_earn (zs σ 10 k 0) k (σ 0 2))) := hD
        have e9 : f_try1 σ k b = f_earn (zs σ 10 k 0) k (σ 0 2) := by (unfold f_try1; rw [if_pos ⟨c_1, c_5, e10_2⟩]; rfl)
        exact kk _ _ _ (by rw [e9]; exact hP) (by rw [e9]; exact hD) hS (lv_sub hl [0, 1, 2, 3, 4, 5, 6, 7] rfl)
set_option maxHeartbeats 4000000 in
set_option maxRecDepth 100000 in
theorem p_try2 {p : Program} {l : Launch} {e : Env} {s : State} {m : MethodId} {args : Array Value} {below : List Frame} {meth : Method} {c : Code} {Q : State → Prop} {D : va_G} {cI cB cS : ClassId} {u bd sl : Nat → Nat} {A : Nat → Prop} {σ : zS} {H : Heap} {locs : List Loc} {ls : Array Slot} (C : zPa p s m args meth c D cI cB cS) (hA : ∀ q : Nat, s.heap.size ≤ q → A q) {nb ns h B k b : Nat} (hV : zV σ nb ns h B) (hk : k < ns) (hb9 : b < nb) (h12 : σ 12 k = 0) (hP : va_P D vwCl (zj cB cS u bd sl nb ns σ) H) (hD : va_D A (zj cB cS u bd sl nb ns σ)) (hS : va_S A s.heap H locs) (hl : lv_has ls 9 [(7, .ref (bd b)), (6, .ref (sl k)), (5, .int (nI k)), (4, .int (nI ns)), (3, .ref (u 2)), (2, .int (nI (h % 8))), (1, .int (nI (h % 24 / 8))), (0, .ref (u 0))])  (kk : ∀ (H : Heap) (locs : List Loc) (ls : Array Slot), va_P D vwCl (zj cB cS u bd sl nb ns (f_try2 σ k b)) H → va_D A (zj cB cS u bd sl nb ns (f_try2 σ k b)) → va_S A s.heap H locs → lv_has ls 9 [(5, .int (nI k)), (4, .int (nI ns)), (3, .ref (u 2)), (2, .int (nI (h % 8))), (1, .int (nI (h % 24 / 8))), (0, .ref (u 0))] → W p l e zRp s m args below meth c H locs 0 0 Q (F0 m 485 ls [])) : W p l e zRp s m args below meth c H locs 0 0 Q (F0 m 392 ls []) := by
  obtain ⟨hx, hb, hml, hown, hts, hK⟩ := C
  have hnb := hV.1.2.1
  have hns := hV.1.2.2.2.1
  have hh := hV.1.2.2.2.2.2.1
  have hf36 := hts (.fieldLink RX6 36 "HotBedsLaw$Bed" "price" "I") (by decide +kernel)
  have hf42 := hts (.fieldLink RX6 42 "HotBedsLaw$Bed" "times" "I") (by decide +kernel)
  have hf45 := hts (.fieldLink RX6 45 "HotBedsLaw$Bed" "coins" "I") (by decide +kernel)
  have hf59 := hts (.fieldLink RX6 59 "HotBedsLaw$Sailor" "purse" "I") (by decide +kernel)
  have hf70 := hts (.fieldLink RX6 70 "HotBedsLaw$Sailor" "in" "LHotBedsLaw$Bed;") (by decide +kernel)
  have hf73 := hts (.fieldLink RX6 73 "HotBedsLaw$Bed" "who" "LHotBedsLaw$Sailor;") (by decide +kernel)
  have hf77 := hts (.fieldLink RX6 77 "HotBedsLaw$Sailor" "onFloor" "Z") (by decide +kernel)
  have hf89 := hts (.fieldLink RX6 89 "HotBedsLaw$Sailor" "floors" "I") (by decide +kernel)
  have hinX4 : ∀ w ∈ u_ws RX4 TX4 6, w ∈ wsX6_pass := by decide +kernel
  have hinX5 : ∀ w ∈ u_ws RX5 TX5 13, w ∈ wsX6_pass := by decide +kernel
  refine lv_aload hx hb dX6_pass_392 (lv_at hl 0 rfl) ?_
  refine lv_ifnull hx hb dX6_pass_394 ?_
  refine lv_aload hx hb dX6_pass_397 (lv_at hl 1 rfl) ?_
  refine va_get (D := D) (ci := 5) (v := .int (σ 9 k)) (C := RX5) (T := TX5) (N := 13) hx hb hts hinX5 hown hK hP (3 + nb + k) (zjq_S hk) rfl 4 (by decide) hf59 (fun _ h9 => h9) rfl dX6_pass_399 ?_
  refine lv_aload hx hb dX6_pass_402 (lv_at hl 0 rfl) ?_
  refine va_get (D := D) (ci := 4) (v := .int (σ 1 b)) (C := RX4) (T := TX4) (N := 6) hx hb hts hinX4 hown hK hP (3 + b) (zjq_B hb9) rfl 0 (by decide) hf36 (fun _ h9 => h9) rfl dX6_pass_404 ?_
  refine lv_icmp_ge (tgt := 430) hx hb dX6_pass_407 (by decide) (fun c_1 => ?_) (fun c_1 => ?_)
  · refine lv_aload hx hb dX6_pass_430 (lv_at hl 1 rfl) ?_
    refine lv_dup hx hb dX6_pass_432 rfl ?_
    refine va_get (D := D) (ci := 5) (v := .int (σ 9 k)) (C := RX5) (T := TX5) (N := 13) hx hb hts hinX5 hown hK hP (3 + nb + k) (zjq_S hk) rfl 4 (by decide) hf59 (fun _ h9 => h9) rfl dX6_pass_433 ?_
    refine lv_aload hx hb dX6_pass_436 (lv_at hl 0 rfl) ?_
    refine va_get (D := D) (ci := 4) (v := .int (σ 1 b)) (C := RX4) (T := TX4) (N := 6) hx hb hts hinX4 hown hK hP (3 + b) (zjq_B hb9) rfl 0 (by decide) hf36 (fun _ h9 => h9) rfl dX6_pass_438 ?_
    refine lv_isub hx hb dX6_pass_441 ?_
    refine va_put (D := D) (ci := 5) (v := .int ((σ 9 k) - (σ 1 b))) (ty := .int) (C := RX5) (T := TX5) (N := 13) hx hb hts hinX5 tyX5 tyX5_ok nmX5 hown hK hP hD hS (3 + nb + k) (zjq_S hk) rfl 4 (by decide) hf59 (fun _ h9 => h9)  rfl (by decide +kernel) rfl rfl (Nat.le_of_ble_eq_true rfl) dX6_pass_442 (fun H locs hP hD hS => ?_)
    have hP : va_P D vwCl (zj cB cS u bd sl nb ns (zs σ 9 k ((σ 9 k) - (σ 1 b)))) H := by rw [← zjw9 hk _]; exact hP
    have hD : va_D A (zj cB cS u bd sl nb ns (zs σ 9 k ((σ 9 k) - (σ 1 b)))) := by rw [← zjw9 hk _]; exact hD
    refine lv_aload hx hb dX6_pass_445 (lv_at hl 0 rfl) ?_
    refine lv_dup hx hb dX6_pass_447 rfl ?_
    refine va_get (D := D) (ci := 4) (v := .int (σ 4 b)) (C := RX4) (T := TX4) (N := 6) hx hb hts hinX4 hown hK hP (3 + b) (zjq_B hb9) rfl 3 (by decide) hf45 (fun _ h9 => h9) rfl dX6_pass_448 ?_
    refine lv_aload hx hb dX6_pass_451 (lv_at hl 0 rfl) ?_
    refine va_get (D := D) (ci := 4) (v := .int (σ 1 b)) (C := RX4) (T := TX4) (N := 6) hx hb hts hinX4 hown hK hP (3 + b) (zjq_B hb9) rfl 0 (by decide) hf36 (fun _ h9 => h9) rfl dX6_pass_453 ?_
    refine lv_iadd hx hb dX6_pass_456 ?_
    refine va_put (D := D) (ci := 4) (v := .int ((σ 4 b) + (σ 1 b))) (ty := .int) (C := RX4) (T := TX4) (N := 6) hx hb hts hinX4 tyX4 tyX4_ok nmX4 hown hK hP hD hS (3 + b) (zjq_B hb9) rfl 3 (by decide) hf45 (fun _ h9 => h9)  rfl (by decide +kernel) rfl rfl (Nat.le_of_ble_eq_true rfl) dX6_pass_457 (fun H locs hP hD hS => ?_)
    have hP : va_P D vwCl (zj cB cS u bd sl nb ns (zs (zs σ 9 k ((σ 9 k) - (σ 1 b))) 4 b ((σ 4 b) + (σ 1 b)))) H := by rw [← zjw4 hb9 _]; exact hP
    have hD : va_D A (zj cB cS u bd sl nb ns (zs (zs σ 9 k ((σ 9 k) - (σ 1 b))) 4 b ((σ 4 b) + (σ 1 b)))) := by rw [← zjw4 hb9 _]; exact hD
    refine lv_aload hx hb dX6_pass_460 (lv_at hl 0 rfl) ?_
    refine lv_dup hx hb dX6_pass_462 rfl ?_
    refine va_get (D := D) (ci := 4) (v := .int (σ 3 b)) (C := RX4) (T := TX4) (N := 6) hx hb hts hinX4 hown hK hP (3 + b) (zjq_B hb9) rfl 2 (by decide) hf42 (fun _ h9 => h9) rfl dX6_pass_463 ?_
    refine lv_iconst (v := 1) hx hb dX6_pass_466 (by decide) ?_
    refine lv_iadd hx hb dX6_pass_467 ?_
    refine va_put (D := D) (ci := 4) (v := .int ((σ 3 b) + 1)) (ty := .int) (C := RX4) (T := TX4) (N := 6) hx hb hts hinX4 tyX4 tyX4_ok nmX4 hown hK hP hD hS (3 + b) (zjq_B hb9) rfl 2 (by decide) hf42 (fun _ h9 => h9)  rfl (by decide +kernel) rfl rfl (Nat.le_of_ble_eq_true rfl) dX6_pass_468 (fun H locs hP hD hS => ?_)
    have hP : va_P D vwCl (zj cB cS u bd sl nb ns (zs (zs (zs σ 9 k ((σ 9 k) - (σ 1 b))) 4 b ((σ 4 b) + (σ 1 b))) 3 b ((σ 3 b) + 1))) H := by rw [← zjw3 hb9 _]; exact hP
    have hD : va_D A (zj cB cS u bd sl nb ns (zs (zs (zs σ 9 k ((σ 9 k) - (σ 1 b))) 4 b ((σ 4 b) + (σ 1 b))) 3 b ((σ 3 b) + 1))) := by rw [← zjw3 hb9 _]; exact hD
    refine lv_aload hx hb dX6_pass_471 (lv_at hl 0 rfl) ?_
    refine lv_aload hx hb dX6_pass_473 (lv_at hl 1 rfl) ?_
    refine va_put (D := D) (ci := 4) (v := .ref (sl k)) (ty := .object "HotBedsLaw$Sailor") (C := RX4) (T := TX4) (N := 6) hx hb hts hinX4 tyX4 tyX4_ok nmX4 hown hK hP hD hS (3 + b) (zjq_B hb9) rfl 4 (by decide) hf73 (fun _ h9 => h9)  rfl (by decide +kernel) rfl rfl (Nat.le_of_ble_eq_true rfl) dX6_pass_475 (fun H locs hP hD hS => ?_)
    have hP : va_P D vwCl (zj cB cS u bd sl nb ns (zs (zs (zs (zs σ 9 k ((σ 9 k) - (σ 1 b))) 4 b ((σ 4 b) + (σ 1 b))) 3 b ((σ 3 b) + 1)) 5 b (nI k))) H := by rw [← zjw5r hb9 (j := k) (by omega)]; exact hP
    have hD : va_D A (zj cB cS u bd sl nb ns (zs (zs (zs (zs σ 9 k ((σ 9 k) - (σ 1 b))) 4 b ((σ 4 b) + (σ 1 b))) 3 b ((σ 3 b) + 1)) 5 b (nI k))) := by rw [← zjw5r hb9 (j := k) (by omega)]; exact hD
    refine lv_aload hx hb dX6_pass_478 (lv_at hl 1 rfl) ?_
    refine lv_aload hx hb dX6_pass_480 (lv_at hl 0 rfl) ?_
    refine va_put (D := D) (ci := 5) (v := .ref (bd b)) (ty := .object "HotBedsLaw$Bed") (C := RX5) (T := TX5) (N := 13) hx hb hts hinX5 tyX5 tyX5_ok nmX5 hown hK hP hD hS (3 + nb + k) (zjq_S hk) rfl 7 (by decide) hf70 (fun _ h9 => h9)  rfl (by decide +kernel) rfl rfl (Nat.le_of_ble_eq_true rfl) dX6_pass_482 (fun H locs hP hD hS => ?_)
    have hP : va_P D vwCl (zj cB cS u bd sl nb ns (zs (zs (zs (zs (zs σ 9 k ((σ 9 k) - (σ 1 b))) 4 b ((σ 4 b) + (σ 1 b))) 3 b ((σ 3 b) + 1)) 5 b (nI k)) 13 k (nI b))) H := by rw [← zjw13r hk (j := b) (by omega)]; exact hP
    have hD : va_D A (zj cB cS u bd sl nb ns (zs (zs (zs (zs (zs σ 9 k ((σ 9 k) - (σ 1 b))) 4 b ((σ 4 b) + (σ 1 b))) 3 b ((σ 3 b) + 1)) 5 b (nI k)) 13 k (nI b))) := by rw [← zjw13r hk (j := b) (by omega)]; exact hD
    have h9 : ¬ (zs (zs (zs (zs (zs σ 9 k ((σ 9 k) - (σ 1 b))) 4 b ((σ 4 b) + (σ 1 b))) 3 b ((σ 3 b) + 1)) 5 b (nI k)) 13 k (nI b)) 12 k = 2 := by show ¬ σ 12 k = 2; rw [h12]; decide
    have hP : va_P D vwCl (zj cB cS u bd sl nb ns (zs (zs (zs (zs (zs (zs σ 9 k ((σ 9 k) - (σ 1 b))) 4 b ((σ 4 b) + (σ 1 b))) 3 b ((σ 3 b) + 1)) 5 b (nI k)) 13 k (nI b)) 12 k 1)) H := by rw [zj_in h9]; exact hP
    have hD : va_D A (zj cB cS u bd sl nb ns (zs (zs (zs (zs (zs (zs σ 9 k ((σ 9 k) - (σ 1 b))) 4 b ((σ 4 b) + (σ 1 b))) 3 b ((σ 3 b) + 1)) 5 b (nI k)) 13 k (nI b)) 12 k 1)) := by rw [zj_in h9]; exact hD
    have e9 : f_try2 σ k b = zs (zs (zs (zs (zs (zs σ 9 k ((σ 9 k) - (σ 1 b))) 4 b ((σ 4 b) + (σ 1 b))) 3 b ((σ 3 b) + 1)) 5 b (nI k)) 13 k (nI b)) 12 k 1 := by (unfold f_try2; rw [if_neg (i32_nlt c_1)]; exact f_into_eq σ k b)
    exact kk _ _ _ (by rw [e9]; exact hP) (by rw [e9]; exact hD) hS (lv_sub hl [2, 3, 4, 5, 6, 7] rfl)
  · refine lv_aload hx hb dX6_pass_410 (lv_at hl 1 rfl) ?_
    refine lv_iconst (v := 1) hx hb dX6_pass_412 (by decide) ?_
    refine va_put (D := D) (ci := 5) (v := .int 1) (ty := .boolean) (C := RX5) (T := TX5) (N := 13) hx hb hts hinX5 tyX5 tyX5_ok nmX5 hown hK hP hD hS (3 + nb + k) (zjq_S hk) rfl 8 (by decide) hf77 (fun _ h9 => h9)  rfl (by decide +kernel) rfl rfl (Nat.le_of_ble_eq_true rfl) dX6_pass_413 (fun H locs hP hD hS => ?_)
    have hP : va_P D vwCl (zj cB cS u bd sl nb ns (zs σ 12 k 2)) H := by rw [← zjw12f hk]; exact hP
    have hD : va_D A (zj cB cS u bd sl nb ns (zs σ 12 k 2)) := by rw [← zjw12f hk]; exact hD
    refine lv_aload hx hb dX6_pass_416 (lv_at hl 1 rfl) ?_
    refine lv_dup hx hb dX6_pass_418 rfl ?_
    refine va_get (D := D) (ci := 5) (v := .int (σ 17 k)) (C := RX5) (T := TX5) (N := 13) hx hb hts hinX5 hown hK hP (3 + nb + k) (zjq_S hk) rfl 12 (by decide) hf89 (fun _ h9 => h9) rfl dX6_pass_419 ?_
    refine lv_iconst (v := 1) hx hb dX6_pass_422 (by decide) ?_
    refine lv_iadd hx hb dX6_pass_423 ?_
    refine va_put (D := D) (ci := 5) (v := .int ((σ 17 k) + 1)) (ty := .int) (C := RX5) (T := TX5) (N := 13) hx hb hts hinX5 tyX5 tyX5_ok nmX5 hown hK hP hD hS (3 + nb + k) (zjq_S hk) rfl 12 (by decide) hf89 (fun _ h9 => h9)  rfl (by decide +kernel) rfl rfl (Nat.le_of_ble_eq_true rfl) dX6_pass_424 (fun H locs hP hD hS => ?_)
    have hP : va_P D vwCl (zj cB cS u bd sl nb ns (zs (zs σ 12 k 2) 17 k ((σ 17 k) + 1))) H := by rw [← zjw17 hk _]; exact hP
    have hD : va_D A (zj cB cS u bd sl nb ns (zs (zs σ 12 k 2) 17 k ((σ 17 k) + 1))) := by rw [← zjw17 hk _]; exact hD
    refine lv_goto (tgt := 485) hx hb dX6_pass_427 (by decide) ?_
    have e9 : f_try2 σ k b = zs (zs σ 12 k 2) 17 k ((σ 17 k) + 1) := by (unfold f_try2; rw [if_pos (i32_lt c_1)]; rfl)
    exact kk _ _ _ (by rw [e9]; exact hP) (by rw [e9]; exact hD) hS (lv_sub hl [2, 3, 4, 5, 6, 7] rfl)
set_option maxHeartbeats 4000000 in
set_option maxRecDepth 100000 in
theorem p_look {p : Program} {l : Launch} {e : Env} {s : State} {m : MethodId} {args : Array Value} {below : List Frame} {meth : Method} {c : Code} {Q : State → Prop} {D : va_G} {cI cB cS : ClassId} {u bd sl : Nat → Nat} {A : Nat → Prop} {σ : zS} {H : Heap} {locs : List Loc} {ls : Array Slot} (C : zPa p s m args meth c D cI cB cS) (hA : ∀ q : Nat, s.heap.size ≤ q → A q) {nb ns h B k : Nat} (hV : zV σ nb ns h B) (hk : k < ns) (h12 : σ 12 k = 0) (hP : va_P D vwCl (zj cB cS u bd sl nb ns σ) H) (hD : va_D A (zj cB cS u bd sl nb ns σ)) (hS : va_S A s.heap H locs) (hl : lv_has ls 9 [(6, .ref (sl k)), (5, .int (nI k)), (4, .int (nI ns)), (3, .ref (u 2)), (2, .int (nI (h % 8))), (1, .int (nI (h % 24 / 8))), (0, .ref (u 0))])  (kk : ∀ (H : Heap) (locs : List Loc) (ls : Array Slot), va_P D vwCl (zj cB cS u bd sl nb ns (f_look σ nb h k)) H → va_D A (zj cB cS u bd sl nb ns (f_look σ nb h k)) → va_S A s.heap H locs → lv_has ls 9 [(5, .int (nI k)), (4, .int (nI ns)), (3, .ref (u 2)), (2, .int (nI (h % 8))), (1, .int (nI (h % 24 / 8))), (0, .ref (u 0))] → W p l e zRp s m args below meth c H locs 0 0 Q (F0 m 485 ls [])) : W p l e zRp s m args below meth c H locs 0 0 Q (F0 m 312 ls []) := by
  obtain ⟨hx, hb, hml, hown, hts, hK⟩ := C
  have hnb := hV.1.2.1
  have hns := hV.1.2.2.2.1
  have hh := hV.1.2.2.2.2.2.1
  have hf77 := hts (.fieldLink RX6 77 "HotBedsLaw$Sailor" "onFloor" "Z") (by decide +kernel)
  have hf89 := hts (.fieldLink RX6 89 "HotBedsLaw$Sailor" "floors" "I") (by decide +kernel)
  have hinX5 : ∀ w ∈ u_ws RX5 TX5 13, w ∈ wsX6_pass := by decide +kernel
  have C0 : zPa p s m args meth c D cI cB cS := ⟨hx, hb, hml, hown, hts, hK⟩
  refine lv_aload_n hx hb dX6_pass_312 rfl (lv_at hl 6 rfl) ?_
  refine lv_aload hx hb dX6_pass_313 (lv_at hl 0 rfl) ?_
  refine zk_F (D := D) (va_runV (As := [.ref (sl k)]) (rest := []) ⟨hx, hb, hml, hown, hts⟩ (c_X6_free l D cI cB cS u bd sl σ hV hk _) (cwV 1 hts gX6_pass_X6_free rfl rfl rfl zdX6_free ⟨Nat.le_of_ble_eq_true rfl, Nat.le_of_ble_eq_true rfl⟩) ⟨zbl _, va_recv hK hP (ci := 6) (q0 := 0) rfl rfl, zpr hK hP hD⟩ rfl rfl hl.1 rfl (lv_room (Nat.le_of_ble_eq_true rfl)) dX6_pass_315 ⟨Nat.zero_le _, Nat.zero_le _⟩) hS (fun r H locs hw hkp hS => ?_)
  have hP := hkp _ hP
  have hw : r = zro bd (f_choose σ nb k) := hw
  rcases f_choose_ok (k := k) hV.1 with ec | ⟨b, hb9, ec, h5⟩
  · rw [zro_n ec] at hw
    subst hw
    refine W.eq (g2 := F0 m 318 ls [.null]) rfl ?_
    refine lv_astoreN (lv' := [(7, .null), (6, .ref (sl k)), (5, .int (nI k)), (4, .int (nI ns)), (3, .ref (u 2)), (2, .int (nI (h % 8))), (1, .int (nI (h % 24 / 8))), (0, .ref (u 0))]) hx hb dX6_pass_318 hl (by decide) rfl (fun ls hl => ?_)
    refine lv_aloadN hx hb dX6_pass_320 (lv_at hl 0 rfl) ?_
    refine lv_ifnonnullN hx hb dX6_pass_322 ?_
    refine lv_iload_n hx hb dX6_pass_325 rfl (lv_at hl 5 rfl) ?_
    refine lv_iconst (v := 4) hx hb dX6_pass_326 (by decide) ?_
    refine lv_icmp_ge (tgt := 333) hx hb dX6_pass_327 (by decide) (fun c_1 => ?_) (fun c_1 => ?_)
    · refine lv_aloadN hx hb dX6_pass_333 (lv_at hl 0 rfl) ?_
      refine lv_ifnullN (tgt := 392) hx hb dX6_pass_335 (by decide) ?_
      refine lv_aloadN hx hb dX6_pass_392 (lv_at hl 0 rfl) ?_
      refine lv_ifnullN (tgt := 410) hx hb dX6_pass_394 (by decide) ?_
      refine lv_aload hx hb dX6_pass_410 (lv_at hl 1 rfl) ?_
      refine lv_iconst (v := 1) hx hb dX6_pass_412 (by decide) ?_
      refine va_put (D := D) (ci := 5) (v := .int 1) (ty := .boolean) (C := RX5) (T := TX5) (N := 13) hx hb hts hinX5 tyX5 tyX5_ok nmX5 hown hK hP hD hS (3 + nb + k) (zjq_S hk) rfl 8 (by decide) hf77 (fun _ h9 => h9)  rfl (by decide +kernel) rfl rfl (Nat.le_of_ble_eq_true rfl) dX6_pass_413 (fun H locs hP hD hS => ?_)
      have hP : va_P D vwCl (zj cB cS u bd sl nb ns (zs σ 12 k 2)) H := by rw [← zjw12f hk]; exact hP
      have hD : va_D A (zj cB cS u bd sl nb ns (zs σ 12 k 2)) := by rw [← zjw12f hk]; exact hD
      refine lv_aload hx hb dX6_pass_416 (lv_at hl 1 rfl) ?_
      refine lv_dup hx hb dX6_pass_418 rfl ?_
      refine va_get (D := D) (ci := 5) (v := .int (σ 17 k)) (C := RX5) (T := TX5) (N := 13) hx hb hts hinX5 hown hK hP (3 + nb + k) (zjq_S hk) rfl 12 (by decide) hf89 (fun _ h9 => h9) rfl dX6_pass_419 ?_
      refine lv_iconst (v := 1) hx hb dX6_pass_422 (by decide) ?_
      refine lv_iadd hx hb dX6_pass_423 ?_
      refine va_put (D := D) (ci := 5) (v := .int ((σ 17 k) + 1)) (ty := .int) (C := RX5) (T := TX5) (N := 13) hx hb hts hinX5 tyX5 tyX5_ok nmX5 hown hK hP hD hS (3 + nb + k) (zjq_S hk) rfl 12 (by decide) hf89 (fun _ h9 => h9)  rfl (by decide +kernel) rfl rfl (Nat.le_of_ble_eq_true rfl) dX6_pass_424 (fun H locs hP hD hS => ?_)
      have hP : va_P D vwCl (zj cB cS u bd sl nb ns (zs (zs σ 12 k 2) 17 k ((σ 17 k) + 1))) H := by rw [← zjw17 hk _]; exact hP
      have hD : va_D A (zj cB cS u bd sl nb ns (zs (zs σ 12 k 2) 17 k ((σ 17 k) + 1))) := by rw [← zjw17 hk _]; exact hD
      refine lv_goto (tgt := 485) hx hb dX6_pass_427 (by decide) ?_
      have e9 : f_look σ nb h k = zs (zs σ 12 k 2) 17 k ((σ 17 k) + 1) := by (unfold f_look; rw [ec, if_neg zm1_nhas, if_neg (i32_nlt c_1)]; rfl)
      exact kk _ _ _ (by rw [e9]; exact hP) (by rw [e9]; exact hD) hS (lv_sub hl [2, 3, 4, 5, 6, 7] rfl)
    · refine lv_goto (tgt := 485) hx hb dX6_pass_330 (by decide) ?_
      have e9 : f_look σ nb h k = σ := by (unfold f_look; rw [ec, if_neg zm1_nhas, if_pos (i32_lt c_1)])
      exact kk _ _ _ (by rw [e9]; exact hP) (by rw [e9]; exact hD) hS (lv_sub hl [2, 3, 4, 5, 6, 7] rfl)
  · rw [zro_r ec (by omega)] at hw
    subst hw
    refine W.eq (g2 := F0 m 318 ls [.ref (bd b)]) rfl ?_
    refine lv_astore (lv' := [(7, .ref (bd b)), (6, .ref (sl k)), (5, .int (nI k)), (4, .int (nI ns)), (3, .ref (u 2)), (2, .int (nI (h % 8))), (1, .int (nI (h % 24 / 8))), (0, .ref (u 0))]) hx hb dX6_pass_318 hl (by decide) rfl (fun ls hl => ?_)
    refine lv_aload hx hb dX6_pass_320 (lv_at hl 0 rfl) ?_
    refine lv_ifnonnull (tgt := 333) hx hb dX6_pass_322 (by decide) ?_
    refine lv_aload hx hb dX6_pass_333 (lv_at hl 0 rfl) ?_
    refine lv_ifnull hx hb dX6_pass_335 ?_
    refine p_try1 C0 hA hV hk hb9 hP hD hS (lv_sub hl [0, 1, 2, 3, 4, 5, 6, 7] rfl) (fun H locs ls hP hD hS hl => ?_)
    refine p_try2 C0 hA (hV.try1 hk) hk hb9 (by rw [f_try1_12]; exact h12) hP hD hS (lv_sub hl [0, 1, 2, 3, 4, 5, 6, 7] rfl) (fun H locs ls hP hD hS hl => ?_)
    have e9 : f_look σ nb h k = f_try2 (f_try1 σ k b) k b := by unfold f_look; rw [ec, if_pos (hV.zhas hb9), nI_clamp (by omega), f_try_2]
    exact kk _ _ _ (by rw [e9]; exact hP) (by rw [e9]; exact hD) hS (lv_sub hl [0, 1, 2, 3, 4, 5] rfl)
set_option maxHeartbeats 4000000 in
set_option maxRecDepth 100000 in
theorem p_serve1 {p : Program} {l : Launch} {e : Env} {s : State} {m : MethodId} {args : Array Value} {below : List Frame} {meth : Method} {c : Code} {Q : State → Prop} {D : va_G} {cI cB cS : ClassId} {u bd sl : Nat → Nat} {A : Nat → Prop} {σ : zS} {H : Heap} {locs : List Loc} {ls : Array Slot} (C : zPa p s m args meth c D cI cB cS) (hA : ∀ q : Nat, s.heap.size ≤ q → A q) {nb ns h B k : Nat} (hV : zV σ nb ns h B) (hk : k < ns) (hP : va_P D vwCl (zj cB cS u bd sl nb ns σ) H) (hD : va_D A (zj cB cS u bd sl nb ns σ)) (hS : va_S A s.heap H locs) (hl : lv_has ls 9 [(6, .ref (sl k)), (5, .int (nI k)), (4, .int (nI ns)), (3, .ref (u 2)), (2, .int (nI (h % 8))), (1, .int (nI (h % 24 / 8))), (0, .ref (u 0))])  (kk : ∀ (H : Heap) (locs : List Loc) (ls : Array Slot), va_P D vwCl (zj cB cS u bd sl nb ns (f_serve σ nb h k)) H → va_D A (zj cB cS u bd sl nb ns (f_serve σ nb h k)) → va_S A s.heap H locs → lv_has ls 9 [(5, .int (nI k)), (4, .int (nI ns)), (3, .ref (u 2)), (2, .int (nI (h % 8))), (1, .int (nI (h % 24 / 8))), (0, .ref (u 0))] → W p l e zRp s m args below meth c H locs 0 0 Q (F0 m 485 ls [])) : W p l e zRp s m args below meth c H locs 0 0 Q (F0 m 184 ls []) := by
  obtain ⟨hx, hb, hml, hown, hts, hK⟩ := C
  have hnb := hV.1.2.1
  have hns := hV.1.2.2.2.1
  have hh := hV.1.2.2.2.2.2.1
  have hf50 := hts (.fieldLink RX6 50 "HotBedsLaw$Sailor" "watch" "I") (by decide +kernel)
  have hf70 := hts (.fieldLink RX6 70 "HotBedsLaw$Sailor" "in" "LHotBedsLaw$Bed;") (by decide +kernel)
  have hf77 := hts (.fieldLink RX6 77 "HotBedsLaw$Sailor" "onFloor" "Z") (by decide +kernel)
  have hinX5 : ∀ w ∈ u_ws RX5 TX5 13, w ∈ wsX6_pass := by decide +kernel
  have C0 : zPa p s m args meth c D cI cB cS := ⟨hx, hb, hml, hown, hts, hK⟩
  refine lv_aload hx hb dX6_pass_184 (lv_at hl 0 rfl) ?_
  refine va_get (D := D) (ci := 5) (v := .int (σ 6 k)) (C := RX5) (T := TX5) (N := 13) hx hb hts hinX5 hown hK hP (3 + nb + k) (zjq_S hk) rfl 1 (by decide) hf50 (fun _ h9 => h9) rfl dX6_pass_186 ?_
  refine lv_iload_n hx hb dX6_pass_189 rfl (lv_at hl 5 rfl) ?_
  refine lv_icmp_eq (tgt := 196) hx hb dX6_pass_190 (by decide) (fun c_1 => ?_) (fun c_1 => ?_)
  · refine lv_iload_n hx hb dX6_pass_196 rfl (lv_at hl 4 rfl) ?_
    refine lv_if_ne (tgt := 293) hx hb dX6_pass_197 (by decide) (fun c_2 => ?_) (fun c_2 => ?_)
    · have e8 : f_payR σ h k = σ := by unfold f_payR; rw [if_neg c_2]
      have hP : va_P D vwCl (zj cB cS u bd sl nb ns (f_payR σ h k)) H := by rw [e8]; exact hP
      have hD : va_D A (zj cB cS u bd sl nb ns (f_payR σ h k)) := by rw [e8]; exact hD
      refine lv_aload hx hb dX6_pass_293 (lv_at hl 0 rfl) ?_
      rcases zplace (((hV.payR (h' := h) hk).ksk hk).2.2.2.1) with ⟨e12b_3, b_3, hb_3, e13b_3⟩ | ⟨e12b_3, e13b_3⟩ | ⟨e12b_3, e13b_3⟩
      · refine va_get (D := D) (ci := 5) (v := .ref (bd b_3)) (C := RX5) (T := TX5) (N := 13) hx hb hts hinX5 hown hK hP (3 + nb + k) (zjq_S hk) rfl 7 (by decide) hf70 (fun _ h9 => h9) (congrArg some (zrf_r e13b_3 (by omega))) dX6_pass_295 ?_
        refine lv_ifnonnull (tgt := 485) hx hb dX6_pass_298 (by decide) ?_
        have e9 : f_serve σ nb h k = f_payR σ h k := by unfold f_serve; rw [if_pos c_1, if_neg (by rw [e12b_3]; decide)]
        exact kk _ _ _ (by rw [e9]; exact hP) (by rw [e9]; exact hD) hS (lv_sub hl [1, 2, 3, 4, 5, 6] rfl)
      · refine va_get (D := D) (ci := 5) (v := .null) (C := RX5) (T := TX5) (N := 13) hx hb hts hinX5 hown hK hP (3 + nb + k) (zjq_S hk) rfl 7 (by decide) hf70 (fun _ h9 => h9) (congrArg some (zrf_n e13b_3)) dX6_pass_295 ?_
        refine lv_ifnonnullN hx hb dX6_pass_298 ?_
        refine lv_aload hx hb dX6_pass_301 (lv_at hl 0 rfl) ?_
        refine va_get (D := D) (ci := 5) (v := .int 0) (C := RX5) (T := TX5) (N := 13) hx hb hts hinX5 hown hK hP (3 + nb + k) (zjq_S hk) rfl 8 (by decide) hf77 (fun _ h9 => h9) (congrArg (fun z => some (Value.int z)) (zfl_0 e12b_3)) dX6_pass_303 ?_
        refine lv_if_eq (tgt := 312) hx hb dX6_pass_306 (by decide) (fun _ => ?_) (fun c => absurd (by decide) c)
        refine p_look C0 hA (hV.payR (h' := h) hk) hk e12b_3 hP hD hS (lv_sub hl [0, 1, 2, 3, 4, 5, 6] rfl) (fun H locs ls hP hD hS hl => ?_)
        have e9 : f_serve σ nb h k = f_look (f_payR σ h k) nb h k := by unfold f_serve; rw [if_pos c_1, if_pos e12b_3]
        exact kk _ _ _ (by rw [e9]; exact hP) (by rw [e9]; exact hD) hS (lv_sub hl [0, 1, 2, 3, 4, 5] rfl)
      · refine va_get (D := D) (ci := 5) (v := .null) (C := RX5) (T := TX5) (N := 13) hx hb hts hinX5 hown hK hP (3 + nb + k) (zjq_S hk) rfl 7 (by decide) hf70 (fun _ h9 => h9) (congrArg some (zrf_n e13b_3)) dX6_pass_295 ?_
        refine lv_ifnonnullN hx hb dX6_pass_298 ?_
        refine lv_aload hx hb dX6_pass_301 (lv_at hl 0 rfl) ?_
        refine va_get (D := D) (ci := 5) (v := .int 1) (C := RX5) (T := TX5) (N := 13) hx hb hts hinX5 hown hK hP (3 + nb + k) (zjq_S hk) rfl 8 (by decide) hf77 (fun _ h9 => h9) (congrArg (fun z => some (Value.int z)) (zfl_2 e12b_3)) dX6_pass_303 ?_
        refine lv_if_eq (tgt := 312) hx hb dX6_pass_306 (by decide) (fun c => absurd c (by decide)) (fun _ => ?_)
        refine lv_goto (tgt := 485) hx hb dX6_pass_309 (by decide) ?_
        have e9 : f_serve σ nb h k = f_payR σ h k := by unfold f_serve; rw [if_pos c_1, if_neg (by rw [e12b_3]; decide)]
        exact kk _ _ _ (by rw [e9]; exact hP) (by rw [e9]; exact hD) hS (lv_sub hl [1, 2, 3, 4, 5, 6] rfl)
    · refine p_pay C0 hA hV hk c_2 hP hD hS (lv_sub hl [0, 1, 2, 3, 4, 5, 6] rfl) (fun H locs ls hP hD hS hl => ?_)
      refine lv_aload hx hb dX6_pass_293 (lv_at hl 0 rfl) ?_
      rcases zplace (((hV.payR (h' := h) hk).ksk hk).2.2.2.1) with ⟨e12b_6, b_6, hb_6, e13b_6⟩ | ⟨e12b_6, e13b_6⟩ | ⟨e12b_6, e13b_6⟩
      · refine va_get (D := D) (ci := 5) (v := .ref (bd b_6)) (C := RX5) (T := TX5) (N := 13) hx hb hts hinX5 hown hK hP (3 + nb + k) (zjq_S hk) rfl 7 (by decide) hf70 (fun _ h9 => h9) (congrArg some (zrf_r e13b_6 (by omega))) dX6_pass_295 ?_
        refine lv_ifnonnull (tgt := 485) hx hb dX6_pass_298 (by decide) ?_
        have e9 : f_serve σ nb h k = f_payR σ h k := by unfold f_serve; rw [if_pos c_1, if_neg (by rw [e12b_6]; decide)]
        exact kk _ _ _ (by rw [e9]; exact hP) (by rw [e9]; exact hD) hS (lv_sub hl [1, 2, 3, 4, 5, 6] rfl)
      · refine va_get (D := D) (ci := 5) (v := .null) (C := RX5) (T := TX5) (N := 13) hx hb hts hinX5 hown hK hP (3 + nb + k) (zjq_S hk) rfl 7 (by decide) hf70 (fun _ h9 => h9) (congrArg some (zrf_n e13b_6)) dX6_pass_295 ?_
        refine lv_ifnonnullN hx hb dX6_pass_298 ?_
        refine lv_aload hx hb dX6_pass_301 (lv_at hl 0 rfl) ?_
        refine va_get (D := D) (ci := 5) (v := .int 0) (C := RX5) (T := TX5) (N := 13) hx hb hts hinX5 hown hK hP (3 + nb + k) (zjq_S hk) rfl 8 (by decide) hf77 (fun _ h9 => h9) (congrArg (fun z => some (Value.int z)) (zfl_0 e12b_6)) dX6_pass_303 ?_
        refine lv_if_eq (tgt := 312) hx hb dX6_pass_306 (by decide) (fun _ => ?_) (fun c => absurd (by decide) c)
        refine p_look C0 hA (hV.payR (h' := h) hk) hk e12b_6 hP hD hS (lv_sub hl [0, 1, 2, 3, 4, 5, 6] rfl) (fun H locs ls hP hD hS hl => ?_)
        have e9 : f_serve σ nb h k = f_look (f_payR σ h k) nb h k := by unfold f_serve; rw [if_pos c_1, if_pos e12b_6]
        exact kk _ _ _ (by rw [e9]; exact hP) (by rw [e9]; exact hD) hS (lv_sub hl [0, 1, 2, 3, 4, 5] rfl)
      · refine va_get (D := D) (ci := 5) (v := .null) (C := RX5) (T := TX5) (N := 13) hx hb hts hinX5 hown hK hP (3 + nb + k) (zjq_S hk) rfl 7 (by decide) hf70 (fun _ h9 => h9) (congrArg some (zrf_n e13b_6)) dX6_pass_295 ?_
        refine lv_ifnonnullN hx hb dX6_pass_298 ?_
        refine lv_aload hx hb dX6_pass_301 (lv_at hl 0 rfl) ?_
        refine va_get (D := D) (ci := 5) (v := .int 1) (C := RX5) (T := TX5) (N := 13) hx hb hts hinX5 hown hK hP (3 + nb + k) (zjq_S hk) rfl 8 (by decide) hf77 (fun _ h9 => h9) (congrArg (fun z => some (Value.int z)) (zfl_2 e12b_6)) dX6_pass_303 ?_
        refine lv_if_eq (tgt := 312) hx hb dX6_pass_306 (by decide) (fun c => absurd c (by decide)) (fun _ => ?_)
        refine lv_goto (tgt := 485) hx hb dX6_pass_309 (by decide) ?_
        have e9 : f_serve σ nb h k = f_payR σ h k := by unfold f_serve; rw [if_pos c_1, if_neg (by rw [e12b_6]; decide)]
        exact kk _ _ _ (by rw [e9]; exact hP) (by rw [e9]; exact hD) hS (lv_sub hl [1, 2, 3, 4, 5, 6] rfl)
  · refine lv_goto (tgt := 485) hx hb dX6_pass_193 (by decide) ?_
    have e9 : f_serve σ nb h k = σ := by unfold f_serve; rw [if_neg c_1]
    exact kk _ _ _ (by rw [e9]; exact hP) (by rw [e9]; exact hD) hS (lv_sub hl [1, 2, 3, 4, 5, 6] rfl)
