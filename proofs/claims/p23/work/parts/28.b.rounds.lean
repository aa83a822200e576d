section ZKA2
variable {p : Program} {l : Launch} {e : Env} {R : Room} {s : State} {m : MethodId} {args : Array Value} {below : List Frame} {meth : Method} {c : Code} {H : Heap} {locs : List Loc} {cells slots : Nat} {Q : State → Prop}
variable {pc : Nat} {ls : Array Slot} {rest st0 : List Value} {a : Array Value} {A0 : Nat → Prop} {H0 : Heap} {D : va_G} {tys : List (ClassId × FieldType)} {w : va_W} {mc ms : Nat}
theorem zk_A2 {w1 : zQ → va_W} {post : zQ → Prop} (hr : va_Run p l e R s m args below meth c H locs cells slots mc ms (F0 m pc ls st0) rest (va_Qi (fun (r : Int32) (Z : zQ) => r = 1 ∧ post Z) (fun Z t => zQW D tys (w1 Z) (va_A w H.size) t) (va_A w H.size) a) (va_A w H.size)) (hS : va_S A0 H0 H locs) (hF : ∀ q, va_A w H.size q → A0 q)
    (kk : ∀ (Z : zQ) (H1 : Heap) (locs1 : List Loc), post Z → (∀ q : Nat, q < H.size → ¬ va_A w H.size q → H1[q]? = H[q]?) → va_P D vwCl (w1 Z) H1 → va_D (va_A w H.size) (w1 Z) → va_S A0 H0 H1 locs1 → W p l e R s m args below meth c H1 locs1 (cells + mc) (slots + ms) Q (F0 m (pc + 3) ls (.int 1 :: rest))) : W p l e R s m args below meth c H locs cells slots Q (F0 m pc ls st0) := by
  refine va_calli hr hS (fun q _ h => hF q h) hF (fun r Z t H1 locs1 ht hvm hw hB hz1 hk1 hS1 => ?_)
  obtain ⟨rfl, hw⟩ := hw
  exact kk Z H1 locs1 hw hk1 (by rw [← ht]; exact hB.1) hB.2.2 hS1
end ZKA2
def zRd (cI cB cS : ClassId) (x : Nat) (a b : Nat → Nat) (τ : zS) (a3 a4 a5 q0 N : Nat) (D : va_G) (A : Nat → Prop) (H : Heap) (Z : zQ) (R Lt Fl : Nat → Int32) : Prop :=
  zIv q0 N Z ∧ zmA R Lt Fl Z.1 ∧ va_P D vwCl (zWZ cI cB cS x a b τ Z ++ [(a3, .inl (cI, 10, .inl R)), (a4, .inl (cI, 10, .inl Lt)), (a5, .inl (cI, 10, .inl Fl))]) H ∧ va_D A (zWZ cI cB cS x a b τ Z ++ [(a3, .inl (cI, 10, .inl R)), (a4, .inl (cI, 10, .inl Lt)), (a5, .inl (cI, 10, .inl Fl))])
set_option maxHeartbeats 4000000 in
set_option maxRecDepth 100000 in
theorem law_rounds {p : Program} {l : Launch} {e : Env} {s : State} {m : MethodId} {below : List Frame} {meth : Method} {c : Code} {Q : State → Prop} {D : va_G} {cI cB cS : ClassId} {x b0 L : Nat} {xs : Nat → Int32} {a b : Nat → Nat} {A : Nat → Prop} {τ : zS} {a3 a4 a5 : Nat} {R Lt Fl : Nat → Int32} {q0 : Nat} {H : Heap} {locs : List Loc} {ls : Array Slot} (C : zLw p s m meth c D cI cB cS b0 L xs A) (hA : ∀ q : Nat, s.heap.size ≤ q → A q) {Z0 : zQ} (hI0 : zRd cI cB cS x a b τ a3 a4 a5 q0 (345 + 6 * 0) D A H Z0 R Lt Fl) (hS : va_S A s.heap H locs) (hl : lv_has ls 20 [(6, .int (nI 0)), (5, .ref a5), (4, .ref a4), (3, .ref a3), (2, .ref q0), (1, .ref x), (0, .ref b0)]) (kk : ∀ (σ : zS) (u bd sl : Nat → Nat) (nb ns h : Nat) (R Lt Fl : Nat → Int32) (H : Heap) (locs : List Loc) (ls : Array Slot), zG σ nb ns h → h ≤ 1000 → va_P D vwCl ((zw_X cI x a b σ τ ++ zj cB cS u bd sl nb ns σ) ++ [(a3, .inl (cI, 10, .inl R)), (a4, .inl (cI, 10, .inl Lt)), (a5, .inl (cI, 10, .inl Fl))]) H → va_D A ((zw_X cI x a b σ τ ++ zj cB cS u bd sl nb ns σ) ++ [(a3, .inl (cI, 10, .inl R)), (a4, .inl (cI, 10, .inl Lt)), (a5, .inl (cI, 10, .inl Fl))]) → va_S A s.heap H locs → lv_has ls 20 [(2, .ref (u 0)), (1, .ref x), (0, .ref b0)] → W p l e room_1 s m #[Value.ref b0] below meth c H locs 265 2892 Q (F0 m 678 ls [])) : W p l e room_1 s m #[Value.ref b0] below meth c H locs 185 1972 Q (F0 m 40 ls []) := by
  have C0 := C
  obtain ⟨hx, hb, hml, hown, hts, hK, hL, hX, hL2, hbl, hbA⟩ := C
  refine zk_loopC (pc := 40) (fun k H locs ls => ∃ (Z : zQ) (R Lt Fl : Nat → Int32), zRd cI cB cS x a b τ a3 a4 a5 q0 (345 + 6 * k) D A H Z R Lt Fl ∧ va_S A s.heap H locs ∧ lv_has ls 20 [(6, .int (nI k)), (5, .ref a5), (4, .ref a4), (3, .ref a3), (2, .ref q0), (1, .ref x), (0, .ref b0)]) 40 (fun k => 185 + 2 * k) (fun k => 1972 + 23 * k) (fun k hk ih H locs ls hI => ?_) (fun H locs ls hI => ?_) _ _ _ ⟨Z0, R, Lt, Fl, hI0, hS, hl⟩
  · obtain ⟨⟨σ, u, bd, sl, nb, ns, h⟩, R, Lt, Fl, ⟨⟨hz0, hV, hh5⟩, hmo, hP, hD⟩, hS, hl⟩ := hI
    have hz0 : u 0 = q0 := hz0
    have hV : zG σ nb ns h := hV
    have hmo : zmA R Lt Fl σ := hmo
    have hP : va_P D vwCl ((zw_X cI x a b σ τ ++ zj cB cS u bd sl nb ns σ) ++ [(a3, .inl (cI, 10, .inl R)), (a4, .inl (cI, 10, .inl Lt)), (a5, .inl (cI, 10, .inl Fl))]) H := hP
    have hD : va_D A ((zw_X cI x a b σ τ ++ zj cB cS u bd sl nb ns σ) ++ [(a3, .inl (cI, 10, .inl R)), (a4, .inl (cI, 10, .inl Lt)), (a5, .inl (cI, 10, .inl Fl))]) := hD
    have hh5 : h ≤ 345 + 6 * k := hh5
    rw [← hz0] at hl
    refine W.widen (k := 185 + 2 * k) (n := 1972 + 23 * k) (Nat.le_refl _) (Nat.le_refl _) ?_
    refine lv_iload hx hb dL_law_40 (lv_at hl 0 rfl) ?_
    refine lv_bipush (v := 40) hx hb dL_law_42 (by decide) ?_
    refine lv_icmp_ge (tgt := 678) hx hb dL_law_44 (by decide) (fun c => absurd c (nI_ge (b := 40) hk (by decide))) (fun _ => ?_)
    refine lv_aload_n hx hb dL_law_47 rfl (lv_at hl 6 rfl) ?_
    refine lv_iload hx hb dL_law_48 (lv_at hl 0 rfl) ?_
    refine lv_bipush (v := 16) hx hb dL_law_50 (by decide) ?_
    refine zk_rem (x := k) (y := 16) hx hb dL_law_52 (by omega) (by decide) (by decide) ?_
    refine zk_R (D := D) (va_runS (As := [.ref b0, .int (nI (k % 16))]) (rest := []) ⟨hx, hb, hml, hown, hts⟩ (c_L_cell l b0 L xs (k := k % 16) (by omega)) (va_cwS 2 hts gL_law_L_cell rfl rfl rfl zdL_cell.2 ⟨Nat.le_of_ble_eq_true rfl, Nat.le_of_ble_eq_true rfl⟩) ⟨zbls _, zprs hX hL2 hbl hbA hS⟩ rfl rfl hl.1 rfl (lv_room (Nat.le_of_ble_eq_true rfl)) dL_law_53 ⟨by show _ ≤ 772990; omega, by show _ ≤ 6782653; omega⟩) hS (fun r_2 H locs hw hkp hS => ?_)
    have hP := hkp _ hP
    refine lv_iload hx hb dL_law_56 (lv_at hl 0 rfl) ?_
    refine lv_bipush (v := 16) hx hb dL_law_58 (by decide) ?_
    refine zk_div (x := k) (y := 16) hx hb dL_law_60 (by omega) (by decide) (by decide) ?_
    refine lv_iconst (v := 3) hx hb dL_law_61 (by decide) ?_
    refine zk_mul (x := (k / 16)) (y := 3) hx hb dL_law_62 ?_
    refine lv_ishr hx hb dL_law_63 ?_
    refine lv_sipush (v := 479) hx hb dL_law_64 (by decide) ?_
    refine lv_iload hx hb dL_law_67 (lv_at hl 0 rfl) ?_
    refine zk_mul (x := 479) (y := k) hx hb dL_law_69 ?_
    refine lv_iadd hx hb dL_law_70 ?_
    refine lv_istore (lv' := [(7, .int ((r_2 >>> ((nI ((k / 16) * 3) : Int32) &&& 31)) + (nI (479 * k)))), (6, .int (nI k)), (5, .ref a5), (4, .ref a4), (3, .ref a3), (2, .ref (u 0)), (1, .ref x), (0, .ref b0)]) hx hb dL_law_71 hl (by decide) rfl (fun ls hl => ?_)
    refine lv_aload_n hx hb dL_law_73 rfl (lv_at hl 6 rfl) ?_
    refine lv_aload_n hx hb dL_law_74 rfl (lv_at hl 5 rfl) ?_
    refine lv_iload hx hb dL_law_75 (lv_at hl 0 rfl) ?_
    have hF := zfree (zxd_D hD) hS hA
    refine zk_A2 (va_runS (As := [.ref x, .ref (u 0), .int ((r_2 >>> ((nI ((k / 16) * 3) : Int32) &&& 31)) + (nI (479 * k)))]) (rest := []) ⟨hx, hb, hml, hown, hts⟩ (c_L_act l D cI cB cS x a b u bd sl σ τ ((r_2 >>> ((nI ((k / 16) * 3) : Int32) &&& 31)) + (nI (479 * k))) hV (by omega) _) (va_cwS 3 hts gL_law_L_act rfl rfl rfl zdL_act.2 ⟨Nat.le_of_ble_eq_true rfl, Nat.le_of_ble_eq_true rfl⟩) ⟨zblL _, zprL hK (zxd_P hP) (zxd_D hD) hL⟩ rfl rfl hl.1 rfl (lv_room (Nat.le_of_ble_eq_true rfl)) dL_law_77 ⟨by show _ ≤ 772990; omega, by show _ ≤ 6782653; omega⟩) hS hF (fun Z H locs hpo hkp hP1 hD1 hS => ?_)
    obtain ⟨hP, hD⟩ := zx_JL hP hD hkp hF hP1 hD1
    refine lv_if_ne (tgt := 85) hx hb dL_law_80 (by decide) (fun _ => ?_) (fun c => absurd c (by decide))
    obtain ⟨σ1, u1, bd1, sl1, nb1, ns1, h1⟩ := Z
    have hz1 : u1 0 = u 0 := hpo.1
    have hV1 : zG σ1 nb1 ns1 h1 := hpo.2.1
    have hh1 : h1 ≤ h + 5 := hpo.2.2.1
    have hm1 : zmo σ σ1 := hpo.2.2.2.2
    have hP : va_P D vwCl ((zw_X cI x a b σ1 τ ++ zj cB cS u1 bd1 sl1 nb1 ns1 σ1) ++ [(a3, .inl (cI, 10, .inl R)), (a4, .inl (cI, 10, .inl Lt)), (a5, .inl (cI, 10, .inl Fl))]) H := hP
    have hD : va_D A ((zw_X cI x a b σ1 τ ++ zj cB cS u1 bd1 sl1 nb1 ns1 σ1) ++ [(a3, .inl (cI, 10, .inl R)), (a4, .inl (cI, 10, .inl Lt)), (a5, .inl (cI, 10, .inl Fl))]) := hD
    rw [← hz1] at hl
    refine W.widen (k := 185 + 2 * (k + 1)) (n := 1972 + 23 * (k + 1)) (by omega) (by omega) ?_
    have hB1 : 30 * h1 + 30 ≤ 2 ^ 28 := by omega
    have hV2 : zV σ1 nb1 ns1 h1 (30 * h1) := hV1
    refine l_hour (tm := k) C0 hA hV1 (by omega) (by omega) (by omega) (zmA_tr hmo hm1) hP hD hS (lv_sub hl [1, 2, 3, 4, 5, 6, 7] rfl) (fun H locs ls hP hD hS hl => ?_)
    refine lv_iinc (v := nI (k + 1)) (lv' := [(6, .int (nI (k + 1))), (5, .ref a5), (4, .ref a4), (3, .ref a3), (2, .ref (u1 0)), (1, .ref x), (0, .ref b0)]) hx hb dL_law_672 hl (k := 0) rfl (nI_1 k) (by decide) rfl (fun ls hl => ?_)
    refine lv_goto (tgt := 40) hx hb dL_law_675 (by decide) ?_
    exact ih _ _ _ ⟨(f_hour σ1 nb1 ns1 h1, u1, bd1, sl1, nb1, ns1, h1 + 1), _, _, _, ⟨⟨hz1.trans hz0, by show zV (f_hour σ1 nb1 ns1 h1) nb1 ns1 (h1 + 1) (30 * (h1 + 1)); rw [Nat.mul_add]; exact hV2.hour hB1 (by omega), by show h1 + 1 ≤ 345 + 6 * (k + 1); omega⟩, zmA_rp (zmA_tr (zmA_tr hmo hm1) (mo_hour hV2 hB1)) ns1, hP, hD⟩, hS, by rw [← hz0, ← hz1]; exact lv_sub hl [0, 1, 2, 3, 4, 5, 6] rfl⟩
  · obtain ⟨⟨σ, u, bd, sl, nb, ns, h⟩, R, Lt, Fl, ⟨⟨hz0, hV, hh5⟩, hmo, hP, hD⟩, hS, hl⟩ := hI
    have hz0 : u 0 = q0 := hz0
    have hV : zG σ nb ns h := hV
    have hmo : zmA R Lt Fl σ := hmo
    have hP : va_P D vwCl ((zw_X cI x a b σ τ ++ zj cB cS u bd sl nb ns σ) ++ [(a3, .inl (cI, 10, .inl R)), (a4, .inl (cI, 10, .inl Lt)), (a5, .inl (cI, 10, .inl Fl))]) H := hP
    have hD : va_D A ((zw_X cI x a b σ τ ++ zj cB cS u bd sl nb ns σ) ++ [(a3, .inl (cI, 10, .inl R)), (a4, .inl (cI, 10, .inl Lt)), (a5, .inl (cI, 10, .inl Fl))]) := hD
    have hh5 : h ≤ 345 + 6 * 40 := hh5
    refine W.widen (k := 265) (n := 2892) (by decide) (by decide) ?_
    refine lv_iload hx hb dL_law_40 (lv_at hl 0 rfl) ?_
    refine lv_bipush (v := 40) hx hb dL_law_42 (by decide) ?_
    refine lv_icmp_ge (tgt := 678) hx hb dL_law_44 (by decide) (fun _ => ?_) (fun c => absurd (by decide) c)
    rw [← hz0] at hl
    exact kk σ u bd sl nb ns h R Lt Fl _ _ _ hV (by omega) hP hD hS (lv_sub hl [4, 5, 6] rfl)
