section ZRL
variable {p : Program} {l : Launch} {e : Env} {R : Room} {s : State} {m : MethodId} {args : Array Value} {below : List Frame} {meth : Method} {c : Code} {H : Heap} {locs : List Loc} {cells slots : Nat} {Q : State → Prop}
variable {pc : Nat} {ls : Array Slot} {rest st0 : List Value} {a : Array Value} {A0 : Nat → Prop} {H0 : Heap} {D : va_G} {tys : List (ClassId × FieldType)} {w w1 : va_W} {post : Int64 → Prop}
theorem zk_Rl (hr : va_Run p l e R s m args below meth c H locs cells slots 0 0 (F0 m pc ls st0) rest (va_Ql (fun (r : Int64) (_ : Unit) => post r) (fun _ _ => True) (fun _ => False) a) (fun _ => False)) (hS : va_S A0 H0 H locs)
    (kk : ∀ (r : Int64) (H1 : Heap) (locs1 : List Loc), post r → (∀ w : va_W, va_P D vwCl w H → va_P D vwCl w H1) → va_S A0 H0 H1 locs1 → W p l e R s m args below meth c H1 locs1 cells slots Q (F0 m (pc + 3) ls (.long r :: rest))) : W p l e R s m args below meth c H locs cells slots Q (F0 m pc ls st0) := by
  refine va_calll hr hS (fun q _ h => h.elim) (fun q h => h.elim) (fun r u t H1 locs1 ht hvm hw hB hz1 hk1 hS1 => ?_)
  exact kk r H1 locs1 hw (fun w hP => hP.kept (fun k q hk => hk1 q.1 (hP k q hk).lt (fun z => z))) hS1
theorem zk_Il (hr : va_Run p l e R s m args below meth c H locs cells slots 0 0 (F0 m pc ls st0) rest (va_Ql (fun (r : Int64) (_ : Unit) => post r) (fun _ t => zQW D tys w1 (va_A w H.size) t) (va_A w H.size) a) (va_A w H.size)) (hS : va_S A0 H0 H locs) (hF : ∀ q, va_A w H.size q → A0 q)
    (kk : ∀ (r : Int64) (H1 : Heap) (locs1 : List Loc), post r → (∀ q : Nat, q < H.size → ¬ va_A w H.size q → H1[q]? = H[q]?) → va_P D vwCl w1 H1 → va_D (va_A w H.size) w1 → va_S A0 H0 H1 locs1 → W p l e R s m args below meth c H1 locs1 cells slots Q (F0 m (pc + 3) ls (.long r :: rest))) : W p l e R s m args below meth c H locs cells slots Q (F0 m pc ls st0) := by
  refine va_calll hr hS (fun q _ h => hF q h) hF (fun r u t H1 locs1 ht hvm hw hB hz1 hk1 hS1 => ?_)
  exact kk r H1 locs1 hw hk1 (by rw [← ht]; exact hB.1) hB.2.2 hS1
end ZRL

set_option maxHeartbeats 4000000 in
set_option maxRecDepth 100000 in
theorem law_quiet {p : Program} {l : Launch} {e : Env} {s : State} {m : MethodId} {below : List Frame} {meth : Method} {c : Code} {D : va_G} {cI cL : ClassId} {b0 L : Nat} {xs : Nat → Int32} {x o : Nat} {a b μ : Nat → Nat} {Q : State → Prop} {cells slots i : Nat} (C : zLA l p s m meth c D cI cL b0 L xs) {hm : Nat} (kk : zGo p l e s m below meth c D cI cL b0 x o a b μ Q cells slots 1260 i hm) (hc : cells ≤ 1092) (hs : slots ≤ 8973) (hm9 : hm + 80 < 2 ^ 30) : zGo p l e s m below meth c D cI cL b0 x o a b μ Q cells slots 1136 i hm := by
  have C0 := C
  obtain ⟨hx, hb, hr, hml, hown, hts, hX, hbl, hK, hL, hZ, hst, hL2⟩ := C
  intro σ τ f th κ nb ns h H locs ls hU hh hP hD hS hl
  have hI := hU.1
  have hC := hI.1
  have hA : ∀ q : Nat, s.heap.size ≤ q → (fun q => s.heap.size ≤ q) q := fun _ z => z
  have hP8 : va_P D vwCl ([] ++ (zw_X cI x a b σ τ ++ ([(o, .inl (cL, 1, .inr (.inl f)))] ++ zw_M cI μ th σ κ))) H := hP
  have hD8 : va_D (fun q => s.heap.size ≤ q) ([] ++ (zw_X cI x a b σ τ ++ ([(o, .inl (cL, 1, .inr (.inl f)))] ++ zw_M cI μ th σ κ))) := hD
  have hPx := fr_P hP8
  have hDx := fr_D hD8
  have hKx : va_K D vwCl [(cI, .int)] s := hK.sub [0] rfl
  refine lv_aload_n hx hb dL_law_1136 rfl (lv_at hl 1 rfl) ?_
  have hF := zfree hDx hS hA
  refine zk_E (va_runV (As := []) (rest := []) ⟨hx, hb, hml, hown, hts⟩ (c_X3_quiet l D cI x a b σ τ hC (by omega) _) (cwV 0 hts gL_law_X3_quiet rfl rfl rfl zdX3_quiet ⟨Nat.le_of_ble_eq_true rfl, Nat.le_of_ble_eq_true rfl⟩) ⟨zblL _, va_recv hKx hPx (ci := 3) (q0 := 0) rfl rfl, zprL hKx hPx hDx hL⟩ rfl rfl hl.1 rfl (lv_room (Nat.le_of_ble_eq_true rfl)) dL_law_1137 ⟨hc, hs⟩) hS hF (fun r u H locs hr9 hkp hP1 hD1 hS => ?_)
  obtain ⟨hP, hD⟩ := fr_J hP8 hD8 hkp hF hP1 hD1
  have hP7 : va_P D vwCl (zw_O cI cL x a b σ u o f ++ (zw_M cI μ th σ κ ++ [])) H := hP
  have hD7 : va_D (fun q => s.heap.size ≤ q) (zw_O cI cL x a b σ u o f ++ (zw_M cI μ th σ κ ++ [])) := hD
  have hPm := fr_P hP7
  have hDm := fr_D hD7
  have hKm : va_K D vwCl [(cI, .int)] s := hK.sub [0] rfl
  have hF2 := zfree hDm hS hA
  refine lv_aload_n hx hb dL_law_1140 rfl (lv_at hl 2 rfl) ?_
  refine zk_I (va_runV (As := []) (rest := [.int r]) ⟨hx, hb, hml, hown, hts⟩ (c_X4_quiet l D cI μ th σ κ hI (by omega) _) (cwV 0 hts gL_law_X4_quiet rfl rfl rfl zdX4_quiet ⟨Nat.le_of_ble_eq_true rfl, Nat.le_of_ble_eq_true rfl⟩) ⟨zbl _, va_recv hKm hPm (ci := 4) (q0 := 0) rfl rfl, zpr hKm hPm hDm⟩ rfl rfl hl.1 rfl (lv_room (Nat.le_of_ble_eq_true rfl)) dL_law_1141 ⟨hc, hs⟩) hS hF2 (fun r6 H locs hr6 hkp hP1 hD1 hS => ?_)
  obtain ⟨hP, hD⟩ := fr_J hP7 hD7 hkp hF2 hP1 hD1
  subst hr9
  subst hr6
  have hP : va_P D vwCl (zw_W cI cL x a b σ u o f μ 0 (zenc σ)) H := hP
  have hD : va_D (fun q => s.heap.size ≤ q) (zw_W cI cL x a b σ u o f μ 0 (zenc σ)) := hD
  refine lv_icmp_eq (tgt := 1260) hx hb dL_law_1144 (by decide) (fun _ => ?_) (fun c1 => absurd rfl c1)
  exact kk σ u f 0 (zenc σ) nb ns h _ _ ls hU hh hP hD hS hl

set_option maxHeartbeats 4000000 in
set_option maxRecDepth 100000 in
theorem law_digest {p : Program} {l : Launch} {e : Env} {s : State} {m : MethodId} {below : List Frame} {meth : Method} {c : Code} {D : va_G} {cI cL : ClassId} {b0 L : Nat} {xs : Nat → Int32} {x o : Nat} {a b μ : Nat → Nat} {Q : State → Prop} {cells slots i : Nat} (C : zLA l p s m meth c D cI cL b0 L xs) {hm : Nat} (kk : zGo p l e s m below meth c D cI cL b0 x o a b μ Q cells slots 1260 i hm) (hc : cells ≤ 1092) (hs : slots ≤ 8973) (hm9 : hm + 80 < 2 ^ 30) : zGo p l e s m below meth c D cI cL b0 x o a b μ Q cells slots 1246 i hm := by
  have C0 := C
  obtain ⟨hx, hb, hr, hml, hown, hts, hX, hbl, hK, hL, hZ, hst, hL2⟩ := C
  intro σ τ f th κ nb ns h H locs ls hU hh hP hD hS hl
  have hI := hU.1
  have hC := hI.1
  have hA : ∀ q : Nat, s.heap.size ≤ q → (fun q => s.heap.size ≤ q) q := fun _ z => z
  have hP8 : va_P D vwCl ([] ++ (zw_X cI x a b σ τ ++ ([(o, .inl (cL, 1, .inr (.inl f)))] ++ zw_M cI μ th σ κ))) H := hP
  have hD8 : va_D (fun q => s.heap.size ≤ q) ([] ++ (zw_X cI x a b σ τ ++ ([(o, .inl (cL, 1, .inr (.inl f)))] ++ zw_M cI μ th σ κ))) := hD
  have hPx := fr_P hP8
  have hDx := fr_D hD8
  have hKx : va_K D vwCl [(cI, .int)] s := hK.sub [0] rfl
  refine lv_aload_n hx hb dL_law_1246 rfl (lv_at hl 1 rfl) ?_
  refine zk_Rl (D := D) (va_runV (As := []) (rest := []) ⟨hx, hb, hml, hown, hts⟩ (c_X3_digest l D cI x a b σ τ hC _) (cwV 0 hts gL_law_X3_digest rfl rfl rfl zdX3_digest ⟨Nat.le_of_ble_eq_true rfl, Nat.le_of_ble_eq_true rfl⟩) ⟨zbl _, va_recv hKx hPx (ci := 3) (q0 := 0) rfl rfl, zpr hKx hPx hDx⟩ rfl rfl hl.1 rfl (lv_room (Nat.le_of_ble_eq_true rfl)) dL_law_1247 ⟨hc, hs⟩) hS (fun r H locs hr9 hk1 hS => ?_)
  have hP := hk1 _ hP
  have hP7 : va_P D vwCl (zw_O cI cL x a b σ τ o f ++ (zw_M cI μ th σ κ ++ [])) H := hP
  have hD7 : va_D (fun q => s.heap.size ≤ q) (zw_O cI cL x a b σ τ o f ++ (zw_M cI μ th σ κ ++ [])) := hD
  have hPm := fr_P hP7
  have hDm := fr_D hD7
  have hKm : va_K D vwCl [(cI, .int)] s := hK.sub [0] rfl
  have hF2 := zfree hDm hS hA
  refine lv_aload_n hx hb dL_law_1250 rfl (lv_at hl 2 rfl) ?_
  refine zk_Il (va_runV (As := []) (rest := [.long r]) ⟨hx, hb, hml, hown, hts⟩ (c_X4_digest l D cI μ th σ κ hC _) (cwV 0 hts gL_law_X4_digest rfl rfl rfl zdX4_digest ⟨Nat.le_of_ble_eq_true rfl, Nat.le_of_ble_eq_true rfl⟩) ⟨zbl _, va_recv hKm hPm (ci := 4) (q0 := 0) rfl rfl, zpr hKm hPm hDm⟩ rfl rfl hl.1 rfl (lv_room (Nat.le_of_ble_eq_true rfl)) dL_law_1251 ⟨hc, hs⟩) hS hF2 (fun r6 H locs hr6 hkp hP1 hD1 hS => ?_)
  obtain ⟨hP, hD⟩ := fr_J hP7 hD7 hkp hF2 hP1 hD1
  subst hr9
  subst hr6
  have hP : va_P D vwCl (zw_W cI cL x a b σ τ o f μ 0 κ) H := hP
  have hD : va_D (fun q => s.heap.size ≤ q) (zw_W cI cL x a b σ τ o f μ 0 κ) := hD
  refine W.lcmp hx hb dL_law_1254 ?_
  refine lv_if_eq (tgt := 1260) hx hb dL_law_1255 (by decide) (fun _ => ?_) (fun c3 => absurd (zcmp0 _) c3)
  exact kk σ τ f 0 κ nb ns h _ _ ls hU hh hP hD hS hl

set_option maxHeartbeats 4000000 in
set_option maxRecDepth 100000 in
theorem law_mean {p : Program} {l : Launch} {e : Env} {s0 : State} {m : MethodId} {below : List Frame} {meth : Method} {c : Code} {D : va_G} {cI cL : ClassId} {b0 L : Nat} {xs : Nat → Int32} {x o : Nat} {a b μ : Nat → Nat} {Q : State → Prop} {cells slots i : Nat} (CC : ∀ d : Drawn, zLA l p (s0.setDrawn d) m meth c D cI cL b0 L xs) {hm : Nat} {d0 : Drawn} (hd0 : s0.drawn.sameBut d0 lw_cs) (kk : ∀ d : Drawn, s0.drawn.sameBut d lw_cs → zGo p l e (s0.setDrawn d) m below meth c D cI cL b0 x o a b μ Q cells slots 1260 i hm) (hc : cells ≤ 1092) (hs : slots ≤ 8973) : zGo p l e (s0.setDrawn d0) m below meth c D cI cL b0 x o a b μ Q cells slots 1205 i hm := by
  obtain ⟨hx, hb, hr, hml, hown, hts, hX, hbl, hK, hL, hZ, hst, hL2⟩ := CC d0
  intro σ τ f th κ nb ns h H locs ls hU hh hP hD hS hl
  have hI := hU.1
  have hC := hI.1
  have hA : ∀ q : Nat, s0.heap.size ≤ q → (fun q => s0.heap.size ≤ q) q := fun _ z => z
  have hS : va_S (fun q => s0.heap.size ≤ q) s0.heap H locs := hS
  have hP8 : va_P D vwCl ([] ++ (zw_X cI x a b σ τ ++ ([(o, .inl (cL, 1, .inr (.inl f)))] ++ zw_M cI μ th σ κ))) H := hP
  have hD8 : va_D (fun q => s0.heap.size ≤ q) ([] ++ (zw_X cI x a b σ τ ++ ([(o, .inl (cL, 1, .inr (.inl f)))] ++ zw_M cI μ th σ κ))) := hD
  have hPx := fr_P hP8
  have hDx := fr_D hD8
  have hKx : va_K D vwCl [(cI, .int)] (s0.setDrawn d0) := hK.sub [0] rfl
  refine lv_aload_n hx hb dL_law_1205 rfl (lv_at hl 1 rfl) ?_
  refine va_calldD hd0 (va_runV_D (As := []) (rest := []) ⟨hx, hb, hml, hown, hts⟩ (c_X3_mean l D cI x a b σ τ hC _) (cwV 0 hts gL_law_X3_mean rfl rfl rfl zdX3_mean ⟨Nat.le_of_ble_eq_true rfl, Nat.le_of_ble_eq_true rfl⟩) ⟨zbl _, va_recv hKx hPx (ci := 3) (q0 := 0) rfl rfl, zpr hKx hPx hDx⟩ rfl rfl hl.1 rfl (lv_room (Nat.le_of_ble_eq_true rfl)) dL_law_1206 ⟨hc, hs⟩) hS (fun q _ z => z.elim) (fun q z => z.elim) (fun r5 u5 t5 H locs ht5 hvm5 hw5 hB5 hz5 hk5 hS d1 hd1 => ?_)
  have hP : va_P D vwCl (zw_W cI cL x a b σ τ o f μ th κ) H := hP.kept (fun k q hk => hk5 q.1 (hP k q hk).lt (fun z => z))
  obtain ⟨hx, hb, hr, hml, hown, hts, hX, hbl, hK, hL, hZ, hst, hL2⟩ := CC d1
  refine lv_dstore (lv' := [(5, .double r5), (0, .ref b0), (1, .ref x), (2, .ref (μ 0)), (3, .ref o), (4, .int (nI i))]) hx hb dL_law_1209 hl (by decide) rfl (fun ls hl => ?_)
  have hP7 : va_P D vwCl (zw_O cI cL x a b σ τ o f ++ (zw_M cI μ th σ κ ++ [])) H := hP
  have hD7 : va_D (fun q => s0.heap.size ≤ q) (zw_O cI cL x a b σ τ o f ++ (zw_M cI μ th σ κ ++ [])) := hD
  have hPm := fr_P hP7
  have hDm := fr_D hD7
  have hKm : va_K D vwCl [(cI, .int)] (s0.setDrawn d1) := hK.sub [0] rfl
  have hF2 := zfree hDm hS hA
  refine lv_aload_n hx hb dL_law_1211 rfl (lv_at hl 3 rfl) ?_
  refine va_calldD hd1 (va_runV_D (As := []) (rest := []) ⟨hx, hb, hml, hown, hts⟩ (c_X4_mean l D cI μ th σ κ hC _) (cwV 0 hts gL_law_X4_mean rfl rfl rfl zdX4_mean ⟨Nat.le_of_ble_eq_true rfl, Nat.le_of_ble_eq_true rfl⟩) ⟨zbl _, va_recv hKm hPm (ci := 4) (q0 := 0) rfl rfl, zpr hKm hPm hDm⟩ rfl rfl hl.1 rfl (lv_room (Nat.le_of_ble_eq_true rfl)) dL_law_1212 ⟨hc, hs⟩) hS (fun q _ z => hF2 q z) hF2 (fun r7 u7 t7 H locs ht7 hvm7 hw7 hB7 hz7 hkp hS d2 hd2 => ?_)
  obtain ⟨hP, hD⟩ := fr_J hP7 hD7 hkp hF2 (by rw [← ht7]; exact hB7.1) hB7.2.2
  obtain ⟨hx, hb, hr, hml, hown, hts, hX, hbl, hK, hL, hZ, hst, hL2⟩ := CC d2
  have hP : va_P D vwCl (zw_W cI cL x a b σ τ o f μ 0 κ) H := hP
  have hD : va_D (fun q => s0.heap.size ≤ q) (zw_W cI cL x a b σ τ o f μ 0 κ) := hD
  refine lv_dstore (lv' := [(7, .double r7), (5, .double r5), (0, .ref b0), (1, .ref x), (2, .ref (μ 0)), (3, .ref o), (4, .int (nI i))]) hx hb dL_law_1215 hl (by decide) rfl (fun ls hl => ?_)
  have hgo : W p l e room_1 (s0.setDrawn d2) m #[Value.ref b0] below meth c H locs cells slots Q (F0 m 1243 ls []) := by
    refine lv_goto (tgt := 1260) hx hb dL_law_1243 (by decide) ?_
    exact kk d2 hd2 σ τ f 0 κ nb ns h _ _ ls hU hh hP hD hS (lv_sub hl [2, 3, 4, 5, 6] rfl)
  have hz := zmean hw5 hw7
  refine lv_dload hx hb dL_law_1217 (lv_at hl 1 rfl) ?_
  refine lv_dload hx hb dL_law_1219 (lv_at hl 0 rfl) ?_
  refine lv_dcmp hx hb dL_law_1221 ?_
  refine lv_if_eq (tgt := 1243) hx hb dL_law_1222 (by decide) (fun _ => hgo) (fun c1 => ?_)
  refine lv_dload hx hb dL_law_1225 (lv_at hl 1 rfl) ?_
  refine lv_dload hx hb dL_law_1227 (lv_at hl 1 rfl) ?_
  refine lv_dcmp hx hb dL_law_1229 ?_
  have hz2 := hz.resolve_left c1
  refine lv_if_eq (tgt := 1241) hx hb dL_law_1230 (by decide) (fun c2 => absurd c2 hz2.1) (fun _ => ?_)
  refine lv_dload hx hb dL_law_1233 (lv_at hl 0 rfl) ?_
  refine lv_dload hx hb dL_law_1235 (lv_at hl 0 rfl) ?_
  refine lv_dcmp hx hb dL_law_1237 ?_
  refine lv_if_ne (tgt := 1243) hx hb dL_law_1238 (by decide) (fun _ => hgo) (fun c3 => absurd c3 hz2.2)
