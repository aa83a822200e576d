/-! A HOUSE THAT CELLS CHOOSE -/
def zPS (D : va_G) (tys : List (ClassId × FieldType)) (w : va_W) (sz b0 L : Nat) (xs : Nat → Int32) (U : State) : Prop := zPL D tys w sz U ∧ zSC b0 L xs U ∧ ¬ va_A w sz b0
theorem zblS {D : va_G} {tys : List (ClassId × FieldType)} {w : va_W} {sz b0 L : Nat} {xs : Nat → Int32} (av : List Value) : FrameBlind (va_Pc av (zPS D tys w sz b0 L xs)) := fun a U g mk q =>
  ⟨q.1, (zblL av a U g mk ⟨q.1, q.2.1⟩).2, (zbls av a U g mk ⟨q.1, q.2.2.1⟩).2, q.2.2.2⟩
theorem zprS {D : va_G} {tys : List (ClassId × FieldType)} {w : va_W} {H : Heap} {s : State} {A A0 : Nat → Prop} {av : List Value} {b0 L : Nat} {xs : Nat → Int32} {locs : List Loc} (hK : va_K D vwCl tys s) (hP : va_P D vwCl w H) (hD : va_D A w) (hL : zL s) (hX : va_X b0 L xs s s.heap) (hL2 : L ≤ 260) (hbl : b0 < s.heap.size) (hbA : ¬ A0 b0) (hS : va_S A0 s.heap H locs) (hn : ¬ va_A w H.size b0) : ∀ U : State, U.heap = H → s.WarmedH U.vm → va_Pc av (zPS D tys w H.size b0 L xs) av.toArray U := fun U hU hW =>
  ⟨rfl, (zprL (av := av) hK hP hD hL U hU hW).2, (zprs (av := av) hX hL2 hbl hbA hS U hU hW).2, hn⟩
section ZKA
variable {p : Program} {l : Launch} {e : Env} {R : Room} {s : State} {m : MethodId} {args : Array Value} {below : List Frame} {meth : Method} {c : Code} {H : Heap} {locs : List Loc} {cells slots : Nat} {Q : State → Prop}
variable {pc : Nat} {ls : Array Slot} {rest st0 : List Value} {a : Array Value} {A0 : Nat → Prop} {H0 : Heap} {D : va_G} {tys : List (ClassId × FieldType)} {w : va_W} {mc ms : Nat}
theorem zk_A {w1 : zQ → va_W} {post : zQ → Prop} (hr : va_Run p l e R s m args below meth c H locs cells slots mc ms (F0 m pc ls st0) rest (va_Qi (fun (r : Int32) (Z : zQ) => r = 1 ∧ post Z) (fun Z t => zQW D tys (w1 Z) (va_A w H.size) t) (va_A w H.size) a) (va_A w H.size)) (hS : va_S A0 H0 H locs) (hF : ∀ q, va_A w H.size q → A0 q)
    (kk : ∀ (Z : zQ) (H1 : Heap) (locs1 : List Loc), post Z → va_P D vwCl (w1 Z) H1 → va_D (va_A w H.size) (w1 Z) → va_S A0 H0 H1 locs1 → W p l e R s m args below meth c H1 locs1 (cells + mc) (slots + ms) Q (F0 m (pc + 3) ls (.int 1 :: rest))) : W p l e R s m args below meth c H locs cells slots Q (F0 m pc ls st0) := by
  refine va_calli hr hS (fun q _ h => hF q h) hF (fun r Z t H1 locs1 ht hvm hw hB hz1 hk1 hS1 => ?_)
  obtain ⟨rfl, hw⟩ := hw
  exact kk Z H1 locs1 hw (by rw [← ht]; exact hB.1) hB.2.2 hS1
theorem zk_Bd {w1 : zQ → va_W} {post : zQ → Prop} (hr : va_Run p l e R s m args below meth c H locs cells slots mc ms (F0 m pc ls st0) rest (va_Qr (fun (Z : zQ) => post Z) (fun Z r t => r = Z.2.1 0 ∧ zQW D tys (w1 Z) (va_A w H.size) t) (va_A w H.size) a) (va_A w H.size)) (hS : va_S A0 H0 H locs) (hF : ∀ q, va_A w H.size q → A0 q)
    (kk : ∀ (Z : zQ) (H1 : Heap) (locs1 : List Loc), post Z → va_P D vwCl (w1 Z) H1 → va_D (va_A w H.size) (w1 Z) → va_S A0 H0 H1 locs1 → W p l e R s m args below meth c H1 locs1 (cells + mc) (slots + ms) Q (F0 m (pc + 3) ls (.ref (Z.2.1 0) :: rest))) : W p l e R s m args below meth c H locs cells slots Q (F0 m pc ls st0) := by
  refine va_callr hr hS (fun q _ h => hF q h) hF (fun Z r t H1 locs1 ht hvm hw hB hz1 hk1 hS1 => ?_)
  obtain ⟨rfl, hB⟩ := hB
  exact kk Z H1 locs1 hw (by rw [← ht]; exact hB.1) hB.2.2 hS1
end ZKA
abbrev zRb : Room := { frames := 9, cells := 141, slots := 1592, locals := 216 }
/-- a house that acts have made: its numbers, its hour -/
def zIv (q N : Nat) (Z : zQ) : Prop := Z.2.1 0 = q ∧ zG Z.1 Z.2.2.2.2.1 Z.2.2.2.2.2.1 Z.2.2.2.2.2.2 ∧ Z.2.2.2.2.2.2 ≤ N
set_option maxHeartbeats 4000000 in
set_option maxRecDepth 100000 in
theorem c_L_build (l : Launch) (D : va_G) (cI cB cS : ClassId) (x b0 L : Nat) (xs : Nat → Int32) (a b : Nat → Nat) (τ : zS) : ∀ sz : Nat, Met l yL_build wsL_build zRb (va_Pc [.ref x, .ref b0] (zPS D (zT3 cI cB cS) (zw_X cI x a b zs0 τ) sz b0 L xs)) (va_Qr (fun (Z : zQ) => zG Z.1 Z.2.2.2.2.1 Z.2.2.2.2.2.1 Z.2.2.2.2.2.2 ∧ Z.2.2.2.2.2.2 ≤ 345) (fun Z r t => r = Z.2.1 0 ∧ zQW D (zT3 cI cB cS) (zWZ cI cB cS x a b τ Z) (va_A (zw_X cI x a b zs0 τ) sz) t) (va_A (zw_X cI x a b zs0 τ) sz)) 141 1592 (va_A (zw_X cI x a b zs0 τ) sz) := by
  intro sz
  refine Met.ofW (cc := cL_build) (maxL := 5) (ret := (some (.object "HotBedsLaw$Sim"))) (by decide) rfl ?_
  intro p e s m args below meth c s₁ B9 hml hv
  obtain ⟨rfl, ⟨⟨hsz, hP, hK, hD⟩, hL⟩, ⟨hX, hL2⟩, hnA⟩ := hv
  have hx := B9.exec
  have hb := B9.bytes
  have hr := B9.returns
  have hts := atoms_spec (ws := wsL_build) B9.pre
  have hown : s.vm.findClass RL = some m.cls := findClass_of_methodNamed B9.named
  have hlocks := B9.notSynchronized
  subst hsz
  have hD := hD.self (sz := s.heap.size)
  have hbl : b0 < s.heap.size := by
   obtain ⟨scr, g1, -⟩ := hX
   exact (Array.getElem?_eq_some_iff.mp g1).1
  generalize hAe : va_A (zw_X cI x a b zs0 τ) s.heap.size = A at hD hnA ⊢
  have hbA : ¬ A b0 := hnA
  have hA : ∀ q : Nat, s.heap.size ≤ q → A q := fun q h => by rw [← hAe]; exact Or.inr h
  have hS : va_S A s.heap s.heap [] := va_S.rf
  have hP : va_P D vwCl (zw_X cI x a b zs0 τ) s.heap := hP
  have hl := lv_entry ([.ref x, .ref b0]) (n := 5) (Nat.le_of_ble_eq_true rfl)
  rw [lg_entry_eq]
  generalize (lg_sl ([.ref x, .ref b0]) ++ List.replicate (5 - (lg_sl ([.ref x, .ref b0])).length) Slot.unset).toArray = ls at hl ⊢
  have hl : lv_has ls 5 [(1, .ref b0), (0, .ref x)] := lv_sub hl [1, 0] rfl
  have hinX6 : ∀ w ∈ u_ws RX6 TX6 5, w ∈ wsL_build := by decide +kernel
  refine va_new (ci := 6) (fs := [.int 0, .int 0, .int 0, .null, .null]) (C := RX6) (T := TX6) (N := 5) hx hb hts hinX6 tyX6 tyX6_ok hown (hts (.classLink RL 10 RX6) (by decide +kernel)) (hts (.instantiable RX6 5) (by decide +kernel)) (hts (.initialized RX6) (by decide +kernel)) hK hP hD hS hA rfl (fun j hj => by rcases (show j = 0 ∨ j = 1 ∨ j = 2 ∨ j = 3 ∨ j = 4 by omega) with rfl | rfl | rfl | rfl | rfl <;> rfl) (Nat.le_of_ble_eq_true rfl) (Nat.le_of_ble_eq_true rfl) dL_build_0 (fun q0 H hP hD hS => ?_)
  refine W.widen (k := 1) (n := 5) (Nat.le_of_ble_eq_true rfl) (Nat.le_of_ble_eq_true rfl) ?_
  refine lv_dup hx hb dL_build_3 rfl ?_
  have hF := zfree (zxq_D hD) hS hA
  refine zk_M (va_runIN (host := RL) (As := []) (rest := [.ref q0]) ⟨hx, hb, hml, hown, hts⟩ (c_X6_init l D cI cB cS q0 _) ⟨va_cnB 0 hts gL_build_X6_init_n122 rfl rfl rfl (hL.2.2.1 (RL, 122, yX6_init, RL) (by decide +kernel)) (hts (.initialized RX6) (by decide +kernel)) zdX6_init.2 ⟨Nat.le_of_ble_eq_true rfl, Nat.le_of_ble_eq_true rfl⟩, rfl, hts (.instanceMethod yX6_init) (by decide +kernel)⟩ ⟨zblL _, zprL hK (zxq_P hP) (zxq_D hD) hL⟩ rfl rfl hl.1 rfl (lv_room (Nat.le_of_ble_eq_true rfl)) dL_build_4 ⟨Nat.le_of_ble_eq_true rfl, Nat.le_of_ble_eq_true rfl⟩) hS hF (fun u0 H locs hu0 hkp hP1 hD1 hS => ?_)
  obtain ⟨hP, hD⟩ := zx_J hP hD hkp hF hP1 hD1
  refine W.widen (k := 3) (n := 5) (Nat.le_of_ble_eq_true rfl) (Nat.le_of_ble_eq_true rfl) ?_
  have hIv : zIv q0 (5 * 0) (zs0, u0, (fun _ => 0), (fun _ => 0), 0, 0, 0) := ⟨hu0, zV.zero, Nat.le_refl 0⟩
  have hP : va_P D vwCl (zWZ cI cB cS x a b τ (zs0, u0, (fun _ => 0), (fun _ => 0), 0, 0, 0)) H := hP
  have hD : va_D A (zWZ cI cB cS x a b τ (zs0, u0, (fun _ => 0), (fun _ => 0), 0, 0, 0)) := hD
  refine lv_astore_n (lv' := [(2, .ref q0), (1, .ref b0), (0, .ref x)]) hx hb dL_build_7 rfl hl (by decide) rfl (fun ls hl => ?_)
  refine lv_bipush (v := 24) hx hb dL_build_8 (by decide) ?_
  refine lv_aload_n hx hb dL_build_10 rfl (lv_at hl 1 rfl) ?_
  refine lv_iconst (v := 0) hx hb dL_build_11 (by decide) ?_
  refine zk_R (D := D) (va_runS (As := [.ref b0, .int (nI 0)]) (rest := [.int 24]) ⟨hx, hb, hml, hown, hts⟩ (c_L_cell l b0 L xs (k := 0) (by omega)) (va_cwS 2 hts gL_build_L_cell rfl rfl rfl zdL_cell.2 ⟨Nat.le_of_ble_eq_true rfl, Nat.le_of_ble_eq_true rfl⟩) ⟨zbls _, zprs hX hL2 hbl hbA hS⟩ rfl rfl hl.1 rfl (lv_room (Nat.le_of_ble_eq_true rfl)) dL_build_12 ⟨by show _ ≤ 141; omega, by show _ ≤ 1592; omega⟩) hS (fun r_1 H locs hw hkp hS => ?_)
  have hP := hkp _ hP
  refine lv_bipush (v := 40) hx hb dL_build_15 (by decide) ?_
  refine zk_R (D := D) (va_runS (As := [.int r_1, .int (nI 40)]) (rest := [.int 24]) ⟨hx, hb, hml, hown, hts⟩ (c_L_below l D (zT3 cI cB cS) r_1 (N := 40) (by decide) (by decide) _) (va_cwS 2 hts gL_build_L_below rfl rfl rfl zdL_below.2 ⟨Nat.le_of_ble_eq_true rfl, Nat.le_of_ble_eq_true rfl⟩) ⟨zbl _, zpr hK zP0 (A := fun _ => True) zD0⟩ rfl rfl hl.1 rfl (lv_room (Nat.le_of_ble_eq_true rfl)) dL_build_17 ⟨by show _ ≤ 141; omega, by show _ ≤ 1592; omega⟩) hS (fun r H locs hw hkp hS => ?_)
  have hP := hkp _ hP
  have hw : r = nI (q_bel r_1 40) := hw
  subst hw
  have hlt_q_2 : q_bel r_1 40 < 40 := q_bel_lt _ (by decide)
  generalize q_bel r_1 40 = q_2 at hlt_q_2 ⊢
  refine zk_add (x := 24) (y := q_2) hx hb dL_build_20 ?_
  have hn40 := hlt_q_2
  generalize q_2 = n at hn40 ⊢
  refine lv_istore_n (lv' := [(3, .int (nI (24 + n))), (2, .ref q0), (1, .ref b0), (0, .ref x)]) hx hb dL_build_21 rfl hl (by decide) rfl (fun ls hl => ?_)
  refine lv_iconst (v := 0) hx hb dL_build_22 (by decide) ?_
  refine lv_istore (lv' := [(4, .int 0), (3, .int (nI (24 + n))), (2, .ref q0), (1, .ref b0), (0, .ref x)]) hx hb dL_build_23 hl (by decide) rfl (fun ls hl => ?_)
  refine zk_loopC (pc := 25) (fun k H locs ls => ∃ Z : zQ, zIv q0 (5 * k) Z ∧ va_P D vwCl (zWZ cI cB cS x a b τ Z) H ∧ va_D A (zWZ cI cB cS x a b τ Z) ∧ va_S A s.heap H locs ∧ lv_has ls 5 [(4, .int (nI k)), (3, .int (nI (24 + n))), (2, .ref q0), (1, .ref b0), (0, .ref x)]) 6 (fun k => 3 + 2 * k) (fun k => 5 + 23 * k) (fun k hk ih H locs ls hI => ?_) (fun H locs ls hI => ?_) _ _ _ ⟨_, hIv, hP, hD, hS, lv_sub hl [0, 1, 2, 3, 4] rfl⟩
  · obtain ⟨⟨σ, u, bd, sl, nb, ns, h⟩, ⟨hz0, hV, hh5⟩, hP, hD, hS, hl⟩ := hI
    have hz0 : u 0 = q0 := hz0
    have hV : zG σ nb ns h := hV
    have hP : va_P D vwCl (zw_X cI x a b σ τ ++ zj cB cS u bd sl nb ns σ) H := hP
    have hD : va_D A (zw_X cI x a b σ τ ++ zj cB cS u bd sl nb ns σ) := hD
    have hh5 : h ≤ 5 * k := hh5
    rw [← hz0] at hl
    refine W.widen (k := 3 + 2 * k) (n := 5 + 23 * k) (Nat.le_refl _) (Nat.le_refl _) ?_
    refine lv_iload hx hb dL_build_25 (lv_at hl 0 rfl) ?_
    refine lv_bipush (v := 6) hx hb dL_build_27 (by decide) ?_
    refine lv_icmp_ge (tgt := 73) hx hb dL_build_29 (by decide) (fun c => absurd c (nI_ge (b := 6) hk (by omega))) (fun _ => ?_)
    refine lv_aload_n hx hb dL_build_32 rfl (lv_at hl 4 rfl) ?_
    refine lv_aload_n hx hb dL_build_33 rfl (lv_at hl 2 rfl) ?_
    refine lv_aload_n hx hb dL_build_34 rfl (lv_at hl 3 rfl) ?_
    refine lv_iload hx hb dL_build_35 (lv_at hl 0 rfl) ?_
    refine zk_R (D := D) (va_runS (As := [.ref b0, .int (nI k)]) (rest := [.ref (u 0), .ref x]) ⟨hx, hb, hml, hown, hts⟩ (c_L_cell l b0 L xs (k := k) (by omega)) (va_cwS 2 hts gL_build_L_cell rfl rfl rfl zdL_cell.2 ⟨Nat.le_of_ble_eq_true rfl, Nat.le_of_ble_eq_true rfl⟩) ⟨zbls _, zprs hX hL2 hbl hbA hS⟩ rfl rfl hl.1 rfl (lv_room (Nat.le_of_ble_eq_true rfl)) dL_build_37 ⟨by show _ ≤ 141; omega, by show _ ≤ 1592; omega⟩) hS (fun r_4 H locs hw hkp hS => ?_)
    have hP := hkp _ hP
    refine lv_sipush (v := 511) hx hb dL_build_40 (by decide) ?_
    refine lv_iand hx hb dL_build_43 ?_
    refine lv_iload hx hb dL_build_44 (lv_at hl 0 rfl) ?_
    refine lv_iconst (v := 3) hx hb dL_build_46 (by decide) ?_
    refine zk_rem (x := k) (y := 3) hx hb dL_build_47 (by omega) (by decide) (by decide) ?_
    refine lv_bipush (v := 9) hx hb dL_build_48 (by decide) ?_
    refine lv_ishl hx hb dL_build_50 ?_
    refine lv_ior hx hb dL_build_51 ?_
    refine lv_sipush (v := 9216) hx hb dL_build_52 (by decide) ?_
    refine lv_iload hx hb dL_build_55 (lv_at hl 0 rfl) ?_
    refine zk_mul (x := 9216) (y := k) hx hb dL_build_57 ?_
    refine lv_iadd hx hb dL_build_58 ?_
    have hF := zfree hD hS hA
    refine zk_A (va_runS (As := [.ref x, .ref (u 0), .int (((r_4 &&& 511) ||| ((nI (k % 3)) <<< ((9 : Int32) &&& 31))) + (nI (9216 * k)))]) (rest := []) ⟨hx, hb, hml, hown, hts⟩ (c_L_act l D cI cB cS x a b u bd sl σ τ (((r_4 &&& 511) ||| ((nI (k % 3)) <<< ((9 : Int32) &&& 31))) + (nI (9216 * k))) hV (by omega) _) (va_cwS 3 hts gL_build_L_act rfl rfl rfl zdL_act.2 ⟨Nat.le_of_ble_eq_true rfl, Nat.le_of_ble_eq_true rfl⟩) ⟨zblL _, zprL hK hP hD hL⟩ rfl rfl hl.1 rfl (lv_room (Nat.le_of_ble_eq_true rfl)) dL_build_59 ⟨by show _ ≤ 141; omega, by show _ ≤ 1592; omega⟩) hS hF (fun Z H locs hpo hP1 hD1 hS => ?_)
    have hP := hP1
    have hD := hD1.weaken (fun _ _ _ z => hF _ z)
    refine lv_if_ne (tgt := 67) hx hb dL_build_62 (by decide) (fun _ => ?_) (fun c => absurd c (by decide))
    refine lv_iinc (v := nI (k + 1)) (lv' := [(4, .int (nI (k + 1))), (3, .int (nI (24 + n))), (2, .ref (u 0)), (1, .ref b0), (0, .ref x)]) hx hb dL_build_67 hl (k := 0) rfl (nI_1 k) (by decide) rfl (fun ls hl => ?_)
    refine lv_goto (tgt := 25) hx hb dL_build_70 (by decide) ?_
    refine W.widen (k := 3 + 2 * (k + 1)) (n := 5 + 23 * (k + 1)) (by omega) (by omega) ?_
    exact ih _ _ _ ⟨Z, ⟨hpo.1.trans hz0, hpo.2.1, by have h9 := hpo.2.2.1; have h8 : h ≤ 5 * k := hh5; show _ ≤ 5 * (k + 1); omega⟩, hP, hD, hS, by rw [← hz0]; exact lv_sub hl [0, 1, 2, 3, 4] rfl⟩
  · obtain ⟨⟨σ, u, bd, sl, nb, ns, h⟩, ⟨hz0, hV, hh5⟩, hP, hD, hS, hl⟩ := hI
    have hz0 : u 0 = q0 := hz0
    have hV : zG σ nb ns h := hV
    have hP : va_P D vwCl (zw_X cI x a b σ τ ++ zj cB cS u bd sl nb ns σ) H := hP
    have hD : va_D A (zw_X cI x a b σ τ ++ zj cB cS u bd sl nb ns σ) := hD
    have hh5 : h ≤ 5 * 6 := hh5
    rw [← hz0] at hl
    refine W.widen (k := 3 + 2 * 6) (n := 5 + 23 * 6) (Nat.le_refl _) (Nat.le_refl _) ?_
    refine lv_iload hx hb dL_build_25 (lv_at hl 0 rfl) ?_
    refine lv_bipush (v := 6) hx hb dL_build_27 (by decide) ?_
    refine lv_icmp_ge (tgt := 73) hx hb dL_build_29 (by decide) (fun _ => ?_) (fun c => absurd (by decide) c)
    refine lv_iconst (v := 0) hx hb dL_build_73 (by decide) ?_
    refine lv_istore (lv' := [(4, .int 0), (3, .int (nI (24 + n))), (2, .ref (u 0)), (1, .ref b0), (0, .ref x)]) hx hb dL_build_74 hl (by decide) rfl (fun ls hl => ?_)
    have hIv : zIv (u 0) (30 + 5 * 0) (σ, u, bd, sl, nb, ns, h) := ⟨rfl, hV, by show h ≤ 30 + 5 * 0; omega⟩
    rw [hz0] at hIv hl
    clear hz0 hV
    have hP : va_P D vwCl (zWZ cI cB cS x a b τ (σ, u, bd, sl, nb, ns, h)) H := hP
    have hD : va_D A (zWZ cI cB cS x a b τ (σ, u, bd, sl, nb, ns, h)) := hD
    refine zk_loopC (pc := 76) (fun k H locs ls => ∃ Z : zQ, zIv q0 (30 + 5 * k) Z ∧ va_P D vwCl (zWZ cI cB cS x a b τ Z) H ∧ va_D A (zWZ cI cB cS x a b τ Z) ∧ va_S A s.heap H locs ∧ lv_has ls 5 [(4, .int (nI k)), (3, .int (nI (24 + n))), (2, .ref q0), (1, .ref b0), (0, .ref x)]) (24 + n) (fun k => 15 + 2 * k) (fun k => 143 + 23 * k) (fun k hk ih H locs ls hI => ?_) (fun H locs ls hI => ?_) _ _ _ ⟨_, hIv, hP, hD, hS, lv_sub hl [0, 1, 2, 3, 4] rfl⟩
    · obtain ⟨⟨σ, u, bd, sl, nb, ns, h⟩, ⟨hz0, hV, hh5⟩, hP, hD, hS, hl⟩ := hI
      have hz0 : u 0 = q0 := hz0
      have hV : zG σ nb ns h := hV
      have hP : va_P D vwCl (zw_X cI x a b σ τ ++ zj cB cS u bd sl nb ns σ) H := hP
      have hD : va_D A (zw_X cI x a b σ τ ++ zj cB cS u bd sl nb ns σ) := hD
      have hh5 : h ≤ 30 + 5 * k := hh5
      rw [← hz0] at hl
      refine W.widen (k := 15 + 2 * k) (n := 143 + 23 * k) (Nat.le_refl _) (Nat.le_refl _) ?_
      refine lv_iload hx hb dL_build_76 (lv_at hl 0 rfl) ?_
      refine lv_iload_n hx hb dL_build_78 rfl (lv_at hl 1 rfl) ?_
      refine lv_icmp_ge (tgt := 122) hx hb dL_build_79 (by decide) (fun c => absurd c (nI_ge (b := 24 + n) hk (by omega))) (fun _ => ?_)
      refine lv_aload_n hx hb dL_build_82 rfl (lv_at hl 4 rfl) ?_
      refine lv_aload_n hx hb dL_build_83 rfl (lv_at hl 2 rfl) ?_
      refine lv_aload_n hx hb dL_build_84 rfl (lv_at hl 3 rfl) ?_
      refine lv_iload hx hb dL_build_85 (lv_at hl 0 rfl) ?_
      refine lv_bipush (v := 16) hx hb dL_build_87 (by decide) ?_
      refine zk_rem (x := k) (y := 16) hx hb dL_build_89 (by omega) (by decide) (by decide) ?_
      refine zk_R (D := D) (va_runS (As := [.ref b0, .int (nI (k % 16))]) (rest := [.ref (u 0), .ref x]) ⟨hx, hb, hml, hown, hts⟩ (c_L_cell l b0 L xs (k := k % 16) (by omega)) (va_cwS 2 hts gL_build_L_cell rfl rfl rfl zdL_cell.2 ⟨Nat.le_of_ble_eq_true rfl, Nat.le_of_ble_eq_true rfl⟩) ⟨zbls _, zprs hX hL2 hbl hbA hS⟩ rfl rfl hl.1 rfl (lv_room (Nat.le_of_ble_eq_true rfl)) dL_build_90 ⟨by show _ ≤ 141; omega, by show _ ≤ 1592; omega⟩) hS (fun r_8 H locs hw hkp hS => ?_)
      have hP := hkp _ hP
      refine lv_iload hx hb dL_build_93 (lv_at hl 0 rfl) ?_
      refine lv_bipush (v := 16) hx hb dL_build_95 (by decide) ?_
      refine zk_div (x := k) (y := 16) hx hb dL_build_97 (by omega) (by decide) (by decide) ?_
      refine lv_iconst (v := 3) hx hb dL_build_98 (by decide) ?_
      refine zk_mul (x := (k / 16)) (y := 3) hx hb dL_build_99 ?_
      refine lv_ishr hx hb dL_build_100 ?_
      refine lv_sipush (v := 479) hx hb dL_build_101 (by decide) ?_
      refine lv_iload hx hb dL_build_104 (lv_at hl 0 rfl) ?_
      refine zk_mul (x := 479) (y := k) hx hb dL_build_106 ?_
      refine lv_iadd hx hb dL_build_107 ?_
      have hF := zfree hD hS hA
      refine zk_A (va_runS (As := [.ref x, .ref (u 0), .int ((r_8 >>> ((nI ((k / 16) * 3) : Int32) &&& 31)) + (nI (479 * k)))]) (rest := []) ⟨hx, hb, hml, hown, hts⟩ (c_L_act l D cI cB cS x a b u bd sl σ τ ((r_8 >>> ((nI ((k / 16) * 3) : Int32) &&& 31)) + (nI (479 * k))) hV (by omega) _) (va_cwS 3 hts gL_build_L_act rfl rfl rfl zdL_act.2 ⟨Nat.le_of_ble_eq_true rfl, Nat.le_of_ble_eq_true rfl⟩) ⟨zblL _, zprL hK hP hD hL⟩ rfl rfl hl.1 rfl (lv_room (Nat.le_of_ble_eq_true rfl)) dL_build_108 ⟨by show _ ≤ 141; omega, by show _ ≤ 1592; omega⟩) hS hF (fun Z H locs hpo hP1 hD1 hS => ?_)
      have hP := hP1
      have hD := hD1.weaken (fun _ _ _ z => hF _ z)
      refine lv_if_ne (tgt := 116) hx hb dL_build_111 (by decide) (fun _ => ?_) (fun c => absurd c (by decide))
      refine lv_iinc (v := nI (k + 1)) (lv' := [(4, .int (nI (k + 1))), (3, .int (nI (24 + n))), (2, .ref (u 0)), (1, .ref b0), (0, .ref x)]) hx hb dL_build_116 hl (k := 0) rfl (nI_1 k) (by decide) rfl (fun ls hl => ?_)
      refine lv_goto (tgt := 76) hx hb dL_build_119 (by decide) ?_
      refine W.widen (k := 15 + 2 * (k + 1)) (n := 143 + 23 * (k + 1)) (by omega) (by omega) ?_
      exact ih _ _ _ ⟨Z, ⟨hpo.1.trans hz0, hpo.2.1, by have h9 := hpo.2.2.1; have h8 : h ≤ 30 + 5 * k := hh5; show _ ≤ 30 + 5 * (k + 1); omega⟩, hP, hD, hS, by rw [← hz0]; exact lv_sub hl [0, 1, 2, 3, 4] rfl⟩
    · obtain ⟨⟨σ, u, bd, sl, nb, ns, h⟩, ⟨hz0, hV, hh5⟩, hP, hD, hS, hl⟩ := hI
      have hz0 : u 0 = q0 := hz0
      have hV : zG σ nb ns h := hV
      have hP : va_P D vwCl (zw_X cI x a b σ τ ++ zj cB cS u bd sl nb ns σ) H := hP
      have hD : va_D A (zw_X cI x a b σ τ ++ zj cB cS u bd sl nb ns σ) := hD
      have hh5 : h ≤ 30 + 5 * (24 + n) := hh5
      rw [← hz0] at hl
      refine W.widen (k := 15 + 2 * (24 + n)) (n := 143 + 23 * (24 + n)) (Nat.le_refl _) (Nat.le_refl _) ?_
      refine lv_iload hx hb dL_build_76 (lv_at hl 0 rfl) ?_
      refine lv_iload_n hx hb dL_build_78 rfl (lv_at hl 1 rfl) ?_
      refine lv_icmp_ge (tgt := 122) hx hb dL_build_79 (by decide) (fun _ => ?_) (fun c => absurd (i32_rf _) c)
      refine W.widen (k := 141) (n := 1592) (by omega) (by omega) ?_
      refine lv_aload_n hx hb dL_build_122 rfl (lv_at hl 2 rfl) ?_
      exact W.aret (v := .ref (u 0)) hx hb hr (Or.inl ⟨_, rfl⟩) (Or.inr ⟨_, rfl⟩) (fun t ht hW => ⟨⟨(σ, u, bd, sl, nb, ns, h), u 0, rfl, ⟨hV, by show h ≤ 345; omega⟩, rfl, by rw [ht]; exact hP, va_K.moved hW.alike hK, hD⟩, hS.F ht⟩) hS.2.2 dL_build_123
