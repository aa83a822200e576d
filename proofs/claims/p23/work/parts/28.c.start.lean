theorem zdX6_isSame' : yX6_isSame.cls = RX6 ∧ yX6_isSame.cls ≠ "java/lang/invoke/MethodHandle" ∧ yX6_isSame.cls ≠ "java/lang/invoke/VarHandle" ∧ (parseMethodDescriptor yX6_isSame.desc).map (fun d => d.parameters.length) = some 1 := zdX6_isSame
theorem zarr_int {args : Array Value} {s : State} (h : (Cond.arrayClass .int).before args s = true) : ∃ cA : ClassId, ArrOfT s cA .int ∧ va_RA s cA .int := by
  obtain ⟨cA, kA, comp, h1, h2, h3⟩ := Cond.arrayClass_spec h
  exact ⟨cA, fun n z => ⟨fun k h => (by cases h), kA, h2, comp, h3⟩, h1⟩
theorem zarr_obj {C : String} {args : Array Value} {s : State} (h : (Cond.arrayOver (.object C)).before args s = true) : ∃ cA : ClassId, ArrOfT s cA (.object C) ∧ va_RA s cA (.object C) := by
  obtain ⟨comp, c, k, h1, h2, h3, h4, h5⟩ := Cond.arrayOver_spec h
  exact ⟨c, fun n z => ⟨fun k h => (by cases h), k, h3, comp, h4⟩, k, comp, h3, h4, h1, h5⟩
theorem zm_Nest : ∀ q ∈ zNest, Cond.methodLinkNest q.1 q.2.1 q.2.2.1 q.2.2.2 ∈ lw_tbl := by decide +kernel
theorem zm_B : Cond.arrayOver (.object RX4) ∈ lw_tbl := by decide +kernel
theorem zm_S : Cond.arrayOver (.object RX5) ∈ lw_tbl := by decide +kernel
theorem zL_start {b : Nat} {s : State} (hts : ∀ w ∈ lw_tbl, w.before #[Value.ref b] s = true) : ∀ d : Drawn, zL (s.setDrawn d) := by
  intro d
  have hd := dr_words hts d
  exact ⟨trivial, trivial, fun q hq => va_Nw.of rfl (hd _ (zm_Nest q hq)), va_AO.of (hd _ zm_B), va_AO.of (hd _ zm_S)⟩
theorem zmA_0 {σ : zS} {nb ns h : Nat} (hV : zG σ nb ns h) : zmA (fun _ => 0) (fun _ => 0) (fun _ => 0) σ := fun k hk => by
  have hV2 : zV σ nb ns h (30 * h) := hV
  have hB := hV2.2.1.1
  by_cases e : k < ns
  · obtain ⟨-, -, -, -, ρ, z1, z2⟩ := hV2.ksk e
    have z3 := hV2.ksm e
    refine ⟨?_, ?_, ?_⟩
    · show (0 : Int32) ≤ σ 14 k
      rw [z2]; exact nI_pos' (by omega)
    · obtain ⟨y, y1, y2⟩ := z3.2.2.2.1
      show (0 : Int32) ≤ σ 15 k
      rw [y2]; exact nI_pos' (by omega)
    · obtain ⟨y, y1, y2⟩ := z3.2.2.2.2.2
      show (0 : Int32) ≤ σ 17 k
      rw [y2]; exact nI_pos' (by omega)
  · have z := hV2.2.2.2.2.1 k (by omega)
    show (0 : Int32) ≤ σ 14 k ∧ (0 : Int32) ≤ σ 15 k ∧ (0 : Int32) ≤ σ 17 k
    rw [z.2.1, z.2.2.1, z.2.2.2.2]
    exact ⟨i32_rf _, i32_rf _, i32_rf _⟩
set_option maxHeartbeats 4000000 in
set_option maxRecDepth 100000 in
theorem whole_start {p : Program} {e : Env} {s : State} {m : MethodId} {below : List Frame} {meth : Method} {c : Code} (l : Launch) (hflags : l.flags = flags0) {b L : Nat} {xs : Nat → Int32} (hL : L ≤ 260) (C0 : lw_At p s m meth c b L xs) : W p l e room_1 s m #[Value.ref b] below meth c s.heap [] 0 0 (lw_Z below #[Value.ref b] s) (entryFrame m ([Value.ref b] : List Value).toArray 20) := by
  have hR := C0
  obtain ⟨hx, hb, hr, hml, hown, hts0, hX, hbl, hlocks, hgv⟩ := hR
  have htsL : ∀ w ∈ wsL_law, w.before #[Value.ref b] s = true := fun w h => hts0 w (wsL_law_in w h)
  have hown : s.vm.findClass RL = some m.cls := hown
  have hA : ∀ q : Nat, s.heap.size ≤ q → (fun q => s.heap.size ≤ q) q := fun _ z => z
  have hbA : ¬ (fun q => s.heap.size ≤ q) b := Nat.not_le.mpr hbl
  obtain ⟨k0, i0, hK0⟩ := u_known (C := RX0) (T := TX0) (N := 6) (n := 6) hts0 inX0 (hts0 (.instantiable RX0 6) (by decide +kernel))
  obtain ⟨k1, i1, hK1⟩ := u_known (C := RX1) (T := TX1) (N := 5) (n := 5) hts0 inX1 (hts0 (.instantiable RX1 5) (by decide +kernel))
  obtain ⟨k2, i2, hK2⟩ := u_known (C := RX2) (T := TX2) (N := 13) (n := 13) hts0 inX2 (hts0 (.instantiable RX2 13) (by decide +kernel))
  obtain ⟨k3, i3, hK3⟩ := u_known (C := RX3) (T := TX3) (N := 2) (n := 2) hts0 inX3 (hts0 (.instantiable RX3 2) (by decide +kernel))
  obtain ⟨k4, i4, hK4⟩ := u_known (C := RX4) (T := TX4) (N := 6) (n := 6) hts0 inX4 (hts0 (.instantiable RX4 6) (by decide +kernel))
  obtain ⟨k5, i5, hK5⟩ := u_known (C := RX5) (T := TX5) (N := 13) (n := 13) hts0 inX5 (hts0 (.instantiable RX5 13) (by decide +kernel))
  obtain ⟨k6, i6, hK6⟩ := u_known (C := RX6) (T := TX6) (N := 5) (n := 5) hts0 inX6 (hts0 (.instantiable RX6 5) (by decide +kernel))
  obtain ⟨D, hKc⟩ : ∃ D : va_G, ∀ (k : Nat) (q : vw_C), vwCl[k]? = some q → u_Kn s q.1 q.2.1 q.2.2 (D.1 k) (D.2 k) := by
    refine ⟨(fun k => if k = 0 then k0 else if k = 1 then k1 else if k = 2 then k2 else if k = 3 then k3 else if k = 4 then k4 else if k = 5 then k5 else k6, fun k => if k = 0 then i0 else if k = 1 then i1 else if k = 2 then i2 else if k = 3 then i3 else if k = 4 then i4 else if k = 5 then i5 else i6), ?_⟩
    intro k q hq
    match k, hq with
    | 0, hq => cases hq; exact hK0
    | 1, hq => cases hq; exact hK1
    | 2, hq => cases hq; exact hK2
    | 3, hq => cases hq; exact hK3
    | 4, hq => cases hq; exact hK4
    | 5, hq => cases hq; exact hK5
    | 6, hq => cases hq; exact hK6
    | k + 7, hq => simp [vwCl] at hq
  obtain ⟨cI, hI1, hI2⟩ := zarr_int (hts0 (.arrayClass .int) (by decide +kernel))
  obtain ⟨cB, hB1, hB2⟩ := zarr_obj (hts0 _ zm_B)
  obtain ⟨cS, hS1, hS2⟩ := zarr_obj (hts0 _ zm_S)
  have hK9 : va_K D vwCl (zT3 cI cB cS) s := ⟨hKc, fun k q h => by
    match k, h with
    | 0, h => cases h; exact ⟨hI1, hI2⟩
    | 1, h => cases h; exact ⟨hB1, hB2⟩
    | 2, h => cases h; exact ⟨hS1, hS2⟩
    | k + 3, h => simp at h⟩
  have hKd : ∀ d : Drawn, va_K D vwCl (zT3 cI cB cS) (s.setDrawn d) := fun d => va_K.moved (u := s) (Vm.Alike.refl s.vm) hK9
  have hLd := zL_start hts0
  have CC : ∀ d : Drawn, zLw p (s.setDrawn d) m meth c D cI cB cS b L xs (fun q => s.heap.size ≤ q) := fun d => ⟨hx, hb, hml, hown, dr_words htsL d, hKd d, hLd d, va_X.moved (u := s) (Vm.Alike.refl s.vm) hX, hL, hbl, hbA⟩
  refine W.base ?_
  have hd0 := Drawn.sameBut.refl s.drawn lw_cs
  have hts := dr_words hts0 s.drawn
  have htl := dr_words htsL s.drawn
  have hK := hKd s.drawn
  have hL1 := hLd s.drawn
  have hXd : va_X b L xs (s.setDrawn s.drawn) (s.setDrawn s.drawn).heap := va_X.moved (u := s) (Vm.Alike.refl s.vm) hX
  have hKi : va_K D vwCl [(cI, .int)] (s.setDrawn s.drawn) := hK.sub [0] rfl
  have hS : va_S (fun q => s.heap.size ≤ q) s.heap s.heap [] := va_S.rf
  have hP : va_P D vwCl [] s.heap := fun k q h => by simp at h
  have hD : va_D (fun q => s.heap.size ≤ q) [] := ⟨fun i j p q h => by simp at h, fun k q h => by simp at h⟩
  have hl := lv_entry ([.ref b]) (n := 20) (Nat.le_of_ble_eq_true rfl)
  rw [lg_entry_eq]
  generalize (lg_sl ([.ref b]) ++ List.replicate (20 - (lg_sl ([.ref b])).length) Slot.unset).toArray = ls at hl ⊢
  have hl : lv_has ls 20 [(0, .ref b)] := hl
  refine va_new (ci := 3) (fs := [.null, .null]) (C := RX3) (T := TX3) (N := 2) hx hb hts inX3 tyX3 tyX3_ok hown (htl (.classLink RL 36 RX3) (by decide +kernel)) (hts (.instantiable RX3 2) (by decide +kernel)) (hts (.initialized RX3) (by decide +kernel)) hK hP hD hS hA rfl (fun j hj => by rcases (show j = 0 ∨ j = 1 by omega) with rfl | rfl <;> rfl) (Nat.le_of_ble_eq_true rfl) (Nat.le_of_ble_eq_true rfl) dL_law_0 (fun q1 H hP hD hS => ?_)
  have hP : va_P D vwCl [(q1, .inr (3, [.null, .null]))] H := hP
  have hD : va_D (fun q => s.heap.size ≤ q) [(q1, .inr (3, [.null, .null]))] := hD
  refine W.widen (k := 1) (n := 2) (Nat.le_of_ble_eq_true rfl) (Nat.le_of_ble_eq_true rfl) ?_
  refine lv_dup hx hb dL_law_3 rfl ?_
  have hF := zfree hD hS hA
  refine zk_M (va_runI (As := []) (rest := [.ref q1]) ⟨hx, hb, hml, hown, htl⟩ (c_X3_init l D cI q1 _) (cwI 0 htl gL_law_X3_init rfl rfl rfl (hts (.initialized RX3) (by decide +kernel)) (htl (.methodLink RL 131 yX3_init) (by decide +kernel)) (hts (.instanceMethod yX3_init) (by decide +kernel)) rfl (by decide +kernel) ⟨Nat.le_of_ble_eq_true rfl, Nat.le_of_ble_eq_true rfl⟩) ⟨zblL _, zprL hKi hP hD hL1⟩ rfl rfl hl.1 rfl (lv_room (Nat.le_of_ble_eq_true rfl)) dL_law_4 ⟨Nat.le_of_ble_eq_true rfl, Nat.le_of_ble_eq_true rfl⟩) hS hF (fun v9 H locs hw hkp hP1 hD1 hS => ?_)
  have hP := hP1
  have hD := hD1.weaken (fun _ _ _ z => hF _ z)
  refine W.widen (k := 41) (n := 350) (Nat.le_of_ble_eq_true rfl) (Nat.le_of_ble_eq_true rfl) ?_
  refine lv_astore_n (lv' := [(1, .ref q1), (0, .ref b)]) hx hb dL_law_7 rfl hl (by decide) rfl (fun ls hl => ?_)
  refine lv_aload_n hx hb dL_law_8 rfl (lv_at hl 0 rfl) ?_
  refine lv_aload_n hx hb dL_law_9 rfl (lv_at hl 1 rfl) ?_
  have hF := zfree hD hS hA
  have hnA : ¬ va_A (zw_X cI q1 v9.1 v9.2 zs0 zs0) H.size b := fun z => by
    rcases z with ⟨k, e, hk⟩ | hk
    · exact absurd (hD.2 k _ hk) (Nat.not_le.mpr hbl)
    · have := hS.1; omega
  refine zk_Bd (va_runS (As := [.ref q1, .ref b]) (rest := []) ⟨hx, hb, hml, hown, htl⟩ (c_L_build l D cI cB cS q1 b L xs v9.1 v9.2 zs0 _) (va_cwS 2 htl gL_law_L_build rfl rfl rfl zdL_build.2 ⟨Nat.le_of_ble_eq_true rfl, Nat.le_of_ble_eq_true rfl⟩) ⟨zblS _, zprS hK hP hD hL1 hXd hL hbl hbA hS hnA⟩ rfl rfl hl.1 rfl (lv_room (Nat.le_of_ble_eq_true rfl)) dL_law_10 ⟨Nat.le_of_ble_eq_true rfl, Nat.le_of_ble_eq_true rfl⟩) hS hF (fun Z H locs hZ hP1 hD1 hS => ?_)
  have hP := hP1
  have hD := hD1.weaken (fun _ _ _ z => hF _ z)
  refine W.widen (k := 182) (n := 1942) (Nat.le_of_ble_eq_true rfl) (Nat.le_of_ble_eq_true rfl) ?_
  refine lv_astore_n (lv' := [(2, .ref (Z.2.1 0)), (1, .ref q1), (0, .ref b)]) hx hb dL_law_13 rfl hl (by decide) rfl (fun ls hl => ?_)
  refine lv_aload_n hx hb dL_law_14 rfl (lv_at hl 0 rfl) ?_
  refine lv_ifnonnull (tgt := 20) hx hb dL_law_15 (by decide) ?_
  have harr := hts (.arrayClass .int) (by decide +kernel)
  refine lv_bipush (v := 10) hx hb dL_law_20 (by decide) ?_
  refine zk_newI (N' := 10) hx hb harr hKi hP hD hS hA (by decide) (by decide) (by decide) (Nat.le_of_ble_eq_true rfl) (Nat.le_of_ble_eq_true rfl) dL_law_22 (fun a3 H hP hD hS => ?_)
  refine W.widen (k := 183) (n := 1952) (Nat.le_of_ble_eq_true rfl) (Nat.le_of_ble_eq_true rfl) ?_
  refine lv_astore_n (lv' := [(3, .ref a3), (2, .ref (Z.2.1 0)), (1, .ref q1), (0, .ref b)]) hx hb dL_law_24 rfl hl (by decide) rfl (fun ls hl => ?_)
  refine lv_bipush (v := 10) hx hb dL_law_25 (by decide) ?_
  refine zk_newI (N' := 10) hx hb harr hKi hP hD hS hA (by decide) (by decide) (by decide) (Nat.le_of_ble_eq_true rfl) (Nat.le_of_ble_eq_true rfl) dL_law_27 (fun a4 H hP hD hS => ?_)
  refine W.widen (k := 184) (n := 1962) (Nat.le_of_ble_eq_true rfl) (Nat.le_of_ble_eq_true rfl) ?_
  refine lv_astore (lv' := [(4, .ref a4), (3, .ref a3), (2, .ref (Z.2.1 0)), (1, .ref q1), (0, .ref b)]) hx hb dL_law_29 hl (by decide) rfl (fun ls hl => ?_)
  refine lv_bipush (v := 10) hx hb dL_law_31 (by decide) ?_
  refine zk_newI (N' := 10) hx hb harr hKi hP hD hS hA (by decide) (by decide) (by decide) (Nat.le_of_ble_eq_true rfl) (Nat.le_of_ble_eq_true rfl) dL_law_33 (fun a5 H hP hD hS => ?_)
  refine W.widen (k := 185) (n := 1972) (Nat.le_of_ble_eq_true rfl) (Nat.le_of_ble_eq_true rfl) ?_
  refine lv_astore (lv' := [(5, .ref a5), (4, .ref a4), (3, .ref a3), (2, .ref (Z.2.1 0)), (1, .ref q1), (0, .ref b)]) hx hb dL_law_35 hl (by decide) rfl (fun ls hl => ?_)
  have hP : va_P D vwCl (zWZ cI cB cS q1 v9.1 v9.2 zs0 Z ++ [(a3, .inl (cI, 10, .inl (fun _ => 0))), (a4, .inl (cI, 10, .inl (fun _ => 0))), (a5, .inl (cI, 10, .inl (fun _ => 0)))]) H := by simpa only [List.append_assoc, List.cons_append, List.nil_append] using hP
  have hD : va_D (fun q => s.heap.size ≤ q) (zWZ cI cB cS q1 v9.1 v9.2 zs0 Z ++ [(a3, .inl (cI, 10, .inl (fun _ => 0))), (a4, .inl (cI, 10, .inl (fun _ => 0))), (a5, .inl (cI, 10, .inl (fun _ => 0)))]) := by simpa only [List.append_assoc, List.cons_append, List.nil_append] using hD
  refine lv_iconst (v := 0) hx hb dL_law_37 (by decide) ?_
  refine lv_istore (lv' := [(6, .int 0), (5, .ref a5), (4, .ref a4), (3, .ref a3), (2, .ref (Z.2.1 0)), (1, .ref q1), (0, .ref b)]) hx hb dL_law_38 hl (by decide) rfl (fun ls hl => ?_)
  refine law_rounds (s := s.setDrawn s.drawn) (CC s.drawn) hA (Z0 := Z) ⟨⟨rfl, hZ.1, hZ.2⟩, zmA_0 hZ.1, hP, hD⟩ hS (lv_sub hl [0, 1, 2, 3, 4, 5, 6] rfl) (fun σ u bd sl nb ns h R Lt Fl H locs ls hV hh hP hD hS hl => ?_)
  refine lv_aload_n hx hb dL_law_678 rfl (lv_at hl 0 rfl) ?_
  refine lv_aload_n hx hb dL_law_679 rfl (lv_at hl 1 rfl) ?_
  have hF := zfree (zxd_D hD) hS hA
  refine va_calliD hd0 (va_runV_D (As := [.ref q1]) (rest := []) ⟨hx, hb, hml, hown, htl⟩ (c_X6_isSame l D cI cB cS q1 v9.1 v9.2 u bd sl σ zs0 hV _) (cwV 1 htl gL_law_X6_isSame rfl rfl rfl zdX6_isSame ⟨Nat.le_of_ble_eq_true rfl, Nat.le_of_ble_eq_true rfl⟩) ⟨zbl _, va_recv hK (zxd_P hP) (ci := 6) (q0 := (zw_X cI q1 v9.1 v9.2 σ zs0).length + 0) rfl (zxr (i := 0) rfl), zpr hK (zxd_P hP) (zxd_D hD)⟩ rfl rfl hl.1 rfl (lv_room (Nat.le_of_ble_eq_true rfl)) dL_law_680 ⟨Nat.le_of_ble_eq_true rfl, Nat.le_of_ble_eq_true rfl⟩) hS (fun q _ z => hF q z) hF (fun r u9 t H1 locs ht hvm hw hB9 hz1 hk1 hS d1 hd1 => ?_)
  have hw : r = 1 := hw
  subst hw
  refine va_forget (fun q hq => hS.2.2 q hq) ?_
  refine W.widen (k := 772990) (n := 6782653) (Nat.le_of_ble_eq_true rfl) (Nat.le_of_ble_eq_true rfl) ?_
  exact lw_ret hd1 hx hb hr hlocks dL_law_683
