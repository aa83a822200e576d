theorem zarr_int {args : Array Value} {s : State} (h : (Cond.arrayClass .int).before args s = true) : ∃ cA : ClassId, ArrOfT s cA .int ∧ va_RA s cA .int := by
  obtain ⟨cA, kA, comp, h1, h2, h3⟩ := Cond.arrayClass_spec h
  exact ⟨cA, fun n z => ⟨fun k h => (by cases h), kA, h2, comp, h3⟩, h1⟩
theorem zarr_long {args : Array Value} {s : State} (h : (Cond.arrayClass .long).before args s = true) : ∃ cA : ClassId, ArrOfT s cA .long ∧ va_RA s cA .long := by
  obtain ⟨cA, kA, comp, h1, h2, h3⟩ := Cond.arrayClass_spec h
  exact ⟨cA, fun n z => ⟨fun k h => (by cases h), kA, h2, comp, h3⟩, h1⟩
theorem zstr_ {own tx : String} {k : Nat} {args : Array Value} {s : State} (h0 : (Cond.stringRef own k tx).before args s = true) : ∃ a, vk_R own k tx a s := by
  have h : (Cond.stringRef own k tx).before #[] s = true := by
    simp only [Cond.before, Cond.holds, Cond.value] at h0 ⊢
    exact h0
  have hcur : ∃ cur, s.vm.findClass own = some cur := by
    have h1 := h
    simp only [Cond.before, Cond.holds, Cond.value] at h1
    cases hc : s.vm.findClass own with
    | none => simp [hc] at h1
    | some cur => exact ⟨cur, rfl⟩
  obtain ⟨cur, hcur⟩ := hcur
  obtain ⟨k, cf, i, a, -, -, -, -, -, hev⟩ := Cond.stringRef_spec hcur h
  exact ⟨a, h, hev⟩
theorem zm_Dec : ∀ n ∈ zDec, Cond.declares (Bundle.initS n) ∈ lw_tbl := by decide +kernel
theorem zm_Ex : ∀ n ∈ zEx, Cond.castable n n ∈ lw_tbl := by decide +kernel
theorem zm_Nest : ∀ q ∈ zNest, Cond.methodLinkNest q.1 q.2.1 q.2.2.1 q.2.2.2 ∈ lw_tbl := by decide +kernel
theorem zm_Str : ∀ q ∈ zStr, Cond.stringRef q.1 q.2.1 q.2.2 ∈ lw_tbl := by decide +kernel
theorem zL_start {b : Nat} {s : State} (hts : ∀ w ∈ lw_tbl, w.before #[Value.ref b] s = true) (hgv : (Jvm.Cond.and given_1 narrow_1).before #[Value.ref b] s = true) : ∀ d : Drawn, zL (s.setDrawn d) := by
  intro d
  have hd := dr_words hts d
  have hs := flat_of_before _ hgv
  refine ⟨fun n hn => va_Nw.of rfl (hd _ (zm_Dec n hn)), fun n hn => va_Nw.of rfl (hd _ (zm_Ex n hn)), fun q hq => va_Nw.of rfl (hd _ (zm_Nest q hq)), fun q hq => zstr_ (hd _ (zm_Str q hq)), fun q hq => ?_⟩
  have h9 : va_Nc q.1 q.2 s := by
    simp only [zNot, List.mem_cons, List.not_mem_nil, or_false] at hq
    rcases hq with rfl | rfl | rfl | rfl | rfl | rfl <;> exact va_Nc.of (hs _ (by decide +kernel))
  exact va_Nc.moved (u := s) (Vm.Alike.refl s.vm) h9
theorem zZ_start {b : Nat} {s : State} (hts : ∀ w ∈ lw_tbl, w.before #[Value.ref b] s = true) (hgv : (Jvm.Cond.and given_1 narrow_1).before #[Value.ref b] s = true) : ∀ d : Drawn, zZ (fun q => s.heap.size ≤ q) (s.setDrawn d) s.heap := by
  intro d
  have hs := flat_of_before _ hgv
  exact ⟨vx_Zq.moved (u := s) (Vm.Alike.refl s.vm) (vx_Zqof (hts _ (by decide +kernel)) (hts _ (by decide +kernel)) (hs _ (by decide +kernel)) (fun a ha => Nat.not_le.mpr ha)), vx_Zq.moved (u := s) (Vm.Alike.refl s.vm) (vx_Zqof (hts _ (by decide +kernel)) (hts _ (by decide +kernel)) (hs _ (by decide +kernel)) (fun a ha => Nat.not_le.mpr ha))⟩

set_option maxHeartbeats 4000000 in
set_option maxRecDepth 100000 in
theorem whole_start {p : Program} {e : Env} {s : State} {m : MethodId} {below : List Frame} {meth : Method} {c : Code} (l : Launch) (hflags : l.flags = flags0) {b L : Nat} {xs : Nat → Int32} (hL : L ≤ 2560) (C0 : lw_At p s m meth c b L xs) : W p l e room_1 s m #[Value.ref b] below meth c s.heap [] 0 0 (lw_Z below #[Value.ref b] s) (entryFrame m ([Value.ref b] : List Value).toArray 9) := by
  have hR := C0
  obtain ⟨hx, hb, hr, hml, hown, hts0, hX, hbl, hlocks, hgv⟩ := hR
  have htsL : ∀ w ∈ wsL_law, w.before #[Value.ref b] s = true := fun w h => hts0 w (wsL_law_in w h)
  have hown : s.vm.findClass RL = some m.cls := hown
  have hA : ∀ q : Nat, s.heap.size ≤ q → (fun q => s.heap.size ≤ q) q := fun _ z => z
  obtain ⟨k0, i0, hK0⟩ := u_known (C := RX0) (T := TX0) (N := 6) (n := 6) hts0 inX0 (hts0 (.instantiable RX0 6) (by decide +kernel))
  obtain ⟨k1, i1, hK1⟩ := u_known (C := RX1) (T := TX1) (N := 5) (n := 5) hts0 inX1 (hts0 (.instantiable RX1 5) (by decide +kernel))
  obtain ⟨k2, i2, hK2⟩ := u_known (C := RX2) (T := TX2) (N := 13) (n := 13) hts0 inX2 (hts0 (.instantiable RX2 13) (by decide +kernel))
  obtain ⟨k3, i3, hK3⟩ := u_known (C := RX3) (T := TX3) (N := 2) (n := 2) hts0 inX3 (hts0 (.instantiable RX3 2) (by decide +kernel))
  obtain ⟨k4, i4, hK4⟩ := u_known (C := RX4) (T := TX4) (N := 8) (n := 8) hts0 inX4 (hts0 (.instantiable RX4 8) (by decide +kernel))
  obtain ⟨D, hKc⟩ : ∃ D : va_G, ∀ (k : Nat) (q : vw_C), vwCl[k]? = some q → u_Kn s q.1 q.2.1 q.2.2 (D.1 k) (D.2 k) := by
    refine ⟨(fun k => if k = 0 then k0 else if k = 1 then k1 else if k = 2 then k2 else if k = 3 then k3 else k4, fun k => if k = 0 then i0 else if k = 1 then i1 else if k = 2 then i2 else if k = 3 then i3 else i4), ?_⟩
    intro k q hq
    match k, hq with
    | 0, hq => cases hq; exact hK0
    | 1, hq => cases hq; exact hK1
    | 2, hq => cases hq; exact hK2
    | 3, hq => cases hq; exact hK3
    | 4, hq => cases hq; exact hK4
    | k + 5, hq => simp [vwCl] at hq
  obtain ⟨cI, hI1, hI2⟩ := zarr_int (hts0 (.arrayClass .int) (by decide +kernel))
  obtain ⟨cL, hJ1, hJ2⟩ := zarr_long (hts0 (.arrayClass .long) (by decide +kernel))
  have hK9 : va_K D vwCl (zT2 cI cL) s := ⟨hKc, fun k q h => by
    match k, h with
    | 0, h => cases h; exact ⟨hI1, hI2⟩
    | 1, h => cases h; exact ⟨hJ1, hJ2⟩
    | k + 2, h => simp at h⟩
  have hKd : ∀ d : Drawn, va_K D vwCl (zT2 cI cL) (s.setDrawn d) := fun d => va_K.moved (u := s) (Vm.Alike.refl s.vm) hK9
  have hLd := zL_start hts0 hgv
  have hZd := zZ_start hts0 hgv
  have hst : l.stackTraces = false := by unfold Launch.stackTraces; rw [hflags]; decide +kernel
  have CC : ∀ d : Drawn, zLA l p (s.setDrawn d) m meth c D cI cL b L xs := fun d => ⟨hx, hb, hr, hml, hown, dr_words htsL d, va_X.moved (u := s) (Vm.Alike.refl s.vm) hX, hbl, hKd d, hLd d, hZd d, hst, hL⟩
  refine W.base ?_
  have hd0 := Drawn.sameBut.refl s.drawn lw_cs
  have hts := dr_words hts0 s.drawn
  have htl := dr_words htsL s.drawn
  have hK := hKd s.drawn
  have hL1 := hLd s.drawn
  have hKi : va_K D vwCl [(cI, .int)] (s.setDrawn s.drawn) := hK.sub [0] rfl
  have hS : va_S (fun q => s.heap.size ≤ q) s.heap s.heap [] := va_S.rf
  have hP : va_P D vwCl [] s.heap := fun k q h => by simp at h
  have hD : va_D (fun q => s.heap.size ≤ q) [] := ⟨fun i j p q h => by simp at h, fun k q h => by simp at h⟩
  have hl := lv_entry ([.ref b]) (n := 9) (Nat.le_of_ble_eq_true rfl)
  rw [lg_entry_eq]
  generalize (lg_sl ([.ref b]) ++ List.replicate (9 - (lg_sl ([.ref b])).length) Slot.unset).toArray = ls at hl ⊢
  have hl : lv_has ls 9 [(0, .ref b)] := hl
  refine va_new (ci := 3) (fs := [.null, .null]) (C := RX3) (T := TX3) (N := 2) hx hb hts inX3 tyX3 tyX3_ok hown (hts (.classLink RL 8 RX3) (by decide +kernel)) (hts (.instantiable RX3 2) (by decide +kernel)) (hts (.initialized RX3) (by decide +kernel)) hK hP hD hS hA rfl (fun j hj => by rcases (show j = 0 ∨ j = 1 by omega) with rfl | rfl <;> rfl) (Nat.le_of_ble_eq_true rfl) (Nat.le_of_ble_eq_true rfl) dL_law_0 (fun q1 H hP hD hS => ?_)
  have hP : va_P D vwCl [(q1, .inr (3, [.null, .null]))] H := hP
  have hD : va_D (fun q => s.heap.size ≤ q) [(q1, .inr (3, [.null, .null]))] := hD
  refine W.widen (k := 1) (n := 2) (Nat.le_of_ble_eq_true rfl) (Nat.le_of_ble_eq_true rfl) ?_
  refine lv_dup hx hb dL_law_3 rfl ?_
  have hF := zfree hD hS hA
  refine zk_M (va_runI (As := []) (rest := [.ref q1]) ⟨hx, hb, hml, hown, htl⟩ (c_X3_init l D cI q1 _) (cwI 0 htl gL_law_X3_init rfl rfl rfl (hts (.initialized RX3) (by decide +kernel)) (hts (.methodLink RL 69 yX3_init) (by decide +kernel)) (hts (.instanceMethod yX3_init) (by decide +kernel)) rfl (by decide +kernel) ⟨Nat.le_of_ble_eq_true rfl, Nat.le_of_ble_eq_true rfl⟩) ⟨zblL _, zprL hKi hP hD hL1⟩ rfl rfl hl.1 rfl (lv_room (Nat.le_of_ble_eq_true rfl)) dL_law_4 ⟨Nat.le_of_ble_eq_true rfl, Nat.le_of_ble_eq_true rfl⟩) hS hF (fun u H locs hw hkp hP1 hD1 hS => ?_)
  have hP := hP1
  have hD := hD1.weaken (fun _ _ _ z => hF _ z)
  refine W.widen (k := 41) (n := 350) (Nat.le_of_ble_eq_true rfl) (Nat.le_of_ble_eq_true rfl) ?_
  refine lv_astore_n (lv' := [(1, .ref q1), (0, .ref b)]) hx hb dL_law_7 rfl hl (by decide) rfl (fun ls hl => ?_)
  refine va_new (ci := 4) (fs := [.int 0, .int 0, .int 0, .null, .null, .null, .null, .null]) (C := RX4) (T := TX4) (N := 8) hx hb hts inX4 tyX4 tyX4_ok hown (hts (.classLink RL 70 RX4) (by decide +kernel)) (hts (.instantiable RX4 8) (by decide +kernel)) (hts (.initialized RX4) (by decide +kernel)) hK hP hD hS hA rfl (fun j hj => by rcases (show j = 0 ∨ j = 1 ∨ j = 2 ∨ j = 3 ∨ j = 4 ∨ j = 5 ∨ j = 6 ∨ j = 7 by omega) with rfl | rfl | rfl | rfl | rfl | rfl | rfl | rfl <;> rfl) (Nat.le_of_ble_eq_true rfl) (Nat.le_of_ble_eq_true rfl) dL_law_8 (fun q2 H hP hD hS => ?_)
  have hP8 : va_P D vwCl (zw_X cI q1 u.1 u.2 zs0 zs0 ++ ([(q2, .inr (4, [.int 0, .int 0, .int 0, .null, .null, .null, .null, .null]))] ++ [])) H := hP
  have hD8 : va_D (fun q => s.heap.size ≤ q) (zw_X cI q1 u.1 u.2 zs0 zs0 ++ ([(q2, .inr (4, [.int 0, .int 0, .int 0, .null, .null, .null, .null, .null]))] ++ [])) := hD
  have hPm := fr_P hP8
  have hDm := fr_D hD8
  have hF := zfree hDm hS hA
  refine W.widen (k := 42) (n := 358) (Nat.le_of_ble_eq_true rfl) (Nat.le_of_ble_eq_true rfl) ?_
  refine lv_dup hx hb dL_law_11 rfl ?_
  refine zk_M (va_runI (As := []) (rest := [.ref q2]) ⟨hx, hb, hml, hown, htl⟩ (c_X4_init l D cI q2 _) (cwI 0 htl gL_law_X4_init rfl rfl rfl (hts (.initialized RX4) (by decide +kernel)) (hts (.methodLink RL 72 yX4_init) (by decide +kernel)) (hts (.instanceMethod yX4_init) (by decide +kernel)) rfl (by decide +kernel) ⟨Nat.le_of_ble_eq_true rfl, Nat.le_of_ble_eq_true rfl⟩) ⟨zblL _, zprL hKi hPm hDm hL1⟩ rfl rfl hl.1 rfl (lv_room (Nat.le_of_ble_eq_true rfl)) dL_law_12 ⟨Nat.le_of_ble_eq_true rfl, Nat.le_of_ble_eq_true rfl⟩) hS hF (fun μ H locs hw4 hkp hP1 hD1 hS => ?_)
  have hw5 : μ 0 = q2 := hw4
  subst hw5
  obtain ⟨hP, hD⟩ := fr_J hP8 hD8 hkp hF hP1 hD1
  refine W.widen (k := 47) (n := 660) (Nat.le_of_ble_eq_true rfl) (Nat.le_of_ble_eq_true rfl) ?_
  refine lv_astore_n (lv' := [(2, .ref (μ 0)), (1, .ref q1), (0, .ref b)]) hx hb dL_law_15 rfl hl (by decide) rfl (fun ls hl => ?_)
  refine lv_iconst (v := 1) hx hb dL_law_16 (by decide) ?_
  refine va_newa (atype := .long) (ty := .long) (a0 := (1, .inr (.inl (fun _ => 0)))) hx hb (hts (.arrayClass .long) (by decide +kernel)) rfl hK hP hD hS hA (fun _ => rfl) (by decide) (by decide) (Nat.le_of_ble_eq_true rfl) (Nat.le_of_ble_eq_true rfl) (Nat.le_of_ble_eq_true rfl) dL_law_17 (fun o cA H hK1 hP hD hS => ?_)
  have e9 : cA = cL := Option.some.inj ((hK1.2 2 (cA, .long) rfl).2.symm.trans (hK.2 1 (cL, .long) rfl).2)
  subst e9
  refine W.widen (k := 48) (n := 661) (Nat.le_of_ble_eq_true rfl) (Nat.le_of_ble_eq_true rfl) ?_
  have hP9 : va_P D vwCl (zw_W cI cA q1 u.1 u.2 zs0 zs0 o (fun _ => 0) μ 0 (fun _ => 0)) H := hP.sub [0, 1, 2, 3, 4, 5, 6, 7, 8, 9, 10, 11, 12, 13, 14, 15, 16, 17, 18, 19, 20, 21, 22, 23, 24, 25, 26, 27, 28, 29, 30, 31, 32, 33, 34, 35, 36, 37, 38, 39, 40, 47, 41, 42, 43, 44, 45, 46] rfl
  have hD9 : va_D (fun q => s.heap.size ≤ q) (zw_W cI cA q1 u.1 u.2 zs0 zs0 o (fun _ => 0) μ 0 (fun _ => 0)) := hD.sub [0, 1, 2, 3, 4, 5, 6, 7, 8, 9, 10, 11, 12, 13, 14, 15, 16, 17, 18, 19, 20, 21, 22, 23, 24, 25, 26, 27, 28, 29, 30, 31, 32, 33, 34, 35, 36, 37, 38, 39, 40, 47, 41, 42, 43, 44, 45, 46] (by decide) rfl
  refine lv_astore_n (lv' := [(3, .ref o), (2, .ref (μ 0)), (1, .ref q1), (0, .ref b)]) hx hb dL_law_19 rfl hl (by decide) rfl (fun ls hl => ?_)
  refine lv_iconst (v := 0) hx hb dL_law_20 (by decide) ?_
  refine lv_istore (lv' := [(4, .int 0), (3, .ref o), (2, .ref (μ 0)), (1, .ref q1), (0, .ref b)]) hx hb dL_law_21 hl (by decide) rfl (fun ls hl => ?_)
  exact law_loop hlocks CC (L + 1) 0 s.drawn hd0 (by omega) (by omega) zs0 zs0 (fun _ => 0) 0 (fun _ => 0) 0 0 0 _ _ ls zU.zero (Nat.le_refl 0) hP9 hD9 hS (lv_sub hl [4, 3, 2, 1, 0] rfl)
