def q_mean (σ : zS) (ns : Nat) (r : UInt64) : Prop := if ns = 0 then r = FP.dconst0 else alike64 r (FP.ddiv (FP.i2d (f_sum (σ 14) ns)) (FP.i2d (nI ns))) = true
theorem q_mean_0 {σ : zS} {ns : Nat} {r : UInt64} (h : ns = 0) (h2 : r = FP.dconst0) : q_mean σ ns r := by unfold q_mean; rw [if_pos h]; exact h2
theorem q_mean_1 {σ : zS} {ns : Nat} {r : UInt64} (h : ¬ ns = 0) (h2 : alike64 r (FP.ddiv (FP.i2d (f_sum (σ 14) ns)) (FP.i2d (nI ns))) = true) : q_mean σ ns r := by unfold q_mean; rw [if_neg h]; exact h2
theorem zn_pos {n : Nat} (h : (0 : Int32) < nI n) : ¬ n = 0 := fun z => by subst z; exact absurd h (by decide)
theorem zn_npos {n : Nat} (hn : n < 2 ^ 31) (h : ¬ (0 : Int32) < nI n) : n = 0 := by
  rcases Nat.eq_zero_or_pos n with z | z
  · exact z
  · exact absurd (nI_lt (a := 0) z hn) h

set_option maxHeartbeats 4000000 in
set_option maxRecDepth 100000 in
theorem c_X3_mean (l : Launch) (D : va_G) (cI : ClassId) (x : Nat) (a b : Nat → Nat) (σ τ : zS) {nb ns h : Nat} (hC : zC σ nb ns h) (sz : Nat) : MetD lw_cs l yX3_mean wsX3_mean ({ frames := 2, cells := 0, slots := 0, locals := 43 }) (va_Pc [.ref x] (zPW D [(cI, .int)] (zw_X cI x a b σ (τ)) sz)) (va_Qd (fun (r : UInt64) (_ : Unit) => q_mean σ ns r) (fun _ _ => True) (fun _ => False)) 0 0 (fun _ => False) := by
  refine MetD.ofW (cc := cX3_mean) (maxL := 2) (ret := (some .double)) (by decide) rfl ?_
  intro p e s m args below meth c s₁ B hml hv hd0
  obtain ⟨rfl, hsz, hP, hK, hD⟩ := hv
  have hx := B.exec
  have hb := B.bytes
  have hr := B.returns
  have hts0 := atoms_spec (ws := wsX3_mean) B.pre
  have hts := dr_words hts0 s.drawn
  have hown : s.vm.findClass RX3 = some m.cls := findClass_of_methodNamed B.named
  have hlocks := B.notSynchronized
  have hS : va_S (fun _ => False) s.heap s.heap [] := va_S.rf
  have hP : va_P D vwCl (zw_X cI x a b σ (τ)) s.heap := hP
  have hl := lv_entry ([.ref x]) (n := 2) (Nat.le_of_ble_eq_true rfl)
  rw [lg_entry_eq]
  generalize (lg_sl ([.ref x]) ++ List.replicate (2 - (lg_sl ([.ref x])).length) Slot.unset).toArray = ls at hl ⊢
  have hl : lv_has ls 2 [(0, .ref x)] := hl
  have hf10 := hts (.fieldLink RX3 10 "HotBeds" "house" "LHotBeds$House;") (by decide +kernel)
  have hf181 := hts (.fieldLink RX3 181 "HotBeds$Sailors" "size" "I") (by decide +kernel)
  have hf48 := hts (.fieldLink RX3 48 "HotBeds$House" "sailors" "LHotBeds$Sailors;") (by decide +kernel)
  have hinX1 : ∀ w ∈ u_ws RX1 TX1 5, w ∈ wsX3_mean := by decide +kernel
  have hinX2 : ∀ w ∈ u_ws RX2 TX2 13, w ∈ wsX3_mean := by decide +kernel
  have hinX3 : ∀ w ∈ u_ws RX3 TX3 2, w ∈ wsX3_mean := by decide +kernel
  have hnb := hC.2.1
  have hns := hC.2.2.2.1
  have hh := hC.2.2.2.2.2.1
  refine lv_aload_n hx hb dX3_mean_0 rfl (lv_at hl 0 rfl) ?_
  refine va_get (D := D) (ci := 3) (v := .ref (a 0)) (C := RX3) (T := TX3) (N := 2) hx hb hts hinX3 hown hK hP 0 rfl rfl 0 (by decide) hf10 (fun _ h9 => h9) rfl dX3_mean_1 ?_
  refine va_get (D := D) (ci := 1) (v := .ref (a 2)) (C := RX1) (T := TX1) (N := 5) hx hb hts hinX1 hown hK hP 1 rfl rfl 4 (by decide) hf48 (fun _ h9 => h9) rfl dX3_mean_4 ?_
  refine lv_astore_n (lv' := [(1, .ref (a 2)), (0, .ref x)]) hx hb dX3_mean_7 rfl hl (by decide) rfl (fun ls hl => ?_)
  refine lv_aload_n hx hb dX3_mean_8 rfl (lv_at hl 0 rfl) ?_
  refine va_get (D := D) (ci := 2) (v := .int (nI ns)) (C := RX2) (T := TX2) (N := 13) hx hb hts hinX2 hown hK hP 3 rfl rfl 0 (by decide) hf181 (fun _ h9 => h9) (congrArg (fun z => some (Value.int z)) hC.2.2.1) dX3_mean_9 ?_
  refine lv_if_gt (tgt := 17) hx hb dX3_mean_12 (by decide) (fun c_1 => ?_) (fun c_1 => ?_)
  · refine lv_aload_n hx hb dX3_mean_17 rfl (lv_at hl 0 rfl) ?_
    refine zk_R (D := D) (va_runV (As := []) (rest := []) ⟨hx, hb, hml, hown, hts⟩ (c_X2_allRest l D cI a σ hC _) (cwV 0 hts gX3_mean_X2_allRest rfl rfl rfl zdX2_allRest ⟨Nat.le_of_ble_eq_true rfl, Nat.le_of_ble_eq_true rfl⟩) ⟨zbl _, va_recv hK (zxa_P hP) (ci := 2) (q0 := 2) rfl rfl, zpr hK (zxa_P hP) (zxa_D hD)⟩ rfl rfl hl.1 rfl (lv_room (Nat.le_of_ble_eq_true rfl)) dX3_mean_18 ⟨Nat.zero_le _, Nat.zero_le _⟩) hS (fun r_2 H locs hw hkp hS => ?_)
    have hP := hkp _ hP
    subst hw
    refine lv_i2d hx hb dX3_mean_21 ?_
    refine lv_aload_n hx hb dX3_mean_22 rfl (lv_at hl 0 rfl) ?_
    refine va_get (D := D) (ci := 2) (v := .int (nI ns)) (C := RX2) (T := TX2) (N := 13) hx hb hts hinX2 hown hK hP 3 rfl rfl 0 (by decide) hf181 (fun _ h9 => h9) (congrArg (fun z => some (Value.int z)) hC.2.2.1) dX3_mean_23 ?_
    refine lv_i2d hx hb dX3_mean_26 ?_
    refine lv_ddiv_any hd0 lw_bits hx hb dX3_mean_27 (fun r9 d1 hal hd1 => ?_)
    refine W.endD hd1 ?_
    exact W.dret hx hb hr (fun t ht hW => ⟨⟨r9, (), rfl, q_mean_1 (zn_pos c_1) hal, trivial⟩, hS.F ht⟩) hS.2.2 dX3_mean_28
  · refine lv_dconst0 hx hb dX3_mean_15 ?_
    refine W.endD hd0 ?_
    exact W.dret hx hb hr (fun t ht hW => ⟨⟨FP.dconst0, (), rfl, q_mean_0 (zn_npos (by omega) c_1) rfl, trivial⟩, hS.F ht⟩) hS.2.2 dX3_mean_16
