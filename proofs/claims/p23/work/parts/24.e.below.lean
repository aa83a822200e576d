theorem zdL_below : yL_below.cls = RL ∧ yL_below.cls ≠ "java/lang/invoke/MethodHandle" ∧ yL_below.cls ≠ "java/lang/invoke/VarHandle" ∧ (parseMethodDescriptor yL_below.desc).map (fun d => d.parameters.length) = some 2 := by decide +kernel
theorem zdL_cell : yL_cell.cls = RL ∧ yL_cell.cls ≠ "java/lang/invoke/MethodHandle" ∧ yL_cell.cls ≠ "java/lang/invoke/VarHandle" ∧ (parseMethodDescriptor yL_cell.desc).map (fun d => d.parameters.length) = some 2 := by decide +kernel
theorem zdL_act : yL_act.cls = RL ∧ yL_act.cls ≠ "java/lang/invoke/MethodHandle" ∧ yL_act.cls ≠ "java/lang/invoke/VarHandle" ∧ (parseMethodDescriptor yL_act.desc).map (fun d => d.parameters.length) = some 3 := by decide +kernel
theorem zdL_build : yL_build.cls = RL ∧ yL_build.cls ≠ "java/lang/invoke/MethodHandle" ∧ yL_build.cls ≠ "java/lang/invoke/VarHandle" ∧ (parseMethodDescriptor yL_build.desc).map (fun d => d.parameters.length) = some 2 := by decide +kernel
theorem zdX3_bed : yX3_bed.cls = RX3 ∧ yX3_bed.cls ≠ "java/lang/invoke/MethodHandle" ∧ yX3_bed.cls ≠ "java/lang/invoke/VarHandle" ∧ (parseMethodDescriptor yX3_bed.desc).map (fun d => d.parameters.length) = some 1 := by decide +kernel
theorem zdX3_sailor : yX3_sailor.cls = RX3 ∧ yX3_sailor.cls ≠ "java/lang/invoke/MethodHandle" ∧ yX3_sailor.cls ≠ "java/lang/invoke/VarHandle" ∧ (parseMethodDescriptor yX3_sailor.desc).map (fun d => d.parameters.length) = some 4 := by decide +kernel
theorem zdX3_keep : yX3_keep.cls = RX3 ∧ yX3_keep.cls ≠ "java/lang/invoke/MethodHandle" ∧ yX3_keep.cls ≠ "java/lang/invoke/VarHandle" ∧ (parseMethodDescriptor yX3_keep.desc).map (fun d => d.parameters.length) = some 2 := by decide +kernel
theorem zdX3_setBell : yX3_setBell.cls = RX3 ∧ yX3_setBell.cls ≠ "java/lang/invoke/MethodHandle" ∧ yX3_setBell.cls ≠ "java/lang/invoke/VarHandle" ∧ (parseMethodDescriptor yX3_setBell.desc).map (fun d => d.parameters.length) = some 1 := by decide +kernel
theorem zdX3_setPawn : yX3_setPawn.cls = RX3 ∧ yX3_setPawn.cls ≠ "java/lang/invoke/MethodHandle" ∧ yX3_setPawn.cls ≠ "java/lang/invoke/VarHandle" ∧ (parseMethodDescriptor yX3_setPawn.desc).map (fun d => d.parameters.length) = some 1 := by decide +kernel
theorem zdX3_give : yX3_give.cls = RX3 ∧ yX3_give.cls ≠ "java/lang/invoke/MethodHandle" ∧ yX3_give.cls ≠ "java/lang/invoke/VarHandle" ∧ (parseMethodDescriptor yX3_give.desc).map (fun d => d.parameters.length) = some 2 := by decide +kernel
theorem zdX3_pawn : yX3_pawn.cls = RX3 ∧ yX3_pawn.cls ≠ "java/lang/invoke/MethodHandle" ∧ yX3_pawn.cls ≠ "java/lang/invoke/VarHandle" ∧ (parseMethodDescriptor yX3_pawn.desc).map (fun d => d.parameters.length) = some 1 := by decide +kernel
theorem zdX3_redeem : yX3_redeem.cls = RX3 ∧ yX3_redeem.cls ≠ "java/lang/invoke/MethodHandle" ∧ yX3_redeem.cls ≠ "java/lang/invoke/VarHandle" ∧ (parseMethodDescriptor yX3_redeem.desc).map (fun d => d.parameters.length) = some 1 := by decide +kernel
theorem zdX3_call : yX3_call.cls = RX3 ∧ yX3_call.cls ≠ "java/lang/invoke/MethodHandle" ∧ yX3_call.cls ≠ "java/lang/invoke/VarHandle" ∧ (parseMethodDescriptor yX3_call.desc).map (fun d => d.parameters.length) = some 1 := by decide +kernel
theorem zdX3_shift : yX3_shift.cls = RX3 ∧ yX3_shift.cls ≠ "java/lang/invoke/MethodHandle" ∧ yX3_shift.cls ≠ "java/lang/invoke/VarHandle" ∧ (parseMethodDescriptor yX3_shift.desc).map (fun d => d.parameters.length) = some 2 := by decide +kernel
theorem zdX3_pass : yX3_pass.cls = RX3 ∧ yX3_pass.cls ≠ "java/lang/invoke/MethodHandle" ∧ yX3_pass.cls ≠ "java/lang/invoke/VarHandle" ∧ (parseMethodDescriptor yX3_pass.desc).map (fun d => d.parameters.length) = some 1 := by decide +kernel
theorem zdX3_init : yX3_init.cls = RX3 ∧ yX3_init.cls ≠ "java/lang/invoke/MethodHandle" ∧ yX3_init.cls ≠ "java/lang/invoke/VarHandle" ∧ (parseMethodDescriptor yX3_init.desc).map (fun d => d.parameters.length) = some 0 := by decide +kernel
def q_bel (v : Int32) (N : Nat) : Nat := (v.toBitVec.toNat % 2 ^ 31) % N
theorem q_bel_lt (v : Int32) {N : Nat} (h : 0 < N) : q_bel v N < N := Nat.mod_lt _ h
set_option maxHeartbeats 4000000 in
set_option maxRecDepth 100000 in
theorem c_L_below (l : Launch) (D : va_G) (tys : List (ClassId × FieldType)) (v : Int32) {N : Nat} (h0 : 0 < N) (hN : N < 2 ^ 31) : zMR l yL_below wsL_below ({ frames := 0, cells := 0, slots := 0, locals := 0 }) [.int v, .int (nI N)] D tys [] (fun r => r = nI (q_bel v N)) := by
  intro sz
  refine Met.ofW (cc := cL_below) (maxL := 2) (ret := (some .int)) (by decide) rfl ?_
  intro p e s m args below meth c s₁ B hml hv
  obtain ⟨rfl, hsz, hP, hK, hD⟩ := hv
  have hx := B.exec
  have hb := B.bytes
  have hr := B.returns
  have hts := atoms_spec (ws := wsL_below) B.pre
  have hown : s.vm.findClass RL = some m.cls := findClass_of_methodNamed B.named
  have hlocks := B.notSynchronized
  have hS : va_S (fun _ => False) s.heap s.heap [] := va_S.rf
  have hl := lv_entry ([.int v, .int (nI N)]) (n := 2) (Nat.le_of_ble_eq_true rfl)
  rw [lg_entry_eq]
  generalize (lg_sl ([.int v, .int (nI N)]) ++ List.replicate (2 - (lg_sl ([.int v, .int (nI N)])).length) Slot.unset).toArray = ls at hl ⊢
  have hl : lv_has ls 2 [(0, .int v), (1, .int (nI N))] := hl
  refine lv_iload_n hx hb dL_below_0 rfl (lv_at hl 0 rfl) ?_
  refine lv_ldc (v := 2147483647) hx hb hown (hts (.constant RL 7 2147483647) (by decide +kernel)) dL_below_1 ?_
  refine lv_iand hx hb dL_below_3 ?_
  rw [pk_and v (m := 2147483647) 31 (by decide)]
  refine lv_iload_n hx hb dL_below_4 rfl (lv_at hl 1 rfl) ?_
  refine zk_rem (x := v.toBitVec.toNat % 2 ^ 31) (y := N) hx hb dL_below_5 (Nat.mod_lt _ (by decide)) h0 hN ?_
  exact W.iret (v := nI (q_bel v N)) hx hb hr (fun t ht hW => ⟨⟨nI (q_bel v N), (), rfl, rfl, trivial⟩, hS.F ht⟩) hS.2.2 dL_below_6
/-- the script, as a call finds it -/
def zSC (b L : Nat) (xs : Nat → Int32) (U : State) : Prop := va_X b L xs U U.heap ∧ L ≤ 260
theorem zbls {b L : Nat} {xs : Nat → Int32} (av : List Value) : FrameBlind (va_Pc av (zSC b L xs)) := fun a U g mk q => ⟨q.1, va_X.moved (u := U) (U := U.calling g mk a) (Vm.Alike.refl U.vm) q.2.1, q.2.2⟩
theorem zprs {b L : Nat} {xs : Nat → Int32} {s : State} {H : Heap} {A : Nat → Prop} {locs : List Loc} {av : List Value} (hX : va_X b L xs s s.heap) (hL : L ≤ 260) (hbl : b < s.heap.size) (hbA : ¬ A b) (hS : va_S A s.heap H locs) : ∀ U : State, U.heap = H → s.WarmedH U.vm → va_Pc av (zSC b L xs) av.toArray U := fun U hU hW => by
  refine ⟨rfl, ?_, hL⟩
  have h1 : va_X b L xs U s.heap := va_X.moved hW.alike hX
  obtain ⟨scr, g1, g2⟩ := h1
  exact ⟨scr, by rw [hU, hS.2.1 b hbl hbA]; exact g1, g2⟩
set_option maxHeartbeats 4000000 in
set_option maxRecDepth 100000 in
theorem c_L_cell (l : Launch) (b L : Nat) (xs : Nat → Int32) {k : Nat} (hk : k < 2 ^ 30) : Met l yL_cell wsL_cell ({ frames := 0, cells := 0, slots := 0, locals := 0 }) (va_Pc [.ref b, .int (nI k)] (zSC b L xs)) (va_Qi (fun (_ : Int32) (_ : Unit) => True) (fun _ _ => True) (fun _ => False)) 0 0 (fun _ => False) := by
  refine Met.ofW (cc := cL_cell) (maxL := 2) (ret := (some .int)) (by decide) rfl ?_
  intro p e s m args below meth c s₁ B hml hv
  obtain ⟨rfl, hX, hL⟩ := hv
  have hx := B.exec
  have hb := B.bytes
  have hr := B.returns
  have hts := atoms_spec (ws := wsL_cell) B.pre
  have hown : s.vm.findClass RL = some m.cls := findClass_of_methodNamed B.named
  have hlocks := B.notSynchronized
  have hS : va_S (fun _ => False) s.heap s.heap [] := va_S.rf
  have hbl : b < s.heap.size := by
    obtain ⟨scr, g1, -⟩ := hX
    exact (Array.getElem?_eq_some_iff.mp g1).1
  have hbA : ¬ (fun _ : Nat => False) b := fun z => z
  have hl := lv_entry ([.ref b, .int (nI k)]) (n := 2) (Nat.le_of_ble_eq_true rfl)
  rw [lg_entry_eq]
  generalize (lg_sl ([.ref b, .int (nI k)]) ++ List.replicate (2 - (lg_sl ([.ref b, .int (nI k)])).length) Slot.unset).toArray = ls at hl ⊢
  have hl : lv_has ls 2 [(0, .ref b), (1, .int (nI k))] := hl
  refine lv_iload_n hx hb dL_cell_0 rfl (lv_at hl 1 rfl) ?_
  refine lv_aload_n hx hb dL_cell_1 rfl (lv_at hl 0 rfl) ?_
  refine va_slen hx hb hX hbl hbA hS dL_cell_2 ?_
  refine lv_icmp_ge (tgt := 12) hx hb dL_cell_3 (by decide) (fun c1 => ?_) (fun c1 => ?_)
  · refine lv_ldc (v := 790386105) hx hb hown (hts (.constant RL 8 790386105) (by decide +kernel)) dL_cell_12 ?_
    refine lv_iload_n hx hb dL_cell_14 rfl (lv_at hl 1 rfl) ?_
    refine lv_iconst (v := 3) hx hb dL_cell_15 (by decide) ?_
    refine lv_iadd hx hb dL_cell_16 ?_
    refine lv_imul hx hb dL_cell_17 ?_
    exact W.iret (v := 790386105 * (nI k + 3)) hx hb hr (fun t ht hW => ⟨⟨_, (), rfl, trivial, trivial⟩, hS.F ht⟩) hS.2.2 dL_cell_18
  · refine lv_aload_n hx hb dL_cell_6 rfl (lv_at hl 0 rfl) ?_
    refine lv_iload_n hx hb dL_cell_7 rfl (lv_at hl 1 rfl) ?_
    have hkL : k < L := Nat.lt_of_not_le (fun z => c1 (nI_le (a := L) (b := k) z (by omega)))
    refine va_sld hx hb hX hbl hbA hS (vp_in_nI hkL (by omega)) dL_cell_8 ?_
    refine lv_goto (tgt := 18) hx hb dL_cell_9 (by decide) ?_
    exact W.iret (v := xs (nI k).toNatClampNeg) hx hb hr (fun t ht hW => ⟨⟨_, (), rfl, trivial, trivial⟩, hS.F ht⟩) hS.2.2 dL_cell_18
