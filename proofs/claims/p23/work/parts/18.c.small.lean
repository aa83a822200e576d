theorem zplace {σ : zS} {nb k : Nat} (h : (σ 12 k = 1 ∧ ∃ b, b < nb ∧ σ 13 k = nI b) ∨ ((σ 12 k = 0 ∨ σ 12 k = 2) ∧ σ 13 k = -1)) : (σ 12 k = 1 ∧ ∃ b, b < nb ∧ σ 13 k = nI b) ∨ (σ 12 k = 0 ∧ σ 13 k = -1) ∨ (σ 12 k = 2 ∧ σ 13 k = -1) := by
  rcases h with h | ⟨h | h, h2⟩
  · exact Or.inl h
  · exact Or.inr (Or.inl ⟨h, h2⟩)
  · exact Or.inr (Or.inr ⟨h, h2⟩)
theorem f_min99_le {w : Int32} (h : w ≤ 99) : f_min99 w = w := by
  unfold f_min99
  split
  · rfl
  · rename_i z
    have h1 := Int32.le_iff_toInt_le.mp h
    have h2 := mt Int32.lt_iff_toInt_lt.mpr z
    exact (Int32.toInt_inj.mp (by omega)).symm
theorem f_min99_gt {w : Int32} (h : ¬ w ≤ 99) : f_min99 w = 99 := by
  unfold f_min99
  rw [if_neg]
  intro z
  exact h (Int32.le_iff_toInt_le.mpr (by have := Int32.lt_iff_toInt_lt.mp z; omega))
/-- of one that only reads and answers a reference, or none -/
abbrev zMF (l : Launch) (y : MethodName) (ws : List Cond) (rm : Room) (av : List Value) (D : va_G) (tys : List (ClassId × FieldType)) (w : va_W) (post : Option Nat → Prop) : Prop :=
  ∀ sz : Nat, Met l y ws rm (va_Pc av (zPW D tys w sz)) (va_Qq (fun (r : Option Nat) (_ : Unit) => post r) (fun _ _ => True) (fun _ => False)) 0 0 (fun _ => False)
/-- of one that writes and answers a reference -/
abbrev zMG (l : Launch) (y : MethodName) (ws : List Cond) (rm : Room) (av : List Value) (D : va_G) (tys : List (ClassId × FieldType)) (w w1 : va_W) : Prop :=
  ∀ sz : Nat, Met l y ws rm (va_Pc av (zPW D tys w sz)) (va_Qr (fun (_ : Unit) => True) (fun _ _ t => zQW D tys w1 (va_A w sz) t) (va_A w sz)) 0 0 (va_A w sz)
section ZKJ
variable {p : Program} {l : Launch} {e : Env} {R : Room} {s : State} {m : MethodId} {args : Array Value} {below : List Frame} {meth : Method} {c : Code} {H : Heap} {locs : List Loc} {cells slots : Nat} {Q : State → Prop}
variable {pc : Nat} {ls : Array Slot} {rest st0 : List Value} {a : Array Value} {A0 : Nat → Prop} {H0 : Heap} {D : va_G} {tys : List (ClassId × FieldType)} {w w1 : va_W} {postq : Option Nat → Prop} {cc : ByteArray} {cl : List vw_C} {b : Nat}
theorem zk_F (hr : va_Run p l e R s m args below meth c H locs cells slots 0 0 (F0 m pc ls st0) rest (va_Qq (fun (r : Option Nat) (_ : Unit) => postq r) (fun _ _ => True) (fun _ => False) a) (fun _ => False)) (hS : va_S A0 H0 H locs)
    (kk : ∀ (r : Option Nat) (H1 : Heap) (locs1 : List Loc), postq r → (∀ w : va_W, va_P D vwCl w H → va_P D vwCl w H1) → va_S A0 H0 H1 locs1 → W p l e R s m args below meth c H1 locs1 cells slots Q (F0 m (pc + 3) ls (va_rf r :: rest))) : W p l e R s m args below meth c H locs cells slots Q (F0 m pc ls st0) := by
  refine va_callq hr hS (fun q _ h => h.elim) (fun q h => h.elim) (fun r u t H1 locs1 ht hvm hw hB hz1 hk1 hS1 => ?_)
  exact kk r H1 locs1 hw (fun w hP => hP.kept (fun k q hk => hk1 q.1 (hP k q hk).lt (fun z => z))) hS1
theorem zk_G (hr : va_Run p l e R s m args below meth c H locs cells slots 0 0 (F0 m pc ls st0) rest (va_Qr (fun (_ : Unit) => True) (fun _ _ t => zQW D tys w1 (va_A w H.size) t) (va_A w H.size) a) (va_A w H.size)) (hS : va_S A0 H0 H locs) (hF : ∀ q, va_A w H.size q → A0 q)
    (kk : ∀ (r : Nat) (H1 : Heap) (locs1 : List Loc), (∀ q : Nat, q < H.size → ¬ va_A w H.size q → H1[q]? = H[q]?) → va_P D vwCl w1 H1 → va_D (va_A w H.size) w1 → va_S A0 H0 H1 locs1 → W p l e R s m args below meth c H1 locs1 cells slots Q (F0 m (pc + 3) ls (.ref r :: rest))) : W p l e R s m args below meth c H locs cells slots Q (F0 m pc ls st0) := by
  refine va_callr hr hS (fun q _ h => hF q h) hF (fun u r t H1 locs1 ht hvm hw hB hz1 hk1 hS1 => ?_)
  exact kk r H1 locs1 hk1 (by rw [← ht]; exact hB.1) hB.2.2 hS1
/-- an array of references at an index that is a number -/
theorem zk_ldq (hexec : p.tables.exec = Jvm.exec) (hb : c.code = cc) (hK : va_K D cl tys s) (hP : va_P D cl w H) (q0 t0 : Nat) {cA : ClassId} {C : String} {n k : Nat} {f : Nat → Option Nat} (ha : w[q0]? = some (b, .inl (cA, n, .inr (.inr (.inr (.inr f)))))) (ht : tys[t0]? = some (cA, .object C)) (hk : k < n) (hn : n < 2 ^ 31) {v : Nat} (hv : f k = some v) (hdg : decode cc pc = .ok (.aaload, 1))
    (kk : W p l e R s m args below meth c H locs cells slots Q (F0 m (pc + 1) ls (.ref v :: rest))) : W p l e R s m args below meth c H locs cells slots Q (F0 m pc ls (.int (nI k) :: .ref b :: rest)) := by
  refine va_aldq hexec hb hK hP q0 t0 ha ht (vp_in_nI hk hn) hdg ?_
  rw [nI_clamp (by omega), hv]
  exact kk
end ZKJ
def zro (f : Nat → Nat) (v : Int32) : Option Nat := if v = -1 then none else some (f v.toNatClampNeg)
theorem zro_n {f : Nat → Nat} {v : Int32} (h : v = -1) : zro f v = none := if_pos h
theorem zro_r {f : Nat → Nat} {v : Int32} {b : Nat} (h : v = nI b) (hb : b < 2 ^ 31) : zro f v = some (f b) := by
  subst h
  unfold zro
  rw [if_neg (zn_m1 hb), nI_clamp hb]
set_option maxHeartbeats 4000000 in
set_option maxRecDepth 100000 in
theorem c_X5_up (l : Launch) (D : va_G) (cI cB cS : ClassId) (u bd sl : Nat → Nat) (σ : zS) {k : Nat} {nb ns h B : Nat} (hV : zV σ nb ns h B) (hk : k < ns) : zMV l yX5_up wsX5_up ({ frames := 0, cells := 0, slots := 0, locals := 0 }) [.ref (sl k)] D (zT3 cI cB cS) (zj cB cS u bd sl nb ns σ) (zj cB cS u bd sl nb ns (f_getUp σ k)) := by
  intro sz
  refine Met.ofW (cc := cX5_up) (maxL := 1) (ret := none) (by decide) rfl ?_
  intro p e s m args below meth c s₁ B hml hv
  obtain ⟨rfl, hsz, hP, hK, hD⟩ := hv
  have hx := B.exec
  have hb := B.bytes
  have hr := B.returns
  have hts := atoms_spec (ws := wsX5_up) B.pre
  have hown : s.vm.findClass RX5 = some m.cls := findClass_of_methodNamed B.named
  have hlocks := B.notSynchronized
  subst hsz
  have hD := hD.self (sz := s.heap.size)
  generalize hAe : va_A (zj cB cS u bd sl nb ns σ) s.heap.size = A at hD ⊢
  have hA : ∀ q : Nat, s.heap.size ≤ q → A q := fun q h => by rw [← hAe]; exact Or.inr h
  have hS : va_S A s.heap s.heap [] := va_S.rf
  have hP : va_P D vwCl (zj cB cS u bd sl nb ns σ) s.heap := hP
  have hl := lv_entry ([.ref (sl k)]) (n := 1) (Nat.le_of_ble_eq_true rfl)
  rw [lg_entry_eq]
  generalize (lg_sl ([.ref (sl k)]) ++ List.replicate (1 - (lg_sl ([.ref (sl k)])).length) Slot.unset).toArray = ls at hl ⊢
  have hl : lv_has ls 1 [(0, .ref (sl k))] := hl
  have hf13 := hts (.fieldLink RX5 13 "HotBedsLaw$Sailor" "in" "LHotBedsLaw$Bed;") (by decide +kernel)
  have hf17 := hts (.fieldLink RX5 17 "HotBedsLaw$Bed" "who" "LHotBedsLaw$Sailor;") (by decide +kernel)
  have hf23 := hts (.fieldLink RX5 23 "HotBedsLaw$Sailor" "onFloor" "Z") (by decide +kernel)
  have hinX4 : ∀ w ∈ u_ws RX4 TX4 6, w ∈ wsX5_up := by decide +kernel
  have hinX5 : ∀ w ∈ u_ws RX5 TX5 13, w ∈ wsX5_up := by decide +kernel
  have hh := hV.1.2.2.2.2.2.1
  have hnb := hV.1.2.1
  have hns := hV.1.2.2.2.1
  refine lv_aload_n hx hb dX5_up_0 rfl (lv_at hl 0 rfl) ?_
  rcases zplace ((hV.ksk hk).2.2.2.1) with ⟨e12b_1, b_1, hb_1, e13b_1⟩ | ⟨e12b_1, e13b_1⟩ | ⟨e12b_1, e13b_1⟩
  · refine va_get (D := D) (ci := 5) (v := .ref (bd b_1)) (C := RX5) (T := TX5) (N := 13) hx hb hts hinX5 hown hK hP (3 + nb + k) (zjq_S hk) rfl 7 (by decide) hf13 (fun _ h9 => h9) (congrArg some (zrf_r e13b_1 (by omega))) dX5_up_1 ?_
    refine lv_ifnull hx hb dX5_up_4 ?_
    refine lv_aload_n hx hb dX5_up_7 rfl (lv_at hl 0 rfl) ?_
    refine va_get (D := D) (ci := 5) (v := .ref (bd b_1)) (C := RX5) (T := TX5) (N := 13) hx hb hts hinX5 hown hK hP (3 + nb + k) (zjq_S hk) rfl 7 (by decide) hf13 (fun _ h9 => h9) (congrArg some (zrf_r e13b_1 (by omega))) dX5_up_8 ?_
    refine lv_null hx hb dX5_up_11 ?_
    refine va_put (D := D) (ci := 4) (v := .null) (ty := .object "HotBedsLaw$Sailor") (C := RX4) (T := TX4) (N := 6) hx hb hts hinX4 tyX4 tyX4_ok nmX4 hown hK hP hD hS (3 + b_1) (zjq_B hb_1) rfl 4 (by decide) hf17 (fun _ h9 => h9)  rfl (by decide +kernel) rfl rfl (Nat.le_of_ble_eq_true rfl) dX5_up_12 (fun H locs hP hD hS => ?_)
    have hP : va_P D vwCl (zj cB cS u bd sl nb ns (zs σ 5 b_1 (-1))) H := by rw [← zjw5n hb_1]; exact hP
    have hD : va_D A (zj cB cS u bd sl nb ns (zs σ 5 b_1 (-1))) := by rw [← zjw5n hb_1]; exact hD
    refine lv_aload_n hx hb dX5_up_15 rfl (lv_at hl 0 rfl) ?_
    refine lv_null hx hb dX5_up_16 ?_
    refine va_put (D := D) (ci := 5) (v := .null) (ty := .object "HotBedsLaw$Bed") (C := RX5) (T := TX5) (N := 13) hx hb hts hinX5 tyX5 tyX5_ok nmX5 hown hK hP hD hS (3 + nb + k) (zjq_S hk) rfl 7 (by decide) hf13 (fun _ h9 => h9)  rfl (by decide +kernel) rfl rfl (Nat.le_of_ble_eq_true rfl) dX5_up_17 (fun H locs hP hD hS => ?_)
    have hP : va_P D vwCl (zj cB cS u bd sl nb ns (zs (zs σ 5 b_1 (-1)) 13 k (-1))) H := by rw [← zjw13n hk]; exact hP
    have hD : va_D A (zj cB cS u bd sl nb ns (zs (zs σ 5 b_1 (-1)) 13 k (-1))) := by rw [← zjw13n hk]; exact hD
    refine lv_aload_n hx hb dX5_up_20 rfl (lv_at hl 0 rfl) ?_
    refine lv_iconst (v := 0) hx hb dX5_up_21 (by decide) ?_
    refine va_put (D := D) (ci := 5) (v := .int 0) (ty := .boolean) (C := RX5) (T := TX5) (N := 13) hx hb hts hinX5 tyX5 tyX5_ok nmX5 hown hK hP hD hS (3 + nb + k) (zjq_S hk) rfl 8 (by decide) hf23 (fun _ h9 => h9)  rfl (by decide +kernel) rfl rfl (Nat.le_of_ble_eq_true rfl) dX5_up_22 (fun H locs hP hD hS => ?_)
    have hP : va_P D vwCl (zj cB cS u bd sl nb ns (zs (zs (zs σ 5 b_1 (-1)) 13 k (-1)) 12 k 0)) H := by rw [← zjw12u hk]; exact hP
    have hD : va_D A (zj cB cS u bd sl nb ns (zs (zs (zs σ 5 b_1 (-1)) 13 k (-1)) 12 k 0)) := by rw [← zjw12u hk]; exact hD
    have e9 : f_getUp σ k = zs (zs (zs σ 5 b_1 (-1)) 13 k (-1)) 12 k 0 := by (unfold f_getUp; rw [f_leave_b hV hb_1 e13b_1])
    have hP9 : va_P D vwCl (zj cB cS u bd sl nb ns (f_getUp σ k)) H := by rw [e9]; exact hP
    have hD9 : va_D A (zj cB cS u bd sl nb ns (f_getUp σ k)) := by rw [e9]; exact hD
    exact W.vret hx hb hr (fun t ht hW => ⟨⟨(), rfl, trivial, by rw [ht]; exact hP9, va_K.moved hW.alike hK, hD9⟩, hS.F ht⟩) hS.2.2 dX5_up_25
  · refine va_get (D := D) (ci := 5) (v := .null) (C := RX5) (T := TX5) (N := 13) hx hb hts hinX5 hown hK hP (3 + nb + k) (zjq_S hk) rfl 7 (by decide) hf13 (fun _ h9 => h9) (congrArg some (zrf_n e13b_1)) dX5_up_1 ?_
    refine lv_ifnullN (tgt := 15) hx hb dX5_up_4 (by decide) ?_
    refine lv_aload_n hx hb dX5_up_15 rfl (lv_at hl 0 rfl) ?_
    refine lv_null hx hb dX5_up_16 ?_
    refine va_put (D := D) (ci := 5) (v := .null) (ty := .object "HotBedsLaw$Bed") (C := RX5) (T := TX5) (N := 13) hx hb hts hinX5 tyX5 tyX5_ok nmX5 hown hK hP hD hS (3 + nb + k) (zjq_S hk) rfl 7 (by decide) hf13 (fun _ h9 => h9)  rfl (by decide +kernel) rfl rfl (Nat.le_of_ble_eq_true rfl) dX5_up_17 (fun H locs hP hD hS => ?_)
    have hP : va_P D vwCl (zj cB cS u bd sl nb ns (zs σ 13 k (-1))) H := by rw [← zjw13n hk]; exact hP
    have hD : va_D A (zj cB cS u bd sl nb ns (zs σ 13 k (-1))) := by rw [← zjw13n hk]; exact hD
    refine lv_aload_n hx hb dX5_up_20 rfl (lv_at hl 0 rfl) ?_
    refine lv_iconst (v := 0) hx hb dX5_up_21 (by decide) ?_
    refine va_put (D := D) (ci := 5) (v := .int 0) (ty := .boolean) (C := RX5) (T := TX5) (N := 13) hx hb hts hinX5 tyX5 tyX5_ok nmX5 hown hK hP hD hS (3 + nb + k) (zjq_S hk) rfl 8 (by decide) hf23 (fun _ h9 => h9)  rfl (by decide +kernel) rfl rfl (Nat.le_of_ble_eq_true rfl) dX5_up_22 (fun H locs hP hD hS => ?_)
    have hP : va_P D vwCl (zj cB cS u bd sl nb ns (zs (zs σ 13 k (-1)) 12 k 0)) H := by rw [← zjw12u hk]; exact hP
    have hD : va_D A (zj cB cS u bd sl nb ns (zs (zs σ 13 k (-1)) 12 k 0)) := by rw [← zjw12u hk]; exact hD
    have e9 : f_getUp σ k = zs (zs σ 13 k (-1)) 12 k 0 := by (unfold f_getUp; rw [f_leave_n e13b_1])
    have hP9 : va_P D vwCl (zj cB cS u bd sl nb ns (f_getUp σ k)) H := by rw [e9]; exact hP
    have hD9 : va_D A (zj cB cS u bd sl nb ns (f_getUp σ k)) := by rw [e9]; exact hD
    exact W.vret hx hb hr (fun t ht hW => ⟨⟨(), rfl, trivial, by rw [ht]; exact hP9, va_K.moved hW.alike hK, hD9⟩, hS.F ht⟩) hS.2.2 dX5_up_25
  · refine va_get (D := D) (ci := 5) (v := .null) (C := RX5) (T := TX5) (N := 13) hx hb hts hinX5 hown hK hP (3 + nb + k) (zjq_S hk) rfl 7 (by decide) hf13 (fun _ h9 => h9) (congrArg some (zrf_n e13b_1)) dX5_up_1 ?_
    refine lv_ifnullN (tgt := 15) hx hb dX5_up_4 (by decide) ?_
    refine lv_aload_n hx hb dX5_up_15 rfl (lv_at hl 0 rfl) ?_
    refine lv_null hx hb dX5_up_16 ?_
    refine va_put (D := D) (ci := 5) (v := .null) (ty := .object "HotBedsLaw$Bed") (C := RX5) (T := TX5) (N := 13) hx hb hts hinX5 tyX5 tyX5_ok nmX5 hown hK hP hD hS (3 + nb + k) (zjq_S hk) rfl 7 (by decide) hf13 (fun _ h9 => h9)  rfl (by decide +kernel) rfl rfl (Nat.le_of_ble_eq_true rfl) dX5_up_17 (fun H locs hP hD hS => ?_)
    have hP : va_P D vwCl (zj cB cS u bd sl nb ns (zs σ 13 k (-1))) H := by rw [← zjw13n hk]; exact hP
    have hD : va_D A (zj cB cS u bd sl nb ns (zs σ 13 k (-1))) := by rw [← zjw13n hk]; exact hD
    refine lv_aload_n hx hb dX5_up_20 rfl (lv_at hl 0 rfl) ?_
    refine lv_iconst (v := 0) hx hb dX5_up_21 (by decide) ?_
    refine va_put (D := D) (ci := 5) (v := .int 0) (ty := .boolean) (C := RX5) (T := TX5) (N := 13) hx hb hts hinX5 tyX5 tyX5_ok nmX5 hown hK hP hD hS (3 + nb + k) (zjq_S hk) rfl 8 (by decide) hf23 (fun _ h9 => h9)  rfl (by decide +kernel) rfl rfl (Nat.le_of_ble_eq_true rfl) dX5_up_22 (fun H locs hP hD hS => ?_)
    have hP : va_P D vwCl (zj cB cS u bd sl nb ns (zs (zs σ 13 k (-1)) 12 k 0)) H := by rw [← zjw12u hk]; exact hP
    have hD : va_D A (zj cB cS u bd sl nb ns (zs (zs σ 13 k (-1)) 12 k 0)) := by rw [← zjw12u hk]; exact hD
    have e9 : f_getUp σ k = zs (zs σ 13 k (-1)) 12 k 0 := by (unfold f_getUp; rw [f_leave_n e13b_1])
    have hP9 : va_P D vwCl (zj cB cS u bd sl nb ns (f_getUp σ k)) H := by rw [e9]; exact hP
    have hD9 : va_D A (zj cB cS u bd sl nb ns (f_getUp σ k)) := by rw [e9]; exact hD
    exact W.vret hx hb hr (fun t ht hW => ⟨⟨(), rfl, trivial, by rw [ht]; exact hP9, va_K.moved hW.alike hK, hD9⟩, hS.F ht⟩) hS.2.2 dX5_up_25
set_option maxHeartbeats 4000000 in
set_option maxRecDepth 100000 in
theorem c_X5_gets (l : Launch) (D : va_G) (cI cB cS : ClassId) (u bd sl : Nat → Nat) (σ : zS) {k : Nat} (v : Int32) {nb ns h B : Nat} (hV : zV σ nb ns h B) (hk : k < ns) : zMV l yX5_gets wsX5_gets ({ frames := 0, cells := 0, slots := 0, locals := 0 }) [.ref (sl k), .int v] D (zT3 cI cB cS) (zj cB cS u bd sl nb ns σ) (zj cB cS u bd sl nb ns (f_earn σ k v)) := by
  intro sz
  refine Met.ofW (cc := cX5_gets) (maxL := 2) (ret := none) (by decide) rfl ?_
  intro p e s m args below meth c s₁ B hml hv
  obtain ⟨rfl, hsz, hP, hK, hD⟩ := hv
  have hx := B.exec
  have hb := B.bytes
  have hr := B.returns
  have hts := atoms_spec (ws := wsX5_gets) B.pre
  have hown : s.vm.findClass RX5 = some m.cls := findClass_of_methodNamed B.named
  have hlocks := B.notSynchronized
  subst hsz
  have hD := hD.self (sz := s.heap.size)
  generalize hAe : va_A (zj cB cS u bd sl nb ns σ) s.heap.size = A at hD ⊢
  have hA : ∀ q : Nat, s.heap.size ≤ q → A q := fun q h => by rw [← hAe]; exact Or.inr h
  have hS : va_S A s.heap s.heap [] := va_S.rf
  have hP : va_P D vwCl (zj cB cS u bd sl nb ns σ) s.heap := hP
  have hl := lv_entry ([.ref (sl k), .int v]) (n := 2) (Nat.le_of_ble_eq_true rfl)
  rw [lg_entry_eq]
  generalize (lg_sl ([.ref (sl k), .int v]) ++ List.replicate (2 - (lg_sl ([.ref (sl k), .int v])).length) Slot.unset).toArray = ls at hl ⊢
  have hl : lv_has ls 2 [(0, .ref (sl k)), (1, .int v)] := hl
  have hf26 := hts (.fieldLink RX5 26 "HotBedsLaw$Sailor" "purse" "I") (by decide +kernel)
  have hinX5 : ∀ w ∈ u_ws RX5 TX5 13, w ∈ wsX5_gets := by decide +kernel
  have hh := hV.1.2.2.2.2.2.1
  have hnb := hV.1.2.1
  have hns := hV.1.2.2.2.1
  refine lv_aload_n hx hb dX5_gets_0 rfl (lv_at hl 0 rfl) ?_
  refine lv_aload_n hx hb dX5_gets_1 rfl (lv_at hl 0 rfl) ?_
  refine va_get (D := D) (ci := 5) (v := .int (σ 9 k)) (C := RX5) (T := TX5) (N := 13) hx hb hts hinX5 hown hK hP (3 + nb + k) (zjq_S hk) rfl 4 (by decide) hf26 (fun _ h9 => h9) rfl dX5_gets_2 ?_
  refine lv_iload_n hx hb dX5_gets_5 rfl (lv_at hl 1 rfl) ?_
  refine lv_iadd hx hb dX5_gets_6 ?_
  refine lv_bipush (v := 99) hx hb dX5_gets_7 (by decide) ?_
  refine lv_icmp_le (tgt := 17) hx hb dX5_gets_9 (by decide) (fun c_1 => ?_) (fun c_1 => ?_)
  · refine lv_aload_n hx hb dX5_gets_17 rfl (lv_at hl 0 rfl) ?_
    refine va_get (D := D) (ci := 5) (v := .int (σ 9 k)) (C := RX5) (T := TX5) (N := 13) hx hb hts hinX5 hown hK hP (3 + nb + k) (zjq_S hk) rfl 4 (by decide) hf26 (fun _ h9 => h9) rfl dX5_gets_18 ?_
    refine lv_iload_n hx hb dX5_gets_21 rfl (lv_at hl 1 rfl) ?_
    refine lv_iadd hx hb dX5_gets_22 ?_
    refine va_put (D := D) (ci := 5) (v := .int ((σ 9 k) + v)) (ty := .int) (C := RX5) (T := TX5) (N := 13) hx hb hts hinX5 tyX5 tyX5_ok nmX5 hown hK hP hD hS (3 + nb + k) (zjq_S hk) rfl 4 (by decide) hf26 (fun _ h9 => h9)  rfl (by decide +kernel) rfl rfl (Nat.le_of_ble_eq_true rfl) dX5_gets_23 (fun H locs hP hD hS => ?_)
    have hP : va_P D vwCl (zj cB cS u bd sl nb ns (zs σ 9 k ((σ 9 k) + v))) H := by rw [← zjw9 hk _]; exact hP
    have hD : va_D A (zj cB cS u bd sl nb ns (zs σ 9 k ((σ 9 k) + v))) := by rw [← zjw9 hk _]; exact hD
    have e9 : f_earn σ k v = zs σ 9 k ((σ 9 k) + v) := by (unfold f_earn; rw [f_min99_le c_1])
    have hP9 : va_P D vwCl (zj cB cS u bd sl nb ns (f_earn σ k v)) H := by rw [e9]; exact hP
    have hD9 : va_D A (zj cB cS u bd sl nb ns (f_earn σ k v)) := by rw [e9]; exact hD
    exact W.vret hx hb hr (fun t ht hW => ⟨⟨(), rfl, trivial, by rw [ht]; exact hP9, va_K.moved hW.alike hK, hD9⟩, hS.F ht⟩) hS.2.2 dX5_gets_26
  · refine lv_bipush (v := 99) hx hb dX5_gets_12 (by decide) ?_
    refine lv_goto (tgt := 23) hx hb dX5_gets_14 (by decide) ?_
    refine va_put (D := D) (ci := 5) (v := .int 99) (ty := .int) (C := RX5) (T := TX5) (N := 13) hx hb hts hinX5 tyX5 tyX5_ok nmX5 hown hK hP hD hS (3 + nb + k) (zjq_S hk) rfl 4 (by decide) hf26 (fun _ h9 => h9)  rfl (by decide +kernel) rfl rfl (Nat.le_of_ble_eq_true rfl) dX5_gets_23 (fun H locs hP hD hS => ?_)
    have hP : va_P D vwCl (zj cB cS u bd sl nb ns (zs σ 9 k 99)) H := by rw [← zjw9 hk _]; exact hP
    have hD : va_D A (zj cB cS u bd sl nb ns (zs σ 9 k 99)) := by rw [← zjw9 hk _]; exact hD
    have e9 : f_earn σ k v = zs σ 9 k 99 := by (unfold f_earn; rw [f_min99_gt c_1])
    have hP9 : va_P D vwCl (zj cB cS u bd sl nb ns (f_earn σ k v)) H := by rw [e9]; exact hP
    have hD9 : va_D A (zj cB cS u bd sl nb ns (f_earn σ k v)) := by rw [e9]; exact hD
    exact W.vret hx hb hr (fun t ht hW => ⟨⟨(), rfl, trivial, by rw [ht]; exact hP9, va_K.moved hW.alike hK, hD9⟩, hS.F ht⟩) hS.2.2 dX5_gets_26
