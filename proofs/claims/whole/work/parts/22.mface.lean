abbrev zMIl (l : Launch) (y : MethodName) (ws : List Cond) (rm : Room) (av : List Value) (D : va_G) (tys : List (ClassId × FieldType)) (w w1 : va_W) (post : Int64 → Prop) : Prop :=
  ∀ sz : Nat, Met l y ws rm (va_Pc av (zPW D tys w sz)) (va_Ql (fun (r : Int64) (_ : Unit) => post r) (fun _ t => zQW D tys w1 (va_A w sz) t) (va_A w sz)) 0 0 (va_A w sz)
theorem zaddS {σ : zS} {ns : Nat} (hz : σ 12 ns = 0) (v1 v2 v3 v4 : Int32) : f_addS σ ns v1 v2 v3 v4 = zs (zs (zs (zs (zs (zs (zs (zs σ 7 ns v2) 8 ns v3) 6 ns v1) 9 ns v4) 10 ns 1) 11 ns (-1)) 13 ns (-1)) 0 4 (nI (ns + 1)) := by
  unfold f_addS
  have h1 : zs (zs (zs (zs (zs (zs (zs σ 6 ns v1) 7 ns v2) 8 ns v3) 9 ns v4) 10 ns 1) 11 ns (-1)) 12 ns 0 = zs (zs (zs (zs (zs (zs σ 6 ns v1) 7 ns v2) 8 ns v3) 9 ns v4) 10 ns 1) 11 ns (-1) := by
    have h2 : (zs (zs (zs (zs (zs (zs σ 6 ns v1) 7 ns v2) 8 ns v3) 9 ns v4) 10 ns 1) 11 ns (-1)) 12 ns = 0 := hz
    have h3 := zs_self (zs (zs (zs (zs (zs (zs σ 6 ns v1) 7 ns v2) 8 ns v3) 9 ns v4) 10 ns 1) 11 ns (-1)) 12 ns
    rw [h2] at h3
    exact h3
  rw [h1, zs_swap σ (r1 := 6) (r2 := 7) (by decide), zs_swap _ (r1 := 6) (r2 := 8) (by decide)]
theorem zn_ne {a b : Nat} (ha : a < 2 ^ 31) (hb : b < 2 ^ 31) (h : a ≠ b) : ¬ nI a = nI b := fun z => h ((nI_eq ha hb).mp z)
theorem zout {v : Int32} {n : Nat} (hn : n < 2 ^ 31) (hv : v.toInt < 0 ∨ (n : Int) < v.toInt) : ¬ (¬ v < 0 ∧ ¬ nI n < v) := by
  intro z
  rcases hv with h | h
  · apply z.1
    rw [Int32.lt_iff_toInt_lt]
    exact h
  · apply z.2
    rw [Int32.lt_iff_toInt_lt, nI_toInt hn]
    exact h
def q_adm (f : Nat → Int32) : Nat → Int32 × Int32
  | 0 => (-1, -1)
  | w + 1 => if f w ≤ (q_adm f w).2 then q_adm f w else (nI w, f w)
theorem q_adm_eq {f : Nat → Int32} (h : ¬ f 0 ≤ -1) : ∀ w : Nat, q_adm f (w + 1) = q_adv f (w + 1)
  | 0 => by
    have e1 : q_adm f 1 = (nI 0, f 0) := if_neg h
    have e2 : q_adv f 1 = (nI 0, f 0) := if_neg h
    rw [e1, e2]
  | w + 1 => by
    show (if f (w + 1) ≤ (q_adm f (w + 1)).2 then q_adm f (w + 1) else (nI (w + 1), f (w + 1))) = (if f (w + 1) ≤ (q_adv f (w + 1)).2 then q_adv f (w + 1) else (nI (w + 1), f (w + 1)))
    rw [q_adm_eq h w]
theorem zn_le_m1 {n : Nat} (hn : n < 2 ^ 31) : ¬ nI n ≤ -1 := by
  intro z
  have h1 := Int32.le_iff_toInt_le.mp z
  rw [nI_toInt hn] at h1
  have h2 : (-1 : Int32).toInt = -1 := by decide
  omega
theorem zwat0 {σ : zS} {nb ns h k : Nat} (hI : zI σ nb ns h) (hk : k < ns) (hn : h + 48 < 2 ^ 30) : ¬ q_wat σ nb ns h k 0 ≤ -1 := by
  obtain ⟨-, -, -, -, ρ, hρ, e⟩ := ((hI.wat k (w := 0) (by decide)).hours 48 hn).2 k hk
  show ¬ f_hours (zs σ 6 k (nI 0)) nb ns h 48 14 k ≤ -1
  rw [e]
  exact zn_le_m1 (by omega)

theorem zsail_k {σ : zS} {nb ns h k : Nat} (hC : zC σ nb ns h) (hk : k < ns) : f_sail σ (nI k) := by
  have hns := hC.2.2.2.1
  refine ⟨nI_pos (by omega), ?_⟩
  rw [hC.2.2.1]
  exact nI_lt hk (by omega)

set_option maxHeartbeats 4000000 in
set_option maxRecDepth 100000 in
theorem c_X4_bed (l : Launch) (D : va_G) (cI : ClassId) (μ : Nat → Nat) (th : Int32) (σ : zS) (κ : Nat → Int32) (v : Int32) {nb ns h : Nat} (hC : zC σ nb ns h) (h1 : ¬ v < 0) (h2 : v ≤ 9) (hb6 : nb < 6) : zMI l yX4_bed wsX4_bed ({ frames := 1, cells := 0, slots := 0, locals := 23 }) [.ref (μ 0), .int v] D [(cI, .int)] (zw_M cI μ th σ (κ)) (zw_M cI μ 0 (f_addB σ nb v) (κ)) (fun r => r = nI nb) := by
  intro sz
  refine Met.ofW (cc := cX4_bed) (maxL := 2) (ret := (some .int)) (by decide) rfl ?_
  intro p e s m args below meth c s₁ B hml hv
  obtain ⟨rfl, hsz, hP, hK, hD⟩ := hv
  have hx := B.exec
  have hb := B.bytes
  have hr := B.returns
  have hts := atoms_spec (ws := wsX4_bed) B.pre
  have hown : s.vm.findClass RX4 = some m.cls := findClass_of_methodNamed B.named
  have hlocks := B.notSynchronized
  subst hsz
  have hD := hD.self (sz := s.heap.size)
  generalize hAe : va_A (zw_M cI μ th σ (κ)) s.heap.size = A at hD ⊢
  have hA : ∀ q : Nat, s.heap.size ≤ q → A q := fun q h => by rw [← hAe]; exact Or.inr h
  have hS : va_S A s.heap s.heap [] := va_S.rf
  have hP : va_P D vwCl (zw_M cI μ th σ (κ)) s.heap := hP
  have hl := lv_entry ([.ref (μ 0), .int v]) (n := 2) (Nat.le_of_ble_eq_true rfl)
  rw [lg_entry_eq]
  generalize (lg_sl ([.ref (μ 0), .int v]) ++ List.replicate (2 - (lg_sl ([.ref (μ 0), .int v])).length) Slot.unset).toArray = ls at hl ⊢
  have hl : lv_has ls 2 [(0, .ref (μ 0)), (1, .int v)] := hl
  have hf25 := hts (.fieldLink RX4 25 "HotBedsModel" "thrown" "I") (by decide +kernel)
  have hf29 := hts (.fieldLink RX4 29 "HotBedsModel" "beds" "I") (by decide +kernel)
  have hf9 := hts (.fieldLink RX4 9 "HotBedsModel" "prices" "[I") (by decide +kernel)
  have hinX4 : ∀ w ∈ u_ws RX4 TX4 8, w ∈ wsX4_bed := by decide +kernel
  have hnb := hC.2.1
  have hns := hC.2.2.2.1
  have hh := hC.2.2.2.2.2.1
  refine lv_aload_n hx hb dX4_bed_0 rfl (lv_at hl 0 rfl) ?_
  refine lv_iconst (v := 0) hx hb dX4_bed_1 (by decide) ?_
  refine va_put (D := D) (ci := 4) (v := .int 0) (ty := .int) (C := RX4) (T := TX4) (N := 8) hx hb hts hinX4 tyX4 tyX4_ok nmX4 hown hK hP hD hS 0 rfl rfl 0 (by decide) hf25 (fun _ h9 => h9)  rfl (by decide +kernel) rfl rfl (Nat.le_of_ble_eq_true rfl) dX4_bed_2 (fun H locs hP hD hS => ?_)
  have hP : va_P D vwCl (zw_M cI μ 0 σ (κ)) H := hP
  have hD : va_D A (zw_M cI μ 0 σ (κ)) := hD
  refine lv_iload_n hx hb dX4_bed_5 rfl (lv_at hl 1 rfl) ?_
  refine lv_iconst (v := 0) hx hb dX4_bed_6 (by decide) ?_
  refine lv_bipush (v := 9) hx hb dX4_bed_7 (by decide) ?_
  refine zk_R (D := D) (va_runS (As := [.int v, .int 0, .int 9]) (rest := []) ⟨hx, hb, hml, hown, hts⟩ (c_X4_isIn l D cI v 0 9 _) (va_cwS 3 hts gX4_bed_X4_isIn rfl rfl rfl zdX4_isIn.2 ⟨Nat.le_of_ble_eq_true rfl, Nat.le_of_ble_eq_true rfl⟩) ⟨zbl _, zpr hK zP0 (zD0 (A := fun _ => True))⟩ rfl rfl hl.1 rfl (lv_room (Nat.le_of_ble_eq_true rfl)) dX4_bed_9 ⟨Nat.zero_le _, Nat.zero_le _⟩) hS (fun r_1 H locs hw hkp hS => ?_)
  have hP := hkp _ hP
  have hw : zb (¬ v < 0 ∧ ¬ 9 < v) r_1 := hw
  rcases hw with ⟨c_2, rfl⟩ | ⟨c_2, rfl⟩
  · refine lv_if_ne (tgt := 21) hx hb dX4_bed_12 (by decide) (fun _ => ?_) (fun c => absurd c (by decide))
    refine lv_aload_n hx hb dX4_bed_21 rfl (lv_at hl 0 rfl) ?_
    refine va_get (D := D) (ci := 4) (v := .int (nI nb)) (C := RX4) (T := TX4) (N := 8) hx hb hts hinX4 hown hK hP 0 rfl rfl 1 (by decide) hf29 (fun _ h9 => h9) (congrArg (fun z => some (Value.int z)) hC.1) dX4_bed_22 ?_
    refine lv_bipush (v := 6) hx hb dX4_bed_25 (by decide) ?_
    refine lv_icmp_ne (tgt := 36) hx hb dX4_bed_27 (by decide) (fun _ => ?_) (fun c => absurd c (zn_ne (b := 6) (by omega) (by decide) (by omega)))
    refine lv_aload_n hx hb dX4_bed_36 rfl (lv_at hl 0 rfl) ?_
    refine va_get (D := D) (ci := 4) (v := .ref (μ 1)) (C := RX4) (T := TX4) (N := 8) hx hb hts hinX4 hown hK hP 0 rfl rfl 3 (by decide) hf9 (fun _ h9 => h9) rfl dX4_bed_37 ?_
    refine lv_aload_n hx hb dX4_bed_40 rfl (lv_at hl 0 rfl) ?_
    refine va_get (D := D) (ci := 4) (v := .int (nI nb)) (C := RX4) (T := TX4) (N := 8) hx hb hts hinX4 hown hK hP 0 rfl rfl 1 (by decide) hf29 (fun _ h9 => h9) (congrArg (fun z => some (Value.int z)) hC.1) dX4_bed_41 ?_
    refine lv_iload_n hx hb dX4_bed_44 rfl (lv_at hl 1 rfl) ?_
    refine zk_st hx hb hK hP hD hS 1 0 rfl rfl (k := nb) hb6 (by decide) (zwm_1 cI μ 0 σ (κ) _ _) dX4_bed_45 (fun H locs hP hD hS => ?_)
    have hP : va_P D vwCl (zw_M cI μ 0 (zs σ 1 nb v) (κ)) H := hP
    have hD : va_D A (zw_M cI μ 0 (zs σ 1 nb v) (κ)) := hD
    refine lv_aload_n hx hb dX4_bed_46 rfl (lv_at hl 0 rfl) ?_
    refine lv_aload_n hx hb dX4_bed_47 rfl (lv_at hl 0 rfl) ?_
    refine va_get (D := D) (ci := 4) (v := .int (nI nb)) (C := RX4) (T := TX4) (N := 8) hx hb hts hinX4 hown hK hP 0 rfl rfl 1 (by decide) hf29 (fun _ h9 => h9) (congrArg (fun z => some (Value.int z)) hC.1) dX4_bed_48 ?_
    refine lv_iconst (v := 3) hx hb dX4_bed_51 (by decide) ?_
    refine lv_iconst (v := (-1)) hx hb dX4_bed_52 (by decide) ?_
    have hF := zfree hD hS hA
    refine zk_V (va_runV (As := [.int (nI nb), .int 3, .int (-1)]) (rest := []) ⟨hx, hb, hml, hown, hts⟩ (c_X4_letBed l D cI μ 0 (zs σ 1 nb v) (κ) (b := nb) (w := 3) hb6 (by decide) (-1) _) (cwV 3 hts gX4_bed_X4_letBed rfl rfl rfl zdX4_letBed ⟨Nat.le_of_ble_eq_true rfl, Nat.le_of_ble_eq_true rfl⟩) ⟨zbl _, va_recv hK hP (ci := 4) (q0 := 0) rfl rfl, zpr hK hP hD⟩ rfl rfl hl.1 rfl (lv_room (Nat.le_of_ble_eq_true rfl)) dX4_bed_53 ⟨Nat.zero_le _, Nat.zero_le _⟩) hS hF (fun H locs hkp hP1 hD1 hS => ?_)
    have hP := hP1
    have hD := hD1.weaken (fun _ _ _ z => hF _ z)
    have hP : va_P D vwCl (zw_M cI μ 0 (zs (zs σ 1 nb v) 5 nb (-1)) (κ)) H := hP
    have hD : va_D A (zw_M cI μ 0 (zs (zs σ 1 nb v) 5 nb (-1)) (κ)) := hD
    refine lv_aload_n hx hb dX4_bed_56 rfl (lv_at hl 0 rfl) ?_
    refine lv_dup hx hb dX4_bed_57 rfl ?_
    refine va_get (D := D) (ci := 4) (v := .int (nI nb)) (C := RX4) (T := TX4) (N := 8) hx hb hts hinX4 hown hK hP 0 rfl rfl 1 (by decide) hf29 (fun _ h9 => h9) (congrArg (fun z => some (Value.int z)) hC.1) dX4_bed_58 ?_
    refine lv_iconst (v := 1) hx hb dX4_bed_61 (by decide) ?_
    refine zk_add (x := nb) (y := 1) hx hb dX4_bed_62 ?_
    refine va_put (D := D) (ci := 4) (v := .int (nI (nb + 1))) (ty := .int) (C := RX4) (T := TX4) (N := 8) hx hb hts hinX4 tyX4 tyX4_ok nmX4 hown hK hP hD hS 0 rfl rfl 1 (by decide) hf29 (fun _ h9 => h9)  rfl (by decide +kernel) rfl rfl (Nat.le_of_ble_eq_true rfl) dX4_bed_63 (fun H locs hP hD hS => ?_)
    have hP : va_P D vwCl (zw_M cI μ 0 (zs (zs (zs σ 1 nb v) 5 nb (-1)) 0 3 (nI (nb + 1))) (κ)) H := by rw [← zwm_o3 cI μ 0 (zs (zs σ 1 nb v) 5 nb (-1)) (κ) _]; exact hP
    have hD : va_D A (zw_M cI μ 0 (zs (zs (zs σ 1 nb v) 5 nb (-1)) 0 3 (nI (nb + 1))) (κ)) := by rw [← zwm_o3 cI μ 0 (zs (zs σ 1 nb v) 5 nb (-1)) (κ) _]; exact hD
    refine lv_aload_n hx hb dX4_bed_66 rfl (lv_at hl 0 rfl) ?_
    refine va_get (D := D) (ci := 4) (v := .int (nI (nb + 1))) (C := RX4) (T := TX4) (N := 8) hx hb hts hinX4 hown hK hP 0 rfl rfl 1 (by decide) hf29 (fun _ h9 => h9) (congrArg (fun z => some (Value.int z)) (by simp [zs_at])) dX4_bed_67 ?_
    refine lv_iconst (v := 1) hx hb dX4_bed_70 (by decide) ?_
    refine lv_isub hx hb dX4_bed_71 ?_
    have e9 : f_addB σ nb v = zs (zs (zs σ 1 nb v) 5 nb (-1)) 0 3 (nI (nb + 1)) := by rfl
    have hP9 : va_P D vwCl (zw_M cI μ 0 (f_addB σ nb v) (κ)) H := by rw [e9]; exact hP
    have hD9 : va_D A (zw_M cI μ 0 (f_addB σ nb v) (κ)) := by rw [e9]; exact hD
    exact W.iret (v := (nI (nb + 1)) - 1) hx hb hr (fun t ht hW => ⟨⟨(nI (nb + 1)) - 1, (), rfl, (nI_pred nb), by rw [ht]; exact hP9, va_K.moved hW.alike hK, hD9⟩, hS.F ht⟩) hS.2.2 dX4_bed_72
  · exact absurd (⟨h1, Int32.not_lt.mpr h2⟩) c_2

set_option maxHeartbeats 4000000 in
set_option maxRecDepth 100000 in
theorem c_X4_sailor (l : Launch) (D : va_G) (cI : ClassId) (μ : Nat → Nat) (th : Int32) (σ : zS) (κ : Nat → Int32) (v1 v2 v3 v4 : Int32) {nb ns h : Nat} (hC : zC σ nb ns h) (hw1 : ¬ v1 < 0) (hw2 : v1 < 3) (h1 : ¬ v2 < 0) (h2 : v2 ≤ 9) (h3 : ¬ v3 < 0) (h4 : v3 ≤ 20) (h5 : ¬ v4 < 0) (h6 : v4 ≤ 99) (hs10 : ns < 10) (hz : σ 12 ns = 0) : zMI l yX4_sailor wsX4_sailor ({ frames := 1, cells := 0, slots := 0, locals := 23 }) [.ref (μ 0), .int v1, .int v2, .int v3, .int v4] D [(cI, .int)] (zw_M cI μ th σ (κ)) (zw_M cI μ 0 (f_addS σ ns v1 v2 v3 v4) (κ)) (fun r => r = nI ns) := by
  intro sz
  refine Met.ofW (cc := cX4_sailor) (maxL := 5) (ret := (some .int)) (by decide) rfl ?_
  intro p e s m args below meth c s₁ B hml hv
  obtain ⟨rfl, hsz, hP, hK, hD⟩ := hv
  have hx := B.exec
  have hb := B.bytes
  have hr := B.returns
  have hts := atoms_spec (ws := wsX4_sailor) B.pre
  have hown : s.vm.findClass RX4 = some m.cls := findClass_of_methodNamed B.named
  have hlocks := B.notSynchronized
  subst hsz
  have hD := hD.self (sz := s.heap.size)
  generalize hAe : va_A (zw_M cI μ th σ (κ)) s.heap.size = A at hD ⊢
  have hA : ∀ q : Nat, s.heap.size ≤ q → A q := fun q h => by rw [← hAe]; exact Or.inr h
  have hS : va_S A s.heap s.heap [] := va_S.rf
  have hP : va_P D vwCl (zw_M cI μ th σ (κ)) s.heap := hP
  have hl := lv_entry ([.ref (μ 0), .int v1, .int v2, .int v3, .int v4]) (n := 5) (Nat.le_of_ble_eq_true rfl)
  rw [lg_entry_eq]
  generalize (lg_sl ([.ref (μ 0), .int v1, .int v2, .int v3, .int v4]) ++ List.replicate (5 - (lg_sl ([.ref (μ 0), .int v1, .int v2, .int v3, .int v4])).length) Slot.unset).toArray = ls at hl ⊢
  have hl : lv_has ls 5 [(0, .ref (μ 0)), (1, .int v1), (2, .int v2), (3, .int v3), (4, .int v4)] := hl
  have hf13 := hts (.fieldLink RX4 13 "HotBedsModel" "heavy" "[I") (by decide +kernel)
  have hf16 := hts (.fieldLink RX4 16 "HotBedsModel" "wages" "[I") (by decide +kernel)
  have hf25 := hts (.fieldLink RX4 25 "HotBedsModel" "thrown" "I") (by decide +kernel)
  have hf36 := hts (.fieldLink RX4 36 "HotBedsModel" "sailors" "I") (by decide +kernel)
  have hinX4 : ∀ w ∈ u_ws RX4 TX4 8, w ∈ wsX4_sailor := by decide +kernel
  have hnb := hC.2.1
  have hns := hC.2.2.2.1
  have hh := hC.2.2.2.2.2.1
  refine lv_aload_n hx hb dX4_sailor_0 rfl (lv_at hl 0 rfl) ?_
  refine lv_iconst (v := 0) hx hb dX4_sailor_1 (by decide) ?_
  refine va_put (D := D) (ci := 4) (v := .int 0) (ty := .int) (C := RX4) (T := TX4) (N := 8) hx hb hts hinX4 tyX4 tyX4_ok nmX4 hown hK hP hD hS 0 rfl rfl 0 (by decide) hf25 (fun _ h9 => h9)  rfl (by decide +kernel) rfl rfl (Nat.le_of_ble_eq_true rfl) dX4_sailor_2 (fun H locs hP hD hS => ?_)
  have hP : va_P D vwCl (zw_M cI μ 0 σ (κ)) H := hP
  have hD : va_D A (zw_M cI μ 0 σ (κ)) := hD
  refine lv_iload_n hx hb dX4_sailor_5 rfl (lv_at hl 1 rfl) ?_
  refine lv_iconst (v := 0) hx hb dX4_sailor_6 (by decide) ?_
  refine lv_iconst (v := 2) hx hb dX4_sailor_7 (by decide) ?_
  refine zk_R (D := D) (va_runS (As := [.int v1, .int 0, .int 2]) (rest := []) ⟨hx, hb, hml, hown, hts⟩ (c_X4_isIn l D cI v1 0 2 _) (va_cwS 3 hts gX4_sailor_X4_isIn rfl rfl rfl zdX4_isIn.2 ⟨Nat.le_of_ble_eq_true rfl, Nat.le_of_ble_eq_true rfl⟩) ⟨zbl _, zpr hK zP0 (zD0 (A := fun _ => True))⟩ rfl rfl hl.1 rfl (lv_room (Nat.le_of_ble_eq_true rfl)) dX4_sailor_8 ⟨Nat.zero_le _, Nat.zero_le _⟩) hS (fun r_1 H locs hw hkp hS => ?_)
  have hP := hkp _ hP
  have hw : zb (¬ v1 < 0 ∧ ¬ 2 < v1) r_1 := hw
  rcases hw with ⟨c_2, rfl⟩ | ⟨c_2, rfl⟩
  · refine lv_if_ne (tgt := 20) hx hb dX4_sailor_11 (by decide) (fun _ => ?_) (fun c => absurd c (by decide))
    refine lv_iload_n hx hb dX4_sailor_20 rfl (lv_at hl 2 rfl) ?_
    refine lv_iconst (v := 0) hx hb dX4_sailor_21 (by decide) ?_
    refine lv_bipush (v := 9) hx hb dX4_sailor_22 (by decide) ?_
    refine zk_R (D := D) (va_runS (As := [.int v2, .int 0, .int 9]) (rest := []) ⟨hx, hb, hml, hown, hts⟩ (c_X4_isIn l D cI v2 0 9 _) (va_cwS 3 hts gX4_sailor_X4_isIn rfl rfl rfl zdX4_isIn.2 ⟨Nat.le_of_ble_eq_true rfl, Nat.le_of_ble_eq_true rfl⟩) ⟨zbl _, zpr hK zP0 (zD0 (A := fun _ => True))⟩ rfl rfl hl.1 rfl (lv_room (Nat.le_of_ble_eq_true rfl)) dX4_sailor_24 ⟨Nat.zero_le _, Nat.zero_le _⟩) hS (fun r_4 H locs hw hkp hS => ?_)
    have hP := hkp _ hP
    have hw : zb (¬ v2 < 0 ∧ ¬ 9 < v2) r_4 := hw
    rcases hw with ⟨c_5, rfl⟩ | ⟨c_5, rfl⟩
    · refine lv_if_eq (tgt := 51) hx hb dX4_sailor_27 (by decide) (fun c => absurd c (by decide)) (fun _ => ?_)
      refine lv_iload_n hx hb dX4_sailor_30 rfl (lv_at hl 3 rfl) ?_
      refine lv_iconst (v := 0) hx hb dX4_sailor_31 (by decide) ?_
      refine lv_bipush (v := 20) hx hb dX4_sailor_32 (by decide) ?_
      refine zk_R (D := D) (va_runS (As := [.int v3, .int 0, .int 20]) (rest := []) ⟨hx, hb, hml, hown, hts⟩ (c_X4_isIn l D cI v3 0 20 _) (va_cwS 3 hts gX4_sailor_X4_isIn rfl rfl rfl zdX4_isIn.2 ⟨Nat.le_of_ble_eq_true rfl, Nat.le_of_ble_eq_true rfl⟩) ⟨zbl _, zpr hK zP0 (zD0 (A := fun _ => True))⟩ rfl rfl hl.1 rfl (lv_room (Nat.le_of_ble_eq_true rfl)) dX4_sailor_34 ⟨Nat.zero_le _, Nat.zero_le _⟩) hS (fun r_7 H locs hw hkp hS => ?_)
      have hP := hkp _ hP
      have hw : zb (¬ v3 < 0 ∧ ¬ 20 < v3) r_7 := hw
      rcases hw with ⟨c_8, rfl⟩ | ⟨c_8, rfl⟩
      · refine lv_if_eq (tgt := 51) hx hb dX4_sailor_37 (by decide) (fun c => absurd c (by decide)) (fun _ => ?_)
        refine lv_iload hx hb dX4_sailor_40 (lv_at hl 4 rfl) ?_
        refine lv_iconst (v := 0) hx hb dX4_sailor_42 (by decide) ?_
        refine lv_bipush (v := 99) hx hb dX4_sailor_43 (by decide) ?_
        refine zk_R (D := D) (va_runS (As := [.int v4, .int 0, .int 99]) (rest := []) ⟨hx, hb, hml, hown, hts⟩ (c_X4_isIn l D cI v4 0 99 _) (va_cwS 3 hts gX4_sailor_X4_isIn rfl rfl rfl zdX4_isIn.2 ⟨Nat.le_of_ble_eq_true rfl, Nat.le_of_ble_eq_true rfl⟩) ⟨zbl _, zpr hK zP0 (zD0 (A := fun _ => True))⟩ rfl rfl hl.1 rfl (lv_room (Nat.le_of_ble_eq_true rfl)) dX4_sailor_45 ⟨Nat.zero_le _, Nat.zero_le _⟩) hS (fun r_10 H locs hw hkp hS => ?_)
        have hP := hkp _ hP
        have hw : zb (¬ v4 < 0 ∧ ¬ 99 < v4) r_10 := hw
        rcases hw with ⟨c_11, rfl⟩ | ⟨c_11, rfl⟩
        · refine lv_if_ne (tgt := 57) hx hb dX4_sailor_48 (by decide) (fun _ => ?_) (fun c => absurd c (by decide))
          refine lv_aload_n hx hb dX4_sailor_57 rfl (lv_at hl 0 rfl) ?_
          refine va_get (D := D) (ci := 4) (v := .int (nI ns)) (C := RX4) (T := TX4) (N := 8) hx hb hts hinX4 hown hK hP 0 rfl rfl 2 (by decide) hf36 (fun _ h9 => h9) (congrArg (fun z => some (Value.int z)) hC.2.2.1) dX4_sailor_58 ?_
          refine lv_bipush (v := 10) hx hb dX4_sailor_61 (by decide) ?_
          refine lv_icmp_ne (tgt := 72) hx hb dX4_sailor_63 (by decide) (fun _ => ?_) (fun c => absurd c (zn_ne (b := 10) (by omega) (by decide) (by omega)))
          refine lv_aload_n hx hb dX4_sailor_72 rfl (lv_at hl 0 rfl) ?_
          refine va_get (D := D) (ci := 4) (v := .ref (μ 2)) (C := RX4) (T := TX4) (N := 8) hx hb hts hinX4 hown hK hP 0 rfl rfl 4 (by decide) hf13 (fun _ h9 => h9) rfl dX4_sailor_73 ?_
          refine lv_aload_n hx hb dX4_sailor_76 rfl (lv_at hl 0 rfl) ?_
          refine va_get (D := D) (ci := 4) (v := .int (nI ns)) (C := RX4) (T := TX4) (N := 8) hx hb hts hinX4 hown hK hP 0 rfl rfl 2 (by decide) hf36 (fun _ h9 => h9) (congrArg (fun z => some (Value.int z)) hC.2.2.1) dX4_sailor_77 ?_
          refine lv_iload_n hx hb dX4_sailor_80 rfl (lv_at hl 2 rfl) ?_
          refine zk_st hx hb hK hP hD hS 2 0 rfl rfl (k := ns) hs10 (by decide) (zwm_7 cI μ 0 σ (κ) _ _) dX4_sailor_81 (fun H locs hP hD hS => ?_)
          have hP : va_P D vwCl (zw_M cI μ 0 (zs σ 7 ns v2) (κ)) H := hP
          have hD : va_D A (zw_M cI μ 0 (zs σ 7 ns v2) (κ)) := hD
          refine lv_aload_n hx hb dX4_sailor_82 rfl (lv_at hl 0 rfl) ?_
          refine va_get (D := D) (ci := 4) (v := .ref (μ 3)) (C := RX4) (T := TX4) (N := 8) hx hb hts hinX4 hown hK hP 0 rfl rfl 5 (by decide) hf16 (fun _ h9 => h9) rfl dX4_sailor_83 ?_
          refine lv_aload_n hx hb dX4_sailor_86 rfl (lv_at hl 0 rfl) ?_
          refine va_get (D := D) (ci := 4) (v := .int (nI ns)) (C := RX4) (T := TX4) (N := 8) hx hb hts hinX4 hown hK hP 0 rfl rfl 2 (by decide) hf36 (fun _ h9 => h9) (congrArg (fun z => some (Value.int z)) hC.2.2.1) dX4_sailor_87 ?_
          refine lv_iload_n hx hb dX4_sailor_90 rfl (lv_at hl 3 rfl) ?_
          refine zk_st hx hb hK hP hD hS 3 0 rfl rfl (k := ns) hs10 (by decide) (zwm_8 cI μ 0 (zs σ 7 ns v2) (κ) _ _) dX4_sailor_91 (fun H locs hP hD hS => ?_)
          have hP : va_P D vwCl (zw_M cI μ 0 (zs (zs σ 7 ns v2) 8 ns v3) (κ)) H := hP
          have hD : va_D A (zw_M cI μ 0 (zs (zs σ 7 ns v2) 8 ns v3) (κ)) := hD
          refine lv_aload_n hx hb dX4_sailor_92 rfl (lv_at hl 0 rfl) ?_
          refine lv_aload_n hx hb dX4_sailor_93 rfl (lv_at hl 0 rfl) ?_
          refine va_get (D := D) (ci := 4) (v := .int (nI ns)) (C := RX4) (T := TX4) (N := 8) hx hb hts hinX4 hown hK hP 0 rfl rfl 2 (by decide) hf36 (fun _ h9 => h9) (congrArg (fun z => some (Value.int z)) hC.2.2.1) dX4_sailor_94 ?_
          refine lv_iconst (v := 0) hx hb dX4_sailor_97 (by decide) ?_
          refine lv_iload_n hx hb dX4_sailor_98 rfl (lv_at hl 1 rfl) ?_
          have hF := zfree hD hS hA
          refine zk_V (va_runV (As := [.int (nI ns), .int 0, .int v1]) (rest := []) ⟨hx, hb, hml, hown, hts⟩ (c_X4_let l D cI μ 0 (zs (zs σ 7 ns v2) 8 ns v3) (κ) (k := ns) (w := 0) hs10 (by decide) v1 _) (cwV 3 hts gX4_sailor_X4_let rfl rfl rfl zdX4_let ⟨Nat.le_of_ble_eq_true rfl, Nat.le_of_ble_eq_true rfl⟩) ⟨zbl _, va_recv hK hP (ci := 4) (q0 := 0) rfl rfl, zpr hK hP hD⟩ rfl rfl hl.1 rfl (lv_room (Nat.le_of_ble_eq_true rfl)) dX4_sailor_99 ⟨Nat.zero_le _, Nat.zero_le _⟩) hS hF (fun H locs hkp hP1 hD1 hS => ?_)
          have hP := hP1
          have hD := hD1.weaken (fun _ _ _ z => hF _ z)
          have hP : va_P D vwCl (zw_M cI μ 0 (zs (zs (zs σ 7 ns v2) 8 ns v3) 6 ns v1) (κ)) H := hP
          have hD : va_D A (zw_M cI μ 0 (zs (zs (zs σ 7 ns v2) 8 ns v3) 6 ns v1) (κ)) := hD
          refine lv_aload_n hx hb dX4_sailor_102 rfl (lv_at hl 0 rfl) ?_
          refine lv_aload_n hx hb dX4_sailor_103 rfl (lv_at hl 0 rfl) ?_
          refine va_get (D := D) (ci := 4) (v := .int (nI ns)) (C := RX4) (T := TX4) (N := 8) hx hb hts hinX4 hown hK hP 0 rfl rfl 2 (by decide) hf36 (fun _ h9 => h9) (congrArg (fun z => some (Value.int z)) hC.2.2.1) dX4_sailor_104 ?_
          refine lv_iconst (v := 1) hx hb dX4_sailor_107 (by decide) ?_
          refine lv_iload hx hb dX4_sailor_108 (lv_at hl 4 rfl) ?_
          have hF := zfree hD hS hA
          refine zk_V (va_runV (As := [.int (nI ns), .int 1, .int v4]) (rest := []) ⟨hx, hb, hml, hown, hts⟩ (c_X4_let l D cI μ 0 (zs (zs (zs σ 7 ns v2) 8 ns v3) 6 ns v1) (κ) (k := ns) (w := 1) hs10 (by decide) v4 _) (cwV 3 hts gX4_sailor_X4_let rfl rfl rfl zdX4_let ⟨Nat.le_of_ble_eq_true rfl, Nat.le_of_ble_eq_true rfl⟩) ⟨zbl _, va_recv hK hP (ci := 4) (q0 := 0) rfl rfl, zpr hK hP hD⟩ rfl rfl hl.1 rfl (lv_room (Nat.le_of_ble_eq_true rfl)) dX4_sailor_110 ⟨Nat.zero_le _, Nat.zero_le _⟩) hS hF (fun H locs hkp hP1 hD1 hS => ?_)
          have hP := hP1
          have hD := hD1.weaken (fun _ _ _ z => hF _ z)
          have hP : va_P D vwCl (zw_M cI μ 0 (zs (zs (zs (zs σ 7 ns v2) 8 ns v3) 6 ns v1) 9 ns v4) (κ)) H := hP
          have hD : va_D A (zw_M cI μ 0 (zs (zs (zs (zs σ 7 ns v2) 8 ns v3) 6 ns v1) 9 ns v4) (κ)) := hD
          refine lv_aload_n hx hb dX4_sailor_113 rfl (lv_at hl 0 rfl) ?_
          refine lv_aload_n hx hb dX4_sailor_114 rfl (lv_at hl 0 rfl) ?_
          refine va_get (D := D) (ci := 4) (v := .int (nI ns)) (C := RX4) (T := TX4) (N := 8) hx hb hts hinX4 hown hK hP 0 rfl rfl 2 (by decide) hf36 (fun _ h9 => h9) (congrArg (fun z => some (Value.int z)) hC.2.2.1) dX4_sailor_115 ?_
          refine lv_iconst (v := 2) hx hb dX4_sailor_118 (by decide) ?_
          refine lv_iconst (v := 1) hx hb dX4_sailor_119 (by decide) ?_
          have hF := zfree hD hS hA
          refine zk_V (va_runV (As := [.int (nI ns), .int 2, .int 1]) (rest := []) ⟨hx, hb, hml, hown, hts⟩ (c_X4_let l D cI μ 0 (zs (zs (zs (zs σ 7 ns v2) 8 ns v3) 6 ns v1) 9 ns v4) (κ) (k := ns) (w := 2) hs10 (by decide) 1 _) (cwV 3 hts gX4_sailor_X4_let rfl rfl rfl zdX4_let ⟨Nat.le_of_ble_eq_true rfl, Nat.le_of_ble_eq_true rfl⟩) ⟨zbl _, va_recv hK hP (ci := 4) (q0 := 0) rfl rfl, zpr hK hP hD⟩ rfl rfl hl.1 rfl (lv_room (Nat.le_of_ble_eq_true rfl)) dX4_sailor_120 ⟨Nat.zero_le _, Nat.zero_le _⟩) hS hF (fun H locs hkp hP1 hD1 hS => ?_)
          have hP := hP1
          have hD := hD1.weaken (fun _ _ _ z => hF _ z)
          have hP : va_P D vwCl (zw_M cI μ 0 (zs (zs (zs (zs (zs σ 7 ns v2) 8 ns v3) 6 ns v1) 9 ns v4) 10 ns 1) (κ)) H := hP
          have hD : va_D A (zw_M cI μ 0 (zs (zs (zs (zs (zs σ 7 ns v2) 8 ns v3) 6 ns v1) 9 ns v4) 10 ns 1) (κ)) := hD
          refine lv_aload_n hx hb dX4_sailor_123 rfl (lv_at hl 0 rfl) ?_
          refine lv_aload_n hx hb dX4_sailor_124 rfl (lv_at hl 0 rfl) ?_
          refine va_get (D := D) (ci := 4) (v := .int (nI ns)) (C := RX4) (T := TX4) (N := 8) hx hb hts hinX4 hown hK hP 0 rfl rfl 2 (by decide) hf36 (fun _ h9 => h9) (congrArg (fun z => some (Value.int z)) hC.2.2.1) dX4_sailor_125 ?_
          refine lv_iconst (v := 3) hx hb dX4_sailor_128 (by decide) ?_
          refine lv_iconst (v := (-1)) hx hb dX4_sailor_129 (by decide) ?_
          have hF := zfree hD hS hA
          refine zk_V (va_runV (As := [.int (nI ns), .int 3, .int (-1)]) (rest := []) ⟨hx, hb, hml, hown, hts⟩ (c_X4_let l D cI μ 0 (zs (zs (zs (zs (zs σ 7 ns v2) 8 ns v3) 6 ns v1) 9 ns v4) 10 ns 1) (κ) (k := ns) (w := 3) hs10 (by decide) (-1) _) (cwV 3 hts gX4_sailor_X4_let rfl rfl rfl zdX4_let ⟨Nat.le_of_ble_eq_true rfl, Nat.le_of_ble_eq_true rfl⟩) ⟨zbl _, va_recv hK hP (ci := 4) (q0 := 0) rfl rfl, zpr hK hP hD⟩ rfl rfl hl.1 rfl (lv_room (Nat.le_of_ble_eq_true rfl)) dX4_sailor_130 ⟨Nat.zero_le _, Nat.zero_le _⟩) hS hF (fun H locs hkp hP1 hD1 hS => ?_)
          have hP := hP1
          have hD := hD1.weaken (fun _ _ _ z => hF _ z)
          have hP : va_P D vwCl (zw_M cI μ 0 (zs (zs (zs (zs (zs (zs σ 7 ns v2) 8 ns v3) 6 ns v1) 9 ns v4) 10 ns 1) 11 ns (-1)) (κ)) H := hP
          have hD : va_D A (zw_M cI μ 0 (zs (zs (zs (zs (zs (zs σ 7 ns v2) 8 ns v3) 6 ns v1) 9 ns v4) 10 ns 1) 11 ns (-1)) (κ)) := hD
          refine lv_aload_n hx hb dX4_sailor_133 rfl (lv_at hl 0 rfl) ?_
          refine lv_aload_n hx hb dX4_sailor_134 rfl (lv_at hl 0 rfl) ?_
          refine va_get (D := D) (ci := 4) (v := .int (nI ns)) (C := RX4) (T := TX4) (N := 8) hx hb hts hinX4 hown hK hP 0 rfl rfl 2 (by decide) hf36 (fun _ h9 => h9) (congrArg (fun z => some (Value.int z)) hC.2.2.1) dX4_sailor_135 ?_
          refine lv_iconst (v := 5) hx hb dX4_sailor_138 (by decide) ?_
          refine lv_iconst (v := (-1)) hx hb dX4_sailor_139 (by decide) ?_
          have hF := zfree hD hS hA
          refine zk_V (va_runV (As := [.int (nI ns), .int 5, .int (-1)]) (rest := []) ⟨hx, hb, hml, hown, hts⟩ (c_X4_let l D cI μ 0 (zs (zs (zs (zs (zs (zs σ 7 ns v2) 8 ns v3) 6 ns v1) 9 ns v4) 10 ns 1) 11 ns (-1)) (κ) (k := ns) (w := 5) hs10 (by decide) (-1) _) (cwV 3 hts gX4_sailor_X4_let rfl rfl rfl zdX4_let ⟨Nat.le_of_ble_eq_true rfl, Nat.le_of_ble_eq_true rfl⟩) ⟨zbl _, va_recv hK hP (ci := 4) (q0 := 0) rfl rfl, zpr hK hP hD⟩ rfl rfl hl.1 rfl (lv_room (Nat.le_of_ble_eq_true rfl)) dX4_sailor_140 ⟨Nat.zero_le _, Nat.zero_le _⟩) hS hF (fun H locs hkp hP1 hD1 hS => ?_)
          have hP := hP1
          have hD := hD1.weaken (fun _ _ _ z => hF _ z)
          have hP : va_P D vwCl (zw_M cI μ 0 (zs (zs (zs (zs (zs (zs (zs σ 7 ns v2) 8 ns v3) 6 ns v1) 9 ns v4) 10 ns 1) 11 ns (-1)) 13 ns (-1)) (κ)) H := hP
          have hD : va_D A (zw_M cI μ 0 (zs (zs (zs (zs (zs (zs (zs σ 7 ns v2) 8 ns v3) 6 ns v1) 9 ns v4) 10 ns 1) 11 ns (-1)) 13 ns (-1)) (κ)) := hD
          refine lv_aload_n hx hb dX4_sailor_143 rfl (lv_at hl 0 rfl) ?_
          refine lv_dup hx hb dX4_sailor_144 rfl ?_
          refine va_get (D := D) (ci := 4) (v := .int (nI ns)) (C := RX4) (T := TX4) (N := 8) hx hb hts hinX4 hown hK hP 0 rfl rfl 2 (by decide) hf36 (fun _ h9 => h9) (congrArg (fun z => some (Value.int z)) hC.2.2.1) dX4_sailor_145 ?_
          refine lv_iconst (v := 1) hx hb dX4_sailor_148 (by decide) ?_
          refine zk_add (x := ns) (y := 1) hx hb dX4_sailor_149 ?_
          refine va_put (D := D) (ci := 4) (v := .int (nI (ns + 1))) (ty := .int) (C := RX4) (T := TX4) (N := 8) hx hb hts hinX4 tyX4 tyX4_ok nmX4 hown hK hP hD hS 0 rfl rfl 2 (by decide) hf36 (fun _ h9 => h9)  rfl (by decide +kernel) rfl rfl (Nat.le_of_ble_eq_true rfl) dX4_sailor_150 (fun H locs hP hD hS => ?_)
          have hP : va_P D vwCl (zw_M cI μ 0 (zs (zs (zs (zs (zs (zs (zs (zs σ 7 ns v2) 8 ns v3) 6 ns v1) 9 ns v4) 10 ns 1) 11 ns (-1)) 13 ns (-1)) 0 4 (nI (ns + 1))) (κ)) H := by rw [← zwm_o4 cI μ 0 (zs (zs (zs (zs (zs (zs (zs σ 7 ns v2) 8 ns v3) 6 ns v1) 9 ns v4) 10 ns 1) 11 ns (-1)) 13 ns (-1)) (κ) _]; exact hP
          have hD : va_D A (zw_M cI μ 0 (zs (zs (zs (zs (zs (zs (zs (zs σ 7 ns v2) 8 ns v3) 6 ns v1) 9 ns v4) 10 ns 1) 11 ns (-1)) 13 ns (-1)) 0 4 (nI (ns + 1))) (κ)) := by rw [← zwm_o4 cI μ 0 (zs (zs (zs (zs (zs (zs (zs σ 7 ns v2) 8 ns v3) 6 ns v1) 9 ns v4) 10 ns 1) 11 ns (-1)) 13 ns (-1)) (κ) _]; exact hD
          refine lv_aload_n hx hb dX4_sailor_153 rfl (lv_at hl 0 rfl) ?_
          refine va_get (D := D) (ci := 4) (v := .int (nI (ns + 1))) (C := RX4) (T := TX4) (N := 8) hx hb hts hinX4 hown hK hP 0 rfl rfl 2 (by decide) hf36 (fun _ h9 => h9) (congrArg (fun z => some (Value.int z)) (by simp [zs_at])) dX4_sailor_154 ?_
          refine lv_iconst (v := 1) hx hb dX4_sailor_157 (by decide) ?_
          refine lv_isub hx hb dX4_sailor_158 ?_
          have e9 : f_addS σ ns v1 v2 v3 v4 = zs (zs (zs (zs (zs (zs (zs (zs σ 7 ns v2) 8 ns v3) 6 ns v1) 9 ns v4) 10 ns 1) 11 ns (-1)) 13 ns (-1)) 0 4 (nI (ns + 1)) := by exact zaddS hz v1 v2 v3 v4
          have hP9 : va_P D vwCl (zw_M cI μ 0 (f_addS σ ns v1 v2 v3 v4) (κ)) H := by rw [e9]; exact hP
          have hD9 : va_D A (zw_M cI μ 0 (f_addS σ ns v1 v2 v3 v4) (κ)) := by rw [e9]; exact hD
          exact W.iret (v := (nI (ns + 1)) - 1) hx hb hr (fun t ht hW => ⟨⟨(nI (ns + 1)) - 1, (), rfl, (nI_pred ns), by rw [ht]; exact hP9, va_K.moved hW.alike hK, hD9⟩, hS.F ht⟩) hS.2.2 dX4_sailor_159
        · exact absurd (⟨h5, Int32.not_lt.mpr h6⟩) c_11
      · exact absurd (⟨h3, Int32.not_lt.mpr h4⟩) c_8
    · exact absurd (⟨h1, Int32.not_lt.mpr h2⟩) c_5
  · exact absurd (⟨hw1, zn_w3.mp hw2⟩) c_2

set_option maxHeartbeats 4000000 in
set_option maxRecDepth 100000 in
theorem c_X4_keep_ (l : Launch) (D : va_G) (cI : ClassId) (μ : Nat → Nat) (th : Int32) (σ : zS) (κ : Nat → Int32) {k : Nat} {nb ns h : Nat} (hC : zC σ nb ns h) (hk : k < ns) (v : Int32) (hv : v = -1 ∨ ∃ b9, b9 < nb ∧ v = nI b9) : zMI l yX4_keep_ wsX4_keep_ ({ frames := 2, cells := 0, slots := 0, locals := 43 }) [.ref (μ 0), .int (nI k), .int v] D [(cI, .int)] (zw_M cI μ th σ (κ)) (zw_M cI μ 0 (zs σ 11 k v) (κ)) (fun r => r = σ 11 k) := by
  intro sz
  refine Met.ofW (cc := cX4_keep_) (maxL := 4) (ret := (some .int)) (by decide) rfl ?_
  intro p e s m args below meth c s₁ B hml hv
  obtain ⟨rfl, hsz, hP, hK, hD⟩ := hv
  have hx := B.exec
  have hb := B.bytes
  have hr := B.returns
  have hts := atoms_spec (ws := wsX4_keep_) B.pre
  have hown : s.vm.findClass RX4 = some m.cls := findClass_of_methodNamed B.named
  have hlocks := B.notSynchronized
  subst hsz
  have hD := hD.self (sz := s.heap.size)
  generalize hAe : va_A (zw_M cI μ th σ (κ)) s.heap.size = A at hD ⊢
  have hA : ∀ q : Nat, s.heap.size ≤ q → A q := fun q h => by rw [← hAe]; exact Or.inr h
  have hS : va_S A s.heap s.heap [] := va_S.rf
  have hP : va_P D vwCl (zw_M cI μ th σ (κ)) s.heap := hP
  have hl := lv_entry ([.ref (μ 0), .int (nI k), .int v]) (n := 4) (Nat.le_of_ble_eq_true rfl)
  rw [lg_entry_eq]
  generalize (lg_sl ([.ref (μ 0), .int (nI k), .int v]) ++ List.replicate (4 - (lg_sl ([.ref (μ 0), .int (nI k), .int v])).length) Slot.unset).toArray = ls at hl ⊢
  have hl : lv_has ls 4 [(0, .ref (μ 0)), (1, .int (nI k)), (2, .int v)] := hl
  have hf25 := hts (.fieldLink RX4 25 "HotBedsModel" "thrown" "I") (by decide +kernel)
  have hinX4 : ∀ w ∈ u_ws RX4 TX4 8, w ∈ wsX4_keep_ := by decide +kernel
  have hnb := hC.2.1
  have hns := hC.2.2.2.1
  have hh := hC.2.2.2.2.2.1
  rcases hv with rfl | ⟨k9, hkb, rfl⟩
  · refine lv_aload_n hx hb dX4_keep__0 rfl (lv_at hl 0 rfl) ?_
    refine lv_iconst (v := 0) hx hb dX4_keep__1 (by decide) ?_
    refine va_put (D := D) (ci := 4) (v := .int 0) (ty := .int) (C := RX4) (T := TX4) (N := 8) hx hb hts hinX4 tyX4 tyX4_ok nmX4 hown hK hP hD hS 0 rfl rfl 0 (by decide) hf25 (fun _ h9 => h9)  rfl (by decide +kernel) rfl rfl (Nat.le_of_ble_eq_true rfl) dX4_keep__2 (fun H locs hP hD hS => ?_)
    have hP : va_P D vwCl (zw_M cI μ 0 σ (κ)) H := hP
    have hD : va_D A (zw_M cI μ 0 σ (κ)) := hD
    refine lv_aload_n hx hb dX4_keep__5 rfl (lv_at hl 0 rfl) ?_
    refine lv_iload_n hx hb dX4_keep__6 rfl (lv_at hl 1 rfl) ?_
    refine zk_R (D := D) (va_runV (As := [.int (nI k)]) (rest := []) ⟨hx, hb, hml, hown, hts⟩ (c_X4_isSailor l D cI μ 0 σ (κ) (nI k) hC _) (cwV 1 hts gX4_keep__X4_isSailor rfl rfl rfl zdX4_isSailor ⟨Nat.le_of_ble_eq_true rfl, Nat.le_of_ble_eq_true rfl⟩) ⟨zbl _, va_recv hK hP (ci := 4) (q0 := 0) rfl rfl, zpr hK hP hD⟩ rfl rfl hl.1 rfl (lv_room (Nat.le_of_ble_eq_true rfl)) dX4_keep__7 ⟨Nat.zero_le _, Nat.zero_le _⟩) hS (fun r_1 H locs hw hkp hS => ?_)
    have hP := hkp _ hP
    have hw : zb (f_sail σ (nI k)) r_1 := hw
    rcases hw with ⟨c_2, rfl⟩ | ⟨c_2, rfl⟩
    · refine lv_if_eq (tgt := 26) hx hb dX4_keep__10 (by decide) (fun c => absurd c (by decide)) (fun _ => ?_)
      refine lv_iload_n hx hb dX4_keep__13 rfl (lv_at hl 2 rfl) ?_
      refine lv_iconst (v := (-1)) hx hb dX4_keep__14 (by decide) ?_
      refine lv_icmp_eq (tgt := 32) hx hb dX4_keep__15 (by decide) (fun _ => ?_) (fun c => absurd (by decide) c)
      refine lv_aload_n hx hb dX4_keep__32 rfl (lv_at hl 0 rfl) ?_
      refine lv_iload_n hx hb dX4_keep__33 rfl (lv_at hl 1 rfl) ?_
      refine lv_iconst (v := 3) hx hb dX4_keep__34 (by decide) ?_
      refine zk_R (D := D) (va_runV (As := [.int (nI k), .int 3]) (rest := []) ⟨hx, hb, hml, hown, hts⟩ (c_X4_sa l D cI μ 0 σ (κ) (k := k) (w := 3) (by omega) (by decide) _) (cwV 2 hts gX4_keep__X4_sa rfl rfl rfl zdX4_sa ⟨Nat.le_of_ble_eq_true rfl, Nat.le_of_ble_eq_true rfl⟩) ⟨zbl _, va_recv hK hP (ci := 4) (q0 := 0) rfl rfl, zpr hK hP hD⟩ rfl rfl hl.1 rfl (lv_room (Nat.le_of_ble_eq_true rfl)) dX4_keep__35 ⟨Nat.zero_le _, Nat.zero_le _⟩) hS (fun r_5 H locs hw hkp hS => ?_)
      have hP := hkp _ hP
      have hw : r_5 = σ 11 k := hw
      subst hw
      refine lv_istore_n (lv' := [(3, .int (σ 11 k)), (0, .ref (μ 0)), (1, .int (nI k)), (2, .int (-1))]) hx hb dX4_keep__38 rfl hl (by decide) rfl (fun ls hl => ?_)
      refine lv_aload_n hx hb dX4_keep__39 rfl (lv_at hl 1 rfl) ?_
      refine lv_iload_n hx hb dX4_keep__40 rfl (lv_at hl 2 rfl) ?_
      refine lv_iconst (v := 3) hx hb dX4_keep__41 (by decide) ?_
      refine lv_iload_n hx hb dX4_keep__42 rfl (lv_at hl 3 rfl) ?_
      have hF := zfree hD hS hA
      refine zk_V (va_runV (As := [.int (nI k), .int 3, .int (-1)]) (rest := []) ⟨hx, hb, hml, hown, hts⟩ (c_X4_let l D cI μ 0 σ (κ) (k := k) (w := 3) (by omega) (by decide) (-1) _) (cwV 3 hts gX4_keep__X4_let rfl rfl rfl zdX4_let ⟨Nat.le_of_ble_eq_true rfl, Nat.le_of_ble_eq_true rfl⟩) ⟨zbl _, va_recv hK hP (ci := 4) (q0 := 0) rfl rfl, zpr hK hP hD⟩ rfl rfl hl.1 rfl (lv_room (Nat.le_of_ble_eq_true rfl)) dX4_keep__43 ⟨Nat.zero_le _, Nat.zero_le _⟩) hS hF (fun H locs hkp hP1 hD1 hS => ?_)
      have hP := hP1
      have hD := hD1.weaken (fun _ _ _ z => hF _ z)
      have hP : va_P D vwCl (zw_M cI μ 0 (zs σ 11 k (-1)) (κ)) H := hP
      have hD : va_D A (zw_M cI μ 0 (zs σ 11 k (-1)) (κ)) := hD
      refine lv_iload_n hx hb dX4_keep__46 rfl (lv_at hl 0 rfl) ?_
      have hP9 := hP
      have hD9 := hD
      exact W.iret (v := σ 11 k) hx hb hr (fun t ht hW => ⟨⟨σ 11 k, (), rfl, rfl, by rw [ht]; exact hP9, va_K.moved hW.alike hK, hD9⟩, hS.F ht⟩) hS.2.2 dX4_keep__47
    · exact absurd (zsail_k hC hk) c_2
  · refine lv_aload_n hx hb dX4_keep__0 rfl (lv_at hl 0 rfl) ?_
    refine lv_iconst (v := 0) hx hb dX4_keep__1 (by decide) ?_
    refine va_put (D := D) (ci := 4) (v := .int 0) (ty := .int) (C := RX4) (T := TX4) (N := 8) hx hb hts hinX4 tyX4 tyX4_ok nmX4 hown hK hP hD hS 0 rfl rfl 0 (by decide) hf25 (fun _ h9 => h9)  rfl (by decide +kernel) rfl rfl (Nat.le_of_ble_eq_true rfl) dX4_keep__2 (fun H locs hP hD hS => ?_)
    have hP : va_P D vwCl (zw_M cI μ 0 σ (κ)) H := hP
    have hD : va_D A (zw_M cI μ 0 σ (κ)) := hD
    refine lv_aload_n hx hb dX4_keep__5 rfl (lv_at hl 0 rfl) ?_
    refine lv_iload_n hx hb dX4_keep__6 rfl (lv_at hl 1 rfl) ?_
    refine zk_R (D := D) (va_runV (As := [.int (nI k)]) (rest := []) ⟨hx, hb, hml, hown, hts⟩ (c_X4_isSailor l D cI μ 0 σ (κ) (nI k) hC _) (cwV 1 hts gX4_keep__X4_isSailor rfl rfl rfl zdX4_isSailor ⟨Nat.le_of_ble_eq_true rfl, Nat.le_of_ble_eq_true rfl⟩) ⟨zbl _, va_recv hK hP (ci := 4) (q0 := 0) rfl rfl, zpr hK hP hD⟩ rfl rfl hl.1 rfl (lv_room (Nat.le_of_ble_eq_true rfl)) dX4_keep__7 ⟨Nat.zero_le _, Nat.zero_le _⟩) hS (fun r_6 H locs hw hkp hS => ?_)
    have hP := hkp _ hP
    have hw : zb (f_sail σ (nI k)) r_6 := hw
    rcases hw with ⟨c_7, rfl⟩ | ⟨c_7, rfl⟩
    · refine lv_if_eq (tgt := 26) hx hb dX4_keep__10 (by decide) (fun c => absurd c (by decide)) (fun _ => ?_)
      refine lv_iload_n hx hb dX4_keep__13 rfl (lv_at hl 2 rfl) ?_
      refine lv_iconst (v := (-1)) hx hb dX4_keep__14 (by decide) ?_
      refine lv_icmp_eq (tgt := 32) hx hb dX4_keep__15 (by decide) (fun c => absurd c (zn_m1 (by omega))) (fun _ => ?_)
      refine lv_aload_n hx hb dX4_keep__18 rfl (lv_at hl 0 rfl) ?_
      refine lv_iload_n hx hb dX4_keep__19 rfl (lv_at hl 2 rfl) ?_
      refine zk_R (D := D) (va_runV (As := [.int (nI k9)]) (rest := []) ⟨hx, hb, hml, hown, hts⟩ (c_X4_isBed l D cI μ 0 σ (κ) (nI k9) hC _) (cwV 1 hts gX4_keep__X4_isBed rfl rfl rfl zdX4_isBed ⟨Nat.le_of_ble_eq_true rfl, Nat.le_of_ble_eq_true rfl⟩) ⟨zbl _, va_recv hK hP (ci := 4) (q0 := 0) rfl rfl, zpr hK hP hD⟩ rfl rfl hl.1 rfl (lv_room (Nat.le_of_ble_eq_true rfl)) dX4_keep__20 ⟨Nat.zero_le _, Nat.zero_le _⟩) hS (fun r_10 H locs hw hkp hS => ?_)
      have hP := hkp _ hP
      have hw : zb (f_has σ (nI k9)) r_10 := hw
      rcases hw with ⟨c_11, rfl⟩ | ⟨c_11, rfl⟩
      · refine lv_if_ne (tgt := 32) hx hb dX4_keep__23 (by decide) (fun _ => ?_) (fun c => absurd c (by decide))
        refine lv_aload_n hx hb dX4_keep__32 rfl (lv_at hl 0 rfl) ?_
        refine lv_iload_n hx hb dX4_keep__33 rfl (lv_at hl 1 rfl) ?_
        refine lv_iconst (v := 3) hx hb dX4_keep__34 (by decide) ?_
        refine zk_R (D := D) (va_runV (As := [.int (nI k), .int 3]) (rest := []) ⟨hx, hb, hml, hown, hts⟩ (c_X4_sa l D cI μ 0 σ (κ) (k := k) (w := 3) (by omega) (by decide) _) (cwV 2 hts gX4_keep__X4_sa rfl rfl rfl zdX4_sa ⟨Nat.le_of_ble_eq_true rfl, Nat.le_of_ble_eq_true rfl⟩) ⟨zbl _, va_recv hK hP (ci := 4) (q0 := 0) rfl rfl, zpr hK hP hD⟩ rfl rfl hl.1 rfl (lv_room (Nat.le_of_ble_eq_true rfl)) dX4_keep__35 ⟨Nat.zero_le _, Nat.zero_le _⟩) hS (fun r_13 H locs hw hkp hS => ?_)
        have hP := hkp _ hP
        have hw : r_13 = σ 11 k := hw
        subst hw
        refine lv_istore_n (lv' := [(3, .int (σ 11 k)), (0, .ref (μ 0)), (1, .int (nI k)), (2, .int (nI k9))]) hx hb dX4_keep__38 rfl hl (by decide) rfl (fun ls hl => ?_)
        refine lv_aload_n hx hb dX4_keep__39 rfl (lv_at hl 1 rfl) ?_
        refine lv_iload_n hx hb dX4_keep__40 rfl (lv_at hl 2 rfl) ?_
        refine lv_iconst (v := 3) hx hb dX4_keep__41 (by decide) ?_
        refine lv_iload_n hx hb dX4_keep__42 rfl (lv_at hl 3 rfl) ?_
        have hF := zfree hD hS hA
        refine zk_V (va_runV (As := [.int (nI k), .int 3, .int (nI k9)]) (rest := []) ⟨hx, hb, hml, hown, hts⟩ (c_X4_let l D cI μ 0 σ (κ) (k := k) (w := 3) (by omega) (by decide) (nI k9) _) (cwV 3 hts gX4_keep__X4_let rfl rfl rfl zdX4_let ⟨Nat.le_of_ble_eq_true rfl, Nat.le_of_ble_eq_true rfl⟩) ⟨zbl _, va_recv hK hP (ci := 4) (q0 := 0) rfl rfl, zpr hK hP hD⟩ rfl rfl hl.1 rfl (lv_room (Nat.le_of_ble_eq_true rfl)) dX4_keep__43 ⟨Nat.zero_le _, Nat.zero_le _⟩) hS hF (fun H locs hkp hP1 hD1 hS => ?_)
        have hP := hP1
        have hD := hD1.weaken (fun _ _ _ z => hF _ z)
        have hP : va_P D vwCl (zw_M cI μ 0 (zs σ 11 k (nI k9)) (κ)) H := hP
        have hD : va_D A (zw_M cI μ 0 (zs σ 11 k (nI k9)) (κ)) := hD
        refine lv_iload_n hx hb dX4_keep__46 rfl (lv_at hl 0 rfl) ?_
        have hP9 := hP
        have hD9 := hD
        exact W.iret (v := σ 11 k) hx hb hr (fun t ht hW => ⟨⟨σ 11 k, (), rfl, rfl, by rw [ht]; exact hP9, va_K.moved hW.alike hK, hD9⟩, hS.F ht⟩) hS.2.2 dX4_keep__47
      · exact absurd (zhas_k hC hkb) c_11
    · exact absurd (zsail_k hC hk) c_7

set_option maxHeartbeats 4000000 in
set_option maxRecDepth 100000 in
theorem c_X4_change (l : Launch) (D : va_G) (cI : ClassId) (μ : Nat → Nat) (th : Int32) (σ : zS) (κ : Nat → Int32) {w : Nat} (hw3 : w < 3) (v lo hi : Int32) (hv : ¬ v < lo ∧ ¬ hi < v) : zMI l yX4_change wsX4_change ({ frames := 1, cells := 0, slots := 0, locals := 22 }) [.ref (μ 0), .int (nI w), .int v, .int lo, .int hi] D [(cI, .int)] (zw_M cI μ th σ (κ)) (zw_M cI μ th (zs σ 0 w v) (κ)) (fun r => r = σ 0 w) := by
  intro sz
  refine Met.ofW (cc := cX4_change) (maxL := 6) (ret := (some .int)) (by decide) rfl ?_
  intro p e s m args below meth c s₁ B hml hv
  obtain ⟨rfl, hsz, hP, hK, hD⟩ := hv
  have hx := B.exec
  have hb := B.bytes
  have hr := B.returns
  have hts := atoms_spec (ws := wsX4_change) B.pre
  have hown : s.vm.findClass RX4 = some m.cls := findClass_of_methodNamed B.named
  have hlocks := B.notSynchronized
  subst hsz
  have hD := hD.self (sz := s.heap.size)
  generalize hAe : va_A (zw_M cI μ th σ (κ)) s.heap.size = A at hD ⊢
  have hA : ∀ q : Nat, s.heap.size ≤ q → A q := fun q h => by rw [← hAe]; exact Or.inr h
  have hS : va_S A s.heap s.heap [] := va_S.rf
  have hP : va_P D vwCl (zw_M cI μ th σ (κ)) s.heap := hP
  have hl := lv_entry ([.ref (μ 0), .int (nI w), .int v, .int lo, .int hi]) (n := 6) (Nat.le_of_ble_eq_true rfl)
  rw [lg_entry_eq]
  generalize (lg_sl ([.ref (μ 0), .int (nI w), .int v, .int lo, .int hi]) ++ List.replicate (6 - (lg_sl ([.ref (μ 0), .int (nI w), .int v, .int lo, .int hi])).length) Slot.unset).toArray = ls at hl ⊢
  have hl : lv_has ls 6 [(0, .ref (μ 0)), (1, .int (nI w)), (2, .int v), (3, .int lo), (4, .int hi)] := hl
  have hf19 := hts (.fieldLink RX4 19 "HotBedsModel" "now" "[I") (by decide +kernel)
  have hinX4 : ∀ w ∈ u_ws RX4 TX4 8, w ∈ wsX4_change := by decide +kernel
  refine lv_iload_n hx hb dX4_change_0 rfl (lv_at hl 2 rfl) ?_
  refine lv_iload_n hx hb dX4_change_1 rfl (lv_at hl 3 rfl) ?_
  refine lv_iload hx hb dX4_change_2 (lv_at hl 4 rfl) ?_
  refine zk_R (D := D) (va_runS (As := [.int v, .int lo, .int hi]) (rest := []) ⟨hx, hb, hml, hown, hts⟩ (c_X4_isIn l D cI v lo hi _) (va_cwS 3 hts gX4_change_X4_isIn rfl rfl rfl zdX4_isIn.2 ⟨Nat.le_of_ble_eq_true rfl, Nat.le_of_ble_eq_true rfl⟩) ⟨zbl _, zpr hK zP0 (zD0 (A := fun _ => True))⟩ rfl rfl hl.1 rfl (lv_room (Nat.le_of_ble_eq_true rfl)) dX4_change_4 ⟨Nat.zero_le _, Nat.zero_le _⟩) hS (fun r_1 H locs hw hkp hS => ?_)
  have hP := hkp _ hP
  have hw : zb (¬ v < lo ∧ ¬ hi < v) r_1 := hw
  rcases hw with ⟨c_2, rfl⟩ | ⟨c_2, rfl⟩
  · refine lv_if_ne (tgt := 16) hx hb dX4_change_7 (by decide) (fun _ => ?_) (fun c => absurd c (by decide))
    refine lv_aload_n hx hb dX4_change_16 rfl (lv_at hl 0 rfl) ?_
    refine va_get (D := D) (ci := 4) (v := .ref (μ 4)) (C := RX4) (T := TX4) (N := 8) hx hb hts hinX4 hown hK hP 0 rfl rfl 6 (by decide) hf19 (fun _ h9 => h9) rfl dX4_change_17 ?_
    refine lv_iload_n hx hb dX4_change_20 rfl (lv_at hl 1 rfl) ?_
    refine zk_ld hx hb hK hP 4 0 rfl rfl (k := w) (by omega) (by decide) (v := σ 0 w) (zenc_0 σ hw3) dX4_change_21 ?_
    refine lv_istore (lv' := [(5, .int (σ 0 w)), (0, .ref (μ 0)), (1, .int (nI w)), (2, .int v), (3, .int lo), (4, .int hi)]) hx hb dX4_change_22 hl (by decide) rfl (fun ls hl => ?_)
    refine lv_aload_n hx hb dX4_change_24 rfl (lv_at hl 1 rfl) ?_
    refine va_get (D := D) (ci := 4) (v := .ref (μ 4)) (C := RX4) (T := TX4) (N := 8) hx hb hts hinX4 hown hK hP 0 rfl rfl 6 (by decide) hf19 (fun _ h9 => h9) rfl dX4_change_25 ?_
    refine lv_iload_n hx hb dX4_change_28 rfl (lv_at hl 2 rfl) ?_
    refine lv_iload_n hx hb dX4_change_29 rfl (lv_at hl 3 rfl) ?_
    refine zk_st hx hb hK hP hD hS 4 0 rfl rfl (k := w) (by omega) (by decide) (zwm_0 cI μ th σ (κ) hw3 _) dX4_change_30 (fun H locs hP hD hS => ?_)
    have hP : va_P D vwCl (zw_M cI μ th (zs σ 0 w v) (κ)) H := hP
    have hD : va_D A (zw_M cI μ th (zs σ 0 w v) (κ)) := hD
    refine lv_iload hx hb dX4_change_31 (lv_at hl 0 rfl) ?_
    have hP9 := hP
    have hD9 := hD
    exact W.iret (v := σ 0 w) hx hb hr (fun t ht hW => ⟨⟨σ 0 w, (), rfl, rfl, by rw [ht]; exact hP9, va_K.moved hW.alike hK, hD9⟩, hS.F ht⟩) hS.2.2 dX4_change_33
  · exact absurd (hv) c_2

set_option maxHeartbeats 4000000 in
set_option maxRecDepth 100000 in
theorem b_X4_change (l : Launch) (D : va_G) (cI : ClassId) (μ : Nat → Nat) (th : Int32) (σ : zS) (κ : Nat → Int32) {w : Nat} (v lo hi : Int32) (hv : ¬ (¬ v < lo ∧ ¬ hi < v)) : zMI l yX4_change wsX4_change ({ frames := 1, cells := 0, slots := 0, locals := 22 }) [.ref (μ 0), .int (nI w), .int v, .int lo, .int hi] D [(cI, .int)] (zw_M cI μ th σ (κ)) (zw_M cI μ 1 σ (κ)) (fun _ => True) := by
  intro sz
  refine Met.ofW (cc := cX4_change) (maxL := 6) (ret := (some .int)) (by decide) rfl ?_
  intro p e s m args below meth c s₁ B hml hv
  obtain ⟨rfl, hsz, hP, hK, hD⟩ := hv
  have hx := B.exec
  have hb := B.bytes
  have hr := B.returns
  have hts := atoms_spec (ws := wsX4_change) B.pre
  have hown : s.vm.findClass RX4 = some m.cls := findClass_of_methodNamed B.named
  have hlocks := B.notSynchronized
  subst hsz
  have hD := hD.self (sz := s.heap.size)
  generalize hAe : va_A (zw_M cI μ th σ (κ)) s.heap.size = A at hD ⊢
  have hA : ∀ q : Nat, s.heap.size ≤ q → A q := fun q h => by rw [← hAe]; exact Or.inr h
  have hS : va_S A s.heap s.heap [] := va_S.rf
  have hP : va_P D vwCl (zw_M cI μ th σ (κ)) s.heap := hP
  have hl := lv_entry ([.ref (μ 0), .int (nI w), .int v, .int lo, .int hi]) (n := 6) (Nat.le_of_ble_eq_true rfl)
  rw [lg_entry_eq]
  generalize (lg_sl ([.ref (μ 0), .int (nI w), .int v, .int lo, .int hi]) ++ List.replicate (6 - (lg_sl ([.ref (μ 0), .int (nI w), .int v, .int lo, .int hi])).length) Slot.unset).toArray = ls at hl ⊢
  have hl : lv_has ls 6 [(0, .ref (μ 0)), (1, .int (nI w)), (2, .int v), (3, .int lo), (4, .int hi)] := hl
  refine lv_iload_n hx hb dX4_change_0 rfl (lv_at hl 2 rfl) ?_
  refine lv_iload_n hx hb dX4_change_1 rfl (lv_at hl 3 rfl) ?_
  refine lv_iload hx hb dX4_change_2 (lv_at hl 4 rfl) ?_
  refine zk_R (D := D) (va_runS (As := [.int v, .int lo, .int hi]) (rest := []) ⟨hx, hb, hml, hown, hts⟩ (c_X4_isIn l D cI v lo hi _) (va_cwS 3 hts gX4_change_X4_isIn rfl rfl rfl zdX4_isIn.2 ⟨Nat.le_of_ble_eq_true rfl, Nat.le_of_ble_eq_true rfl⟩) ⟨zbl _, zpr hK zP0 (zD0 (A := fun _ => True))⟩ rfl rfl hl.1 rfl (lv_room (Nat.le_of_ble_eq_true rfl)) dX4_change_4 ⟨Nat.zero_le _, Nat.zero_le _⟩) hS (fun r_1 H locs hw hkp hS => ?_)
  have hP := hkp _ hP
  have hw : zb (¬ v < lo ∧ ¬ hi < v) r_1 := hw
  rcases hw with ⟨c_2, rfl⟩ | ⟨c_2, rfl⟩
  · exact absurd c_2 (hv)
  · refine lv_if_ne (tgt := 16) hx hb dX4_change_7 (by decide) (fun c => absurd (by decide) c) (fun _ => ?_)
    refine lv_aload_n hx hb dX4_change_10 rfl (lv_at hl 0 rfl) ?_
    refine lv_iconst (v := 1) hx hb dX4_change_11 (by decide) ?_
    have hF := zfree hD hS hA
    refine zk_I (va_runV (As := [.int 1]) (rest := []) ⟨hx, hb, hml, hown, hts⟩ (c_X4_fail l D cI μ th σ (κ) 1 _) (cwV 1 hts gX4_change_X4_fail rfl rfl rfl zdX4_fail ⟨Nat.le_of_ble_eq_true rfl, Nat.le_of_ble_eq_true rfl⟩) ⟨zbl _, va_recv hK hP (ci := 4) (q0 := 0) rfl rfl, zpr hK hP hD⟩ rfl rfl hl.1 rfl (lv_room (Nat.le_of_ble_eq_true rfl)) dX4_change_12 ⟨Nat.zero_le _, Nat.zero_le _⟩) hS hF (fun r_4 H locs hw hkp hP1 hD1 hS => ?_)
    have hP := hP1
    have hD := hD1.weaken (fun _ _ _ z => hF _ z)
    have hP : va_P D vwCl (zw_M cI μ 1 σ (κ)) H := hP
    have hD : va_D A (zw_M cI μ 1 σ (κ)) := hD
    have hw : r_4 = 0 := hw
    subst hw
    have hP9 := hP
    have hD9 := hD
    exact W.iret (v := 0) hx hb hr (fun t ht hW => ⟨⟨0, (), rfl, trivial, by rw [ht]; exact hP9, va_K.moved hW.alike hK, hD9⟩, hS.F ht⟩) hS.2.2 dX4_change_15

set_option maxHeartbeats 4000000 in
set_option maxRecDepth 100000 in
theorem c_X4_setBell (l : Launch) (D : va_G) (cI : ClassId) (μ : Nat → Nat) (th : Int32) (σ : zS) (κ : Nat → Int32) (v : Int32) (h1 : ¬ v < 0) (h2 : v ≤ 9) : zMI l yX4_setBell wsX4_setBell ({ frames := 2, cells := 0, slots := 0, locals := 47 }) [.ref (μ 0), .int v] D [(cI, .int)] (zw_M cI μ th σ (κ)) (zw_M cI μ 0 (zs σ 0 1 v) (κ)) (fun r => r = σ 0 1) := by
  intro sz
  refine Met.ofW (cc := cX4_setBell) (maxL := 2) (ret := (some .int)) (by decide) rfl ?_
  intro p e s m args below meth c s₁ B hml hv
  obtain ⟨rfl, hsz, hP, hK, hD⟩ := hv
  have hx := B.exec
  have hb := B.bytes
  have hr := B.returns
  have hts := atoms_spec (ws := wsX4_setBell) B.pre
  have hown : s.vm.findClass RX4 = some m.cls := findClass_of_methodNamed B.named
  have hlocks := B.notSynchronized
  subst hsz
  have hD := hD.self (sz := s.heap.size)
  generalize hAe : va_A (zw_M cI μ th σ (κ)) s.heap.size = A at hD ⊢
  have hA : ∀ q : Nat, s.heap.size ≤ q → A q := fun q h => by rw [← hAe]; exact Or.inr h
  have hS : va_S A s.heap s.heap [] := va_S.rf
  have hP : va_P D vwCl (zw_M cI μ th σ (κ)) s.heap := hP
  have hl := lv_entry ([.ref (μ 0), .int v]) (n := 2) (Nat.le_of_ble_eq_true rfl)
  rw [lg_entry_eq]
  generalize (lg_sl ([.ref (μ 0), .int v]) ++ List.replicate (2 - (lg_sl ([.ref (μ 0), .int v])).length) Slot.unset).toArray = ls at hl ⊢
  have hl : lv_has ls 2 [(0, .ref (μ 0)), (1, .int v)] := hl
  have hf25 := hts (.fieldLink RX4 25 "HotBedsModel" "thrown" "I") (by decide +kernel)
  have hinX4 : ∀ w ∈ u_ws RX4 TX4 8, w ∈ wsX4_setBell := by decide +kernel
  refine lv_aload_n hx hb dX4_setBell_0 rfl (lv_at hl 0 rfl) ?_
  refine lv_iconst (v := 0) hx hb dX4_setBell_1 (by decide) ?_
  refine va_put (D := D) (ci := 4) (v := .int 0) (ty := .int) (C := RX4) (T := TX4) (N := 8) hx hb hts hinX4 tyX4 tyX4_ok nmX4 hown hK hP hD hS 0 rfl rfl 0 (by decide) hf25 (fun _ h9 => h9)  rfl (by decide +kernel) rfl rfl (Nat.le_of_ble_eq_true rfl) dX4_setBell_2 (fun H locs hP hD hS => ?_)
  have hP : va_P D vwCl (zw_M cI μ 0 σ (κ)) H := hP
  have hD : va_D A (zw_M cI μ 0 σ (κ)) := hD
  refine lv_aload_n hx hb dX4_setBell_5 rfl (lv_at hl 0 rfl) ?_
  refine lv_iconst (v := 1) hx hb dX4_setBell_6 (by decide) ?_
  refine lv_iload_n hx hb dX4_setBell_7 rfl (lv_at hl 1 rfl) ?_
  refine lv_iconst (v := 0) hx hb dX4_setBell_8 (by decide) ?_
  refine lv_bipush (v := 9) hx hb dX4_setBell_9 (by decide) ?_
  have hF := zfree hD hS hA
  refine zk_I (va_runV (As := [.int 1, .int v, .int 0, .int 9]) (rest := []) ⟨hx, hb, hml, hown, hts⟩ (c_X4_change l D cI μ 0 σ (κ) (w := 1) (by decide) v 0 9 ⟨h1, Int32.not_lt.mpr h2⟩ _) (cwV 4 hts gX4_setBell_X4_change rfl rfl rfl zdX4_change ⟨Nat.le_of_ble_eq_true rfl, Nat.le_of_ble_eq_true rfl⟩) ⟨zbl _, va_recv hK hP (ci := 4) (q0 := 0) rfl rfl, zpr hK hP hD⟩ rfl rfl hl.1 rfl (lv_room (Nat.le_of_ble_eq_true rfl)) dX4_setBell_11 ⟨Nat.zero_le _, Nat.zero_le _⟩) hS hF (fun r_1 H locs hw hkp hP1 hD1 hS => ?_)
  have hP := hP1
  have hD := hD1.weaken (fun _ _ _ z => hF _ z)
  have hP : va_P D vwCl (zw_M cI μ 0 (zs σ 0 1 v) (κ)) H := hP
  have hD : va_D A (zw_M cI μ 0 (zs σ 0 1 v) (κ)) := hD
  have hw : r_1 = σ 0 1 := hw
  subst hw
  have hP9 := hP
  have hD9 := hD
  exact W.iret (v := σ 0 1) hx hb hr (fun t ht hW => ⟨⟨σ 0 1, (), rfl, rfl, by rw [ht]; exact hP9, va_K.moved hW.alike hK, hD9⟩, hS.F ht⟩) hS.2.2 dX4_setBell_14

set_option maxHeartbeats 4000000 in
set_option maxRecDepth 100000 in
theorem c_X4_setPawn (l : Launch) (D : va_G) (cI : ClassId) (μ : Nat → Nat) (th : Int32) (σ : zS) (κ : Nat → Int32) (v : Int32) (h1 : ¬ v < 1) (h2 : v ≤ 20) : zMI l yX4_setPawn wsX4_setPawn ({ frames := 2, cells := 0, slots := 0, locals := 47 }) [.ref (μ 0), .int v] D [(cI, .int)] (zw_M cI μ th σ (κ)) (zw_M cI μ 0 (zs σ 0 2 v) (κ)) (fun r => r = σ 0 2) := by
  intro sz
  refine Met.ofW (cc := cX4_setPawn) (maxL := 2) (ret := (some .int)) (by decide) rfl ?_
  intro p e s m args below meth c s₁ B hml hv
  obtain ⟨rfl, hsz, hP, hK, hD⟩ := hv
  have hx := B.exec
  have hb := B.bytes
  have hr := B.returns
  have hts := atoms_spec (ws := wsX4_setPawn) B.pre
  have hown : s.vm.findClass RX4 = some m.cls := findClass_of_methodNamed B.named
  have hlocks := B.notSynchronized
  subst hsz
  have hD := hD.self (sz := s.heap.size)
  generalize hAe : va_A (zw_M cI μ th σ (κ)) s.heap.size = A at hD ⊢
  have hA : ∀ q : Nat, s.heap.size ≤ q → A q := fun q h => by rw [← hAe]; exact Or.inr h
  have hS : va_S A s.heap s.heap [] := va_S.rf
  have hP : va_P D vwCl (zw_M cI μ th σ (κ)) s.heap := hP
  have hl := lv_entry ([.ref (μ 0), .int v]) (n := 2) (Nat.le_of_ble_eq_true rfl)
  rw [lg_entry_eq]
  generalize (lg_sl ([.ref (μ 0), .int v]) ++ List.replicate (2 - (lg_sl ([.ref (μ 0), .int v])).length) Slot.unset).toArray = ls at hl ⊢
  have hl : lv_has ls 2 [(0, .ref (μ 0)), (1, .int v)] := hl
  have hf25 := hts (.fieldLink RX4 25 "HotBedsModel" "thrown" "I") (by decide +kernel)
  have hinX4 : ∀ w ∈ u_ws RX4 TX4 8, w ∈ wsX4_setPawn := by decide +kernel
  refine lv_aload_n hx hb dX4_setPawn_0 rfl (lv_at hl 0 rfl) ?_
  refine lv_iconst (v := 0) hx hb dX4_setPawn_1 (by decide) ?_
  refine va_put (D := D) (ci := 4) (v := .int 0) (ty := .int) (C := RX4) (T := TX4) (N := 8) hx hb hts hinX4 tyX4 tyX4_ok nmX4 hown hK hP hD hS 0 rfl rfl 0 (by decide) hf25 (fun _ h9 => h9)  rfl (by decide +kernel) rfl rfl (Nat.le_of_ble_eq_true rfl) dX4_setPawn_2 (fun H locs hP hD hS => ?_)
  have hP : va_P D vwCl (zw_M cI μ 0 σ (κ)) H := hP
  have hD : va_D A (zw_M cI μ 0 σ (κ)) := hD
  refine lv_aload_n hx hb dX4_setPawn_5 rfl (lv_at hl 0 rfl) ?_
  refine lv_iconst (v := 2) hx hb dX4_setPawn_6 (by decide) ?_
  refine lv_iload_n hx hb dX4_setPawn_7 rfl (lv_at hl 1 rfl) ?_
  refine lv_iconst (v := 1) hx hb dX4_setPawn_8 (by decide) ?_
  refine lv_bipush (v := 20) hx hb dX4_setPawn_9 (by decide) ?_
  have hF := zfree hD hS hA
  refine zk_I (va_runV (As := [.int 2, .int v, .int 1, .int 20]) (rest := []) ⟨hx, hb, hml, hown, hts⟩ (c_X4_change l D cI μ 0 σ (κ) (w := 2) (by decide) v 1 20 ⟨h1, Int32.not_lt.mpr h2⟩ _) (cwV 4 hts gX4_setPawn_X4_change rfl rfl rfl zdX4_change ⟨Nat.le_of_ble_eq_true rfl, Nat.le_of_ble_eq_true rfl⟩) ⟨zbl _, va_recv hK hP (ci := 4) (q0 := 0) rfl rfl, zpr hK hP hD⟩ rfl rfl hl.1 rfl (lv_room (Nat.le_of_ble_eq_true rfl)) dX4_setPawn_11 ⟨Nat.zero_le _, Nat.zero_le _⟩) hS hF (fun r_1 H locs hw hkp hP1 hD1 hS => ?_)
  have hP := hP1
  have hD := hD1.weaken (fun _ _ _ z => hF _ z)
  have hP : va_P D vwCl (zw_M cI μ 0 (zs σ 0 2 v) (κ)) H := hP
  have hD : va_D A (zw_M cI μ 0 (zs σ 0 2 v) (κ)) := hD
  have hw : r_1 = σ 0 2 := hw
  subst hw
  have hP9 := hP
  have hD9 := hD
  exact W.iret (v := σ 0 2) hx hb hr (fun t ht hW => ⟨⟨σ 0 2, (), rfl, rfl, by rw [ht]; exact hP9, va_K.moved hW.alike hK, hD9⟩, hS.F ht⟩) hS.2.2 dX4_setPawn_14

set_option maxHeartbeats 4000000 in
set_option maxRecDepth 100000 in
theorem c_X4_give (l : Launch) (D : va_G) (cI : ClassId) (μ : Nat → Nat) (th : Int32) (σ : zS) (κ : Nat → Int32) {k : Nat} {nb ns h : Nat} (hC : zC σ nb ns h) (hk : k < ns) (v : Int32) (h1 : ¬ v < 1) (h2 : v ≤ 99) : zMI l yX4_give wsX4_give ({ frames := 2, cells := 0, slots := 0, locals := 45 }) [.ref (μ 0), .int (nI k), .int v] D [(cI, .int)] (zw_M cI μ th σ (κ)) (zw_M cI μ 0 (f_earn σ k v) (κ)) (fun r => r = (f_earn σ k v) 9 k) := by
  intro sz
  refine Met.ofW (cc := cX4_give) (maxL := 3) (ret := (some .int)) (by decide) rfl ?_
  intro p e s m args below meth c s₁ B hml hv
  obtain ⟨rfl, hsz, hP, hK, hD⟩ := hv
  have hx := B.exec
  have hb := B.bytes
  have hr := B.returns
  have hts := atoms_spec (ws := wsX4_give) B.pre
  have hown : s.vm.findClass RX4 = some m.cls := findClass_of_methodNamed B.named
  have hlocks := B.notSynchronized
  subst hsz
  have hD := hD.self (sz := s.heap.size)
  generalize hAe : va_A (zw_M cI μ th σ (κ)) s.heap.size = A at hD ⊢
  have hA : ∀ q : Nat, s.heap.size ≤ q → A q := fun q h => by rw [← hAe]; exact Or.inr h
  have hS : va_S A s.heap s.heap [] := va_S.rf
  have hP : va_P D vwCl (zw_M cI μ th σ (κ)) s.heap := hP
  have hl := lv_entry ([.ref (μ 0), .int (nI k), .int v]) (n := 3) (Nat.le_of_ble_eq_true rfl)
  rw [lg_entry_eq]
  generalize (lg_sl ([.ref (μ 0), .int (nI k), .int v]) ++ List.replicate (3 - (lg_sl ([.ref (μ 0), .int (nI k), .int v])).length) Slot.unset).toArray = ls at hl ⊢
  have hl : lv_has ls 3 [(0, .ref (μ 0)), (1, .int (nI k)), (2, .int v)] := hl
  have hf25 := hts (.fieldLink RX4 25 "HotBedsModel" "thrown" "I") (by decide +kernel)
  have hinX4 : ∀ w ∈ u_ws RX4 TX4 8, w ∈ wsX4_give := by decide +kernel
  have hnb := hC.2.1
  have hns := hC.2.2.2.1
  have hh := hC.2.2.2.2.2.1
  refine lv_aload_n hx hb dX4_give_0 rfl (lv_at hl 0 rfl) ?_
  refine lv_iconst (v := 0) hx hb dX4_give_1 (by decide) ?_
  refine va_put (D := D) (ci := 4) (v := .int 0) (ty := .int) (C := RX4) (T := TX4) (N := 8) hx hb hts hinX4 tyX4 tyX4_ok nmX4 hown hK hP hD hS 0 rfl rfl 0 (by decide) hf25 (fun _ h9 => h9)  rfl (by decide +kernel) rfl rfl (Nat.le_of_ble_eq_true rfl) dX4_give_2 (fun H locs hP hD hS => ?_)
  have hP : va_P D vwCl (zw_M cI μ 0 σ (κ)) H := hP
  have hD : va_D A (zw_M cI μ 0 σ (κ)) := hD
  refine lv_aload_n hx hb dX4_give_5 rfl (lv_at hl 0 rfl) ?_
  refine lv_iload_n hx hb dX4_give_6 rfl (lv_at hl 1 rfl) ?_
  refine zk_R (D := D) (va_runV (As := [.int (nI k)]) (rest := []) ⟨hx, hb, hml, hown, hts⟩ (c_X4_isSailor l D cI μ 0 σ (κ) (nI k) hC _) (cwV 1 hts gX4_give_X4_isSailor rfl rfl rfl zdX4_isSailor ⟨Nat.le_of_ble_eq_true rfl, Nat.le_of_ble_eq_true rfl⟩) ⟨zbl _, va_recv hK hP (ci := 4) (q0 := 0) rfl rfl, zpr hK hP hD⟩ rfl rfl hl.1 rfl (lv_room (Nat.le_of_ble_eq_true rfl)) dX4_give_7 ⟨Nat.zero_le _, Nat.zero_le _⟩) hS (fun r_1 H locs hw hkp hS => ?_)
  have hP := hkp _ hP
  have hw : zb (f_sail σ (nI k)) r_1 := hw
  rcases hw with ⟨c_2, rfl⟩ | ⟨c_2, rfl⟩
  · refine lv_if_ne (tgt := 19) hx hb dX4_give_10 (by decide) (fun _ => ?_) (fun c => absurd c (by decide))
    refine lv_iload_n hx hb dX4_give_19 rfl (lv_at hl 2 rfl) ?_
    refine lv_iconst (v := 1) hx hb dX4_give_20 (by decide) ?_
    refine lv_bipush (v := 99) hx hb dX4_give_21 (by decide) ?_
    refine zk_R (D := D) (va_runS (As := [.int v, .int 1, .int 99]) (rest := []) ⟨hx, hb, hml, hown, hts⟩ (c_X4_isIn l D cI v 1 99 _) (va_cwS 3 hts gX4_give_X4_isIn rfl rfl rfl zdX4_isIn.2 ⟨Nat.le_of_ble_eq_true rfl, Nat.le_of_ble_eq_true rfl⟩) ⟨zbl _, zpr hK zP0 (zD0 (A := fun _ => True))⟩ rfl rfl hl.1 rfl (lv_room (Nat.le_of_ble_eq_true rfl)) dX4_give_23 ⟨Nat.zero_le _, Nat.zero_le _⟩) hS (fun r_4 H locs hw hkp hS => ?_)
    have hP := hkp _ hP
    have hw : zb (¬ v < 1 ∧ ¬ 99 < v) r_4 := hw
    rcases hw with ⟨c_5, rfl⟩ | ⟨c_5, rfl⟩
    · refine lv_if_eq (tgt := 38) hx hb dX4_give_26 (by decide) (fun c => absurd c (by decide)) (fun _ => ?_)
      refine lv_aload_n hx hb dX4_give_29 rfl (lv_at hl 0 rfl) ?_
      refine lv_iload_n hx hb dX4_give_30 rfl (lv_at hl 1 rfl) ?_
      refine lv_iload_n hx hb dX4_give_31 rfl (lv_at hl 2 rfl) ?_
      have hF := zfree hD hS hA
      refine zk_I (va_runV (As := [.int (nI k), .int v]) (rest := []) ⟨hx, hb, hml, hown, hts⟩ (c_X4_gets l D cI μ 0 σ (κ) (k := k) (by omega) v _) (cwV 2 hts gX4_give_X4_gets rfl rfl rfl zdX4_gets ⟨Nat.le_of_ble_eq_true rfl, Nat.le_of_ble_eq_true rfl⟩) ⟨zbl _, va_recv hK hP (ci := 4) (q0 := 0) rfl rfl, zpr hK hP hD⟩ rfl rfl hl.1 rfl (lv_room (Nat.le_of_ble_eq_true rfl)) dX4_give_32 ⟨Nat.zero_le _, Nat.zero_le _⟩) hS hF (fun r_7 H locs hw hkp hP1 hD1 hS => ?_)
      have hP := hP1
      have hD := hD1.weaken (fun _ _ _ z => hF _ z)
      have hP : va_P D vwCl (zw_M cI μ 0 (f_earn σ k v) (κ)) H := hP
      have hD : va_D A (zw_M cI μ 0 (f_earn σ k v) (κ)) := hD
      have hw : r_7 = (f_earn σ k v) 9 k := hw
      subst hw
      refine lv_goto (tgt := 43) hx hb dX4_give_35 (by decide) ?_
      have hP9 := hP
      have hD9 := hD
      exact W.iret (v := (f_earn σ k v) 9 k) hx hb hr (fun t ht hW => ⟨⟨(f_earn σ k v) 9 k, (), rfl, rfl, by rw [ht]; exact hP9, va_K.moved hW.alike hK, hD9⟩, hS.F ht⟩) hS.2.2 dX4_give_43
    · exact absurd (⟨h1, Int32.not_lt.mpr h2⟩) c_5
  · exact absurd (zsail_k hC hk) c_2

set_option maxHeartbeats 4000000 in
set_option maxRecDepth 100000 in
theorem c_X4_pawn (l : Launch) (D : va_G) (cI : ClassId) (μ : Nat → Nat) (th : Int32) (σ : zS) (κ : Nat → Int32) {k : Nat} {nb ns h : Nat} (hC : zC σ nb ns h) (hk : k < ns) (hb1 : σ 10 k = 1) : zMI l yX4_pawn wsX4_pawn ({ frames := 3, cells := 0, slots := 0, locals := 66 }) [.ref (μ 0), .int (nI k)] D [(cI, .int)] (zw_M cI μ th σ (κ)) (zw_M cI μ 0 (f_pawnB σ k) (κ)) (fun r => r = (f_pawnB σ k) 9 k) := by
  intro sz
  refine Met.ofW (cc := cX4_pawn) (maxL := 2) (ret := (some .int)) (by decide) rfl ?_
  intro p e s m args below meth c s₁ B hml hv
  obtain ⟨rfl, hsz, hP, hK, hD⟩ := hv
  have hx := B.exec
  have hb := B.bytes
  have hr := B.returns
  have hts := atoms_spec (ws := wsX4_pawn) B.pre
  have hown : s.vm.findClass RX4 = some m.cls := findClass_of_methodNamed B.named
  have hlocks := B.notSynchronized
  subst hsz
  have hD := hD.self (sz := s.heap.size)
  generalize hAe : va_A (zw_M cI μ th σ (κ)) s.heap.size = A at hD ⊢
  have hA : ∀ q : Nat, s.heap.size ≤ q → A q := fun q h => by rw [← hAe]; exact Or.inr h
  have hS : va_S A s.heap s.heap [] := va_S.rf
  have hP : va_P D vwCl (zw_M cI μ th σ (κ)) s.heap := hP
  have hl := lv_entry ([.ref (μ 0), .int (nI k)]) (n := 2) (Nat.le_of_ble_eq_true rfl)
  rw [lg_entry_eq]
  generalize (lg_sl ([.ref (μ 0), .int (nI k)]) ++ List.replicate (2 - (lg_sl ([.ref (μ 0), .int (nI k)])).length) Slot.unset).toArray = ls at hl ⊢
  have hl : lv_has ls 2 [(0, .ref (μ 0)), (1, .int (nI k))] := hl
  have hf25 := hts (.fieldLink RX4 25 "HotBedsModel" "thrown" "I") (by decide +kernel)
  have hinX4 : ∀ w ∈ u_ws RX4 TX4 8, w ∈ wsX4_pawn := by decide +kernel
  have hnb := hC.2.1
  have hns := hC.2.2.2.1
  have hh := hC.2.2.2.2.2.1
  refine lv_aload_n hx hb dX4_pawn_0 rfl (lv_at hl 0 rfl) ?_
  refine lv_iconst (v := 0) hx hb dX4_pawn_1 (by decide) ?_
  refine va_put (D := D) (ci := 4) (v := .int 0) (ty := .int) (C := RX4) (T := TX4) (N := 8) hx hb hts hinX4 tyX4 tyX4_ok nmX4 hown hK hP hD hS 0 rfl rfl 0 (by decide) hf25 (fun _ h9 => h9)  rfl (by decide +kernel) rfl rfl (Nat.le_of_ble_eq_true rfl) dX4_pawn_2 (fun H locs hP hD hS => ?_)
  have hP : va_P D vwCl (zw_M cI μ 0 σ (κ)) H := hP
  have hD : va_D A (zw_M cI μ 0 σ (κ)) := hD
  refine lv_aload_n hx hb dX4_pawn_5 rfl (lv_at hl 0 rfl) ?_
  refine lv_iload_n hx hb dX4_pawn_6 rfl (lv_at hl 1 rfl) ?_
  refine zk_R (D := D) (va_runV (As := [.int (nI k)]) (rest := []) ⟨hx, hb, hml, hown, hts⟩ (c_X4_isSailor l D cI μ 0 σ (κ) (nI k) hC _) (cwV 1 hts gX4_pawn_X4_isSailor rfl rfl rfl zdX4_isSailor ⟨Nat.le_of_ble_eq_true rfl, Nat.le_of_ble_eq_true rfl⟩) ⟨zbl _, va_recv hK hP (ci := 4) (q0 := 0) rfl rfl, zpr hK hP hD⟩ rfl rfl hl.1 rfl (lv_room (Nat.le_of_ble_eq_true rfl)) dX4_pawn_7 ⟨Nat.zero_le _, Nat.zero_le _⟩) hS (fun r_1 H locs hw hkp hS => ?_)
  have hP := hkp _ hP
  have hw : zb (f_sail σ (nI k)) r_1 := hw
  rcases hw with ⟨c_2, rfl⟩ | ⟨c_2, rfl⟩
  · refine lv_if_ne (tgt := 19) hx hb dX4_pawn_10 (by decide) (fun _ => ?_) (fun c => absurd c (by decide))
    refine lv_aload_n hx hb dX4_pawn_19 rfl (lv_at hl 0 rfl) ?_
    refine lv_iload_n hx hb dX4_pawn_20 rfl (lv_at hl 1 rfl) ?_
    refine lv_iconst (v := 2) hx hb dX4_pawn_21 (by decide) ?_
    refine zk_R (D := D) (va_runV (As := [.int (nI k), .int 2]) (rest := []) ⟨hx, hb, hml, hown, hts⟩ (c_X4_sa l D cI μ 0 σ (κ) (k := k) (w := 2) (by omega) (by decide) _) (cwV 2 hts gX4_pawn_X4_sa rfl rfl rfl zdX4_sa ⟨Nat.le_of_ble_eq_true rfl, Nat.le_of_ble_eq_true rfl⟩) ⟨zbl _, va_recv hK hP (ci := 4) (q0 := 0) rfl rfl, zpr hK hP hD⟩ rfl rfl hl.1 rfl (lv_room (Nat.le_of_ble_eq_true rfl)) dX4_pawn_22 ⟨Nat.zero_le _, Nat.zero_le _⟩) hS (fun r_4 H locs hw hkp hS => ?_)
    have hP := hkp _ hP
    have hw : r_4 = σ 10 k := hw
    subst hw
    refine lv_iconst (v := 1) hx hb dX4_pawn_25 (by decide) ?_
    refine lv_icmp_ne (tgt := 37) hx hb dX4_pawn_26 (by decide) (fun c => absurd (hb1) c) (fun _ => ?_)
    refine lv_aload_n hx hb dX4_pawn_29 rfl (lv_at hl 0 rfl) ?_
    refine lv_iload_n hx hb dX4_pawn_30 rfl (lv_at hl 1 rfl) ?_
    have hF := zfree hD hS hA
    refine zk_I (va_runV (As := [.int (nI k)]) (rest := []) ⟨hx, hb, hml, hown, hts⟩ (c_X4_pawns l D cI μ 0 σ (κ) (k := k) (by omega) _) (cwV 1 hts gX4_pawn_X4_pawns rfl rfl rfl zdX4_pawns ⟨Nat.le_of_ble_eq_true rfl, Nat.le_of_ble_eq_true rfl⟩) ⟨zbl _, va_recv hK hP (ci := 4) (q0 := 0) rfl rfl, zpr hK hP hD⟩ rfl rfl hl.1 rfl (lv_room (Nat.le_of_ble_eq_true rfl)) dX4_pawn_31 ⟨Nat.zero_le _, Nat.zero_le _⟩) hS hF (fun r_6 H locs hw hkp hP1 hD1 hS => ?_)
    have hP := hP1
    have hD := hD1.weaken (fun _ _ _ z => hF _ z)
    have hP : va_P D vwCl (zw_M cI μ 0 (f_pawnB σ k) (κ)) H := hP
    have hD : va_D A (zw_M cI μ 0 (f_pawnB σ k) (κ)) := hD
    have hw : r_6 = (f_pawnB σ k) 9 k := hw
    subst hw
    refine lv_goto (tgt := 42) hx hb dX4_pawn_34 (by decide) ?_
    have hP9 := hP
    have hD9 := hD
    exact W.iret (v := (f_pawnB σ k) 9 k) hx hb hr (fun t ht hW => ⟨⟨(f_pawnB σ k) 9 k, (), rfl, rfl, by rw [ht]; exact hP9, va_K.moved hW.alike hK, hD9⟩, hS.F ht⟩) hS.2.2 dX4_pawn_42
  · exact absurd (zsail_k hC hk) c_2

set_option maxHeartbeats 4000000 in
set_option maxRecDepth 100000 in
theorem c_X4_redeem (l : Launch) (D : va_G) (cI : ClassId) (μ : Nat → Nat) (th : Int32) (σ : zS) (κ : Nat → Int32) {k : Nat} {nb ns h : Nat} (hI : zI σ nb ns h) (hk : k < ns) (hcan : f_can σ k) : zMI l yX4_redeem wsX4_redeem ({ frames := 2, cells := 0, slots := 0, locals := 44 }) [.ref (μ 0), .int (nI k)] D [(cI, .int)] (zw_M cI μ th σ (κ)) (zw_M cI μ 0 (f_red σ k) (κ)) (fun r => r = (f_red σ k) 9 k) := by
  intro sz
  refine Met.ofW (cc := cX4_redeem) (maxL := 2) (ret := (some .int)) (by decide) rfl ?_
  intro p e s m args below meth c s₁ B hml hv
  obtain ⟨rfl, hsz, hP, hK, hD⟩ := hv
  have hx := B.exec
  have hb := B.bytes
  have hr := B.returns
  have hts := atoms_spec (ws := wsX4_redeem) B.pre
  have hown : s.vm.findClass RX4 = some m.cls := findClass_of_methodNamed B.named
  have hlocks := B.notSynchronized
  subst hsz
  have hD := hD.self (sz := s.heap.size)
  generalize hAe : va_A (zw_M cI μ th σ (κ)) s.heap.size = A at hD ⊢
  have hA : ∀ q : Nat, s.heap.size ≤ q → A q := fun q h => by rw [← hAe]; exact Or.inr h
  have hS : va_S A s.heap s.heap [] := va_S.rf
  have hP : va_P D vwCl (zw_M cI μ th σ (κ)) s.heap := hP
  have hl := lv_entry ([.ref (μ 0), .int (nI k)]) (n := 2) (Nat.le_of_ble_eq_true rfl)
  rw [lg_entry_eq]
  generalize (lg_sl ([.ref (μ 0), .int (nI k)]) ++ List.replicate (2 - (lg_sl ([.ref (μ 0), .int (nI k)])).length) Slot.unset).toArray = ls at hl ⊢
  have hl : lv_has ls 2 [(0, .ref (μ 0)), (1, .int (nI k))] := hl
  have hf25 := hts (.fieldLink RX4 25 "HotBedsModel" "thrown" "I") (by decide +kernel)
  have hinX4 : ∀ w ∈ u_ws RX4 TX4 8, w ∈ wsX4_redeem := by decide +kernel
  have hC := hI.1
  have hs := hI.2 k hk
  have hbo := hs.2.1
  have hnb := hC.2.1
  have hns := hC.2.2.2.1
  have hh := hC.2.2.2.2.2.1
  refine lv_aload_n hx hb dX4_redeem_0 rfl (lv_at hl 0 rfl) ?_
  refine lv_iconst (v := 0) hx hb dX4_redeem_1 (by decide) ?_
  refine va_put (D := D) (ci := 4) (v := .int 0) (ty := .int) (C := RX4) (T := TX4) (N := 8) hx hb hts hinX4 tyX4 tyX4_ok nmX4 hown hK hP hD hS 0 rfl rfl 0 (by decide) hf25 (fun _ h9 => h9)  rfl (by decide +kernel) rfl rfl (Nat.le_of_ble_eq_true rfl) dX4_redeem_2 (fun H locs hP hD hS => ?_)
  have hP : va_P D vwCl (zw_M cI μ 0 σ (κ)) H := hP
  have hD : va_D A (zw_M cI μ 0 σ (κ)) := hD
  refine lv_aload_n hx hb dX4_redeem_5 rfl (lv_at hl 0 rfl) ?_
  refine lv_iload_n hx hb dX4_redeem_6 rfl (lv_at hl 1 rfl) ?_
  refine zk_R (D := D) (va_runV (As := [.int (nI k)]) (rest := []) ⟨hx, hb, hml, hown, hts⟩ (c_X4_isSailor l D cI μ 0 σ (κ) (nI k) hC _) (cwV 1 hts gX4_redeem_X4_isSailor rfl rfl rfl zdX4_isSailor ⟨Nat.le_of_ble_eq_true rfl, Nat.le_of_ble_eq_true rfl⟩) ⟨zbl _, va_recv hK hP (ci := 4) (q0 := 0) rfl rfl, zpr hK hP hD⟩ rfl rfl hl.1 rfl (lv_room (Nat.le_of_ble_eq_true rfl)) dX4_redeem_7 ⟨Nat.zero_le _, Nat.zero_le _⟩) hS (fun r_1 H locs hw hkp hS => ?_)
  have hP := hkp _ hP
  have hw : zb (f_sail σ (nI k)) r_1 := hw
  rcases hw with ⟨c_2, rfl⟩ | ⟨c_2, rfl⟩
  · refine lv_if_ne (tgt := 19) hx hb dX4_redeem_10 (by decide) (fun _ => ?_) (fun c => absurd c (by decide))
    refine lv_aload_n hx hb dX4_redeem_19 rfl (lv_at hl 0 rfl) ?_
    refine lv_iload_n hx hb dX4_redeem_20 rfl (lv_at hl 1 rfl) ?_
    refine zk_R (D := D) (va_runV (As := [.int (nI k)]) (rest := []) ⟨hx, hb, hml, hown, hts⟩ (c_X4_canRedeem l D cI μ 0 σ (κ) (k := k) (by omega) hbo _) (cwV 1 hts gX4_redeem_X4_canRedeem rfl rfl rfl zdX4_canRedeem ⟨Nat.le_of_ble_eq_true rfl, Nat.le_of_ble_eq_true rfl⟩) ⟨zbl _, va_recv hK hP (ci := 4) (q0 := 0) rfl rfl, zpr hK hP hD⟩ rfl rfl hl.1 rfl (lv_room (Nat.le_of_ble_eq_true rfl)) dX4_redeem_21 ⟨Nat.zero_le _, Nat.zero_le _⟩) hS (fun r_4 H locs hw hkp hS => ?_)
    have hP := hkp _ hP
    have hw : zb (f_can σ k) r_4 := hw
    rcases hw with ⟨c_5, rfl⟩ | ⟨c_5, rfl⟩
    · refine lv_if_eq (tgt := 35) hx hb dX4_redeem_24 (by decide) (fun c => absurd c (by decide)) (fun _ => ?_)
      refine lv_aload_n hx hb dX4_redeem_27 rfl (lv_at hl 0 rfl) ?_
      refine lv_iload_n hx hb dX4_redeem_28 rfl (lv_at hl 1 rfl) ?_
      have hF := zfree hD hS hA
      refine zk_I (va_runV (As := [.int (nI k)]) (rest := []) ⟨hx, hb, hml, hown, hts⟩ (c_X4_redeems l D cI μ 0 σ (κ) (k := k) (by omega) _) (cwV 1 hts gX4_redeem_X4_redeems rfl rfl rfl zdX4_redeems ⟨Nat.le_of_ble_eq_true rfl, Nat.le_of_ble_eq_true rfl⟩) ⟨zbl _, va_recv hK hP (ci := 4) (q0 := 0) rfl rfl, zpr hK hP hD⟩ rfl rfl hl.1 rfl (lv_room (Nat.le_of_ble_eq_true rfl)) dX4_redeem_29 ⟨Nat.zero_le _, Nat.zero_le _⟩) hS hF (fun r_7 H locs hw hkp hP1 hD1 hS => ?_)
      have hP := hP1
      have hD := hD1.weaken (fun _ _ _ z => hF _ z)
      have hP : va_P D vwCl (zw_M cI μ 0 (f_red σ k) (κ)) H := hP
      have hD : va_D A (zw_M cI μ 0 (f_red σ k) (κ)) := hD
      have hw : r_7 = (f_red σ k) 9 k := hw
      subst hw
      refine lv_goto (tgt := 40) hx hb dX4_redeem_32 (by decide) ?_
      have hP9 := hP
      have hD9 := hD
      exact W.iret (v := (f_red σ k) 9 k) hx hb hr (fun t ht hW => ⟨⟨(f_red σ k) 9 k, (), rfl, rfl, by rw [ht]; exact hP9, va_K.moved hW.alike hK, hD9⟩, hS.F ht⟩) hS.2.2 dX4_redeem_40
    · exact absurd (hcan) c_5
  · exact absurd (zsail_k hC hk) c_2

set_option maxHeartbeats 4000000 in
set_option maxRecDepth 100000 in
theorem c_X4_call (l : Launch) (D : va_G) (cI : ClassId) (μ : Nat → Nat) (th : Int32) (σ : zS) (κ : Nat → Int32) {k : Nat} {nb ns h : Nat} (hI : zI σ nb ns h) (hk : k < ns) (hup : ¬ σ 12 k = 0) : zMI l yX4_call wsX4_call ({ frames := 2, cells := 0, slots := 0, locals := 44 }) [.ref (μ 0), .int (nI k)] D [(cI, .int)] (zw_M cI μ th σ (κ)) (zw_M cI μ 0 (f_getUp σ k) (κ)) (fun r => r = σ 13 k) := by
  intro sz
  refine Met.ofW (cc := cX4_call) (maxL := 3) (ret := (some .int)) (by decide) rfl ?_
  intro p e s m args below meth c s₁ B hml hv
  obtain ⟨rfl, hsz, hP, hK, hD⟩ := hv
  have hx := B.exec
  have hb := B.bytes
  have hr := B.returns
  have hts := atoms_spec (ws := wsX4_call) B.pre
  have hown : s.vm.findClass RX4 = some m.cls := findClass_of_methodNamed B.named
  have hlocks := B.notSynchronized
  subst hsz
  have hD := hD.self (sz := s.heap.size)
  generalize hAe : va_A (zw_M cI μ th σ (κ)) s.heap.size = A at hD ⊢
  have hA : ∀ q : Nat, s.heap.size ≤ q → A q := fun q h => by rw [← hAe]; exact Or.inr h
  have hS : va_S A s.heap s.heap [] := va_S.rf
  have hP : va_P D vwCl (zw_M cI μ th σ (κ)) s.heap := hP
  have hl := lv_entry ([.ref (μ 0), .int (nI k)]) (n := 3) (Nat.le_of_ble_eq_true rfl)
  rw [lg_entry_eq]
  generalize (lg_sl ([.ref (μ 0), .int (nI k)]) ++ List.replicate (3 - (lg_sl ([.ref (μ 0), .int (nI k)])).length) Slot.unset).toArray = ls at hl ⊢
  have hl : lv_has ls 3 [(0, .ref (μ 0)), (1, .int (nI k))] := hl
  have hf25 := hts (.fieldLink RX4 25 "HotBedsModel" "thrown" "I") (by decide +kernel)
  have hinX4 : ∀ w ∈ u_ws RX4 TX4 8, w ∈ wsX4_call := by decide +kernel
  have hC := hI.1
  have hs := hI.2 k hk
  have hbo := hs.2.1
  have hnb := hC.2.1
  have hns := hC.2.2.2.1
  have hh := hC.2.2.2.2.2.1
  refine lv_aload_n hx hb dX4_call_0 rfl (lv_at hl 0 rfl) ?_
  refine lv_iconst (v := 0) hx hb dX4_call_1 (by decide) ?_
  refine va_put (D := D) (ci := 4) (v := .int 0) (ty := .int) (C := RX4) (T := TX4) (N := 8) hx hb hts hinX4 tyX4 tyX4_ok nmX4 hown hK hP hD hS 0 rfl rfl 0 (by decide) hf25 (fun _ h9 => h9)  rfl (by decide +kernel) rfl rfl (Nat.le_of_ble_eq_true rfl) dX4_call_2 (fun H locs hP hD hS => ?_)
  have hP : va_P D vwCl (zw_M cI μ 0 σ (κ)) H := hP
  have hD : va_D A (zw_M cI μ 0 σ (κ)) := hD
  refine lv_aload_n hx hb dX4_call_5 rfl (lv_at hl 0 rfl) ?_
  refine lv_iload_n hx hb dX4_call_6 rfl (lv_at hl 1 rfl) ?_
  refine zk_R (D := D) (va_runV (As := [.int (nI k)]) (rest := []) ⟨hx, hb, hml, hown, hts⟩ (c_X4_isSailor l D cI μ 0 σ (κ) (nI k) hC _) (cwV 1 hts gX4_call_X4_isSailor rfl rfl rfl zdX4_isSailor ⟨Nat.le_of_ble_eq_true rfl, Nat.le_of_ble_eq_true rfl⟩) ⟨zbl _, va_recv hK hP (ci := 4) (q0 := 0) rfl rfl, zpr hK hP hD⟩ rfl rfl hl.1 rfl (lv_room (Nat.le_of_ble_eq_true rfl)) dX4_call_7 ⟨Nat.zero_le _, Nat.zero_le _⟩) hS (fun r_1 H locs hw hkp hS => ?_)
  have hP := hkp _ hP
  have hw : zb (f_sail σ (nI k)) r_1 := hw
  rcases hw with ⟨c_2, rfl⟩ | ⟨c_2, rfl⟩
  · refine lv_if_ne (tgt := 19) hx hb dX4_call_10 (by decide) (fun _ => ?_) (fun c => absurd c (by decide))
    refine lv_aload_n hx hb dX4_call_19 rfl (lv_at hl 0 rfl) ?_
    refine lv_iload_n hx hb dX4_call_20 rfl (lv_at hl 1 rfl) ?_
    refine lv_iconst (v := 4) hx hb dX4_call_21 (by decide) ?_
    refine zk_R (D := D) (va_runV (As := [.int (nI k), .int 4]) (rest := []) ⟨hx, hb, hml, hown, hts⟩ (c_X4_sa l D cI μ 0 σ (κ) (k := k) (w := 4) (by omega) (by decide) _) (cwV 2 hts gX4_call_X4_sa rfl rfl rfl zdX4_sa ⟨Nat.le_of_ble_eq_true rfl, Nat.le_of_ble_eq_true rfl⟩) ⟨zbl _, va_recv hK hP (ci := 4) (q0 := 0) rfl rfl, zpr hK hP hD⟩ rfl rfl hl.1 rfl (lv_room (Nat.le_of_ble_eq_true rfl)) dX4_call_22 ⟨Nat.zero_le _, Nat.zero_le _⟩) hS (fun r_4 H locs hw hkp hS => ?_)
    have hP := hkp _ hP
    have hw : r_4 = σ 12 k := hw
    subst hw
    refine lv_if_ne (tgt := 34) hx hb dX4_call_25 (by decide) (fun _ => ?_) (fun c => absurd c (hup))
    refine lv_aload_n hx hb dX4_call_34 rfl (lv_at hl 0 rfl) ?_
    refine lv_iload_n hx hb dX4_call_35 rfl (lv_at hl 1 rfl) ?_
    refine lv_iconst (v := 5) hx hb dX4_call_36 (by decide) ?_
    refine zk_R (D := D) (va_runV (As := [.int (nI k), .int 5]) (rest := []) ⟨hx, hb, hml, hown, hts⟩ (c_X4_sa l D cI μ 0 σ (κ) (k := k) (w := 5) (by omega) (by decide) _) (cwV 2 hts gX4_call_X4_sa rfl rfl rfl zdX4_sa ⟨Nat.le_of_ble_eq_true rfl, Nat.le_of_ble_eq_true rfl⟩) ⟨zbl _, va_recv hK hP (ci := 4) (q0 := 0) rfl rfl, zpr hK hP hD⟩ rfl rfl hl.1 rfl (lv_room (Nat.le_of_ble_eq_true rfl)) dX4_call_37 ⟨Nat.zero_le _, Nat.zero_le _⟩) hS (fun r_6 H locs hw hkp hS => ?_)
    have hP := hkp _ hP
    have hw : r_6 = σ 13 k := hw
    subst hw
    refine lv_istore_n (lv' := [(2, .int (σ 13 k)), (0, .ref (μ 0)), (1, .int (nI k))]) hx hb dX4_call_40 rfl hl (by decide) rfl (fun ls hl => ?_)
    refine lv_aload_n hx hb dX4_call_41 rfl (lv_at hl 1 rfl) ?_
    refine lv_iload_n hx hb dX4_call_42 rfl (lv_at hl 2 rfl) ?_
    have hF := zfree hD hS hA
    refine zk_V (va_runV (As := [.int (nI k)]) (rest := []) ⟨hx, hb, hml, hown, hts⟩ (c_X4_getsUp l D cI μ 0 σ (κ) (k := k) hC (by omega) hs _) (cwV 1 hts gX4_call_X4_getsUp rfl rfl rfl zdX4_getsUp ⟨Nat.le_of_ble_eq_true rfl, Nat.le_of_ble_eq_true rfl⟩) ⟨zbl _, va_recv hK hP (ci := 4) (q0 := 0) rfl rfl, zpr hK hP hD⟩ rfl rfl hl.1 rfl (lv_room (Nat.le_of_ble_eq_true rfl)) dX4_call_43 ⟨Nat.zero_le _, Nat.zero_le _⟩) hS hF (fun H locs hkp hP1 hD1 hS => ?_)
    have hP := hP1
    have hD := hD1.weaken (fun _ _ _ z => hF _ z)
    have hP : va_P D vwCl (zw_M cI μ 0 (f_getUp σ k) (κ)) H := hP
    have hD : va_D A (zw_M cI μ 0 (f_getUp σ k) (κ)) := hD
    refine lv_iload_n hx hb dX4_call_46 rfl (lv_at hl 0 rfl) ?_
    have hP9 := hP
    have hD9 := hD
    exact W.iret (v := σ 13 k) hx hb hr (fun t ht hW => ⟨⟨σ 13 k, (), rfl, rfl, by rw [ht]; exact hP9, va_K.moved hW.alike hK, hD9⟩, hS.F ht⟩) hS.2.2 dX4_call_47
  · exact absurd (zsail_k hC hk) c_2

set_option maxHeartbeats 4000000 in
set_option maxRecDepth 100000 in
theorem c_X4_shift (l : Launch) (D : va_G) (cI : ClassId) (μ : Nat → Nat) (th : Int32) (σ : zS) (κ : Nat → Int32) {k : Nat} {nb ns h : Nat} (hC : zC σ nb ns h) (hk : k < ns) (v : Int32) (hw1 : ¬ v < 0) (hw2 : v < 3) (hup : σ 12 k = 0) : zMI l yX4_shift wsX4_shift ({ frames := 2, cells := 0, slots := 0, locals := 43 }) [.ref (μ 0), .int (nI k), .int v] D [(cI, .int)] (zw_M cI μ th σ (κ)) (zw_M cI μ 0 (zs σ 6 k v) (κ)) (fun r => r = σ 6 k) := by
  intro sz
  refine Met.ofW (cc := cX4_shift) (maxL := 4) (ret := (some .int)) (by decide) rfl ?_
  intro p e s m args below meth c s₁ B hml hv
  obtain ⟨rfl, hsz, hP, hK, hD⟩ := hv
  have hx := B.exec
  have hb := B.bytes
  have hr := B.returns
  have hts := atoms_spec (ws := wsX4_shift) B.pre
  have hown : s.vm.findClass RX4 = some m.cls := findClass_of_methodNamed B.named
  have hlocks := B.notSynchronized
  subst hsz
  have hD := hD.self (sz := s.heap.size)
  generalize hAe : va_A (zw_M cI μ th σ (κ)) s.heap.size = A at hD ⊢
  have hA : ∀ q : Nat, s.heap.size ≤ q → A q := fun q h => by rw [← hAe]; exact Or.inr h
  have hS : va_S A s.heap s.heap [] := va_S.rf
  have hP : va_P D vwCl (zw_M cI μ th σ (κ)) s.heap := hP
  have hl := lv_entry ([.ref (μ 0), .int (nI k), .int v]) (n := 4) (Nat.le_of_ble_eq_true rfl)
  rw [lg_entry_eq]
  generalize (lg_sl ([.ref (μ 0), .int (nI k), .int v]) ++ List.replicate (4 - (lg_sl ([.ref (μ 0), .int (nI k), .int v])).length) Slot.unset).toArray = ls at hl ⊢
  have hl : lv_has ls 4 [(0, .ref (μ 0)), (1, .int (nI k)), (2, .int v)] := hl
  have hf25 := hts (.fieldLink RX4 25 "HotBedsModel" "thrown" "I") (by decide +kernel)
  have hinX4 : ∀ w ∈ u_ws RX4 TX4 8, w ∈ wsX4_shift := by decide +kernel
  have hnb := hC.2.1
  have hns := hC.2.2.2.1
  have hh := hC.2.2.2.2.2.1
  refine lv_aload_n hx hb dX4_shift_0 rfl (lv_at hl 0 rfl) ?_
  refine lv_iconst (v := 0) hx hb dX4_shift_1 (by decide) ?_
  refine va_put (D := D) (ci := 4) (v := .int 0) (ty := .int) (C := RX4) (T := TX4) (N := 8) hx hb hts hinX4 tyX4 tyX4_ok nmX4 hown hK hP hD hS 0 rfl rfl 0 (by decide) hf25 (fun _ h9 => h9)  rfl (by decide +kernel) rfl rfl (Nat.le_of_ble_eq_true rfl) dX4_shift_2 (fun H locs hP hD hS => ?_)
  have hP : va_P D vwCl (zw_M cI μ 0 σ (κ)) H := hP
  have hD : va_D A (zw_M cI μ 0 σ (κ)) := hD
  refine lv_aload_n hx hb dX4_shift_5 rfl (lv_at hl 0 rfl) ?_
  refine lv_iload_n hx hb dX4_shift_6 rfl (lv_at hl 1 rfl) ?_
  refine zk_R (D := D) (va_runV (As := [.int (nI k)]) (rest := []) ⟨hx, hb, hml, hown, hts⟩ (c_X4_isSailor l D cI μ 0 σ (κ) (nI k) hC _) (cwV 1 hts gX4_shift_X4_isSailor rfl rfl rfl zdX4_isSailor ⟨Nat.le_of_ble_eq_true rfl, Nat.le_of_ble_eq_true rfl⟩) ⟨zbl _, va_recv hK hP (ci := 4) (q0 := 0) rfl rfl, zpr hK hP hD⟩ rfl rfl hl.1 rfl (lv_room (Nat.le_of_ble_eq_true rfl)) dX4_shift_7 ⟨Nat.zero_le _, Nat.zero_le _⟩) hS (fun r_1 H locs hw hkp hS => ?_)
  have hP := hkp _ hP
  have hw : zb (f_sail σ (nI k)) r_1 := hw
  rcases hw with ⟨c_2, rfl⟩ | ⟨c_2, rfl⟩
  · refine lv_if_eq (tgt := 22) hx hb dX4_shift_10 (by decide) (fun c => absurd c (by decide)) (fun _ => ?_)
    refine lv_iload_n hx hb dX4_shift_13 rfl (lv_at hl 2 rfl) ?_
    refine lv_iconst (v := 0) hx hb dX4_shift_14 (by decide) ?_
    refine lv_iconst (v := 2) hx hb dX4_shift_15 (by decide) ?_
    refine zk_R (D := D) (va_runS (As := [.int v, .int 0, .int 2]) (rest := []) ⟨hx, hb, hml, hown, hts⟩ (c_X4_isIn l D cI v 0 2 _) (va_cwS 3 hts gX4_shift_X4_isIn rfl rfl rfl zdX4_isIn.2 ⟨Nat.le_of_ble_eq_true rfl, Nat.le_of_ble_eq_true rfl⟩) ⟨zbl _, zpr hK zP0 (zD0 (A := fun _ => True))⟩ rfl rfl hl.1 rfl (lv_room (Nat.le_of_ble_eq_true rfl)) dX4_shift_16 ⟨Nat.zero_le _, Nat.zero_le _⟩) hS (fun r_4 H locs hw hkp hS => ?_)
    have hP := hkp _ hP
    have hw : zb (¬ v < 0 ∧ ¬ 2 < v) r_4 := hw
    rcases hw with ⟨c_5, rfl⟩ | ⟨c_5, rfl⟩
    · refine lv_if_ne (tgt := 28) hx hb dX4_shift_19 (by decide) (fun _ => ?_) (fun c => absurd c (by decide))
      refine lv_aload_n hx hb dX4_shift_28 rfl (lv_at hl 0 rfl) ?_
      refine lv_iload_n hx hb dX4_shift_29 rfl (lv_at hl 1 rfl) ?_
      refine lv_iconst (v := 4) hx hb dX4_shift_30 (by decide) ?_
      refine zk_R (D := D) (va_runV (As := [.int (nI k), .int 4]) (rest := []) ⟨hx, hb, hml, hown, hts⟩ (c_X4_sa l D cI μ 0 σ (κ) (k := k) (w := 4) (by omega) (by decide) _) (cwV 2 hts gX4_shift_X4_sa rfl rfl rfl zdX4_sa ⟨Nat.le_of_ble_eq_true rfl, Nat.le_of_ble_eq_true rfl⟩) ⟨zbl _, va_recv hK hP (ci := 4) (q0 := 0) rfl rfl, zpr hK hP hD⟩ rfl rfl hl.1 rfl (lv_room (Nat.le_of_ble_eq_true rfl)) dX4_shift_31 ⟨Nat.zero_le _, Nat.zero_le _⟩) hS (fun r_7 H locs hw hkp hS => ?_)
      have hP := hkp _ hP
      have hw : r_7 = σ 12 k := hw
      subst hw
      refine lv_if_eq (tgt := 43) hx hb dX4_shift_34 (by decide) (fun _ => ?_) (fun c => absurd (hup) c)
      refine lv_aload_n hx hb dX4_shift_43 rfl (lv_at hl 0 rfl) ?_
      refine lv_iload_n hx hb dX4_shift_44 rfl (lv_at hl 1 rfl) ?_
      refine lv_iconst (v := 0) hx hb dX4_shift_45 (by decide) ?_
      refine zk_R (D := D) (va_runV (As := [.int (nI k), .int 0]) (rest := []) ⟨hx, hb, hml, hown, hts⟩ (c_X4_sa l D cI μ 0 σ (κ) (k := k) (w := 0) (by omega) (by decide) _) (cwV 2 hts gX4_shift_X4_sa rfl rfl rfl zdX4_sa ⟨Nat.le_of_ble_eq_true rfl, Nat.le_of_ble_eq_true rfl⟩) ⟨zbl _, va_recv hK hP (ci := 4) (q0 := 0) rfl rfl, zpr hK hP hD⟩ rfl rfl hl.1 rfl (lv_room (Nat.le_of_ble_eq_true rfl)) dX4_shift_46 ⟨Nat.zero_le _, Nat.zero_le _⟩) hS (fun r_9 H locs hw hkp hS => ?_)
      have hP := hkp _ hP
      have hw : r_9 = σ 6 k := hw
      subst hw
      refine lv_istore_n (lv' := [(3, .int (σ 6 k)), (0, .ref (μ 0)), (1, .int (nI k)), (2, .int v)]) hx hb dX4_shift_49 rfl hl (by decide) rfl (fun ls hl => ?_)
      refine lv_aload_n hx hb dX4_shift_50 rfl (lv_at hl 1 rfl) ?_
      refine lv_iload_n hx hb dX4_shift_51 rfl (lv_at hl 2 rfl) ?_
      refine lv_iconst (v := 0) hx hb dX4_shift_52 (by decide) ?_
      refine lv_iload_n hx hb dX4_shift_53 rfl (lv_at hl 3 rfl) ?_
      have hF := zfree hD hS hA
      refine zk_V (va_runV (As := [.int (nI k), .int 0, .int v]) (rest := []) ⟨hx, hb, hml, hown, hts⟩ (c_X4_let l D cI μ 0 σ (κ) (k := k) (w := 0) (by omega) (by decide) v _) (cwV 3 hts gX4_shift_X4_let rfl rfl rfl zdX4_let ⟨Nat.le_of_ble_eq_true rfl, Nat.le_of_ble_eq_true rfl⟩) ⟨zbl _, va_recv hK hP (ci := 4) (q0 := 0) rfl rfl, zpr hK hP hD⟩ rfl rfl hl.1 rfl (lv_room (Nat.le_of_ble_eq_true rfl)) dX4_shift_54 ⟨Nat.zero_le _, Nat.zero_le _⟩) hS hF (fun H locs hkp hP1 hD1 hS => ?_)
      have hP := hP1
      have hD := hD1.weaken (fun _ _ _ z => hF _ z)
      have hP : va_P D vwCl (zw_M cI μ 0 (zs σ 6 k v) (κ)) H := hP
      have hD : va_D A (zw_M cI μ 0 (zs σ 6 k v) (κ)) := hD
      refine lv_iload_n hx hb dX4_shift_57 rfl (lv_at hl 0 rfl) ?_
      have hP9 := hP
      have hD9 := hD
      exact W.iret (v := σ 6 k) hx hb hr (fun t ht hW => ⟨⟨σ 6 k, (), rfl, rfl, by rw [ht]; exact hP9, va_K.moved hW.alike hK, hD9⟩, hS.F ht⟩) hS.2.2 dX4_shift_58
    · exact absurd (⟨hw1, zn_w3.mp hw2⟩) c_5
  · exact absurd (zsail_k hC hk) c_2

set_option maxHeartbeats 4000000 in
set_option maxRecDepth 100000 in
theorem c_X4_pass (l : Launch) (D : va_G) (cI : ClassId) (μ : Nat → Nat) (th : Int32) (σ : zS) (κ : Nat → Int32) {n : Nat} {nb ns h : Nat} (hI : zI σ nb ns h) (hw1 : ¬ nI n < 1) (hw2 : nI n ≤ 72) (hn : h + n < 2 ^ 30) : zMI l yX4_pass wsX4_pass ({ frames := 6, cells := 0, slots := 0, locals := 132 }) [.ref (μ 0), .int (nI n)] D [(cI, .int)] (zw_M cI μ th σ (κ)) (zw_M cI μ 0 (f_hours σ nb ns h n) (κ)) (fun r => r = f_sum ((f_hours σ nb ns h n) 17) ns - f_sum (σ 17) ns) := by
  intro sz
  refine Met.ofW (cc := cX4_pass) (maxL := 3) (ret := (some .int)) (by decide) rfl ?_
  intro p e s m args below meth c s₁ B hml hv
  obtain ⟨rfl, hsz, hP, hK, hD⟩ := hv
  have hx := B.exec
  have hb := B.bytes
  have hr := B.returns
  have hts := atoms_spec (ws := wsX4_pass) B.pre
  have hown : s.vm.findClass RX4 = some m.cls := findClass_of_methodNamed B.named
  have hlocks := B.notSynchronized
  subst hsz
  have hD := hD.self (sz := s.heap.size)
  generalize hAe : va_A (zw_M cI μ th σ (κ)) s.heap.size = A at hD ⊢
  have hA : ∀ q : Nat, s.heap.size ≤ q → A q := fun q h => by rw [← hAe]; exact Or.inr h
  have hS : va_S A s.heap s.heap [] := va_S.rf
  have hP : va_P D vwCl (zw_M cI μ th σ (κ)) s.heap := hP
  have hl := lv_entry ([.ref (μ 0), .int (nI n)]) (n := 3) (Nat.le_of_ble_eq_true rfl)
  rw [lg_entry_eq]
  generalize (lg_sl ([.ref (μ 0), .int (nI n)]) ++ List.replicate (3 - (lg_sl ([.ref (μ 0), .int (nI n)])).length) Slot.unset).toArray = ls at hl ⊢
  have hl : lv_has ls 3 [(0, .ref (μ 0)), (1, .int (nI n))] := hl
  have hf25 := hts (.fieldLink RX4 25 "HotBedsModel" "thrown" "I") (by decide +kernel)
  have hinX4 : ∀ w ∈ u_ws RX4 TX4 8, w ∈ wsX4_pass := by decide +kernel
  have hC := hI.1
  have hnb := hC.2.1
  have hns := hC.2.2.2.1
  have hh := hC.2.2.2.2.2.1
  refine lv_aload_n hx hb dX4_pass_0 rfl (lv_at hl 0 rfl) ?_
  refine lv_iconst (v := 0) hx hb dX4_pass_1 (by decide) ?_
  refine va_put (D := D) (ci := 4) (v := .int 0) (ty := .int) (C := RX4) (T := TX4) (N := 8) hx hb hts hinX4 tyX4 tyX4_ok nmX4 hown hK hP hD hS 0 rfl rfl 0 (by decide) hf25 (fun _ h9 => h9)  rfl (by decide +kernel) rfl rfl (Nat.le_of_ble_eq_true rfl) dX4_pass_2 (fun H locs hP hD hS => ?_)
  have hP : va_P D vwCl (zw_M cI μ 0 σ (κ)) H := hP
  have hD : va_D A (zw_M cI μ 0 σ (κ)) := hD
  refine lv_iload_n hx hb dX4_pass_5 rfl (lv_at hl 1 rfl) ?_
  refine lv_iconst (v := 1) hx hb dX4_pass_6 (by decide) ?_
  refine lv_bipush (v := 72) hx hb dX4_pass_7 (by decide) ?_
  refine zk_R (D := D) (va_runS (As := [.int (nI n), .int 1, .int 72]) (rest := []) ⟨hx, hb, hml, hown, hts⟩ (c_X4_isIn l D cI (nI n) 1 72 _) (va_cwS 3 hts gX4_pass_X4_isIn rfl rfl rfl zdX4_isIn.2 ⟨Nat.le_of_ble_eq_true rfl, Nat.le_of_ble_eq_true rfl⟩) ⟨zbl _, zpr hK zP0 (zD0 (A := fun _ => True))⟩ rfl rfl hl.1 rfl (lv_room (Nat.le_of_ble_eq_true rfl)) dX4_pass_9 ⟨Nat.zero_le _, Nat.zero_le _⟩) hS (fun r_1 H locs hw hkp hS => ?_)
  have hP := hkp _ hP
  have hw : zb (¬ (nI n) < 1 ∧ ¬ 72 < (nI n)) r_1 := hw
  rcases hw with ⟨c_2, rfl⟩ | ⟨c_2, rfl⟩
  · refine lv_if_ne (tgt := 21) hx hb dX4_pass_12 (by decide) (fun _ => ?_) (fun c => absurd c (by decide))
    refine lv_aload_n hx hb dX4_pass_21 rfl (lv_at hl 0 rfl) ?_
    refine lv_bipush (v := 8) hx hb dX4_pass_22 (by decide) ?_
    refine zk_R (D := D) (va_runV (As := [.int 8]) (rest := []) ⟨hx, hb, hml, hown, hts⟩ (c_X4_sum l D cI μ 0 σ (κ) (w := 8) hC (by decide) _) (cwV 1 hts gX4_pass_X4_sum rfl rfl rfl zdX4_sum ⟨Nat.le_of_ble_eq_true rfl, Nat.le_of_ble_eq_true rfl⟩) ⟨zbl _, va_recv hK hP (ci := 4) (q0 := 0) rfl rfl, zpr hK hP hD⟩ rfl rfl hl.1 rfl (lv_room (Nat.le_of_ble_eq_true rfl)) dX4_pass_24 ⟨Nat.zero_le _, Nat.zero_le _⟩) hS (fun r_4 H locs hw hkp hS => ?_)
    have hP := hkp _ hP
    have hw : r_4 = f_sum (σ 17) ns := hw
    subst hw
    refine lv_istore_n (lv' := [(2, .int (f_sum (σ 17) ns)), (0, .ref (μ 0)), (1, .int (nI n))]) hx hb dX4_pass_27 rfl hl (by decide) rfl (fun ls hl => ?_)
    refine lv_aload_n hx hb dX4_pass_28 rfl (lv_at hl 1 rfl) ?_
    refine lv_iload_n hx hb dX4_pass_29 rfl (lv_at hl 2 rfl) ?_
    have hF := zfree hD hS hA
    refine zk_V (va_runV (As := [.int (nI n)]) (rest := []) ⟨hx, hb, hml, hown, hts⟩ (c_X4_hoursOn l D cI μ 0 σ (κ) (n := n) hI hn _) (cwV 1 hts gX4_pass_X4_hoursOn rfl rfl rfl zdX4_hoursOn ⟨Nat.le_of_ble_eq_true rfl, Nat.le_of_ble_eq_true rfl⟩) ⟨zbl _, va_recv hK hP (ci := 4) (q0 := 0) rfl rfl, zpr hK hP hD⟩ rfl rfl hl.1 rfl (lv_room (Nat.le_of_ble_eq_true rfl)) dX4_pass_30 ⟨Nat.zero_le _, Nat.zero_le _⟩) hS hF (fun H locs hkp hP1 hD1 hS => ?_)
    have hP := hP1
    have hD := hD1.weaken (fun _ _ _ z => hF _ z)
    have hP : va_P D vwCl (zw_M cI μ 0 (f_hours σ nb ns h n) (κ)) H := hP
    have hD : va_D A (zw_M cI μ 0 (f_hours σ nb ns h n) (κ)) := hD
    have hC := hC.hours n hn
    refine lv_aload_n hx hb dX4_pass_33 rfl (lv_at hl 1 rfl) ?_
    refine lv_bipush (v := 8) hx hb dX4_pass_34 (by decide) ?_
    refine zk_R (D := D) (va_runV (As := [.int 8]) (rest := []) ⟨hx, hb, hml, hown, hts⟩ (c_X4_sum l D cI μ 0 (f_hours σ nb ns h n) (κ) (w := 8) hC (by decide) _) (cwV 1 hts gX4_pass_X4_sum rfl rfl rfl zdX4_sum ⟨Nat.le_of_ble_eq_true rfl, Nat.le_of_ble_eq_true rfl⟩) ⟨zbl _, va_recv hK hP (ci := 4) (q0 := 0) rfl rfl, zpr hK hP hD⟩ rfl rfl hl.1 rfl (lv_room (Nat.le_of_ble_eq_true rfl)) dX4_pass_36 ⟨Nat.zero_le _, Nat.zero_le _⟩) hS (fun r_5 H locs hw hkp hS => ?_)
    have hP := hkp _ hP
    have hw : r_5 = f_sum ((f_hours σ nb ns h n) 17) ns := hw
    subst hw
    refine lv_iload_n hx hb dX4_pass_39 rfl (lv_at hl 0 rfl) ?_
    refine lv_isub hx hb dX4_pass_40 ?_
    have hP9 := hP
    have hD9 := hD
    exact W.iret (v := (f_sum ((f_hours σ nb ns h n) 17) ns) - (f_sum (σ 17) ns)) hx hb hr (fun t ht hW => ⟨⟨(f_sum ((f_hours σ nb ns h n) 17) ns) - (f_sum (σ 17) ns), (), rfl, rfl, by rw [ht]; exact hP9, va_K.moved hW.alike hK, hD9⟩, hS.F ht⟩) hS.2.2 dX4_pass_41
  · exact absurd (⟨hw1, Int32.not_lt.mpr hw2⟩) c_2

set_option maxHeartbeats 4000000 in
set_option maxRecDepth 100000 in
theorem c_X4_told (l : Launch) (D : va_G) (cI : ClassId) (μ : Nat → Nat) (th : Int32) (σ : zS) (κ : Nat → Int32) {k w : Nat} {nb ns h : Nat} (hC : zC σ nb ns h) (hk : k < ns) (hw10 : w ≤ 10) : zMI l yX4_told wsX4_told ({ frames := 2, cells := 0, slots := 0, locals := 44 }) [.ref (μ 0), .int (nI k), .int (nI w)] D [(cI, .int)] (zw_M cI μ th σ (κ)) (zw_M cI μ 0 σ (κ)) (fun r => r = σ (q_row w) k) := by
  intro sz
  refine Met.ofW (cc := cX4_told) (maxL := 3) (ret := (some .int)) (by decide) rfl ?_
  intro p e s m args below meth c s₁ B hml hv
  obtain ⟨rfl, hsz, hP, hK, hD⟩ := hv
  have hx := B.exec
  have hb := B.bytes
  have hr := B.returns
  have hts := atoms_spec (ws := wsX4_told) B.pre
  have hown : s.vm.findClass RX4 = some m.cls := findClass_of_methodNamed B.named
  have hlocks := B.notSynchronized
  subst hsz
  have hD := hD.self (sz := s.heap.size)
  generalize hAe : va_A (zw_M cI μ th σ (κ)) s.heap.size = A at hD ⊢
  have hA : ∀ q : Nat, s.heap.size ≤ q → A q := fun q h => by rw [← hAe]; exact Or.inr h
  have hS : va_S A s.heap s.heap [] := va_S.rf
  have hP : va_P D vwCl (zw_M cI μ th σ (κ)) s.heap := hP
  have hl := lv_entry ([.ref (μ 0), .int (nI k), .int (nI w)]) (n := 3) (Nat.le_of_ble_eq_true rfl)
  rw [lg_entry_eq]
  generalize (lg_sl ([.ref (μ 0), .int (nI k), .int (nI w)]) ++ List.replicate (3 - (lg_sl ([.ref (μ 0), .int (nI k), .int (nI w)])).length) Slot.unset).toArray = ls at hl ⊢
  have hl : lv_has ls 3 [(0, .ref (μ 0)), (1, .int (nI k)), (2, .int (nI w))] := hl
  have hf25 := hts (.fieldLink RX4 25 "HotBedsModel" "thrown" "I") (by decide +kernel)
  have hinX4 : ∀ w ∈ u_ws RX4 TX4 8, w ∈ wsX4_told := by decide +kernel
  have hnb := hC.2.1
  have hns := hC.2.2.2.1
  have hh := hC.2.2.2.2.2.1
  refine lv_aload_n hx hb dX4_told_0 rfl (lv_at hl 0 rfl) ?_
  refine lv_iconst (v := 0) hx hb dX4_told_1 (by decide) ?_
  refine va_put (D := D) (ci := 4) (v := .int 0) (ty := .int) (C := RX4) (T := TX4) (N := 8) hx hb hts hinX4 tyX4 tyX4_ok nmX4 hown hK hP hD hS 0 rfl rfl 0 (by decide) hf25 (fun _ h9 => h9)  rfl (by decide +kernel) rfl rfl (Nat.le_of_ble_eq_true rfl) dX4_told_2 (fun H locs hP hD hS => ?_)
  have hP : va_P D vwCl (zw_M cI μ 0 σ (κ)) H := hP
  have hD : va_D A (zw_M cI μ 0 σ (κ)) := hD
  refine lv_aload_n hx hb dX4_told_5 rfl (lv_at hl 0 rfl) ?_
  refine lv_iload_n hx hb dX4_told_6 rfl (lv_at hl 1 rfl) ?_
  refine zk_R (D := D) (va_runV (As := [.int (nI k)]) (rest := []) ⟨hx, hb, hml, hown, hts⟩ (c_X4_isSailor l D cI μ 0 σ (κ) (nI k) hC _) (cwV 1 hts gX4_told_X4_isSailor rfl rfl rfl zdX4_isSailor ⟨Nat.le_of_ble_eq_true rfl, Nat.le_of_ble_eq_true rfl⟩) ⟨zbl _, va_recv hK hP (ci := 4) (q0 := 0) rfl rfl, zpr hK hP hD⟩ rfl rfl hl.1 rfl (lv_room (Nat.le_of_ble_eq_true rfl)) dX4_told_7 ⟨Nat.zero_le _, Nat.zero_le _⟩) hS (fun r_1 H locs hw hkp hS => ?_)
  have hP := hkp _ hP
  have hw : zb (f_sail σ (nI k)) r_1 := hw
  rcases hw with ⟨c_2, rfl⟩ | ⟨c_2, rfl⟩
  · refine lv_if_eq (tgt := 32) hx hb dX4_told_10 (by decide) (fun c => absurd c (by decide)) (fun _ => ?_)
    refine lv_iload_n hx hb dX4_told_13 rfl (lv_at hl 2 rfl) ?_
    refine lv_iconst (v := 0) hx hb dX4_told_14 (by decide) ?_
    refine lv_bipush (v := 10) hx hb dX4_told_15 (by decide) ?_
    refine zk_R (D := D) (va_runS (As := [.int (nI w), .int 0, .int 10]) (rest := []) ⟨hx, hb, hml, hown, hts⟩ (c_X4_isIn l D cI (nI w) 0 10 _) (va_cwS 3 hts gX4_told_X4_isIn rfl rfl rfl zdX4_isIn.2 ⟨Nat.le_of_ble_eq_true rfl, Nat.le_of_ble_eq_true rfl⟩) ⟨zbl _, zpr hK zP0 (zD0 (A := fun _ => True))⟩ rfl rfl hl.1 rfl (lv_room (Nat.le_of_ble_eq_true rfl)) dX4_told_17 ⟨Nat.zero_le _, Nat.zero_le _⟩) hS (fun r_4 H locs hw hkp hS => ?_)
    have hP := hkp _ hP
    have hw : zb (¬ (nI w) < 0 ∧ ¬ 10 < (nI w)) r_4 := hw
    rcases hw with ⟨c_5, rfl⟩ | ⟨c_5, rfl⟩
    · refine lv_if_eq (tgt := 32) hx hb dX4_told_20 (by decide) (fun c => absurd c (by decide)) (fun _ => ?_)
      refine lv_aload_n hx hb dX4_told_23 rfl (lv_at hl 0 rfl) ?_
      refine lv_iload_n hx hb dX4_told_24 rfl (lv_at hl 1 rfl) ?_
      refine lv_iload_n hx hb dX4_told_25 rfl (lv_at hl 2 rfl) ?_
      refine zk_R (D := D) (va_runV (As := [.int (nI k), .int (nI w)]) (rest := []) ⟨hx, hb, hml, hown, hts⟩ (c_X4_sailorTold l D cI μ 0 σ (κ) (k := k) (w := w) (by omega) (by omega) _) (cwV 2 hts gX4_told_X4_sailorTold rfl rfl rfl zdX4_sailorTold ⟨Nat.le_of_ble_eq_true rfl, Nat.le_of_ble_eq_true rfl⟩) ⟨zbl _, va_recv hK hP (ci := 4) (q0 := 0) rfl rfl, zpr hK hP hD⟩ rfl rfl hl.1 rfl (lv_room (Nat.le_of_ble_eq_true rfl)) dX4_told_26 ⟨Nat.zero_le _, Nat.zero_le _⟩) hS (fun r_7 H locs hw hkp hS => ?_)
      have hP := hkp _ hP
      have hw : r_7 = σ (q_row w) k := hw
      subst hw
      refine lv_goto (tgt := 37) hx hb dX4_told_29 (by decide) ?_
      have hP9 := hP
      have hD9 := hD
      exact W.iret (v := σ (q_row w) k) hx hb hr (fun t ht hW => ⟨⟨σ (q_row w) k, (), rfl, rfl, by rw [ht]; exact hP9, va_K.moved hW.alike hK, hD9⟩, hS.F ht⟩) hS.2.2 dX4_told_37
    · exact absurd (⟨nI_pos (by omega), nI_nlt (a := 10) (b := w) (by omega) (by decide)⟩) c_5
  · exact absurd (zsail_k hC hk) c_2

set_option maxHeartbeats 4000000 in
set_option maxRecDepth 100000 in
theorem c_X4_about (l : Launch) (D : va_G) (cI : ClassId) (μ : Nat → Nat) (th : Int32) (σ : zS) (κ : Nat → Int32) {k w : Nat} {nb ns h : Nat} (hC : zC σ nb ns h) (hkb : k < nb) (hw4 : w ≤ 4) : zMI l yX4_about wsX4_about ({ frames := 2, cells := 0, slots := 0, locals := 44 }) [.ref (μ 0), .int (nI k), .int (nI w)] D [(cI, .int)] (zw_M cI μ th σ (κ)) (zw_M cI μ 0 σ (κ)) (fun r => r = σ (w + 1) k) := by
  intro sz
  refine Met.ofW (cc := cX4_about) (maxL := 3) (ret := (some .int)) (by decide) rfl ?_
  intro p e s m args below meth c s₁ B hml hv
  obtain ⟨rfl, hsz, hP, hK, hD⟩ := hv
  have hx := B.exec
  have hb := B.bytes
  have hr := B.returns
  have hts := atoms_spec (ws := wsX4_about) B.pre
  have hown : s.vm.findClass RX4 = some m.cls := findClass_of_methodNamed B.named
  have hlocks := B.notSynchronized
  subst hsz
  have hD := hD.self (sz := s.heap.size)
  generalize hAe : va_A (zw_M cI μ th σ (κ)) s.heap.size = A at hD ⊢
  have hA : ∀ q : Nat, s.heap.size ≤ q → A q := fun q h => by rw [← hAe]; exact Or.inr h
  have hS : va_S A s.heap s.heap [] := va_S.rf
  have hP : va_P D vwCl (zw_M cI μ th σ (κ)) s.heap := hP
  have hl := lv_entry ([.ref (μ 0), .int (nI k), .int (nI w)]) (n := 3) (Nat.le_of_ble_eq_true rfl)
  rw [lg_entry_eq]
  generalize (lg_sl ([.ref (μ 0), .int (nI k), .int (nI w)]) ++ List.replicate (3 - (lg_sl ([.ref (μ 0), .int (nI k), .int (nI w)])).length) Slot.unset).toArray = ls at hl ⊢
  have hl : lv_has ls 3 [(0, .ref (μ 0)), (1, .int (nI k)), (2, .int (nI w))] := hl
  have hf25 := hts (.fieldLink RX4 25 "HotBedsModel" "thrown" "I") (by decide +kernel)
  have hinX4 : ∀ w ∈ u_ws RX4 TX4 8, w ∈ wsX4_about := by decide +kernel
  have hnb := hC.2.1
  have hns := hC.2.2.2.1
  have hh := hC.2.2.2.2.2.1
  refine lv_aload_n hx hb dX4_about_0 rfl (lv_at hl 0 rfl) ?_
  refine lv_iconst (v := 0) hx hb dX4_about_1 (by decide) ?_
  refine va_put (D := D) (ci := 4) (v := .int 0) (ty := .int) (C := RX4) (T := TX4) (N := 8) hx hb hts hinX4 tyX4 tyX4_ok nmX4 hown hK hP hD hS 0 rfl rfl 0 (by decide) hf25 (fun _ h9 => h9)  rfl (by decide +kernel) rfl rfl (Nat.le_of_ble_eq_true rfl) dX4_about_2 (fun H locs hP hD hS => ?_)
  have hP : va_P D vwCl (zw_M cI μ 0 σ (κ)) H := hP
  have hD : va_D A (zw_M cI μ 0 σ (κ)) := hD
  refine lv_aload_n hx hb dX4_about_5 rfl (lv_at hl 0 rfl) ?_
  refine lv_iload_n hx hb dX4_about_6 rfl (lv_at hl 1 rfl) ?_
  refine zk_R (D := D) (va_runV (As := [.int (nI k)]) (rest := []) ⟨hx, hb, hml, hown, hts⟩ (c_X4_isBed l D cI μ 0 σ (κ) (nI k) hC _) (cwV 1 hts gX4_about_X4_isBed rfl rfl rfl zdX4_isBed ⟨Nat.le_of_ble_eq_true rfl, Nat.le_of_ble_eq_true rfl⟩) ⟨zbl _, va_recv hK hP (ci := 4) (q0 := 0) rfl rfl, zpr hK hP hD⟩ rfl rfl hl.1 rfl (lv_room (Nat.le_of_ble_eq_true rfl)) dX4_about_7 ⟨Nat.zero_le _, Nat.zero_le _⟩) hS (fun r_1 H locs hw hkp hS => ?_)
  have hP := hkp _ hP
  have hw : zb (f_has σ (nI k)) r_1 := hw
  rcases hw with ⟨c_2, rfl⟩ | ⟨c_2, rfl⟩
  · refine lv_if_eq (tgt := 31) hx hb dX4_about_10 (by decide) (fun c => absurd c (by decide)) (fun _ => ?_)
    refine lv_iload_n hx hb dX4_about_13 rfl (lv_at hl 2 rfl) ?_
    refine lv_iconst (v := 0) hx hb dX4_about_14 (by decide) ?_
    refine lv_iconst (v := 4) hx hb dX4_about_15 (by decide) ?_
    refine zk_R (D := D) (va_runS (As := [.int (nI w), .int 0, .int 4]) (rest := []) ⟨hx, hb, hml, hown, hts⟩ (c_X4_isIn l D cI (nI w) 0 4 _) (va_cwS 3 hts gX4_about_X4_isIn rfl rfl rfl zdX4_isIn.2 ⟨Nat.le_of_ble_eq_true rfl, Nat.le_of_ble_eq_true rfl⟩) ⟨zbl _, zpr hK zP0 (zD0 (A := fun _ => True))⟩ rfl rfl hl.1 rfl (lv_room (Nat.le_of_ble_eq_true rfl)) dX4_about_16 ⟨Nat.zero_le _, Nat.zero_le _⟩) hS (fun r_4 H locs hw hkp hS => ?_)
    have hP := hkp _ hP
    have hw : zb (¬ (nI w) < 0 ∧ ¬ 4 < (nI w)) r_4 := hw
    rcases hw with ⟨c_5, rfl⟩ | ⟨c_5, rfl⟩
    · refine lv_if_eq (tgt := 31) hx hb dX4_about_19 (by decide) (fun c => absurd c (by decide)) (fun _ => ?_)
      refine lv_aload_n hx hb dX4_about_22 rfl (lv_at hl 0 rfl) ?_
      refine lv_iload_n hx hb dX4_about_23 rfl (lv_at hl 1 rfl) ?_
      refine lv_iload_n hx hb dX4_about_24 rfl (lv_at hl 2 rfl) ?_
      refine zk_R (D := D) (va_runV (As := [.int (nI k), .int (nI w)]) (rest := []) ⟨hx, hb, hml, hown, hts⟩ (c_X4_bedTold l D cI μ 0 σ (κ) (b := k) (w := w) (by omega) (by omega) _) (cwV 2 hts gX4_about_X4_bedTold rfl rfl rfl zdX4_bedTold ⟨Nat.le_of_ble_eq_true rfl, Nat.le_of_ble_eq_true rfl⟩) ⟨zbl _, va_recv hK hP (ci := 4) (q0 := 0) rfl rfl, zpr hK hP hD⟩ rfl rfl hl.1 rfl (lv_room (Nat.le_of_ble_eq_true rfl)) dX4_about_25 ⟨Nat.zero_le _, Nat.zero_le _⟩) hS (fun r_7 H locs hw hkp hS => ?_)
      have hP := hkp _ hP
      have hw : r_7 = σ (w + 1) k := hw
      subst hw
      refine lv_goto (tgt := 36) hx hb dX4_about_28 (by decide) ?_
      have hP9 := hP
      have hD9 := hD
      exact W.iret (v := σ (w + 1) k) hx hb hr (fun t ht hW => ⟨⟨σ (w + 1) k, (), rfl, rfl, by rw [ht]; exact hP9, va_K.moved hW.alike hK, hD9⟩, hS.F ht⟩) hS.2.2 dX4_about_36
    · exact absurd (⟨nI_pos (by omega), nI_nlt (a := 4) (b := w) (by omega) (by decide)⟩) c_5
  · exact absurd (zhas_k hC hkb) c_2

set_option maxHeartbeats 4000000 in
set_option maxRecDepth 100000 in
theorem c_X4_count (l : Launch) (D : va_G) (cI : ClassId) (μ : Nat → Nat) (th : Int32) (σ : zS) (κ : Nat → Int32) {w : Nat} {nb ns h : Nat} (hC : zC σ nb ns h) (hw9 : w ≤ 9) : zMI l yX4_count wsX4_count ({ frames := 3, cells := 0, slots := 0, locals := 66 }) [.ref (μ 0), .int (nI w)] D [(cI, .int)] (zw_M cI μ th σ (κ)) (zw_M cI μ 0 σ (κ)) (fun r => r = q_cnt σ nb ns h w) := by
  intro sz
  refine Met.ofW (cc := cX4_count) (maxL := 2) (ret := (some .int)) (by decide) rfl ?_
  intro p e s m args below meth c s₁ B hml hv
  obtain ⟨rfl, hsz, hP, hK, hD⟩ := hv
  have hx := B.exec
  have hb := B.bytes
  have hr := B.returns
  have hts := atoms_spec (ws := wsX4_count) B.pre
  have hown : s.vm.findClass RX4 = some m.cls := findClass_of_methodNamed B.named
  have hlocks := B.notSynchronized
  subst hsz
  have hD := hD.self (sz := s.heap.size)
  generalize hAe : va_A (zw_M cI μ th σ (κ)) s.heap.size = A at hD ⊢
  have hA : ∀ q : Nat, s.heap.size ≤ q → A q := fun q h => by rw [← hAe]; exact Or.inr h
  have hS : va_S A s.heap s.heap [] := va_S.rf
  have hP : va_P D vwCl (zw_M cI μ th σ (κ)) s.heap := hP
  have hl := lv_entry ([.ref (μ 0), .int (nI w)]) (n := 2) (Nat.le_of_ble_eq_true rfl)
  rw [lg_entry_eq]
  generalize (lg_sl ([.ref (μ 0), .int (nI w)]) ++ List.replicate (2 - (lg_sl ([.ref (μ 0), .int (nI w)])).length) Slot.unset).toArray = ls at hl ⊢
  have hl : lv_has ls 2 [(0, .ref (μ 0)), (1, .int (nI w))] := hl
  have hf25 := hts (.fieldLink RX4 25 "HotBedsModel" "thrown" "I") (by decide +kernel)
  have hinX4 : ∀ w ∈ u_ws RX4 TX4 8, w ∈ wsX4_count := by decide +kernel
  have hnb := hC.2.1
  have hns := hC.2.2.2.1
  have hh := hC.2.2.2.2.2.1
  refine lv_aload_n hx hb dX4_count_0 rfl (lv_at hl 0 rfl) ?_
  refine lv_iconst (v := 0) hx hb dX4_count_1 (by decide) ?_
  refine va_put (D := D) (ci := 4) (v := .int 0) (ty := .int) (C := RX4) (T := TX4) (N := 8) hx hb hts hinX4 tyX4 tyX4_ok nmX4 hown hK hP hD hS 0 rfl rfl 0 (by decide) hf25 (fun _ h9 => h9)  rfl (by decide +kernel) rfl rfl (Nat.le_of_ble_eq_true rfl) dX4_count_2 (fun H locs hP hD hS => ?_)
  have hP : va_P D vwCl (zw_M cI μ 0 σ (κ)) H := hP
  have hD : va_D A (zw_M cI μ 0 σ (κ)) := hD
  refine lv_iload_n hx hb dX4_count_5 rfl (lv_at hl 1 rfl) ?_
  refine lv_iconst (v := 0) hx hb dX4_count_6 (by decide) ?_
  refine lv_bipush (v := 9) hx hb dX4_count_7 (by decide) ?_
  refine zk_R (D := D) (va_runS (As := [.int (nI w), .int 0, .int 9]) (rest := []) ⟨hx, hb, hml, hown, hts⟩ (c_X4_isIn l D cI (nI w) 0 9 _) (va_cwS 3 hts gX4_count_X4_isIn rfl rfl rfl zdX4_isIn.2 ⟨Nat.le_of_ble_eq_true rfl, Nat.le_of_ble_eq_true rfl⟩) ⟨zbl _, zpr hK zP0 (zD0 (A := fun _ => True))⟩ rfl rfl hl.1 rfl (lv_room (Nat.le_of_ble_eq_true rfl)) dX4_count_9 ⟨Nat.zero_le _, Nat.zero_le _⟩) hS (fun r_1 H locs hw hkp hS => ?_)
  have hP := hkp _ hP
  have hw : zb (¬ (nI w) < 0 ∧ ¬ 9 < (nI w)) r_1 := hw
  rcases hw with ⟨c_2, rfl⟩ | ⟨c_2, rfl⟩
  · refine lv_if_eq (tgt := 23) hx hb dX4_count_12 (by decide) (fun c => absurd c (by decide)) (fun _ => ?_)
    refine lv_aload_n hx hb dX4_count_15 rfl (lv_at hl 0 rfl) ?_
    refine lv_iload_n hx hb dX4_count_16 rfl (lv_at hl 1 rfl) ?_
    refine zk_R (D := D) (va_runV (As := [.int (nI w)]) (rest := []) ⟨hx, hb, hml, hown, hts⟩ (c_X4_counted l D cI μ 0 σ (κ) (w := w) hC (by omega) _) (cwV 1 hts gX4_count_X4_counted rfl rfl rfl zdX4_counted ⟨Nat.le_of_ble_eq_true rfl, Nat.le_of_ble_eq_true rfl⟩) ⟨zbl _, va_recv hK hP (ci := 4) (q0 := 0) rfl rfl, zpr hK hP hD⟩ rfl rfl hl.1 rfl (lv_room (Nat.le_of_ble_eq_true rfl)) dX4_count_17 ⟨Nat.zero_le _, Nat.zero_le _⟩) hS (fun r_4 H locs hw hkp hS => ?_)
    have hP := hkp _ hP
    have hw : r_4 = q_cnt σ nb ns h w := hw
    subst hw
    refine lv_goto (tgt := 28) hx hb dX4_count_20 (by decide) ?_
    have hP9 := hP
    have hD9 := hD
    exact W.iret (v := q_cnt σ nb ns h w) hx hb hr (fun t ht hW => ⟨⟨q_cnt σ nb ns h w, (), rfl, rfl, by rw [ht]; exact hP9, va_K.moved hW.alike hK, hD9⟩, hS.F ht⟩) hS.2.2 dX4_count_28
  · exact absurd (⟨nI_pos (by omega), nI_nlt (a := 9) (b := w) (by omega) (by decide)⟩) c_2

set_option maxHeartbeats 4000000 in
set_option maxRecDepth 100000 in
theorem c_X4_would (l : Launch) (D : va_G) (cI : ClassId) (μ : Nat → Nat) (th : Int32) (σ : zS) (κ : Nat → Int32) {k n : Nat} {nb ns h : Nat} (hI : zI σ nb ns h) (hk : k < ns) (hw1 : ¬ nI n < 1) (hw2 : nI n ≤ 72) (hn : h + n < 2 ^ 30) : zMI l yX4_would wsX4_would ({ frames := 6, cells := 0, slots := 0, locals := 132 }) [.ref (μ 0), .int (nI k), .int (nI n)] D [(cI, .int)] (zw_M cI μ th σ (κ)) (zw_M cI μ 0 σ (zenc σ)) (fun r => r = f_hours σ nb ns h n 14 k - σ 14 k) := by
  intro sz
  refine Met.ofW (cc := cX4_would) (maxL := 5) (ret := (some .int)) (by decide) rfl ?_
  intro p e s m args below meth c s₁ B hml hv
  obtain ⟨rfl, hsz, hP, hK, hD⟩ := hv
  have hx := B.exec
  have hb := B.bytes
  have hr := B.returns
  have hts := atoms_spec (ws := wsX4_would) B.pre
  have hown : s.vm.findClass RX4 = some m.cls := findClass_of_methodNamed B.named
  have hlocks := B.notSynchronized
  subst hsz
  have hD := hD.self (sz := s.heap.size)
  generalize hAe : va_A (zw_M cI μ th σ (κ)) s.heap.size = A at hD ⊢
  have hA : ∀ q : Nat, s.heap.size ≤ q → A q := fun q h => by rw [← hAe]; exact Or.inr h
  have hS : va_S A s.heap s.heap [] := va_S.rf
  have hP : va_P D vwCl (zw_M cI μ th σ (κ)) s.heap := hP
  have hl := lv_entry ([.ref (μ 0), .int (nI k), .int (nI n)]) (n := 5) (Nat.le_of_ble_eq_true rfl)
  rw [lg_entry_eq]
  generalize (lg_sl ([.ref (μ 0), .int (nI k), .int (nI n)]) ++ List.replicate (5 - (lg_sl ([.ref (μ 0), .int (nI k), .int (nI n)])).length) Slot.unset).toArray = ls at hl ⊢
  have hl : lv_has ls 5 [(0, .ref (μ 0)), (1, .int (nI k)), (2, .int (nI n))] := hl
  have hf25 := hts (.fieldLink RX4 25 "HotBedsModel" "thrown" "I") (by decide +kernel)
  have hinX4 : ∀ w ∈ u_ws RX4 TX4 8, w ∈ wsX4_would := by decide +kernel
  have hC := hI.1
  have hnb := hC.2.1
  have hns := hC.2.2.2.1
  have hh := hC.2.2.2.2.2.1
  refine lv_aload_n hx hb dX4_would_0 rfl (lv_at hl 0 rfl) ?_
  refine lv_iconst (v := 0) hx hb dX4_would_1 (by decide) ?_
  refine va_put (D := D) (ci := 4) (v := .int 0) (ty := .int) (C := RX4) (T := TX4) (N := 8) hx hb hts hinX4 tyX4 tyX4_ok nmX4 hown hK hP hD hS 0 rfl rfl 0 (by decide) hf25 (fun _ h9 => h9)  rfl (by decide +kernel) rfl rfl (Nat.le_of_ble_eq_true rfl) dX4_would_2 (fun H locs hP hD hS => ?_)
  have hP : va_P D vwCl (zw_M cI μ 0 σ (κ)) H := hP
  have hD : va_D A (zw_M cI μ 0 σ (κ)) := hD
  refine lv_aload_n hx hb dX4_would_5 rfl (lv_at hl 0 rfl) ?_
  refine lv_iload_n hx hb dX4_would_6 rfl (lv_at hl 1 rfl) ?_
  refine zk_R (D := D) (va_runV (As := [.int (nI k)]) (rest := []) ⟨hx, hb, hml, hown, hts⟩ (c_X4_isSailor l D cI μ 0 σ (κ) (nI k) hC _) (cwV 1 hts gX4_would_X4_isSailor rfl rfl rfl zdX4_isSailor ⟨Nat.le_of_ble_eq_true rfl, Nat.le_of_ble_eq_true rfl⟩) ⟨zbl _, va_recv hK hP (ci := 4) (q0 := 0) rfl rfl, zpr hK hP hD⟩ rfl rfl hl.1 rfl (lv_room (Nat.le_of_ble_eq_true rfl)) dX4_would_7 ⟨Nat.zero_le _, Nat.zero_le _⟩) hS (fun r_1 H locs hw hkp hS => ?_)
  have hP := hkp _ hP
  have hw : zb (f_sail σ (nI k)) r_1 := hw
  rcases hw with ⟨c_2, rfl⟩ | ⟨c_2, rfl⟩
  · refine lv_if_ne (tgt := 19) hx hb dX4_would_10 (by decide) (fun _ => ?_) (fun c => absurd c (by decide))
    refine lv_iload_n hx hb dX4_would_19 rfl (lv_at hl 2 rfl) ?_
    refine lv_iconst (v := 1) hx hb dX4_would_20 (by decide) ?_
    refine lv_bipush (v := 72) hx hb dX4_would_21 (by decide) ?_
    refine zk_R (D := D) (va_runS (As := [.int (nI n), .int 1, .int 72]) (rest := []) ⟨hx, hb, hml, hown, hts⟩ (c_X4_isIn l D cI (nI n) 1 72 _) (va_cwS 3 hts gX4_would_X4_isIn rfl rfl rfl zdX4_isIn.2 ⟨Nat.le_of_ble_eq_true rfl, Nat.le_of_ble_eq_true rfl⟩) ⟨zbl _, zpr hK zP0 (zD0 (A := fun _ => True))⟩ rfl rfl hl.1 rfl (lv_room (Nat.le_of_ble_eq_true rfl)) dX4_would_23 ⟨Nat.zero_le _, Nat.zero_le _⟩) hS (fun r_4 H locs hw hkp hS => ?_)
    have hP := hkp _ hP
    have hw : zb (¬ (nI n) < 1 ∧ ¬ 72 < (nI n)) r_4 := hw
    rcases hw with ⟨c_5, rfl⟩ | ⟨c_5, rfl⟩
    · refine lv_if_ne (tgt := 35) hx hb dX4_would_26 (by decide) (fun _ => ?_) (fun c => absurd c (by decide))
      refine lv_aload_n hx hb dX4_would_35 rfl (lv_at hl 0 rfl) ?_
      have hF := zfree hD hS hA
      refine zk_V (va_runV (As := []) (rest := []) ⟨hx, hb, hml, hown, hts⟩ (c_X4_keep l D cI μ 0 σ (κ) _) (cwV 0 hts gX4_would_X4_keep rfl rfl rfl zdX4_keep ⟨Nat.le_of_ble_eq_true rfl, Nat.le_of_ble_eq_true rfl⟩) ⟨zbl _, va_recv hK hP (ci := 4) (q0 := 0) rfl rfl, zpr hK hP hD⟩ rfl rfl hl.1 rfl (lv_room (Nat.le_of_ble_eq_true rfl)) dX4_would_36 ⟨Nat.zero_le _, Nat.zero_le _⟩) hS hF (fun H locs hkp hP1 hD1 hS => ?_)
      have hP := hP1
      have hD := hD1.weaken (fun _ _ _ z => hF _ z)
      have hP : va_P D vwCl (zw_M cI μ 0 σ (zenc σ)) H := hP
      have hD : va_D A (zw_M cI μ 0 σ (zenc σ)) := hD
      refine lv_aload_n hx hb dX4_would_39 rfl (lv_at hl 0 rfl) ?_
      refine lv_iload_n hx hb dX4_would_40 rfl (lv_at hl 1 rfl) ?_
      refine lv_bipush (v := 6) hx hb dX4_would_41 (by decide) ?_
      refine zk_R (D := D) (va_runV (As := [.int (nI k), .int 6]) (rest := []) ⟨hx, hb, hml, hown, hts⟩ (c_X4_sa l D cI μ 0 σ (zenc σ) (k := k) (w := 6) (by omega) (by decide) _) (cwV 2 hts gX4_would_X4_sa rfl rfl rfl zdX4_sa ⟨Nat.le_of_ble_eq_true rfl, Nat.le_of_ble_eq_true rfl⟩) ⟨zbl _, va_recv hK hP (ci := 4) (q0 := 0) rfl rfl, zpr hK hP hD⟩ rfl rfl hl.1 rfl (lv_room (Nat.le_of_ble_eq_true rfl)) dX4_would_43 ⟨Nat.zero_le _, Nat.zero_le _⟩) hS (fun r_7 H locs hw hkp hS => ?_)
      have hP := hkp _ hP
      have hw : r_7 = σ 14 k := hw
      subst hw
      refine lv_istore_n (lv' := [(3, .int (σ 14 k)), (0, .ref (μ 0)), (1, .int (nI k)), (2, .int (nI n))]) hx hb dX4_would_46 rfl hl (by decide) rfl (fun ls hl => ?_)
      refine lv_aload_n hx hb dX4_would_47 rfl (lv_at hl 1 rfl) ?_
      refine lv_iload_n hx hb dX4_would_48 rfl (lv_at hl 3 rfl) ?_
      have hF := zfree hD hS hA
      refine zk_V (va_runV (As := [.int (nI n)]) (rest := []) ⟨hx, hb, hml, hown, hts⟩ (c_X4_hoursOn l D cI μ 0 σ (zenc σ) (n := n) hI hn _) (cwV 1 hts gX4_would_X4_hoursOn rfl rfl rfl zdX4_hoursOn ⟨Nat.le_of_ble_eq_true rfl, Nat.le_of_ble_eq_true rfl⟩) ⟨zbl _, va_recv hK hP (ci := 4) (q0 := 0) rfl rfl, zpr hK hP hD⟩ rfl rfl hl.1 rfl (lv_room (Nat.le_of_ble_eq_true rfl)) dX4_would_49 ⟨Nat.zero_le _, Nat.zero_le _⟩) hS hF (fun H locs hkp hP1 hD1 hS => ?_)
      have hP := hP1
      have hD := hD1.weaken (fun _ _ _ z => hF _ z)
      have hP : va_P D vwCl (zw_M cI μ 0 (f_hours σ nb ns h n) (zenc σ)) H := hP
      have hD : va_D A (zw_M cI μ 0 (f_hours σ nb ns h n) (zenc σ)) := hD
      refine lv_aload_n hx hb dX4_would_52 rfl (lv_at hl 1 rfl) ?_
      refine lv_iload_n hx hb dX4_would_53 rfl (lv_at hl 2 rfl) ?_
      refine lv_bipush (v := 6) hx hb dX4_would_54 (by decide) ?_
      refine zk_R (D := D) (va_runV (As := [.int (nI k), .int 6]) (rest := []) ⟨hx, hb, hml, hown, hts⟩ (c_X4_sa l D cI μ 0 (f_hours σ nb ns h n) (zenc σ) (k := k) (w := 6) (by omega) (by decide) _) (cwV 2 hts gX4_would_X4_sa rfl rfl rfl zdX4_sa ⟨Nat.le_of_ble_eq_true rfl, Nat.le_of_ble_eq_true rfl⟩) ⟨zbl _, va_recv hK hP (ci := 4) (q0 := 0) rfl rfl, zpr hK hP hD⟩ rfl rfl hl.1 rfl (lv_room (Nat.le_of_ble_eq_true rfl)) dX4_would_56 ⟨Nat.zero_le _, Nat.zero_le _⟩) hS (fun r_8 H locs hw hkp hS => ?_)
      have hP := hkp _ hP
      have hw : r_8 = (f_hours σ nb ns h n) 14 k := hw
      subst hw
      refine lv_iload_n hx hb dX4_would_59 rfl (lv_at hl 0 rfl) ?_
      refine lv_isub hx hb dX4_would_60 ?_
      refine lv_istore (lv' := [(4, .int (((f_hours σ nb ns h n) 14 k) - (σ 14 k))), (3, .int (σ 14 k)), (0, .ref (μ 0)), (1, .int (nI k)), (2, .int (nI n))]) hx hb dX4_would_61 hl (by decide) rfl (fun ls hl => ?_)
      refine lv_aload_n hx hb dX4_would_63 rfl (lv_at hl 2 rfl) ?_
      have hF := zfree hD hS hA
      refine zk_V (va_runV (As := []) (rest := []) ⟨hx, hb, hml, hown, hts⟩ (c_X4_bringBack l D cI μ 0 (f_hours σ nb ns h n) σ (rw_hours (Or.inl rfl) σ nb ns h n) (rw_hours (Or.inr (Or.inl rfl)) σ nb ns h n) (rw_hours (Or.inr (Or.inr rfl)) σ nb ns h n) (rw_hours0 σ nb ns h (by decide) n) (rw_hours0 σ nb ns h (by decide) n) _) (cwV 0 hts gX4_would_X4_bringBack rfl rfl rfl zdX4_bringBack ⟨Nat.le_of_ble_eq_true rfl, Nat.le_of_ble_eq_true rfl⟩) ⟨zbl _, va_recv hK hP (ci := 4) (q0 := 0) rfl rfl, zpr hK hP hD⟩ rfl rfl hl.1 rfl (lv_room (Nat.le_of_ble_eq_true rfl)) dX4_would_64 ⟨Nat.zero_le _, Nat.zero_le _⟩) hS hF (fun H locs hkp hP1 hD1 hS => ?_)
      have hP := hP1
      have hD := hD1.weaken (fun _ _ _ z => hF _ z)
      have hP : va_P D vwCl (zw_M cI μ 0 σ (zenc σ)) H := hP
      have hD : va_D A (zw_M cI μ 0 σ (zenc σ)) := hD
      refine lv_iload hx hb dX4_would_67 (lv_at hl 0 rfl) ?_
      have hP9 := hP
      have hD9 := hD
      exact W.iret (v := ((f_hours σ nb ns h n) 14 k) - (σ 14 k)) hx hb hr (fun t ht hW => ⟨⟨((f_hours σ nb ns h n) 14 k) - (σ 14 k), (), rfl, rfl, by rw [ht]; exact hP9, va_K.moved hW.alike hK, hD9⟩, hS.F ht⟩) hS.2.2 dX4_would_69
    · exact absurd (⟨hw1, Int32.not_lt.mpr hw2⟩) c_5
  · exact absurd (zsail_k hC hk) c_2

set_option maxHeartbeats 4000000 in
set_option maxRecDepth 100000 in
theorem c_X4_until (l : Launch) (D : va_G) (cI : ClassId) (μ : Nat → Nat) (th : Int32) (σ : zS) (κ : Nat → Int32) {k : Nat} {nb ns h : Nat} (hI : zI σ nb ns h) (hk : k < ns) (hn : h + 49 < 2 ^ 30) : zMI l yX4_until wsX4_until ({ frames := 5, cells := 0, slots := 0, locals := 120 }) [.ref (μ 0), .int (nI k)] D [(cI, .int)] (zw_M cI μ th σ (κ)) (zw_M cI μ 0 σ (zenc σ)) (fun r => r = q_find (q_unt σ nb ns h k) 1 0 49) := by
  intro sz
  refine Met.ofW (cc := cX4_until) (maxL := 3) (ret := (some .int)) (by decide) rfl ?_
  intro p e s m args below meth c s₁ B hml hv
  obtain ⟨rfl, hsz, hP, hK, hD⟩ := hv
  have hx := B.exec
  have hb := B.bytes
  have hr := B.returns
  have hts := atoms_spec (ws := wsX4_until) B.pre
  have hown : s.vm.findClass RX4 = some m.cls := findClass_of_methodNamed B.named
  have hlocks := B.notSynchronized
  subst hsz
  have hD := hD.self (sz := s.heap.size)
  generalize hAe : va_A (zw_M cI μ th σ (κ)) s.heap.size = A at hD ⊢
  have hA : ∀ q : Nat, s.heap.size ≤ q → A q := fun q h => by rw [← hAe]; exact Or.inr h
  have hS : va_S A s.heap s.heap [] := va_S.rf
  have hP : va_P D vwCl (zw_M cI μ th σ (κ)) s.heap := hP
  have hl := lv_entry ([.ref (μ 0), .int (nI k)]) (n := 3) (Nat.le_of_ble_eq_true rfl)
  rw [lg_entry_eq]
  generalize (lg_sl ([.ref (μ 0), .int (nI k)]) ++ List.replicate (3 - (lg_sl ([.ref (μ 0), .int (nI k)])).length) Slot.unset).toArray = ls at hl ⊢
  have hl : lv_has ls 3 [(0, .ref (μ 0)), (1, .int (nI k))] := hl
  have hf25 := hts (.fieldLink RX4 25 "HotBedsModel" "thrown" "I") (by decide +kernel)
  have hinX4 : ∀ w ∈ u_ws RX4 TX4 8, w ∈ wsX4_until := by decide +kernel
  have hC := hI.1
  have hnb := hC.2.1
  have hns := hC.2.2.2.1
  have hh := hC.2.2.2.2.2.1
  refine lv_aload_n hx hb dX4_until_0 rfl (lv_at hl 0 rfl) ?_
  refine lv_iconst (v := 0) hx hb dX4_until_1 (by decide) ?_
  refine va_put (D := D) (ci := 4) (v := .int 0) (ty := .int) (C := RX4) (T := TX4) (N := 8) hx hb hts hinX4 tyX4 tyX4_ok nmX4 hown hK hP hD hS 0 rfl rfl 0 (by decide) hf25 (fun _ h9 => h9)  rfl (by decide +kernel) rfl rfl (Nat.le_of_ble_eq_true rfl) dX4_until_2 (fun H locs hP hD hS => ?_)
  have hP : va_P D vwCl (zw_M cI μ 0 σ (κ)) H := hP
  have hD : va_D A (zw_M cI μ 0 σ (κ)) := hD
  refine lv_aload_n hx hb dX4_until_5 rfl (lv_at hl 0 rfl) ?_
  refine lv_iload_n hx hb dX4_until_6 rfl (lv_at hl 1 rfl) ?_
  refine zk_R (D := D) (va_runV (As := [.int (nI k)]) (rest := []) ⟨hx, hb, hml, hown, hts⟩ (c_X4_isSailor l D cI μ 0 σ (κ) (nI k) hC _) (cwV 1 hts gX4_until_X4_isSailor rfl rfl rfl zdX4_isSailor ⟨Nat.le_of_ble_eq_true rfl, Nat.le_of_ble_eq_true rfl⟩) ⟨zbl _, va_recv hK hP (ci := 4) (q0 := 0) rfl rfl, zpr hK hP hD⟩ rfl rfl hl.1 rfl (lv_room (Nat.le_of_ble_eq_true rfl)) dX4_until_7 ⟨Nat.zero_le _, Nat.zero_le _⟩) hS (fun r_1 H locs hw hkp hS => ?_)
  have hP := hkp _ hP
  have hw : zb (f_sail σ (nI k)) r_1 := hw
  rcases hw with ⟨c_2, rfl⟩ | ⟨c_2, rfl⟩
  · refine lv_if_ne (tgt := 19) hx hb dX4_until_10 (by decide) (fun _ => ?_) (fun c => absurd c (by decide))
    refine lv_aload_n hx hb dX4_until_19 rfl (lv_at hl 0 rfl) ?_
    have hF := zfree hD hS hA
    refine zk_V (va_runV (As := []) (rest := []) ⟨hx, hb, hml, hown, hts⟩ (c_X4_keep l D cI μ 0 σ (κ) _) (cwV 0 hts gX4_until_X4_keep rfl rfl rfl zdX4_keep ⟨Nat.le_of_ble_eq_true rfl, Nat.le_of_ble_eq_true rfl⟩) ⟨zbl _, va_recv hK hP (ci := 4) (q0 := 0) rfl rfl, zpr hK hP hD⟩ rfl rfl hl.1 rfl (lv_room (Nat.le_of_ble_eq_true rfl)) dX4_until_20 ⟨Nat.zero_le _, Nat.zero_le _⟩) hS hF (fun H locs hkp hP1 hD1 hS => ?_)
    have hP := hP1
    have hD := hD1.weaken (fun _ _ _ z => hF _ z)
    have hP : va_P D vwCl (zw_M cI μ 0 σ (zenc σ)) H := hP
    have hD : va_D A (zw_M cI μ 0 σ (zenc σ)) := hD
    refine lv_iconst (v := 0) hx hb dX4_until_23 (by decide) ?_
    refine lv_istore_n (lv' := [(2, .int 0), (0, .ref (μ 0)), (1, .int (nI k))]) hx hb dX4_until_24 rfl hl (by decide) rfl (fun ls hl => ?_)
    refine zk_loop (pc := 25) (fun i H locs ls => va_P D vwCl (zw_M cI μ 0 (f_hours σ nb ns h i) (zenc σ)) H ∧ va_D A (zw_M cI μ 0 (f_hours σ nb ns h i) (zenc σ)) ∧ va_S A s.heap H locs ∧ lv_has ls 3 [(0, .ref (μ 0)), (1, .int (nI k)), (2, .int (nI i))] ∧ q_find (q_unt σ nb ns h k) 1 0 49 = q_find (q_unt σ nb ns h k) 1 i (49 - i)) 49 (fun i hki ih H locs ls hI => ?_) (fun H locs ls hI => ?_) _ _ _ ⟨hP, hD, hS, lv_sub hl [1, 2, 0] rfl, rfl⟩
    · obtain ⟨hP, hD, hS, hl, he⟩ := hI
      refine lv_iload_n hx hb dX4_until_25 rfl (lv_at hl 2 rfl) ?_
      refine lv_bipush (v := 48) hx hb dX4_until_26 (by decide) ?_
      refine lv_icmp_gt (tgt := 51) hx hb dX4_until_28 (by decide) (fun c => absurd c (nI_nlt (a := 48) (b := i) (by omega) (by decide))) (fun _ => ?_)
      refine lv_aload_n hx hb dX4_until_31 rfl (lv_at hl 0 rfl) ?_
      refine lv_iload_n hx hb dX4_until_32 rfl (lv_at hl 1 rfl) ?_
      refine lv_iconst (v := 4) hx hb dX4_until_33 (by decide) ?_
      refine zk_R (D := D) (va_runV (As := [.int (nI k), .int 4]) (rest := []) ⟨hx, hb, hml, hown, hts⟩ (c_X4_sa l D cI μ 0 (f_hours σ nb ns h i) (zenc σ) (k := k) (w := 4) (by omega) (by decide) _) (cwV 2 hts gX4_until_X4_sa rfl rfl rfl zdX4_sa ⟨Nat.le_of_ble_eq_true rfl, Nat.le_of_ble_eq_true rfl⟩) ⟨zbl _, va_recv hK hP (ci := 4) (q0 := 0) rfl rfl, zpr hK hP hD⟩ rfl rfl hl.1 rfl (lv_room (Nat.le_of_ble_eq_true rfl)) dX4_until_34 ⟨Nat.zero_le _, Nat.zero_le _⟩) hS (fun r_5 H locs hw hkp hS => ?_)
      have hP := hkp _ hP
      have hw : r_5 = (f_hours σ nb ns h i) 12 k := hw
      subst hw
      refine lv_iconst (v := 1) hx hb dX4_until_37 (by decide) ?_
      refine lv_icmp_eq (tgt := 51) hx hb dX4_until_38 (by decide) (fun c_6 => ?_) (fun c_6 => ?_)
      · refine lv_aload_n hx hb dX4_until_51 rfl (lv_at hl 0 rfl) ?_
        have hF := zfree hD hS hA
        refine zk_V (va_runV (As := []) (rest := []) ⟨hx, hb, hml, hown, hts⟩ (c_X4_bringBack l D cI μ 0 (f_hours σ nb ns h i) σ (rw_hours (Or.inl rfl) σ nb ns h i) (rw_hours (Or.inr (Or.inl rfl)) σ nb ns h i) (rw_hours (Or.inr (Or.inr rfl)) σ nb ns h i) (rw_hours0 σ nb ns h (by decide) i) (rw_hours0 σ nb ns h (by decide) i) _) (cwV 0 hts gX4_until_X4_bringBack rfl rfl rfl zdX4_bringBack ⟨Nat.le_of_ble_eq_true rfl, Nat.le_of_ble_eq_true rfl⟩) ⟨zbl _, va_recv hK hP (ci := 4) (q0 := 0) rfl rfl, zpr hK hP hD⟩ rfl rfl hl.1 rfl (lv_room (Nat.le_of_ble_eq_true rfl)) dX4_until_52 ⟨Nat.zero_le _, Nat.zero_le _⟩) hS hF (fun H locs hkp hP1 hD1 hS => ?_)
        have hP := hP1
        have hD := hD1.weaken (fun _ _ _ z => hF _ z)
        have hP : va_P D vwCl (zw_M cI μ 0 σ (zenc σ)) H := hP
        have hD : va_D A (zw_M cI μ 0 σ (zenc σ)) := hD
        refine lv_iload_n hx hb dX4_until_55 rfl (lv_at hl 2 rfl) ?_
        refine lv_bipush (v := 48) hx hb dX4_until_56 (by decide) ?_
        refine lv_icmp_le (tgt := 65) hx hb dX4_until_58 (by decide) (fun _ => ?_) (fun c => absurd (nI_le (a := i) (b := 48) (by omega) (by decide)) c)
        refine lv_iload_n hx hb dX4_until_65 rfl (lv_at hl 2 rfl) ?_
        have hP9 := hP
        have hD9 := hD
        exact W.iret (v := nI i) hx hb hr (fun t ht hW => ⟨⟨nI i, (), rfl, (by rw [he, show 49 - i = (49 - (i + 1)) + 1 by omega, q_find, if_pos (show q_unt σ nb ns h k i = 1 from c_6)]), by rw [ht]; exact hP9, va_K.moved hW.alike hK, hD9⟩, hS.F ht⟩) hS.2.2 dX4_until_66
      · refine lv_aload_n hx hb dX4_until_41 rfl (lv_at hl 0 rfl) ?_
        have hF := zfree hD hS hA
        refine zk_V (va_runV (As := []) (rest := []) ⟨hx, hb, hml, hown, hts⟩ (c_X4_hourOn l D cI μ 0 (f_hours σ nb ns h i) (zenc σ) (hI.hours i (by omega)) _) (cwV 0 hts gX4_until_X4_hourOn rfl rfl rfl zdX4_hourOn ⟨Nat.le_of_ble_eq_true rfl, Nat.le_of_ble_eq_true rfl⟩) ⟨zbl _, va_recv hK hP (ci := 4) (q0 := 0) rfl rfl, zpr hK hP hD⟩ rfl rfl hl.1 rfl (lv_room (Nat.le_of_ble_eq_true rfl)) dX4_until_42 ⟨Nat.zero_le _, Nat.zero_le _⟩) hS hF (fun H locs hkp hP1 hD1 hS => ?_)
        have hP := hP1
        have hD := hD1.weaken (fun _ _ _ z => hF _ z)
        have hP : va_P D vwCl (zw_M cI μ 0 (f_hour (f_hours σ nb ns h i) nb ns (h + i)) (zenc σ)) H := hP
        have hD : va_D A (zw_M cI μ 0 (f_hour (f_hours σ nb ns h i) nb ns (h + i)) (zenc σ)) := hD
        refine lv_iinc (v := nI (i + 1)) (lv' := [(2, .int (nI (i + 1))), (0, .ref (μ 0)), (1, .int (nI k))]) hx hb dX4_until_45 hl (k := 2) rfl (nI_1 i) (by decide) rfl (fun ls hl => ?_)
        refine lv_goto (tgt := 25) hx hb dX4_until_48 (by decide) ?_
        have e1 : f_hours σ nb ns h (i + 1) = f_hour (f_hours σ nb ns h i) nb ns (h + i) := rfl
        have he2 := he.trans (show q_find (q_unt σ nb ns h k) 1 i (49 - i) = q_find (q_unt σ nb ns h k) 1 (i + 1) (49 - (i + 1)) from by rw [show 49 - i = (49 - (i + 1)) + 1 by omega, q_find, if_neg (show ¬ q_unt σ nb ns h k i = 1 from c_6)])
        exact ih _ _ _ ⟨by rw [e1]; exact hP, by rw [e1]; exact hD, hS, lv_sub hl [1, 2, 0] rfl, he2⟩
    · obtain ⟨hP, hD, hS, hl, he⟩ := hI
      refine lv_iload_n hx hb dX4_until_25 rfl (lv_at hl 2 rfl) ?_
      refine lv_bipush (v := 48) hx hb dX4_until_26 (by decide) ?_
      refine lv_icmp_gt (tgt := 51) hx hb dX4_until_28 (by decide) (fun _ => ?_) (fun c => absurd (by decide) c)
      refine lv_aload_n hx hb dX4_until_51 rfl (lv_at hl 0 rfl) ?_
      have hF := zfree hD hS hA
      refine zk_V (va_runV (As := []) (rest := []) ⟨hx, hb, hml, hown, hts⟩ (c_X4_bringBack l D cI μ 0 (f_hours σ nb ns h 49) σ (rw_hours (Or.inl rfl) σ nb ns h 49) (rw_hours (Or.inr (Or.inl rfl)) σ nb ns h 49) (rw_hours (Or.inr (Or.inr rfl)) σ nb ns h 49) (rw_hours0 σ nb ns h (by decide) 49) (rw_hours0 σ nb ns h (by decide) 49) _) (cwV 0 hts gX4_until_X4_bringBack rfl rfl rfl zdX4_bringBack ⟨Nat.le_of_ble_eq_true rfl, Nat.le_of_ble_eq_true rfl⟩) ⟨zbl _, va_recv hK hP (ci := 4) (q0 := 0) rfl rfl, zpr hK hP hD⟩ rfl rfl hl.1 rfl (lv_room (Nat.le_of_ble_eq_true rfl)) dX4_until_52 ⟨Nat.zero_le _, Nat.zero_le _⟩) hS hF (fun H locs hkp hP1 hD1 hS => ?_)
      have hP := hP1
      have hD := hD1.weaken (fun _ _ _ z => hF _ z)
      have hP : va_P D vwCl (zw_M cI μ 0 σ (zenc σ)) H := hP
      have hD : va_D A (zw_M cI μ 0 σ (zenc σ)) := hD
      refine lv_iload_n hx hb dX4_until_55 rfl (lv_at hl 2 rfl) ?_
      refine lv_bipush (v := 48) hx hb dX4_until_56 (by decide) ?_
      refine lv_icmp_le (tgt := 65) hx hb dX4_until_58 (by decide) (fun c => absurd c (by decide)) (fun _ => ?_)
      refine lv_iconst (v := (-1)) hx hb dX4_until_61 (by decide) ?_
      refine lv_goto (tgt := 66) hx hb dX4_until_62 (by decide) ?_
      have hP9 := hP
      have hD9 := hD
      exact W.iret (v := (-1)) hx hb hr (fun t ht hW => ⟨⟨(-1), (), rfl, (by rw [he]; rfl), by rw [ht]; exact hP9, va_K.moved hW.alike hK, hD9⟩, hS.F ht⟩) hS.2.2 dX4_until_66
  · exact absurd (zsail_k hC hk) c_2

set_option maxHeartbeats 4000000 in
set_option maxRecDepth 100000 in
theorem c_X4_quiet (l : Launch) (D : va_G) (cI : ClassId) (μ : Nat → Nat) (th : Int32) (σ : zS) (κ : Nat → Int32) {nb ns h : Nat} (hI : zI σ nb ns h) (hn : h + 48 < 2 ^ 30) : zMI l yX4_quiet wsX4_quiet ({ frames := 6, cells := 0, slots := 0, locals := 132 }) [.ref (μ 0)] D [(cI, .int)] (zw_M cI μ th σ (κ)) (zw_M cI μ 0 σ (zenc σ)) (fun r => r = q_find (q_qui σ nb ns h) (f_sum (σ 15) ns) 0 10) := by
  intro sz
  refine Met.ofW (cc := cX4_quiet) (maxL := 4) (ret := (some .int)) (by decide) rfl ?_
  intro p e s m args below meth c s₁ B hml hv
  obtain ⟨rfl, hsz, hP, hK, hD⟩ := hv
  have hx := B.exec
  have hb := B.bytes
  have hr := B.returns
  have hts := atoms_spec (ws := wsX4_quiet) B.pre
  have hown : s.vm.findClass RX4 = some m.cls := findClass_of_methodNamed B.named
  have hlocks := B.notSynchronized
  subst hsz
  have hD := hD.self (sz := s.heap.size)
  generalize hAe : va_A (zw_M cI μ th σ (κ)) s.heap.size = A at hD ⊢
  have hA : ∀ q : Nat, s.heap.size ≤ q → A q := fun q h => by rw [← hAe]; exact Or.inr h
  have hS : va_S A s.heap s.heap [] := va_S.rf
  have hP : va_P D vwCl (zw_M cI μ th σ (κ)) s.heap := hP
  have hl := lv_entry ([.ref (μ 0)]) (n := 4) (Nat.le_of_ble_eq_true rfl)
  rw [lg_entry_eq]
  generalize (lg_sl ([.ref (μ 0)]) ++ List.replicate (4 - (lg_sl ([.ref (μ 0)])).length) Slot.unset).toArray = ls at hl ⊢
  have hl : lv_has ls 4 [(0, .ref (μ 0))] := hl
  have hf19 := hts (.fieldLink RX4 19 "HotBedsModel" "now" "[I") (by decide +kernel)
  have hf25 := hts (.fieldLink RX4 25 "HotBedsModel" "thrown" "I") (by decide +kernel)
  have hinX4 : ∀ w ∈ u_ws RX4 TX4 8, w ∈ wsX4_quiet := by decide +kernel
  have hC := hI.1
  have hnb := hC.2.1
  have hns := hC.2.2.2.1
  have hh := hC.2.2.2.2.2.1
  refine lv_aload_n hx hb dX4_quiet_0 rfl (lv_at hl 0 rfl) ?_
  refine lv_iconst (v := 0) hx hb dX4_quiet_1 (by decide) ?_
  refine va_put (D := D) (ci := 4) (v := .int 0) (ty := .int) (C := RX4) (T := TX4) (N := 8) hx hb hts hinX4 tyX4 tyX4_ok nmX4 hown hK hP hD hS 0 rfl rfl 0 (by decide) hf25 (fun _ h9 => h9)  rfl (by decide +kernel) rfl rfl (Nat.le_of_ble_eq_true rfl) dX4_quiet_2 (fun H locs hP hD hS => ?_)
  have hP : va_P D vwCl (zw_M cI μ 0 σ (κ)) H := hP
  have hD : va_D A (zw_M cI μ 0 σ (κ)) := hD
  refine lv_aload_n hx hb dX4_quiet_5 rfl (lv_at hl 0 rfl) ?_
  have hF := zfree hD hS hA
  refine zk_V (va_runV (As := []) (rest := []) ⟨hx, hb, hml, hown, hts⟩ (c_X4_keep l D cI μ 0 σ (κ) _) (cwV 0 hts gX4_quiet_X4_keep rfl rfl rfl zdX4_keep ⟨Nat.le_of_ble_eq_true rfl, Nat.le_of_ble_eq_true rfl⟩) ⟨zbl _, va_recv hK hP (ci := 4) (q0 := 0) rfl rfl, zpr hK hP hD⟩ rfl rfl hl.1 rfl (lv_room (Nat.le_of_ble_eq_true rfl)) dX4_quiet_6 ⟨Nat.zero_le _, Nat.zero_le _⟩) hS hF (fun H locs hkp hP1 hD1 hS => ?_)
  have hP := hP1
  have hD := hD1.weaken (fun _ _ _ z => hF _ z)
  have hP : va_P D vwCl (zw_M cI μ 0 σ (zenc σ)) H := hP
  have hD : va_D A (zw_M cI μ 0 σ (zenc σ)) := hD
  refine lv_aload_n hx hb dX4_quiet_9 rfl (lv_at hl 0 rfl) ?_
  refine lv_bipush (v := 7) hx hb dX4_quiet_10 (by decide) ?_
  refine zk_R (D := D) (va_runV (As := [.int 7]) (rest := []) ⟨hx, hb, hml, hown, hts⟩ (c_X4_sum l D cI μ 0 σ (zenc σ) (w := 7) hC (by decide) _) (cwV 1 hts gX4_quiet_X4_sum rfl rfl rfl zdX4_sum ⟨Nat.le_of_ble_eq_true rfl, Nat.le_of_ble_eq_true rfl⟩) ⟨zbl _, va_recv hK hP (ci := 4) (q0 := 0) rfl rfl, zpr hK hP hD⟩ rfl rfl hl.1 rfl (lv_room (Nat.le_of_ble_eq_true rfl)) dX4_quiet_12 ⟨Nat.zero_le _, Nat.zero_le _⟩) hS (fun r_1 H locs hw hkp hS => ?_)
  have hP := hkp _ hP
  have hw : r_1 = f_sum (σ 15) ns := hw
  subst hw
  refine lv_istore_n (lv' := [(1, .int (f_sum (σ 15) ns)), (0, .ref (μ 0))]) hx hb dX4_quiet_15 rfl hl (by decide) rfl (fun ls hl => ?_)
  refine lv_iconst (v := (-1)) hx hb dX4_quiet_16 (by decide) ?_
  refine lv_istore_n (lv' := [(2, .int (-1)), (1, .int (f_sum (σ 15) ns)), (0, .ref (μ 0))]) hx hb dX4_quiet_17 rfl hl (by decide) rfl (fun ls hl => ?_)
  refine lv_iconst (v := 0) hx hb dX4_quiet_18 (by decide) ?_
  refine lv_istore_n (lv' := [(3, .int 0), (2, .int (-1)), (1, .int (f_sum (σ 15) ns)), (0, .ref (μ 0))]) hx hb dX4_quiet_19 rfl hl (by decide) rfl (fun ls hl => ?_)
  refine zk_loop (pc := 20) (fun i H locs ls => ∃ lz : Int32, va_P D vwCl (zw_M cI μ 0 σ (zenc σ)) H ∧ va_D A (zw_M cI μ 0 σ (zenc σ)) ∧ va_S A s.heap H locs ∧ lv_has ls 4 [(0, .ref (μ 0)), (1, .int (f_sum (σ 15) ns)), (2, .int lz), (3, .int (nI i))] ∧ ((lz = -1 ∧ q_find (q_qui σ nb ns h) (f_sum (σ 15) ns) 0 10 = q_find (q_qui σ nb ns h) (f_sum (σ 15) ns) i (10 - i)) ∨ (¬ lz = -1 ∧ q_find (q_qui σ nb ns h) (f_sum (σ 15) ns) 0 10 = lz))) 10 (fun i hki ih H locs ls hI => ?_) (fun H locs ls hI => ?_) _ _ _ ⟨_, hP, hD, hS, lv_sub hl [3, 2, 1, 0] rfl, Or.inl ⟨rfl, rfl⟩⟩
  · obtain ⟨lz, hP, hD, hS, hl, hq⟩ := hI
    refine lv_iload_n hx hb dX4_quiet_20 rfl (lv_at hl 3 rfl) ?_
    refine lv_bipush (v := 10) hx hb dX4_quiet_21 (by decide) ?_
    refine lv_icmp_ge (tgt := 66) hx hb dX4_quiet_23 (by decide) (fun c => absurd c (nI_ge (a := i) (b := 10) hki (by decide))) (fun _ => ?_)
    refine lv_iload_n hx hb dX4_quiet_26 rfl (lv_at hl 2 rfl) ?_
    refine lv_iconst (v := (-1)) hx hb dX4_quiet_27 (by decide) ?_
    refine lv_icmp_ne (tgt := 66) hx hb dX4_quiet_28 (by decide) (fun c_3 => ?_) (fun c_3 => ?_)
    · refine lv_iload_n hx hb dX4_quiet_66 rfl (lv_at hl 2 rfl) ?_
      have hP9 := hP
      have hD9 := hD
      exact W.iret (v := lz) hx hb hr (fun t ht hW => ⟨⟨lz, (), rfl, ((hq.resolve_left (fun z => c_3 z.1)).2.symm), by rw [ht]; exact hP9, va_K.moved hW.alike hK, hD9⟩, hS.F ht⟩) hS.2.2 dX4_quiet_67
    · refine lv_aload_n hx hb dX4_quiet_31 rfl (lv_at hl 0 rfl) ?_
      refine va_get (D := D) (ci := 4) (v := .ref (μ 4)) (C := RX4) (T := TX4) (N := 8) hx hb hts hinX4 hown hK hP 0 rfl rfl 6 (by decide) hf19 (fun _ h9 => h9) rfl dX4_quiet_32 ?_
      refine lv_iconst (v := 1) hx hb dX4_quiet_35 (by decide) ?_
      refine lv_iload_n hx hb dX4_quiet_36 rfl (lv_at hl 3 rfl) ?_
      refine zk_st hx hb hK hP hD hS 4 0 rfl rfl (k := 1) (by omega) (by decide) (zwm_0 cI μ 0 σ (zenc σ) (by decide) _) dX4_quiet_37 (fun H locs hP hD hS => ?_)
      have hP : va_P D vwCl (zw_M cI μ 0 (zs σ 0 1 (nI i)) (zenc σ)) H := hP
      have hD : va_D A (zw_M cI μ 0 (zs σ 0 1 (nI i)) (zenc σ)) := hD
      refine lv_aload_n hx hb dX4_quiet_38 rfl (lv_at hl 0 rfl) ?_
      refine lv_bipush (v := 48) hx hb dX4_quiet_39 (by decide) ?_
      have hF := zfree hD hS hA
      refine zk_V (va_runV (As := [.int (nI 48)]) (rest := []) ⟨hx, hb, hml, hown, hts⟩ (c_X4_hoursOn l D cI μ 0 (zs σ 0 1 (nI i)) (zenc σ) (n := 48) (hI.bell (nI i)) (by omega) _) (cwV 1 hts gX4_quiet_X4_hoursOn rfl rfl rfl zdX4_hoursOn ⟨Nat.le_of_ble_eq_true rfl, Nat.le_of_ble_eq_true rfl⟩) ⟨zbl _, va_recv hK hP (ci := 4) (q0 := 0) rfl rfl, zpr hK hP hD⟩ rfl rfl hl.1 rfl (lv_room (Nat.le_of_ble_eq_true rfl)) dX4_quiet_41 ⟨Nat.zero_le _, Nat.zero_le _⟩) hS hF (fun H locs hkp hP1 hD1 hS => ?_)
      have hP := hP1
      have hD := hD1.weaken (fun _ _ _ z => hF _ z)
      have hP : va_P D vwCl (zw_M cI μ 0 (f_hours (zs σ 0 1 (nI i)) nb ns h 48) (zenc σ)) H := hP
      have hD : va_D A (zw_M cI μ 0 (f_hours (zs σ 0 1 (nI i)) nb ns h 48) (zenc σ)) := hD
      have hC9 := (hC.bell (nI i)).hours 48 (by omega)
      refine lv_aload_n hx hb dX4_quiet_44 rfl (lv_at hl 0 rfl) ?_
      refine lv_bipush (v := 7) hx hb dX4_quiet_45 (by decide) ?_
      refine zk_R (D := D) (va_runV (As := [.int 7]) (rest := []) ⟨hx, hb, hml, hown, hts⟩ (c_X4_sum l D cI μ 0 (f_hours (zs σ 0 1 (nI i)) nb ns h 48) (zenc σ) (w := 7) hC9 (by decide) _) (cwV 1 hts gX4_quiet_X4_sum rfl rfl rfl zdX4_sum ⟨Nat.le_of_ble_eq_true rfl, Nat.le_of_ble_eq_true rfl⟩) ⟨zbl _, va_recv hK hP (ci := 4) (q0 := 0) rfl rfl, zpr hK hP hD⟩ rfl rfl hl.1 rfl (lv_room (Nat.le_of_ble_eq_true rfl)) dX4_quiet_47 ⟨Nat.zero_le _, Nat.zero_le _⟩) hS (fun r_4 H locs hw hkp hS => ?_)
      have hP := hkp _ hP
      have hw : r_4 = f_sum ((f_hours (zs σ 0 1 (nI i)) nb ns h 48) 15) ns := hw
      subst hw
      refine lv_iload_n hx hb dX4_quiet_50 rfl (lv_at hl 1 rfl) ?_
      refine lv_icmp_ne (tgt := 56) hx hb dX4_quiet_51 (by decide) (fun c_5 => ?_) (fun c_5 => ?_)
      · refine lv_aload_n hx hb dX4_quiet_56 rfl (lv_at hl 0 rfl) ?_
        have hF := zfree hD hS hA
        refine zk_V (va_runV (As := []) (rest := []) ⟨hx, hb, hml, hown, hts⟩ (c_X4_bringBack l D cI μ 0 (f_hours (zs σ 0 1 (nI i)) nb ns h 48) σ (rw_hours (Or.inl rfl) (zs σ 0 1 (nI i)) nb ns h 48) (rw_hours (Or.inr (Or.inl rfl)) (zs σ 0 1 (nI i)) nb ns h 48) (rw_hours (Or.inr (Or.inr rfl)) (zs σ 0 1 (nI i)) nb ns h 48) (rw_hours0 (zs σ 0 1 (nI i)) nb ns h (by decide) 48) (rw_hours0 (zs σ 0 1 (nI i)) nb ns h (by decide) 48) _) (cwV 0 hts gX4_quiet_X4_bringBack rfl rfl rfl zdX4_bringBack ⟨Nat.le_of_ble_eq_true rfl, Nat.le_of_ble_eq_true rfl⟩) ⟨zbl _, va_recv hK hP (ci := 4) (q0 := 0) rfl rfl, zpr hK hP hD⟩ rfl rfl hl.1 rfl (lv_room (Nat.le_of_ble_eq_true rfl)) dX4_quiet_57 ⟨Nat.zero_le _, Nat.zero_le _⟩) hS hF (fun H locs hkp hP1 hD1 hS => ?_)
        have hP := hP1
        have hD := hD1.weaken (fun _ _ _ z => hF _ z)
        have hP : va_P D vwCl (zw_M cI μ 0 σ (zenc σ)) H := hP
        have hD : va_D A (zw_M cI μ 0 σ (zenc σ)) := hD
        refine lv_iinc (v := nI (i + 1)) (lv' := [(3, .int (nI (i + 1))), (0, .ref (μ 0)), (1, .int (f_sum (σ 15) ns)), (2, .int lz)]) hx hb dX4_quiet_60 hl (k := 3) rfl (nI_1 i) (by decide) rfl (fun ls hl => ?_)
        refine lv_goto (tgt := 20) hx hb dX4_quiet_63 (by decide) ?_
        have he := (hq.resolve_right (fun z => z.1 c_3)).2
        have hq2 : (lz = -1 ∧ q_find (q_qui σ nb ns h) (f_sum (σ 15) ns) 0 10 = q_find (q_qui σ nb ns h) (f_sum (σ 15) ns) (i + 1) (10 - (i + 1))) ∨ (¬ lz = -1 ∧ q_find (q_qui σ nb ns h) (f_sum (σ 15) ns) 0 10 = lz) := Or.inl ⟨c_3, by rw [he, show 10 - i = (10 - (i + 1)) + 1 by omega, q_find, if_neg (show ¬ q_qui σ nb ns h i = f_sum (σ 15) ns from c_5)]⟩
        exact ih _ _ _ ⟨_, hP, hD, hS, lv_sub hl [1, 2, 3, 0] rfl, hq2⟩
      · refine lv_iload_n hx hb dX4_quiet_54 rfl (lv_at hl 3 rfl) ?_
        refine lv_istore_n (lv' := [(2, .int (nI i)), (0, .ref (μ 0)), (1, .int (f_sum (σ 15) ns)), (3, .int (nI i))]) hx hb dX4_quiet_55 rfl hl (by decide) rfl (fun ls hl => ?_)
        refine lv_aload_n hx hb dX4_quiet_56 rfl (lv_at hl 1 rfl) ?_
        have hF := zfree hD hS hA
        refine zk_V (va_runV (As := []) (rest := []) ⟨hx, hb, hml, hown, hts⟩ (c_X4_bringBack l D cI μ 0 (f_hours (zs σ 0 1 (nI i)) nb ns h 48) σ (rw_hours (Or.inl rfl) (zs σ 0 1 (nI i)) nb ns h 48) (rw_hours (Or.inr (Or.inl rfl)) (zs σ 0 1 (nI i)) nb ns h 48) (rw_hours (Or.inr (Or.inr rfl)) (zs σ 0 1 (nI i)) nb ns h 48) (rw_hours0 (zs σ 0 1 (nI i)) nb ns h (by decide) 48) (rw_hours0 (zs σ 0 1 (nI i)) nb ns h (by decide) 48) _) (cwV 0 hts gX4_quiet_X4_bringBack rfl rfl rfl zdX4_bringBack ⟨Nat.le_of_ble_eq_true rfl, Nat.le_of_ble_eq_true rfl⟩) ⟨zbl _, va_recv hK hP (ci := 4) (q0 := 0) rfl rfl, zpr hK hP hD⟩ rfl rfl hl.1 rfl (lv_room (Nat.le_of_ble_eq_true rfl)) dX4_quiet_57 ⟨Nat.zero_le _, Nat.zero_le _⟩) hS hF (fun H locs hkp hP1 hD1 hS => ?_)
        have hP := hP1
        have hD := hD1.weaken (fun _ _ _ z => hF _ z)
        have hP : va_P D vwCl (zw_M cI μ 0 σ (zenc σ)) H := hP
        have hD : va_D A (zw_M cI μ 0 σ (zenc σ)) := hD
        refine lv_iinc (v := nI (i + 1)) (lv' := [(3, .int (nI (i + 1))), (2, .int (nI i)), (0, .ref (μ 0)), (1, .int (f_sum (σ 15) ns))]) hx hb dX4_quiet_60 hl (k := 3) rfl (nI_1 i) (by decide) rfl (fun ls hl => ?_)
        refine lv_goto (tgt := 20) hx hb dX4_quiet_63 (by decide) ?_
        have he := (hq.resolve_right (fun z => z.1 c_3)).2
        have hq2 : (nI i = -1 ∧ q_find (q_qui σ nb ns h) (f_sum (σ 15) ns) 0 10 = q_find (q_qui σ nb ns h) (f_sum (σ 15) ns) (i + 1) (10 - (i + 1))) ∨ (¬ nI i = -1 ∧ q_find (q_qui σ nb ns h) (f_sum (σ 15) ns) 0 10 = nI i) := Or.inr ⟨zn_m1 (by omega), by rw [he, show 10 - i = (10 - (i + 1)) + 1 by omega, q_find, if_pos (show q_qui σ nb ns h i = f_sum (σ 15) ns from c_5)]⟩
        exact ih _ _ _ ⟨_, hP, hD, hS, lv_sub hl [2, 3, 1, 0] rfl, hq2⟩
  · obtain ⟨lz, hP, hD, hS, hl, hq⟩ := hI
    refine lv_iload_n hx hb dX4_quiet_20 rfl (lv_at hl 3 rfl) ?_
    refine lv_bipush (v := 10) hx hb dX4_quiet_21 (by decide) ?_
    refine lv_icmp_ge (tgt := 66) hx hb dX4_quiet_23 (by decide) (fun _ => ?_) (fun c => absurd (by decide) c)
    refine lv_iload_n hx hb dX4_quiet_66 rfl (lv_at hl 2 rfl) ?_
    have e8 : lz = q_find (q_qui σ nb ns h) (f_sum (σ 15) ns) 0 10 := by
      rcases hq with ⟨z1, z2⟩ | ⟨-, z2⟩
      · rw [z1, z2]; rfl
      · exact z2.symm
    have hP9 := hP
    have hD9 := hD
    exact W.iret (v := lz) hx hb hr (fun t ht hW => ⟨⟨lz, (), rfl, e8, by rw [ht]; exact hP9, va_K.moved hW.alike hK, hD9⟩, hS.F ht⟩) hS.2.2 dX4_quiet_67

set_option maxHeartbeats 4000000 in
set_option maxRecDepth 100000 in
theorem c_X4_advise (l : Launch) (D : va_G) (cI : ClassId) (μ : Nat → Nat) (th : Int32) (σ : zS) (κ : Nat → Int32) {k : Nat} {nb ns h : Nat} (hI : zI σ nb ns h) (hk : k < ns) (hup : σ 12 k = 0) (hn : h + 48 < 2 ^ 30) : zMI l yX4_advise wsX4_advise ({ frames := 6, cells := 0, slots := 0, locals := 132 }) [.ref (μ 0), .int (nI k)] D [(cI, .int)] (zw_M cI μ th σ (κ)) (zw_M cI μ 0 σ (zenc σ)) (fun r => r = (q_adv (q_wat σ nb ns h k) 3).1) := by
  intro sz
  refine Met.ofW (cc := cX4_advise) (maxL := 6) (ret := (some .int)) (by decide) rfl ?_
  intro p e s m args below meth c s₁ B hml hv
  obtain ⟨rfl, hsz, hP, hK, hD⟩ := hv
  have hx := B.exec
  have hb := B.bytes
  have hr := B.returns
  have hts := atoms_spec (ws := wsX4_advise) B.pre
  have hown : s.vm.findClass RX4 = some m.cls := findClass_of_methodNamed B.named
  have hlocks := B.notSynchronized
  subst hsz
  have hD := hD.self (sz := s.heap.size)
  generalize hAe : va_A (zw_M cI μ th σ (κ)) s.heap.size = A at hD ⊢
  have hA : ∀ q : Nat, s.heap.size ≤ q → A q := fun q h => by rw [← hAe]; exact Or.inr h
  have hS : va_S A s.heap s.heap [] := va_S.rf
  have hP : va_P D vwCl (zw_M cI μ th σ (κ)) s.heap := hP
  have hl := lv_entry ([.ref (μ 0), .int (nI k)]) (n := 6) (Nat.le_of_ble_eq_true rfl)
  rw [lg_entry_eq]
  generalize (lg_sl ([.ref (μ 0), .int (nI k)]) ++ List.replicate (6 - (lg_sl ([.ref (μ 0), .int (nI k)])).length) Slot.unset).toArray = ls at hl ⊢
  have hl : lv_has ls 6 [(0, .ref (μ 0)), (1, .int (nI k))] := hl
  have hf25 := hts (.fieldLink RX4 25 "HotBedsModel" "thrown" "I") (by decide +kernel)
  have hinX4 : ∀ w ∈ u_ws RX4 TX4 8, w ∈ wsX4_advise := by decide +kernel
  have hC := hI.1
  have hs := hI.2 k hk
  have hnb := hC.2.1
  have hns := hC.2.2.2.1
  have hh := hC.2.2.2.2.2.1
  refine lv_aload_n hx hb dX4_advise_0 rfl (lv_at hl 0 rfl) ?_
  refine lv_iconst (v := 0) hx hb dX4_advise_1 (by decide) ?_
  refine va_put (D := D) (ci := 4) (v := .int 0) (ty := .int) (C := RX4) (T := TX4) (N := 8) hx hb hts hinX4 tyX4 tyX4_ok nmX4 hown hK hP hD hS 0 rfl rfl 0 (by decide) hf25 (fun _ h9 => h9)  rfl (by decide +kernel) rfl rfl (Nat.le_of_ble_eq_true rfl) dX4_advise_2 (fun H locs hP hD hS => ?_)
  have hP : va_P D vwCl (zw_M cI μ 0 σ (κ)) H := hP
  have hD : va_D A (zw_M cI μ 0 σ (κ)) := hD
  refine lv_aload_n hx hb dX4_advise_5 rfl (lv_at hl 0 rfl) ?_
  refine lv_iload_n hx hb dX4_advise_6 rfl (lv_at hl 1 rfl) ?_
  refine zk_R (D := D) (va_runV (As := [.int (nI k)]) (rest := []) ⟨hx, hb, hml, hown, hts⟩ (c_X4_isSailor l D cI μ 0 σ (κ) (nI k) hC _) (cwV 1 hts gX4_advise_X4_isSailor rfl rfl rfl zdX4_isSailor ⟨Nat.le_of_ble_eq_true rfl, Nat.le_of_ble_eq_true rfl⟩) ⟨zbl _, va_recv hK hP (ci := 4) (q0 := 0) rfl rfl, zpr hK hP hD⟩ rfl rfl hl.1 rfl (lv_room (Nat.le_of_ble_eq_true rfl)) dX4_advise_7 ⟨Nat.zero_le _, Nat.zero_le _⟩) hS (fun r_1 H locs hw hkp hS => ?_)
  have hP := hkp _ hP
  have hw : zb (f_sail σ (nI k)) r_1 := hw
  rcases hw with ⟨c_2, rfl⟩ | ⟨c_2, rfl⟩
  · refine lv_if_ne (tgt := 19) hx hb dX4_advise_10 (by decide) (fun _ => ?_) (fun c => absurd c (by decide))
    refine lv_aload_n hx hb dX4_advise_19 rfl (lv_at hl 0 rfl) ?_
    refine lv_iload_n hx hb dX4_advise_20 rfl (lv_at hl 1 rfl) ?_
    refine lv_iconst (v := 4) hx hb dX4_advise_21 (by decide) ?_
    refine zk_R (D := D) (va_runV (As := [.int (nI k), .int 4]) (rest := []) ⟨hx, hb, hml, hown, hts⟩ (c_X4_sa l D cI μ 0 σ (κ) (k := k) (w := 4) (by omega) (by decide) _) (cwV 2 hts gX4_advise_X4_sa rfl rfl rfl zdX4_sa ⟨Nat.le_of_ble_eq_true rfl, Nat.le_of_ble_eq_true rfl⟩) ⟨zbl _, va_recv hK hP (ci := 4) (q0 := 0) rfl rfl, zpr hK hP hD⟩ rfl rfl hl.1 rfl (lv_room (Nat.le_of_ble_eq_true rfl)) dX4_advise_22 ⟨Nat.zero_le _, Nat.zero_le _⟩) hS (fun r_4 H locs hw hkp hS => ?_)
    have hP := hkp _ hP
    have hw : r_4 = σ 12 k := hw
    subst hw
    refine lv_if_eq (tgt := 34) hx hb dX4_advise_25 (by decide) (fun _ => ?_) (fun c => absurd (hup) c)
    refine lv_aload_n hx hb dX4_advise_34 rfl (lv_at hl 0 rfl) ?_
    have hF := zfree hD hS hA
    refine zk_V (va_runV (As := []) (rest := []) ⟨hx, hb, hml, hown, hts⟩ (c_X4_keep l D cI μ 0 σ (κ) _) (cwV 0 hts gX4_advise_X4_keep rfl rfl rfl zdX4_keep ⟨Nat.le_of_ble_eq_true rfl, Nat.le_of_ble_eq_true rfl⟩) ⟨zbl _, va_recv hK hP (ci := 4) (q0 := 0) rfl rfl, zpr hK hP hD⟩ rfl rfl hl.1 rfl (lv_room (Nat.le_of_ble_eq_true rfl)) dX4_advise_35 ⟨Nat.zero_le _, Nat.zero_le _⟩) hS hF (fun H locs hkp hP1 hD1 hS => ?_)
    have hP := hP1
    have hD := hD1.weaken (fun _ _ _ z => hF _ z)
    have hP : va_P D vwCl (zw_M cI μ 0 σ (zenc σ)) H := hP
    have hD : va_D A (zw_M cI μ 0 σ (zenc σ)) := hD
    refine lv_iconst (v := (-1)) hx hb dX4_advise_38 (by decide) ?_
    refine lv_istore_n (lv' := [(2, .int (-1)), (0, .ref (μ 0)), (1, .int (nI k))]) hx hb dX4_advise_39 rfl hl (by decide) rfl (fun ls hl => ?_)
    refine lv_iconst (v := (-1)) hx hb dX4_advise_40 (by decide) ?_
    refine lv_istore_n (lv' := [(3, .int (-1)), (2, .int (-1)), (0, .ref (μ 0)), (1, .int (nI k))]) hx hb dX4_advise_41 rfl hl (by decide) rfl (fun ls hl => ?_)
    refine lv_iconst (v := 0) hx hb dX4_advise_42 (by decide) ?_
    refine lv_istore (lv' := [(4, .int 0), (3, .int (-1)), (2, .int (-1)), (0, .ref (μ 0)), (1, .int (nI k))]) hx hb dX4_advise_43 hl (by decide) rfl (fun ls hl => ?_)
    refine zk_loop (pc := 45) (fun i H locs ls => va_P D vwCl (zw_M cI μ 0 σ (zenc σ)) H ∧ va_D A (zw_M cI μ 0 σ (zenc σ)) ∧ va_S A s.heap H locs ∧ lv_has ls 6 [(0, .ref (μ 0)), (1, .int (nI k)), (2, .int ((q_adm (q_wat σ nb ns h k) i).1)), (3, .int ((q_adm (q_wat σ nb ns h k) i).2)), (4, .int (nI i))]) 3 (fun i hki ih H locs ls hI => ?_) (fun H locs ls hI => ?_) _ _ _ ⟨hP, hD, hS, lv_sub hl [3, 4, 2, 1, 0] rfl⟩
    · obtain ⟨hP, hD, hS, hl⟩ := hI
      refine lv_iload hx hb dX4_advise_45 (lv_at hl 4 rfl) ?_
      refine lv_iconst (v := 3) hx hb dX4_advise_47 (by decide) ?_
      refine lv_icmp_ge (tgt := 99) hx hb dX4_advise_48 (by decide) (fun c => absurd c (nI_ge (a := i) (b := 3) hki (by decide))) (fun _ => ?_)
      refine lv_aload_n hx hb dX4_advise_51 rfl (lv_at hl 0 rfl) ?_
      refine lv_iload_n hx hb dX4_advise_52 rfl (lv_at hl 1 rfl) ?_
      refine lv_iconst (v := 0) hx hb dX4_advise_53 (by decide) ?_
      refine lv_iload hx hb dX4_advise_54 (lv_at hl 4 rfl) ?_
      have hF := zfree hD hS hA
      refine zk_V (va_runV (As := [.int (nI k), .int 0, .int (nI i)]) (rest := []) ⟨hx, hb, hml, hown, hts⟩ (c_X4_let l D cI μ 0 σ (zenc σ) (k := k) (w := 0) (by omega) (by decide) (nI i) _) (cwV 3 hts gX4_advise_X4_let rfl rfl rfl zdX4_let ⟨Nat.le_of_ble_eq_true rfl, Nat.le_of_ble_eq_true rfl⟩) ⟨zbl _, va_recv hK hP (ci := 4) (q0 := 0) rfl rfl, zpr hK hP hD⟩ rfl rfl hl.1 rfl (lv_room (Nat.le_of_ble_eq_true rfl)) dX4_advise_56 ⟨Nat.zero_le _, Nat.zero_le _⟩) hS hF (fun H locs hkp hP1 hD1 hS => ?_)
      have hP := hP1
      have hD := hD1.weaken (fun _ _ _ z => hF _ z)
      have hP : va_P D vwCl (zw_M cI μ 0 (zs σ 6 k (nI i)) (zenc σ)) H := hP
      have hD : va_D A (zw_M cI μ 0 (zs σ 6 k (nI i)) (zenc σ)) := hD
      refine lv_aload_n hx hb dX4_advise_59 rfl (lv_at hl 0 rfl) ?_
      refine lv_bipush (v := 48) hx hb dX4_advise_60 (by decide) ?_
      have hF := zfree hD hS hA
      refine zk_V (va_runV (As := [.int (nI 48)]) (rest := []) ⟨hx, hb, hml, hown, hts⟩ (c_X4_hoursOn l D cI μ 0 (zs σ 6 k (nI i)) (zenc σ) (n := 48) (hI.wat k hki) (by omega) _) (cwV 1 hts gX4_advise_X4_hoursOn rfl rfl rfl zdX4_hoursOn ⟨Nat.le_of_ble_eq_true rfl, Nat.le_of_ble_eq_true rfl⟩) ⟨zbl _, va_recv hK hP (ci := 4) (q0 := 0) rfl rfl, zpr hK hP hD⟩ rfl rfl hl.1 rfl (lv_room (Nat.le_of_ble_eq_true rfl)) dX4_advise_62 ⟨Nat.zero_le _, Nat.zero_le _⟩) hS hF (fun H locs hkp hP1 hD1 hS => ?_)
      have hP := hP1
      have hD := hD1.weaken (fun _ _ _ z => hF _ z)
      have hP : va_P D vwCl (zw_M cI μ 0 (f_hours (zs σ 6 k (nI i)) nb ns h 48) (zenc σ)) H := hP
      have hD : va_D A (zw_M cI μ 0 (f_hours (zs σ 6 k (nI i)) nb ns h 48) (zenc σ)) := hD
      refine lv_aload_n hx hb dX4_advise_65 rfl (lv_at hl 0 rfl) ?_
      refine lv_iload_n hx hb dX4_advise_66 rfl (lv_at hl 1 rfl) ?_
      refine lv_bipush (v := 6) hx hb dX4_advise_67 (by decide) ?_
      refine zk_R (D := D) (va_runV (As := [.int (nI k), .int 6]) (rest := []) ⟨hx, hb, hml, hown, hts⟩ (c_X4_sa l D cI μ 0 (f_hours (zs σ 6 k (nI i)) nb ns h 48) (zenc σ) (k := k) (w := 6) (by omega) (by decide) _) (cwV 2 hts gX4_advise_X4_sa rfl rfl rfl zdX4_sa ⟨Nat.le_of_ble_eq_true rfl, Nat.le_of_ble_eq_true rfl⟩) ⟨zbl _, va_recv hK hP (ci := 4) (q0 := 0) rfl rfl, zpr hK hP hD⟩ rfl rfl hl.1 rfl (lv_room (Nat.le_of_ble_eq_true rfl)) dX4_advise_69 ⟨Nat.zero_le _, Nat.zero_le _⟩) hS (fun r_7 H locs hw hkp hS => ?_)
      have hP := hkp _ hP
      have hw : r_7 = (f_hours (zs σ 6 k (nI i)) nb ns h 48) 14 k := hw
      subst hw
      refine lv_istore (lv' := [(5, .int ((f_hours (zs σ 6 k (nI i)) nb ns h 48) 14 k)), (0, .ref (μ 0)), (1, .int (nI k)), (2, .int ((q_adm (q_wat σ nb ns h k) i).1)), (3, .int ((q_adm (q_wat σ nb ns h k) i).2)), (4, .int (nI i))]) hx hb dX4_advise_72 hl (by decide) rfl (fun ls hl => ?_)
      refine lv_aload_n hx hb dX4_advise_74 rfl (lv_at hl 1 rfl) ?_
      have hF := zfree hD hS hA
      refine zk_V (va_runV (As := []) (rest := []) ⟨hx, hb, hml, hown, hts⟩ (c_X4_bringBack l D cI μ 0 (f_hours (zs σ 6 k (nI i)) nb ns h 48) σ (rw_hours (Or.inl rfl) (zs σ 6 k (nI i)) nb ns h 48) (rw_hours (Or.inr (Or.inl rfl)) (zs σ 6 k (nI i)) nb ns h 48) (rw_hours (Or.inr (Or.inr rfl)) (zs σ 6 k (nI i)) nb ns h 48) (rw_hours0 (zs σ 6 k (nI i)) nb ns h (by decide) 48) (rw_hours0 (zs σ 6 k (nI i)) nb ns h (by decide) 48) _) (cwV 0 hts gX4_advise_X4_bringBack rfl rfl rfl zdX4_bringBack ⟨Nat.le_of_ble_eq_true rfl, Nat.le_of_ble_eq_true rfl⟩) ⟨zbl _, va_recv hK hP (ci := 4) (q0 := 0) rfl rfl, zpr hK hP hD⟩ rfl rfl hl.1 rfl (lv_room (Nat.le_of_ble_eq_true rfl)) dX4_advise_75 ⟨Nat.zero_le _, Nat.zero_le _⟩) hS hF (fun H locs hkp hP1 hD1 hS => ?_)
      have hP := hP1
      have hD := hD1.weaken (fun _ _ _ z => hF _ z)
      have hP : va_P D vwCl (zw_M cI μ 0 σ (zenc σ)) H := hP
      have hD : va_D A (zw_M cI μ 0 σ (zenc σ)) := hD
      refine lv_iload hx hb dX4_advise_78 (lv_at hl 0 rfl) ?_
      refine lv_iload_n hx hb dX4_advise_80 rfl (lv_at hl 4 rfl) ?_
      refine lv_icmp_gt (tgt := 87) hx hb dX4_advise_81 (by decide) (fun c_8 => ?_) (fun c_8 => ?_)
      · refine lv_iload hx hb dX4_advise_87 (lv_at hl 5 rfl) ?_
        refine lv_istore_n (lv' := [(2, .int (nI i)), (5, .int ((f_hours (zs σ 6 k (nI i)) nb ns h 48) 14 k)), (0, .ref (μ 0)), (1, .int (nI k)), (3, .int ((q_adm (q_wat σ nb ns h k) i).2)), (4, .int (nI i))]) hx hb dX4_advise_89 rfl hl (by decide) rfl (fun ls hl => ?_)
        refine lv_iload hx hb dX4_advise_90 (lv_at hl 1 rfl) ?_
        refine lv_istore_n (lv' := [(3, .int ((f_hours (zs σ 6 k (nI i)) nb ns h 48) 14 k)), (2, .int (nI i)), (5, .int ((f_hours (zs σ 6 k (nI i)) nb ns h 48) 14 k)), (0, .ref (μ 0)), (1, .int (nI k)), (4, .int (nI i))]) hx hb dX4_advise_92 rfl hl (by decide) rfl (fun ls hl => ?_)
        refine lv_iinc (v := nI (i + 1)) (lv' := [(4, .int (nI (i + 1))), (3, .int ((f_hours (zs σ 6 k (nI i)) nb ns h 48) 14 k)), (2, .int (nI i)), (5, .int ((f_hours (zs σ 6 k (nI i)) nb ns h 48) 14 k)), (0, .ref (μ 0)), (1, .int (nI k))]) hx hb dX4_advise_93 hl (k := 5) rfl (nI_1 i) (by decide) rfl (fun ls hl => ?_)
        refine lv_goto (tgt := 45) hx hb dX4_advise_96 (by decide) ?_
        have e1 : q_adm (q_wat σ nb ns h k) (i + 1) = (nI i, q_wat σ nb ns h k i) := if_neg (Int32.not_le.mpr c_8)
        exact ih _ _ _ ⟨hP, hD, hS, by rw [e1]; exact lv_sub hl [4, 5, 2, 1, 0] rfl⟩
      · refine lv_goto (tgt := 93) hx hb dX4_advise_84 (by decide) ?_
        refine lv_iinc (v := nI (i + 1)) (lv' := [(4, .int (nI (i + 1))), (5, .int ((f_hours (zs σ 6 k (nI i)) nb ns h 48) 14 k)), (0, .ref (μ 0)), (1, .int (nI k)), (2, .int ((q_adm (q_wat σ nb ns h k) i).1)), (3, .int ((q_adm (q_wat σ nb ns h k) i).2))]) hx hb dX4_advise_93 hl (k := 5) rfl (nI_1 i) (by decide) rfl (fun ls hl => ?_)
        refine lv_goto (tgt := 45) hx hb dX4_advise_96 (by decide) ?_
        have e1 : q_adm (q_wat σ nb ns h k) (i + 1) = q_adm (q_wat σ nb ns h k) i := if_pos (Int32.not_lt.mp c_8)
        exact ih _ _ _ ⟨hP, hD, hS, by rw [e1]; exact lv_sub hl [2, 3, 4, 5, 0] rfl⟩
    · obtain ⟨hP, hD, hS, hl⟩ := hI
      refine lv_iload hx hb dX4_advise_45 (lv_at hl 4 rfl) ?_
      refine lv_iconst (v := 3) hx hb dX4_advise_47 (by decide) ?_
      refine lv_icmp_ge (tgt := 99) hx hb dX4_advise_48 (by decide) (fun _ => ?_) (fun c => absurd (by decide) c)
      refine lv_iload_n hx hb dX4_advise_99 rfl (lv_at hl 2 rfl) ?_
      have hP9 := hP
      have hD9 := hD
      exact W.iret (v := (q_adm (q_wat σ nb ns h k) 3).1) hx hb hr (fun t ht hW => ⟨⟨(q_adm (q_wat σ nb ns h k) 3).1, (), rfl, (by rw [q_adm_eq (zwat0 hI hk hn) 2]), by rw [ht]; exact hP9, va_K.moved hW.alike hK, hD9⟩, hS.F ht⟩) hS.2.2 dX4_advise_100
  · exact absurd (zsail_k hC hk) c_2

set_option maxHeartbeats 4000000 in
set_option maxRecDepth 100000 in
theorem c_X4_digest (l : Launch) (D : va_G) (cI : ClassId) (μ : Nat → Nat) (th : Int32) (σ : zS) (κ : Nat → Int32) {nb ns h : Nat} (hC : zC σ nb ns h) : zMIl l yX4_digest wsX4_digest ({ frames := 3, cells := 0, slots := 0, locals := 66 }) [.ref (μ 0)] D [(cI, .int)] (zw_M cI μ th σ (κ)) (zw_M cI μ 0 σ (κ)) (fun r => r = q_dig σ nb ns h) := by
  intro sz
  refine Met.ofW (cc := cX4_digest) (maxL := 5) (ret := (some .long)) (by decide) rfl ?_
  intro p e s m args below meth c s₁ B hml hv
  obtain ⟨rfl, hsz, hP, hK, hD⟩ := hv
  have hx := B.exec
  have hb := B.bytes
  have hr := B.returns
  have hts := atoms_spec (ws := wsX4_digest) B.pre
  have hown : s.vm.findClass RX4 = some m.cls := findClass_of_methodNamed B.named
  have hlocks := B.notSynchronized
  subst hsz
  have hD := hD.self (sz := s.heap.size)
  generalize hAe : va_A (zw_M cI μ th σ (κ)) s.heap.size = A at hD ⊢
  have hA : ∀ q : Nat, s.heap.size ≤ q → A q := fun q h => by rw [← hAe]; exact Or.inr h
  have hS : va_S A s.heap s.heap [] := va_S.rf
  have hP : va_P D vwCl (zw_M cI μ th σ (κ)) s.heap := hP
  have hl := lv_entry ([.ref (μ 0)]) (n := 5) (Nat.le_of_ble_eq_true rfl)
  rw [lg_entry_eq]
  generalize (lg_sl ([.ref (μ 0)]) ++ List.replicate (5 - (lg_sl ([.ref (μ 0)])).length) Slot.unset).toArray = ls at hl ⊢
  have hl : lv_has ls 5 [(0, .ref (μ 0))] := hl
  have hf25 := hts (.fieldLink RX4 25 "HotBedsModel" "thrown" "I") (by decide +kernel)
  have hf29 := hts (.fieldLink RX4 29 "HotBedsModel" "beds" "I") (by decide +kernel)
  have hf36 := hts (.fieldLink RX4 36 "HotBedsModel" "sailors" "I") (by decide +kernel)
  have hinX4 : ∀ w ∈ u_ws RX4 TX4 8, w ∈ wsX4_digest := by decide +kernel
  have hcl147 := hts (.constantLong RX4 147 1783) (by decide +kernel)
  have hcl149 := hts (.constantLong RX4 149 31) (by decide +kernel)
  have hnb := hC.2.1
  have hns := hC.2.2.2.1
  have hh := hC.2.2.2.2.2.1
  refine lv_aload_n hx hb dX4_digest_0 rfl (lv_at hl 0 rfl) ?_
  refine lv_iconst (v := 0) hx hb dX4_digest_1 (by decide) ?_
  refine va_put (D := D) (ci := 4) (v := .int 0) (ty := .int) (C := RX4) (T := TX4) (N := 8) hx hb hts hinX4 tyX4 tyX4_ok nmX4 hown hK hP hD hS 0 rfl rfl 0 (by decide) hf25 (fun _ h9 => h9)  rfl (by decide +kernel) rfl rfl (Nat.le_of_ble_eq_true rfl) dX4_digest_2 (fun H locs hP hD hS => ?_)
  have hP : va_P D vwCl (zw_M cI μ 0 σ (κ)) H := hP
  have hD : va_D A (zw_M cI μ 0 σ (κ)) := hD
  refine lv_ldc2 hx hb hown hcl147 dX4_digest_5 ?_
  refine lv_lstore_n (lv' := [(1, .long 1783), (0, .ref (μ 0))]) hx hb dX4_digest_8 rfl hl (by decide) rfl (fun ls hl => ?_)
  refine lv_iconst (v := 0) hx hb dX4_digest_9 (by decide) ?_
  refine lv_istore_n (lv' := [(3, .int 0), (1, .long 1783), (0, .ref (μ 0))]) hx hb dX4_digest_10 rfl hl (by decide) rfl (fun ls hl => ?_)
  refine zk_loop (pc := 11) (fun w H locs ls => va_P D vwCl (zw_M cI μ 0 σ (κ)) H ∧ va_D A (zw_M cI μ 0 σ (κ)) ∧ va_S A s.heap H locs ∧ lv_has ls 5 [(0, .ref (μ 0)), (1, .long (q_fold (fun w => q_cnt σ nb ns h w) w 1783)), (3, .int (nI w))]) 10 (fun w hkw ih H locs ls hI => ?_) (fun H locs ls hI => ?_) _ _ _ ⟨hP, hD, hS, lv_sub hl [2, 1, 0] rfl⟩
  · obtain ⟨hP, hD, hS, hl⟩ := hI
    refine lv_iload_n hx hb dX4_digest_11 rfl (lv_at hl 2 rfl) ?_
    refine lv_bipush (v := 10) hx hb dX4_digest_12 (by decide) ?_
    refine lv_icmp_ge (tgt := 36) hx hb dX4_digest_14 (by decide) (fun c => absurd c (nI_ge (a := w) (b := 10) hkw (by decide))) (fun _ => ?_)
    refine lv_lload_n hx hb dX4_digest_17 rfl (lv_at hl 1 rfl) ?_
    refine lv_ldc2 hx hb hown hcl149 dX4_digest_18 ?_
    refine lv_lmul hx hb dX4_digest_21 ?_
    refine lv_aload_n hx hb dX4_digest_22 rfl (lv_at hl 0 rfl) ?_
    refine lv_iload_n hx hb dX4_digest_23 rfl (lv_at hl 2 rfl) ?_
    refine zk_R (D := D) (va_runV (As := [.int (nI w)]) (rest := [.long ((q_fold (fun w => q_cnt σ nb ns h w) w 1783) * 31)]) ⟨hx, hb, hml, hown, hts⟩ (c_X4_counted l D cI μ 0 σ (κ) (w := w) hC (by omega) _) (cwV 1 hts gX4_digest_X4_counted rfl rfl rfl zdX4_counted ⟨Nat.le_of_ble_eq_true rfl, Nat.le_of_ble_eq_true rfl⟩) ⟨zbl _, va_recv hK hP (ci := 4) (q0 := 0) rfl rfl, zpr hK hP hD⟩ rfl rfl hl.1 rfl (lv_room (Nat.le_of_ble_eq_true rfl)) dX4_digest_24 ⟨Nat.zero_le _, Nat.zero_le _⟩) hS (fun r_2 H locs hw hkp hS => ?_)
    have hP := hkp _ hP
    have hw : r_2 = q_cnt σ nb ns h w := hw
    subst hw
    refine lv_i2l hx hb dX4_digest_27 rfl ?_
    refine lv_ladd hx hb dX4_digest_28 ?_
    refine lv_lstore_n (lv' := [(1, .long (((q_fold (fun w => q_cnt σ nb ns h w) w 1783) * 31) + ((q_cnt σ nb ns h w).toInt64))), (0, .ref (μ 0)), (3, .int (nI w))]) hx hb dX4_digest_29 rfl hl (by decide) rfl (fun ls hl => ?_)
    refine lv_iinc (v := nI (w + 1)) (lv' := [(3, .int (nI (w + 1))), (1, .long (((q_fold (fun w => q_cnt σ nb ns h w) w 1783) * 31) + ((q_cnt σ nb ns h w).toInt64))), (0, .ref (μ 0))]) hx hb dX4_digest_30 hl (k := 2) rfl (nI_1 w) (by decide) rfl (fun ls hl => ?_)
    refine lv_goto (tgt := 11) hx hb dX4_digest_33 (by decide) ?_
    exact ih _ _ _ ⟨hP, hD, hS, lv_sub hl [2, 1, 0] rfl⟩
  · obtain ⟨hP, hD, hS, hl⟩ := hI
    refine lv_iload_n hx hb dX4_digest_11 rfl (lv_at hl 2 rfl) ?_
    refine lv_bipush (v := 10) hx hb dX4_digest_12 (by decide) ?_
    refine lv_icmp_ge (tgt := 36) hx hb dX4_digest_14 (by decide) (fun _ => ?_) (fun c => absurd (by decide) c)
    refine lv_iconst (v := 0) hx hb dX4_digest_36 (by decide) ?_
    refine lv_istore_n (lv' := [(3, .int 0), (0, .ref (μ 0)), (1, .long (q_fold (fun w => q_cnt σ nb ns h w) 10 1783))]) hx hb dX4_digest_37 rfl hl (by decide) rfl (fun ls hl => ?_)
    refine zk_loop (pc := 38) (fun k H locs ls => va_P D vwCl (zw_M cI μ 0 σ (κ)) H ∧ va_D A (zw_M cI μ 0 σ (κ)) ∧ va_S A s.heap H locs ∧ lv_has ls 5 [(0, .ref (μ 0)), (1, .long (q_folds (fun b w => σ (w + 1) b) 5 k (q_fold (fun w => q_cnt σ nb ns h w) 10 1783))), (3, .int (nI k))]) nb (fun k hkk ih H locs ls hI => ?_) (fun H locs ls hI => ?_) _ _ _ ⟨hP, hD, hS, lv_sub hl [1, 2, 0] rfl⟩
    · obtain ⟨hP, hD, hS, hl⟩ := hI
      refine lv_iload_n hx hb dX4_digest_38 rfl (lv_at hl 2 rfl) ?_
      refine lv_aload_n hx hb dX4_digest_39 rfl (lv_at hl 0 rfl) ?_
      refine va_get (D := D) (ci := 4) (v := .int (nI nb)) (C := RX4) (T := TX4) (N := 8) hx hb hts hinX4 hown hK hP 0 rfl rfl 1 (by decide) hf29 (fun _ h9 => h9) (congrArg (fun z => some (Value.int z)) hC.1) dX4_digest_40 ?_
      refine lv_icmp_ge (tgt := 82) hx hb dX4_digest_43 (by decide) (fun c => absurd c (nI_ge hkk (by omega))) (fun _ => ?_)
      refine lv_iconst (v := 0) hx hb dX4_digest_46 (by decide) ?_
      refine lv_istore (lv' := [(4, .int 0), (0, .ref (μ 0)), (1, .long (q_folds (fun b w => σ (w + 1) b) 5 k (q_fold (fun w => q_cnt σ nb ns h w) 10 1783))), (3, .int (nI k))]) hx hb dX4_digest_47 hl (by decide) rfl (fun ls hl => ?_)
      refine zk_loop (pc := 49) (fun w H locs ls => va_P D vwCl (zw_M cI μ 0 σ (κ)) H ∧ va_D A (zw_M cI μ 0 σ (κ)) ∧ va_S A s.heap H locs ∧ lv_has ls 5 [(0, .ref (μ 0)), (1, .long (q_fold (fun w => σ (w + 1) k) w (q_folds (fun b w => σ (w + 1) b) 5 k (q_fold (fun w => q_cnt σ nb ns h w) 10 1783)))), (3, .int (nI k)), (4, .int (nI w))]) 5 (fun w hkw ih H locs ls hI => ?_) (fun H locs ls hI => ?_) _ _ _ ⟨hP, hD, hS, lv_sub hl [1, 2, 3, 0] rfl⟩
      · obtain ⟨hP, hD, hS, hl⟩ := hI
        refine lv_iload hx hb dX4_digest_49 (lv_at hl 3 rfl) ?_
        refine lv_iconst (v := 5) hx hb dX4_digest_51 (by decide) ?_
        refine lv_icmp_ge (tgt := 76) hx hb dX4_digest_52 (by decide) (fun c => absurd c (nI_ge (a := w) (b := 5) hkw (by decide))) (fun _ => ?_)
        refine lv_lload_n hx hb dX4_digest_55 rfl (lv_at hl 1 rfl) ?_
        refine lv_ldc2 hx hb hown hcl149 dX4_digest_56 ?_
        refine lv_lmul hx hb dX4_digest_59 ?_
        refine lv_aload_n hx hb dX4_digest_60 rfl (lv_at hl 0 rfl) ?_
        refine lv_iload_n hx hb dX4_digest_61 rfl (lv_at hl 2 rfl) ?_
        refine lv_iload hx hb dX4_digest_62 (lv_at hl 3 rfl) ?_
        refine zk_R (D := D) (va_runV (As := [.int (nI k), .int (nI w)]) (rest := [.long ((q_fold (fun w => σ (w + 1) k) w (q_folds (fun b w => σ (w + 1) b) 5 k (q_fold (fun w => q_cnt σ nb ns h w) 10 1783))) * 31)]) ⟨hx, hb, hml, hown, hts⟩ (c_X4_bedTold l D cI μ 0 σ (κ) (b := k) (w := w) (by omega) (by omega) _) (cwV 2 hts gX4_digest_X4_bedTold rfl rfl rfl zdX4_bedTold ⟨Nat.le_of_ble_eq_true rfl, Nat.le_of_ble_eq_true rfl⟩) ⟨zbl _, va_recv hK hP (ci := 4) (q0 := 0) rfl rfl, zpr hK hP hD⟩ rfl rfl hl.1 rfl (lv_room (Nat.le_of_ble_eq_true rfl)) dX4_digest_64 ⟨Nat.zero_le _, Nat.zero_le _⟩) hS (fun r_6 H locs hw hkp hS => ?_)
        have hP := hkp _ hP
        have hw : r_6 = σ (w + 1) k := hw
        subst hw
        refine lv_i2l hx hb dX4_digest_67 rfl ?_
        refine lv_ladd hx hb dX4_digest_68 ?_
        refine lv_lstore_n (lv' := [(1, .long (((q_fold (fun w => σ (w + 1) k) w (q_folds (fun b w => σ (w + 1) b) 5 k (q_fold (fun w => q_cnt σ nb ns h w) 10 1783))) * 31) + ((σ (w + 1) k).toInt64))), (0, .ref (μ 0)), (3, .int (nI k)), (4, .int (nI w))]) hx hb dX4_digest_69 rfl hl (by decide) rfl (fun ls hl => ?_)
        refine lv_iinc (v := nI (w + 1)) (lv' := [(4, .int (nI (w + 1))), (1, .long (((q_fold (fun w => σ (w + 1) k) w (q_folds (fun b w => σ (w + 1) b) 5 k (q_fold (fun w => q_cnt σ nb ns h w) 10 1783))) * 31) + ((σ (w + 1) k).toInt64))), (0, .ref (μ 0)), (3, .int (nI k))]) hx hb dX4_digest_70 hl (k := 3) rfl (nI_1 w) (by decide) rfl (fun ls hl => ?_)
        refine lv_goto (tgt := 49) hx hb dX4_digest_73 (by decide) ?_
        exact ih _ _ _ ⟨hP, hD, hS, lv_sub hl [2, 1, 3, 0] rfl⟩
      · obtain ⟨hP, hD, hS, hl⟩ := hI
        refine lv_iload hx hb dX4_digest_49 (lv_at hl 3 rfl) ?_
        refine lv_iconst (v := 5) hx hb dX4_digest_51 (by decide) ?_
        refine lv_icmp_ge (tgt := 76) hx hb dX4_digest_52 (by decide) (fun _ => ?_) (fun c => absurd (by decide) c)
        refine lv_iinc (v := nI (k + 1)) (lv' := [(3, .int (nI (k + 1))), (0, .ref (μ 0)), (1, .long (q_fold (fun w => σ (w + 1) k) 5 (q_folds (fun b w => σ (w + 1) b) 5 k (q_fold (fun w => q_cnt σ nb ns h w) 10 1783)))), (4, .int (nI 5))]) hx hb dX4_digest_76 hl (k := 2) rfl (nI_1 k) (by decide) rfl (fun ls hl => ?_)
        refine lv_goto (tgt := 38) hx hb dX4_digest_79 (by decide) ?_
        exact ih _ _ _ ⟨hP, hD, hS, lv_sub hl [1, 2, 0] rfl⟩
    · obtain ⟨hP, hD, hS, hl⟩ := hI
      refine lv_iload_n hx hb dX4_digest_38 rfl (lv_at hl 2 rfl) ?_
      refine lv_aload_n hx hb dX4_digest_39 rfl (lv_at hl 0 rfl) ?_
      refine va_get (D := D) (ci := 4) (v := .int (nI nb)) (C := RX4) (T := TX4) (N := 8) hx hb hts hinX4 hown hK hP 0 rfl rfl 1 (by decide) hf29 (fun _ h9 => h9) (congrArg (fun z => some (Value.int z)) hC.1) dX4_digest_40 ?_
      refine lv_icmp_ge (tgt := 82) hx hb dX4_digest_43 (by decide) (fun _ => ?_) (fun c => absurd (Int32.le_refl _) c)
      refine lv_iconst (v := 0) hx hb dX4_digest_82 (by decide) ?_
      refine lv_istore_n (lv' := [(3, .int 0), (0, .ref (μ 0)), (1, .long (q_folds (fun b w => σ (w + 1) b) 5 nb (q_fold (fun w => q_cnt σ nb ns h w) 10 1783)))]) hx hb dX4_digest_83 rfl hl (by decide) rfl (fun ls hl => ?_)
      refine zk_loop (pc := 84) (fun k H locs ls => va_P D vwCl (zw_M cI μ 0 σ (κ)) H ∧ va_D A (zw_M cI μ 0 σ (κ)) ∧ va_S A s.heap H locs ∧ lv_has ls 5 [(0, .ref (μ 0)), (1, .long (q_folds (fun k w => σ (q_row w) k) 11 k (q_folds (fun b w => σ (w + 1) b) 5 nb (q_fold (fun w => q_cnt σ nb ns h w) 10 1783)))), (3, .int (nI k))]) ns (fun k hkk ih H locs ls hI => ?_) (fun H locs ls hI => ?_) _ _ _ ⟨hP, hD, hS, lv_sub hl [1, 2, 0] rfl⟩
      · obtain ⟨hP, hD, hS, hl⟩ := hI
        refine lv_iload_n hx hb dX4_digest_84 rfl (lv_at hl 2 rfl) ?_
        refine lv_aload_n hx hb dX4_digest_85 rfl (lv_at hl 0 rfl) ?_
        refine va_get (D := D) (ci := 4) (v := .int (nI ns)) (C := RX4) (T := TX4) (N := 8) hx hb hts hinX4 hown hK hP 0 rfl rfl 2 (by decide) hf36 (fun _ h9 => h9) (congrArg (fun z => some (Value.int z)) hC.2.2.1) dX4_digest_86 ?_
        refine lv_icmp_ge (tgt := 129) hx hb dX4_digest_89 (by decide) (fun c => absurd c (nI_ge hkk (by omega))) (fun _ => ?_)
        refine lv_iconst (v := 0) hx hb dX4_digest_92 (by decide) ?_
        refine lv_istore (lv' := [(4, .int 0), (0, .ref (μ 0)), (1, .long (q_folds (fun k w => σ (q_row w) k) 11 k (q_folds (fun b w => σ (w + 1) b) 5 nb (q_fold (fun w => q_cnt σ nb ns h w) 10 1783)))), (3, .int (nI k))]) hx hb dX4_digest_93 hl (by decide) rfl (fun ls hl => ?_)
        refine zk_loop (pc := 95) (fun w H locs ls => va_P D vwCl (zw_M cI μ 0 σ (κ)) H ∧ va_D A (zw_M cI μ 0 σ (κ)) ∧ va_S A s.heap H locs ∧ lv_has ls 5 [(0, .ref (μ 0)), (1, .long (q_fold (fun w => σ (q_row w) k) w (q_folds (fun k w => σ (q_row w) k) 11 k (q_folds (fun b w => σ (w + 1) b) 5 nb (q_fold (fun w => q_cnt σ nb ns h w) 10 1783))))), (3, .int (nI k)), (4, .int (nI w))]) 11 (fun w hkw ih H locs ls hI => ?_) (fun H locs ls hI => ?_) _ _ _ ⟨hP, hD, hS, lv_sub hl [1, 2, 3, 0] rfl⟩
        · obtain ⟨hP, hD, hS, hl⟩ := hI
          refine lv_iload hx hb dX4_digest_95 (lv_at hl 3 rfl) ?_
          refine lv_bipush (v := 11) hx hb dX4_digest_97 (by decide) ?_
          refine lv_icmp_ge (tgt := 123) hx hb dX4_digest_99 (by decide) (fun c => absurd c (nI_ge (a := w) (b := 11) hkw (by decide))) (fun _ => ?_)
          refine lv_lload_n hx hb dX4_digest_102 rfl (lv_at hl 1 rfl) ?_
          refine lv_ldc2 hx hb hown hcl149 dX4_digest_103 ?_
          refine lv_lmul hx hb dX4_digest_106 ?_
          refine lv_aload_n hx hb dX4_digest_107 rfl (lv_at hl 0 rfl) ?_
          refine lv_iload_n hx hb dX4_digest_108 rfl (lv_at hl 2 rfl) ?_
          refine lv_iload hx hb dX4_digest_109 (lv_at hl 3 rfl) ?_
          refine zk_R (D := D) (va_runV (As := [.int (nI k), .int (nI w)]) (rest := [.long ((q_fold (fun w => σ (q_row w) k) w (q_folds (fun k w => σ (q_row w) k) 11 k (q_folds (fun b w => σ (w + 1) b) 5 nb (q_fold (fun w => q_cnt σ nb ns h w) 10 1783)))) * 31)]) ⟨hx, hb, hml, hown, hts⟩ (c_X4_sailorTold l D cI μ 0 σ (κ) (k := k) (w := w) (by omega) (by omega) _) (cwV 2 hts gX4_digest_X4_sailorTold rfl rfl rfl zdX4_sailorTold ⟨Nat.le_of_ble_eq_true rfl, Nat.le_of_ble_eq_true rfl⟩) ⟨zbl _, va_recv hK hP (ci := 4) (q0 := 0) rfl rfl, zpr hK hP hD⟩ rfl rfl hl.1 rfl (lv_room (Nat.le_of_ble_eq_true rfl)) dX4_digest_111 ⟨Nat.zero_le _, Nat.zero_le _⟩) hS (fun r_11 H locs hw hkp hS => ?_)
          have hP := hkp _ hP
          have hw : r_11 = σ (q_row w) k := hw
          subst hw
          refine lv_i2l hx hb dX4_digest_114 rfl ?_
          refine lv_ladd hx hb dX4_digest_115 ?_
          refine lv_lstore_n (lv' := [(1, .long (((q_fold (fun w => σ (q_row w) k) w (q_folds (fun k w => σ (q_row w) k) 11 k (q_folds (fun b w => σ (w + 1) b) 5 nb (q_fold (fun w => q_cnt σ nb ns h w) 10 1783)))) * 31) + ((σ (q_row w) k).toInt64))), (0, .ref (μ 0)), (3, .int (nI k)), (4, .int (nI w))]) hx hb dX4_digest_116 rfl hl (by decide) rfl (fun ls hl => ?_)
          refine lv_iinc (v := nI (w + 1)) (lv' := [(4, .int (nI (w + 1))), (1, .long (((q_fold (fun w => σ (q_row w) k) w (q_folds (fun k w => σ (q_row w) k) 11 k (q_folds (fun b w => σ (w + 1) b) 5 nb (q_fold (fun w => q_cnt σ nb ns h w) 10 1783)))) * 31) + ((σ (q_row w) k).toInt64))), (0, .ref (μ 0)), (3, .int (nI k))]) hx hb dX4_digest_117 hl (k := 3) rfl (nI_1 w) (by decide) rfl (fun ls hl => ?_)
          refine lv_goto (tgt := 95) hx hb dX4_digest_120 (by decide) ?_
          exact ih _ _ _ ⟨hP, hD, hS, lv_sub hl [2, 1, 3, 0] rfl⟩
        · obtain ⟨hP, hD, hS, hl⟩ := hI
          refine lv_iload hx hb dX4_digest_95 (lv_at hl 3 rfl) ?_
          refine lv_bipush (v := 11) hx hb dX4_digest_97 (by decide) ?_
          refine lv_icmp_ge (tgt := 123) hx hb dX4_digest_99 (by decide) (fun _ => ?_) (fun c => absurd (by decide) c)
          refine lv_iinc (v := nI (k + 1)) (lv' := [(3, .int (nI (k + 1))), (0, .ref (μ 0)), (1, .long (q_fold (fun w => σ (q_row w) k) 11 (q_folds (fun k w => σ (q_row w) k) 11 k (q_folds (fun b w => σ (w + 1) b) 5 nb (q_fold (fun w => q_cnt σ nb ns h w) 10 1783))))), (4, .int (nI 11))]) hx hb dX4_digest_123 hl (k := 2) rfl (nI_1 k) (by decide) rfl (fun ls hl => ?_)
          refine lv_goto (tgt := 84) hx hb dX4_digest_126 (by decide) ?_
          exact ih _ _ _ ⟨hP, hD, hS, lv_sub hl [1, 2, 0] rfl⟩
      · obtain ⟨hP, hD, hS, hl⟩ := hI
        refine lv_iload_n hx hb dX4_digest_84 rfl (lv_at hl 2 rfl) ?_
        refine lv_aload_n hx hb dX4_digest_85 rfl (lv_at hl 0 rfl) ?_
        refine va_get (D := D) (ci := 4) (v := .int (nI ns)) (C := RX4) (T := TX4) (N := 8) hx hb hts hinX4 hown hK hP 0 rfl rfl 2 (by decide) hf36 (fun _ h9 => h9) (congrArg (fun z => some (Value.int z)) hC.2.2.1) dX4_digest_86 ?_
        refine lv_icmp_ge (tgt := 129) hx hb dX4_digest_89 (by decide) (fun _ => ?_) (fun c => absurd (Int32.le_refl _) c)
        refine lv_lload_n hx hb dX4_digest_129 rfl (lv_at hl 1 rfl) ?_
        have hP9 := hP
        have hD9 := hD
        exact W.lret (v := q_folds (fun k w => σ (q_row w) k) 11 ns (q_folds (fun b w => σ (w + 1) b) 5 nb (q_fold (fun w => q_cnt σ nb ns h w) 10 1783))) hx hb hr (fun t ht hW => ⟨⟨q_folds (fun k w => σ (q_row w) k) 11 ns (q_folds (fun b w => σ (w + 1) b) 5 nb (q_fold (fun w => q_cnt σ nb ns h w) 10 1783)), (), rfl, rfl, by rw [ht]; exact hP9, va_K.moved hW.alike hK, hD9⟩, hS.F ht⟩) hS.2.2 dX4_digest_130
