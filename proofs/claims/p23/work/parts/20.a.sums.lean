/-! a base that stays, and rows behind it -/
theorem zx_l {X E : va_W} {i : Nat} {e : Nat × va_E} (h : X[i]? = some e) : (X ++ E)[i]? = some e := by
  rw [List.getElem?_append_left (List.getElem?_eq_some_iff.mp h).1]
  exact h
theorem zxr {B E : va_W} {i : Nat} {e : Nat × va_E} (h : E[i]? = some e) : (B ++ E)[B.length + i]? = some e := by
  rw [List.getElem?_append_right (by omega), Nat.add_sub_cancel_left]
  exact h
theorem zxs {B E : va_W} {i : Nat} {e : Nat × va_E} : (B ++ E).set (B.length + i) e = B ++ E.set i e := by
  rw [List.set_append_right _ _ (by omega), Nat.add_sub_cancel_left]
theorem zxd_P {D : va_G} {cl : List vw_C} {B E : va_W} {H : Heap} (h : va_P D cl (B ++ E) H) : va_P D cl B H := fun k q hk => h k q (zx_l hk)
theorem zxd_D {A : Nat → Prop} {B E : va_W} (h : va_D A (B ++ E)) : va_D A B := ⟨fun i j p q hi hj => h.1 i j p q (zx_l hi) (zx_l hj), fun k q hk => h.2 k q (zx_l hk)⟩
/-- of one that makes a row and answers it -/
abbrev zMN (l : Launch) (y : MethodName) (ws : List Cond) (rm : Room) (av : List Value) (D : va_G) (tys : List (ClassId × FieldType)) (w : va_W) (w1 : Nat → va_W) (mc ms : Nat) : Prop :=
  ∀ sz : Nat, Met l y ws rm (va_Pc av (zPW D tys w sz)) (va_Qr (fun (_ : Unit) => True) (fun _ a t => zQW D tys (w1 a) (va_A w sz) t) (va_A w sz)) mc ms (va_A w sz)
section ZKN
variable {p : Program} {l : Launch} {e : Env} {R : Room} {s : State} {m : MethodId} {args : Array Value} {below : List Frame} {meth : Method} {c : Code} {H : Heap} {locs : List Loc} {cells slots : Nat} {Q : State → Prop}
variable {pc : Nat} {ls : Array Slot} {rest st0 : List Value} {a : Array Value} {A0 : Nat → Prop} {H0 : Heap} {D : va_G} {tys : List (ClassId × FieldType)} {w : va_W} {mc ms : Nat}
theorem zk_N {w1 : Nat → va_W} (hr : va_Run p l e R s m args below meth c H locs cells slots mc ms (F0 m pc ls st0) rest (va_Qr (fun (_ : Unit) => True) (fun _ r t => zQW D tys (w1 r) (va_A w H.size) t) (va_A w H.size) a) (va_A w H.size)) (hS : va_S A0 H0 H locs) (hF : ∀ q, va_A w H.size q → A0 q)
    (kk : ∀ (r : Nat) (H1 : Heap) (locs1 : List Loc), (∀ q : Nat, q < H.size → ¬ va_A w H.size q → H1[q]? = H[q]?) → va_P D vwCl (w1 r) H1 → va_D (va_A w H.size) (w1 r) → va_S A0 H0 H1 locs1 → W p l e R s m args below meth c H1 locs1 (cells + mc) (slots + ms) Q (F0 m (pc + 3) ls (.ref r :: rest))) : W p l e R s m args below meth c H locs cells slots Q (F0 m pc ls st0) := by
  refine va_callr hr hS (fun q _ h => hF q h) hF (fun u r t H1 locs1 ht hvm hw hB hz1 hk1 hS1 => ?_)
  exact kk r H1 locs1 hk1 (by rw [← ht]; exact hB.1) hB.2.2 hS1
end ZKN
/-- the four sums: in beds, on the floor, hours late, lying down -/
def f_sum4 (σ : zS) (n : Nat) : Nat → Int32 := fun i => if i = 0 then f_many (σ 12) 1 n else if i = 1 then f_many (σ 12) 2 n else if i = 2 then f_sum (σ 15) n else if i = 3 then f_sum (σ 17) n else 0
theorem f_sum4_0 (σ : zS) : f_sum4 σ 0 = fun _ => 0 := by
  funext i
  unfold f_sum4
  split
  · rfl
  · split
    · rfl
    · split
      · rfl
      · split <;> rfl
theorem f_sum4_s (σ : zS) (n : Nat) {a b : Int32} (ha : a = f_many (σ 12) 1 (n + 1)) (hb : b = f_many (σ 12) 2 (n + 1)) : upd (upd (upd (upd (f_sum4 σ n) 0 a) 1 b) 2 (f_sum (σ 15) n + σ 15 n)) 3 (f_sum (σ 17) n + σ 17 n) = f_sum4 σ (n + 1) := by
  funext i
  subst ha hb
  unfold f_sum4 upd
  by_cases h0 : i = 0
  · subst h0; rfl
  · by_cases h1 : i = 1
    · subst h1; rfl
    · by_cases h2 : i = 2
      · subst h2; rfl
      · by_cases h3 : i = 3
        · subst h3; rfl
        · simp [h0, h1, h2, h3]
set_option maxHeartbeats 4000000 in
set_option maxRecDepth 100000 in
theorem c_X6_behind (l : Launch) (D : va_G) (cI cB cS : ClassId) (u bd sl : Nat → Nat) (σ : zS) {nb ns h B : Nat} (hV : zV σ nb ns h B) {n : Nat} (hB : B + 30 * n + 90 ≤ 2 ^ 28) (hn : h + n < 2 ^ 30) : zMG l yX6_behind wsX6_behind ({ frames := 2, cells := 0, slots := 0, locals := 54 }) [.ref (u 0), .int (nI n)] D (zT3 cI cB cS) (zj cB cS u bd sl nb ns σ) (zj cB cS u bd sl nb ns (f_hours σ nb ns h n)) := by
  intro sz
  refine Met.ofW (cc := cX6_behind) (maxL := 3) (ret := (some (.object "HotBedsLaw$Sim"))) (by decide) rfl ?_
  intro p e s m args below meth c s₁ B hml hv
  obtain ⟨rfl, hsz, hP, hK, hD⟩ := hv
  have hx := B.exec
  have hb := B.bytes
  have hr := B.returns
  have hts := atoms_spec (ws := wsX6_behind) B.pre
  have hown : s.vm.findClass RX6 = some m.cls := findClass_of_methodNamed B.named
  have hlocks := B.notSynchronized
  subst hsz
  have hD := hD.self (sz := s.heap.size)
  generalize hAe : va_A (zj cB cS u bd sl nb ns σ) s.heap.size = A at hD ⊢
  have hA : ∀ q : Nat, s.heap.size ≤ q → A q := fun q h => by rw [← hAe]; exact Or.inr h
  have hS : va_S A s.heap s.heap [] := va_S.rf
  have hP : va_P D vwCl (zj cB cS u bd sl nb ns σ) s.heap := hP
  have hl := lv_entry ([.ref (u 0), .int (nI n)]) (n := 3) (Nat.le_of_ble_eq_true rfl)
  rw [lg_entry_eq]
  generalize (lg_sl ([.ref (u 0), .int (nI n)]) ++ List.replicate (3 - (lg_sl ([.ref (u 0), .int (nI n)])).length) Slot.unset).toArray = ls at hl ⊢
  have hl : lv_has ls 3 [(0, .ref (u 0)), (1, .int (nI n))] := hl
  have hh := hV.1.2.2.2.2.2.1
  have hnb := hV.1.2.1
  have hns := hV.1.2.2.2.1
  refine lv_iconst (v := 0) hx hb dX6_behind_0 (by decide) ?_
  refine lv_istore_n (lv' := [(2, .int 0), (0, .ref (u 0)), (1, .int (nI n))]) hx hb dX6_behind_1 rfl hl (by decide) rfl (fun ls hl => ?_)
  refine zk_loop (pc := 2) (fun j H locs ls => va_P D vwCl (zj cB cS u bd sl nb ns (f_hours σ nb ns h j)) H ∧ va_D A (zj cB cS u bd sl nb ns (f_hours σ nb ns h j)) ∧ va_S A s.heap H locs ∧ lv_has ls 3 [(2, .int (nI j)), (1, .int (nI n)), (0, .ref (u 0))]) n (fun j hj ih H locs ls hI => ?_) (fun H locs ls hI => ?_) _ _ _ ⟨hP, hD, hS, lv_sub hl [0, 2, 1] rfl⟩
  · obtain ⟨hP, hD, hS, hl⟩ := hI
    refine lv_iload_n hx hb dX6_behind_2 rfl (lv_at hl 0 rfl) ?_
    refine lv_iload_n hx hb dX6_behind_3 rfl (lv_at hl 1 rfl) ?_
    refine lv_icmp_ge (tgt := 17) hx hb dX6_behind_4 (by decide) (fun c => absurd c (nI_ge hj (by omega))) (fun _ => ?_)
    refine lv_aload_n hx hb dX6_behind_7 rfl (lv_at hl 2 rfl) ?_
    have hF := zfree hD hS hA
    refine zk_V (va_runV (As := []) (rest := []) ⟨hx, hb, hml, hown, hts⟩ (c_X6_pass l D cI cB cS u bd sl (f_hours σ nb ns h j) (hV.hours j (by omega) (by omega)).1 (by omega) _) (cwV 0 hts gX6_behind_X6_pass rfl rfl rfl zdX6_pass ⟨Nat.le_of_ble_eq_true rfl, Nat.le_of_ble_eq_true rfl⟩) ⟨zbl _, va_recv hK hP (ci := 6) (q0 := 0) rfl rfl, zpr hK hP hD⟩ rfl rfl hl.1 rfl (lv_room (Nat.le_of_ble_eq_true rfl)) dX6_behind_8 ⟨Nat.zero_le _, Nat.zero_le _⟩) hS hF (fun H locs hkp hP1 hD1 hS => ?_)
    have hP := hP1
    have hD := hD1.weaken (fun _ _ _ z => hF _ z)
    have hP : va_P D vwCl (zj cB cS u bd sl nb ns (f_hour (f_hours σ nb ns h j) nb ns (h + j))) H := hP
    have hD : va_D A (zj cB cS u bd sl nb ns (f_hour (f_hours σ nb ns h j) nb ns (h + j))) := hD
    refine lv_iinc (v := nI (j + 1)) (lv' := [(2, .int (nI (j + 1))), (1, .int (nI n)), (0, .ref (u 0))]) hx hb dX6_behind_11 hl (k := 0) rfl (nI_1 j) (by decide) rfl (fun ls hl => ?_)
    refine lv_goto (tgt := 2) hx hb dX6_behind_14 (by decide) ?_
    exact ih _ _ _ ⟨hP, hD, hS, lv_sub hl [0, 1, 2] rfl⟩
  · obtain ⟨hP, hD, hS, hl⟩ := hI
    refine lv_iload_n hx hb dX6_behind_2 rfl (lv_at hl 0 rfl) ?_
    refine lv_iload_n hx hb dX6_behind_3 rfl (lv_at hl 1 rfl) ?_
    refine lv_icmp_ge (tgt := 17) hx hb dX6_behind_4 (by decide) (fun _ => ?_) (fun c => absurd (i32_rf _) c)
    refine lv_aload_n hx hb dX6_behind_17 rfl (lv_at hl 2 rfl) ?_
    have hP9 := hP
    have hD9 := hD
    exact W.aret (v := .ref (u 0)) hx hb hr (Or.inl ⟨_, rfl⟩) (Or.inr ⟨_, rfl⟩) (fun t ht hW => ⟨⟨(), u 0, rfl, trivial, by rw [ht]; exact hP9, va_K.moved hW.alike hK, hD9⟩, hS.F ht⟩) hS.2.2 dX6_behind_18
set_option maxHeartbeats 4000000 in
set_option maxRecDepth 100000 in
theorem c_X6_sums (l : Launch) (D : va_G) (cI cB cS : ClassId) (u bd sl : Nat → Nat) (σ : zS) {nb ns h B : Nat} (hV : zV σ nb ns h B) : zMN l yX6_sums wsX6_sums ({ frames := 0, cells := 1, slots := 4, locals := 0 }) [.ref (u 0)] D (zT3 cI cB cS) (zj cB cS u bd sl nb ns σ) (fun q => zj cB cS u bd sl nb ns σ ++ [(q, .inl (cI, 4, .inl (f_sum4 σ ns)))]) 1 4 := by
  intro sz
  refine Met.ofW (cc := cX6_sums) (maxL := 6) (ret := (some (.array .int))) (by decide) rfl ?_
  intro p e s m args below meth c s₁ B hml hv
  obtain ⟨rfl, hsz, hP, hK, hD⟩ := hv
  have hx := B.exec
  have hb := B.bytes
  have hr := B.returns
  have hts := atoms_spec (ws := wsX6_sums) B.pre
  have hown : s.vm.findClass RX6 = some m.cls := findClass_of_methodNamed B.named
  have hlocks := B.notSynchronized
  subst hsz
  have hD := hD.self (sz := s.heap.size)
  generalize hAe : va_A (zj cB cS u bd sl nb ns σ) s.heap.size = A at hD ⊢
  have hA : ∀ q : Nat, s.heap.size ≤ q → A q := fun q h => by rw [← hAe]; exact Or.inr h
  have hS : va_S A s.heap s.heap [] := va_S.rf
  have hP : va_P D vwCl (zj cB cS u bd sl nb ns σ) s.heap := hP
  have hl := lv_entry ([.ref (u 0)]) (n := 6) (Nat.le_of_ble_eq_true rfl)
  rw [lg_entry_eq]
  generalize (lg_sl ([.ref (u 0)]) ++ List.replicate (6 - (lg_sl ([.ref (u 0)])).length) Slot.unset).toArray = ls at hl ⊢
  have hl : lv_has ls 6 [(0, .ref (u 0))] := hl
  have hf24 := hts (.fieldLink RX6 24 "HotBedsLaw$Sim" "sailors" "[LHotBedsLaw$Sailor;") (by decide +kernel)
  have hf70 := hts (.fieldLink RX6 70 "HotBedsLaw$Sailor" "in" "LHotBedsLaw$Bed;") (by decide +kernel)
  have hf77 := hts (.fieldLink RX6 77 "HotBedsLaw$Sailor" "onFloor" "Z") (by decide +kernel)
  have hf83 := hts (.fieldLink RX6 83 "HotBedsLaw$Sailor" "late" "I") (by decide +kernel)
  have hf89 := hts (.fieldLink RX6 89 "HotBedsLaw$Sailor" "floors" "I") (by decide +kernel)
  have hinX5 : ∀ w ∈ u_ws RX5 TX5 13, w ∈ wsX6_sums := by decide +kernel
  have hinX6 : ∀ w ∈ u_ws RX6 TX6 5, w ∈ wsX6_sums := by decide +kernel
  have hKi : va_K D vwCl [(cI, .int)] s := hK.sub [0] rfl
  have harr := hts (.arrayClass .int) (by decide +kernel)
  have hh := hV.1.2.2.2.2.2.1
  have hnb := hV.1.2.1
  have hns := hV.1.2.2.2.1
  refine lv_iconst (v := 4) hx hb dX6_sums_0 (by decide) ?_
  refine zk_newI (N' := 4) hx hb harr hKi hP hD hS hA (by decide) (by decide) (by decide) (Nat.le_of_ble_eq_true rfl) (Nat.le_of_ble_eq_true rfl) dX6_sums_1 (fun q H hP hD hS => ?_)
  have hP : va_P D vwCl (zj cB cS u bd sl nb ns σ ++ [(q, .inl (cI, 4, .inl (f_sum4 σ 0)))]) H := by rw [f_sum4_0]; exact hP
  have hD : va_D A (zj cB cS u bd sl nb ns σ ++ [(q, .inl (cI, 4, .inl (f_sum4 σ 0)))]) := by rw [f_sum4_0]; exact hD
  refine W.widen (k := 1) (n := 4) (Nat.le_of_ble_eq_true rfl) (Nat.le_of_ble_eq_true rfl) ?_
  refine lv_astore_n (lv' := [(1, .ref q), (0, .ref (u 0))]) hx hb dX6_sums_3 rfl hl (by decide) rfl (fun ls hl => ?_)
  refine lv_aload_n hx hb dX6_sums_4 rfl (lv_at hl 1 rfl) ?_
  refine va_get (D := D) (ci := 6) (v := .ref (u 2)) (C := RX6) (T := TX6) (N := 5) hx hb hts hinX6 hown hK hP 0 rfl rfl 4 (by decide) hf24 (fun _ h9 => h9) rfl dX6_sums_5 ?_
  refine lv_astore_n (lv' := [(2, .ref (u 2)), (1, .ref q), (0, .ref (u 0))]) hx hb dX6_sums_8 rfl hl (by decide) rfl (fun ls hl => ?_)
  refine lv_aload_n hx hb dX6_sums_9 rfl (lv_at hl 0 rfl) ?_
  refine va_alen hx hb hK hP 2 2 rfl rfl (v := nI ns) rfl dX6_sums_10 ?_
  refine lv_istore_n (lv' := [(3, .int (nI ns)), (2, .ref (u 2)), (1, .ref q), (0, .ref (u 0))]) hx hb dX6_sums_11 rfl hl (by decide) rfl (fun ls hl => ?_)
  refine lv_iconst (v := 0) hx hb dX6_sums_12 (by decide) ?_
  refine lv_istore (lv' := [(4, .int 0), (3, .int (nI ns)), (2, .ref (u 2)), (1, .ref q), (0, .ref (u 0))]) hx hb dX6_sums_13 hl (by decide) rfl (fun ls hl => ?_)
  refine zk_loop (pc := 15) (fun j H locs ls => va_P D vwCl (zj cB cS u bd sl nb ns σ ++ [(q, .inl (cI, 4, .inl (f_sum4 σ j)))]) H ∧ va_D A (zj cB cS u bd sl nb ns σ ++ [(q, .inl (cI, 4, .inl (f_sum4 σ j)))]) ∧ va_S A s.heap H locs ∧ lv_has ls 6 [(4, .int (nI j)), (3, .int (nI ns)), (2, .ref (u 2)), (1, .ref q), (0, .ref (u 0))]) ns (fun j hj ih H locs ls hI => ?_) (fun H locs ls hI => ?_) _ _ _ ⟨hP, hD, hS, lv_sub hl [0, 1, 2, 3, 4] rfl⟩
  · obtain ⟨hP, hD, hS, hl⟩ := hI
    refine lv_iload hx hb dX6_sums_15 (lv_at hl 0 rfl) ?_
    refine lv_iload_n hx hb dX6_sums_17 rfl (lv_at hl 1 rfl) ?_
    refine lv_icmp_ge (tgt := 93) hx hb dX6_sums_18 (by decide) (fun c => absurd c (nI_ge hj (by omega))) (fun _ => ?_)
    refine lv_aload_n hx hb dX6_sums_21 rfl (lv_at hl 2 rfl) ?_
    refine lv_iload hx hb dX6_sums_22 (lv_at hl 0 rfl) ?_
    refine zk_ldq hx hb hK hP 2 2 rfl rfl (k := j) hj (by omega) (v := sl j) rfl dX6_sums_24 ?_
    refine lv_astore (lv' := [(5, .ref (sl j)), (4, .int (nI j)), (3, .int (nI ns)), (2, .ref (u 2)), (1, .ref q), (0, .ref (u 0))]) hx hb dX6_sums_25 hl (by decide) rfl (fun ls hl => ?_)
    refine lv_aload_n hx hb dX6_sums_27 rfl (lv_at hl 4 rfl) ?_
    refine lv_iconst (v := 0) hx hb dX6_sums_28 (by decide) ?_
    refine lv_dup2_11 hx hb dX6_sums_29 rfl rfl ?_
    refine zk_ld hx hb hK hP ((zj cB cS u bd sl nb ns σ).length + 0) 0 (zxr (i := 0) rfl) rfl (k := 0) (by omega) (by decide) (v := f_many (σ 12) 1 j) rfl dX6_sums_30 ?_
    refine lv_aload hx hb dX6_sums_31 (lv_at hl 0 rfl) ?_
    rcases zplace ((hV.ksk hj).2.2.2.1) with ⟨e12b_2, b_2, hb_2, e13b_2⟩ | ⟨e12b_2, e13b_2⟩ | ⟨e12b_2, e13b_2⟩
    · refine va_get (D := D) (ci := 5) (v := .ref (bd b_2)) (C := RX5) (T := TX5) (N := 13) hx hb hts hinX5 hown hK hP (3 + nb + j) (zx_l (zjq_S hj)) rfl 7 (by decide) hf70 (fun _ h9 => h9) (congrArg some (zrf_r e13b_2 (by omega))) dX6_sums_33 ?_
      refine lv_ifnull hx hb dX6_sums_36 ?_
      refine lv_iconst (v := 1) hx hb dX6_sums_39 (by decide) ?_
      refine lv_goto (tgt := 44) hx hb dX6_sums_40 (by decide) ?_
      refine lv_iadd hx hb dX6_sums_44 ?_
      refine zk_st hx hb hK hP hD hS ((zj cB cS u bd sl nb ns σ).length + 0) 0 (zxr (i := 0) rfl) rfl (k := 0) (by omega) (by decide) zxs dX6_sums_45 (fun H locs hP hD hS => ?_)
      have hP : va_P D vwCl (zj cB cS u bd sl nb ns σ ++ [(q, .inl (cI, 4, .inl (upd (f_sum4 σ j) 0 ((f_many (σ 12) 1 j) + 1))))]) H := hP
      have hD : va_D A (zj cB cS u bd sl nb ns σ ++ [(q, .inl (cI, 4, .inl (upd (f_sum4 σ j) 0 ((f_many (σ 12) 1 j) + 1))))]) := hD
      refine lv_aload_n hx hb dX6_sums_46 rfl (lv_at hl 4 rfl) ?_
      refine lv_iconst (v := 1) hx hb dX6_sums_47 (by decide) ?_
      refine lv_dup2_11 hx hb dX6_sums_48 rfl rfl ?_
      refine zk_ld hx hb hK hP ((zj cB cS u bd sl nb ns σ).length + 0) 0 (zxr (i := 0) rfl) rfl (k := 1) (by omega) (by decide) (v := f_many (σ 12) 2 j) rfl dX6_sums_49 ?_
      refine lv_aload hx hb dX6_sums_50 (lv_at hl 0 rfl) ?_
      refine va_get (D := D) (ci := 5) (v := .int 0) (C := RX5) (T := TX5) (N := 13) hx hb hts hinX5 hown hK hP (3 + nb + j) (zx_l (zjq_S hj)) rfl 8 (by decide) hf77 (fun _ h9 => h9) (congrArg (fun z => some (Value.int z)) (zfl_1 e12b_2)) dX6_sums_52 ?_
      refine lv_if_eq (tgt := 62) hx hb dX6_sums_55 (by decide) (fun _ => ?_) (fun c => absurd (by decide) c)
      refine lv_iconst (v := 0) hx hb dX6_sums_62 (by decide) ?_
      refine lv_iadd hx hb dX6_sums_63 ?_
      refine zk_st hx hb hK hP hD hS ((zj cB cS u bd sl nb ns σ).length + 0) 0 (zxr (i := 0) rfl) rfl (k := 1) (by omega) (by decide) zxs dX6_sums_64 (fun H locs hP hD hS => ?_)
      have hP : va_P D vwCl (zj cB cS u bd sl nb ns σ ++ [(q, .inl (cI, 4, .inl (upd (upd (f_sum4 σ j) 0 ((f_many (σ 12) 1 j) + 1)) 1 ((f_many (σ 12) 2 j) + 0))))]) H := hP
      have hD : va_D A (zj cB cS u bd sl nb ns σ ++ [(q, .inl (cI, 4, .inl (upd (upd (f_sum4 σ j) 0 ((f_many (σ 12) 1 j) + 1)) 1 ((f_many (σ 12) 2 j) + 0))))]) := hD
      refine lv_aload_n hx hb dX6_sums_65 rfl (lv_at hl 4 rfl) ?_
      refine lv_iconst (v := 2) hx hb dX6_sums_66 (by decide) ?_
      refine lv_dup2_11 hx hb dX6_sums_67 rfl rfl ?_
      refine zk_ld hx hb hK hP ((zj cB cS u bd sl nb ns σ).length + 0) 0 (zxr (i := 0) rfl) rfl (k := 2) (by omega) (by decide) (v := f_sum (σ 15) j) rfl dX6_sums_68 ?_
      refine lv_aload hx hb dX6_sums_69 (lv_at hl 0 rfl) ?_
      refine va_get (D := D) (ci := 5) (v := .int (σ 15 j)) (C := RX5) (T := TX5) (N := 13) hx hb hts hinX5 hown hK hP (3 + nb + j) (zx_l (zjq_S hj)) rfl 10 (by decide) hf83 (fun _ h9 => h9) rfl dX6_sums_71 ?_
      refine lv_iadd hx hb dX6_sums_74 ?_
      refine zk_st hx hb hK hP hD hS ((zj cB cS u bd sl nb ns σ).length + 0) 0 (zxr (i := 0) rfl) rfl (k := 2) (by omega) (by decide) zxs dX6_sums_75 (fun H locs hP hD hS => ?_)
      have hP : va_P D vwCl (zj cB cS u bd sl nb ns σ ++ [(q, .inl (cI, 4, .inl (upd (upd (upd (f_sum4 σ j) 0 ((f_many (σ 12) 1 j) + 1)) 1 ((f_many (σ 12) 2 j) + 0)) 2 ((f_sum (σ 15) j) + (σ 15 j)))))]) H := hP
      have hD : va_D A (zj cB cS u bd sl nb ns σ ++ [(q, .inl (cI, 4, .inl (upd (upd (upd (f_sum4 σ j) 0 ((f_many (σ 12) 1 j) + 1)) 1 ((f_many (σ 12) 2 j) + 0)) 2 ((f_sum (σ 15) j) + (σ 15 j)))))]) := hD
      refine lv_aload_n hx hb dX6_sums_76 rfl (lv_at hl 4 rfl) ?_
      refine lv_iconst (v := 3) hx hb dX6_sums_77 (by decide) ?_
      refine lv_dup2_11 hx hb dX6_sums_78 rfl rfl ?_
      refine zk_ld hx hb hK hP ((zj cB cS u bd sl nb ns σ).length + 0) 0 (zxr (i := 0) rfl) rfl (k := 3) (by omega) (by decide) (v := f_sum (σ 17) j) rfl dX6_sums_79 ?_
      refine lv_aload hx hb dX6_sums_80 (lv_at hl 0 rfl) ?_
      refine va_get (D := D) (ci := 5) (v := .int (σ 17 j)) (C := RX5) (T := TX5) (N := 13) hx hb hts hinX5 hown hK hP (3 + nb + j) (zx_l (zjq_S hj)) rfl 12 (by decide) hf89 (fun _ h9 => h9) rfl dX6_sums_82 ?_
      refine lv_iadd hx hb dX6_sums_85 ?_
      refine zk_st hx hb hK hP hD hS ((zj cB cS u bd sl nb ns σ).length + 0) 0 (zxr (i := 0) rfl) rfl (k := 3) (by omega) (by decide) zxs dX6_sums_86 (fun H locs hP hD hS => ?_)
      have hP : va_P D vwCl (zj cB cS u bd sl nb ns σ ++ [(q, .inl (cI, 4, .inl (upd (upd (upd (upd (f_sum4 σ j) 0 ((f_many (σ 12) 1 j) + 1)) 1 ((f_many (σ 12) 2 j) + 0)) 2 ((f_sum (σ 15) j) + (σ 15 j))) 3 ((f_sum (σ 17) j) + (σ 17 j)))))]) H := hP
      have hD : va_D A (zj cB cS u bd sl nb ns σ ++ [(q, .inl (cI, 4, .inl (upd (upd (upd (upd (f_sum4 σ j) 0 ((f_many (σ 12) 1 j) + 1)) 1 ((f_many (σ 12) 2 j) + 0)) 2 ((f_sum (σ 15) j) + (σ 15 j))) 3 ((f_sum (σ 17) j) + (σ 17 j)))))]) := hD
      refine lv_iinc (v := nI (j + 1)) (lv' := [(4, .int (nI (j + 1))), (5, .ref (sl j)), (3, .int (nI ns)), (2, .ref (u 2)), (1, .ref q), (0, .ref (u 0))]) hx hb dX6_sums_87 hl (k := 1) rfl (nI_1 j) (by decide) rfl (fun ls hl => ?_)
      refine lv_goto (tgt := 15) hx hb dX6_sums_90 (by decide) ?_
      have e9 : upd (upd (upd (upd (f_sum4 σ j) 0 ((f_many (σ 12) 1 j) + 1)) 1 ((f_many (σ 12) 2 j) + 0)) 2 ((f_sum (σ 15) j) + (σ 15 j))) 3 ((f_sum (σ 17) j) + (σ 17 j)) = f_sum4 σ (j + 1) := f_sum4_s σ j ((show f_many (σ 12) 1 (j + 1) = _ from if_pos e12b_2).symm) ((Int32.add_zero _).trans (show f_many (σ 12) 2 (j + 1) = _ from if_neg (by rw [e12b_2]; decide)).symm)
      exact ih _ _ _ ⟨by rw [← e9]; exact hP, by rw [← e9]; exact hD, hS, lv_sub hl [0, 2, 3, 4, 5] rfl⟩
    · refine va_get (D := D) (ci := 5) (v := .null) (C := RX5) (T := TX5) (N := 13) hx hb hts hinX5 hown hK hP (3 + nb + j) (zx_l (zjq_S hj)) rfl 7 (by decide) hf70 (fun _ h9 => h9) (congrArg some (zrf_n e13b_2)) dX6_sums_33 ?_
      refine lv_ifnullN (tgt := 43) hx hb dX6_sums_36 (by decide) ?_
      refine lv_iconst (v := 0) hx hb dX6_sums_43 (by decide) ?_
      refine lv_iadd hx hb dX6_sums_44 ?_
      refine zk_st hx hb hK hP hD hS ((zj cB cS u bd sl nb ns σ).length + 0) 0 (zxr (i := 0) rfl) rfl (k := 0) (by omega) (by decide) zxs dX6_sums_45 (fun H locs hP hD hS => ?_)
      have hP : va_P D vwCl (zj cB cS u bd sl nb ns σ ++ [(q, .inl (cI, 4, .inl (upd (f_sum4 σ j) 0 ((f_many (σ 12) 1 j) + 0))))]) H := hP
      have hD : va_D A (zj cB cS u bd sl nb ns σ ++ [(q, .inl (cI, 4, .inl (upd (f_sum4 σ j) 0 ((f_many (σ 12) 1 j) + 0))))]) := hD
      refine lv_aload_n hx hb dX6_sums_46 rfl (lv_at hl 4 rfl) ?_
      refine lv_iconst (v := 1) hx hb dX6_sums_47 (by decide) ?_
      refine lv_dup2_11 hx hb dX6_sums_48 rfl rfl ?_
      refine zk_ld hx hb hK hP ((zj cB cS u bd sl nb ns σ).length + 0) 0 (zxr (i := 0) rfl) rfl (k := 1) (by omega) (by decide) (v := f_many (σ 12) 2 j) rfl dX6_sums_49 ?_
      refine lv_aload hx hb dX6_sums_50 (lv_at hl 0 rfl) ?_
      refine va_get (D := D) (ci := 5) (v := .int 0) (C := RX5) (T := TX5) (N := 13) hx hb hts hinX5 hown hK hP (3 + nb + j) (zx_l (zjq_S hj)) rfl 8 (by decide) hf77 (fun _ h9 => h9) (congrArg (fun z => some (Value.int z)) (zfl_0 e12b_2)) dX6_sums_52 ?_
      refine lv_if_eq (tgt := 62) hx hb dX6_sums_55 (by decide) (fun _ => ?_) (fun c => absurd (by decide) c)
      refine lv_iconst (v := 0) hx hb dX6_sums_62 (by decide) ?_
      refine lv_iadd hx hb dX6_sums_63 ?_
      refine zk_st hx hb hK hP hD hS ((zj cB cS u bd sl nb ns σ).length + 0) 0 (zxr (i := 0) rfl) rfl (k := 1) (by omega) (by decide) zxs dX6_sums_64 (fun H locs hP hD hS => ?_)
      have hP : va_P D vwCl (zj cB cS u bd sl nb ns σ ++ [(q, .inl (cI, 4, .inl (upd (upd (f_sum4 σ j) 0 ((f_many (σ 12) 1 j) + 0)) 1 ((f_many (σ 12) 2 j) + 0))))]) H := hP
      have hD : va_D A (zj cB cS u bd sl nb ns σ ++ [(q, .inl (cI, 4, .inl (upd (upd (f_sum4 σ j) 0 ((f_many (σ 12) 1 j) + 0)) 1 ((f_many (σ 12) 2 j) + 0))))]) := hD
      refine lv_aload_n hx hb dX6_sums_65 rfl (lv_at hl 4 rfl) ?_
      refine lv_iconst (v := 2) hx hb dX6_sums_66 (by decide) ?_
      refine lv_dup2_11 hx hb dX6_sums_67 rfl rfl ?_
      refine zk_ld hx hb hK hP ((zj cB cS u bd sl nb ns σ).length + 0) 0 (zxr (i := 0) rfl) rfl (k := 2) (by omega) (by decide) (v := f_sum (σ 15) j) rfl dX6_sums_68 ?_
      refine lv_aload hx hb dX6_sums_69 (lv_at hl 0 rfl) ?_
      refine va_get (D := D) (ci := 5) (v := .int (σ 15 j)) (C := RX5) (T := TX5) (N := 13) hx hb hts hinX5 hown hK hP (3 + nb + j) (zx_l (zjq_S hj)) rfl 10 (by decide) hf83 (fun _ h9 => h9) rfl dX6_sums_71 ?_
      refine lv_iadd hx hb dX6_sums_74 ?_
      refine zk_st hx hb hK hP hD hS ((zj cB cS u bd sl nb ns σ).length + 0) 0 (zxr (i := 0) rfl) rfl (k := 2) (by omega) (by decide) zxs dX6_sums_75 (fun H locs hP hD hS => ?_)
      have hP : va_P D vwCl (zj cB cS u bd sl nb ns σ ++ [(q, .inl (cI, 4, .inl (upd (upd (upd (f_sum4 σ j) 0 ((f_many (σ 12) 1 j) + 0)) 1 ((f_many (σ 12) 2 j) + 0)) 2 ((f_sum (σ 15) j) + (σ 15 j)))))]) H := hP
      have hD : va_D A (zj cB cS u bd sl nb ns σ ++ [(q, .inl (cI, 4, .inl (upd (upd (upd (f_sum4 σ j) 0 ((f_many (σ 12) 1 j) + 0)) 1 ((f_many (σ 12) 2 j) + 0)) 2 ((f_sum (σ 15) j) + (σ 15 j)))))]) := hD
      refine lv_aload_n hx hb dX6_sums_76 rfl (lv_at hl 4 rfl) ?_
      refine lv_iconst (v := 3) hx hb dX6_sums_77 (by decide) ?_
      refine lv_dup2_11 hx hb dX6_sums_78 rfl rfl ?_
      refine zk_ld hx hb hK hP ((zj cB cS u bd sl nb ns σ).length + 0) 0 (zxr (i := 0) rfl) rfl (k := 3) (by omega) (by decide) (v := f_sum (σ 17) j) rfl dX6_sums_79 ?_
      refine lv_aload hx hb dX6_sums_80 (lv_at hl 0 rfl) ?_
      refine va_get (D := D) (ci := 5) (v := .int (σ 17 j)) (C := RX5) (T := TX5) (N := 13) hx hb hts hinX5 hown hK hP (3 + nb + j) (zx_l (zjq_S hj)) rfl 12 (by decide) hf89 (fun _ h9 => h9) rfl dX6_sums_82 ?_
      refine lv_iadd hx hb dX6_sums_85 ?_
      refine zk_st hx hb hK hP hD hS ((zj cB cS u bd sl nb ns σ).length + 0) 0 (zxr (i := 0) rfl) rfl (k := 3) (by omega) (by decide) zxs dX6_sums_86 (fun H locs hP hD hS => ?_)
      have hP : va_P D vwCl (zj cB cS u bd sl nb ns σ ++ [(q, .inl (cI, 4, .inl (upd (upd (upd (upd (f_sum4 σ j) 0 ((f_many (σ 12) 1 j) + 0)) 1 ((f_many (σ 12) 2 j) + 0)) 2 ((f_sum (σ 15) j) + (σ 15 j))) 3 ((f_sum (σ 17) j) + (σ 17 j)))))]) H := hP
      have hD : va_D A (zj cB cS u bd sl nb ns σ ++ [(q, .inl (cI, 4, .inl (upd (upd (upd (upd (f_sum4 σ j) 0 ((f_many (σ 12) 1 j) + 0)) 1 ((f_many (σ 12) 2 j) + 0)) 2 ((f_sum (σ 15) j) + (σ 15 j))) 3 ((f_sum (σ 17) j) + (σ 17 j)))))]) := hD
      refine lv_iinc (v := nI (j + 1)) (lv' := [(4, .int (nI (j + 1))), (5, .ref (sl j)), (3, .int (nI ns)), (2, .ref (u 2)), (1, .ref q), (0, .ref (u 0))]) hx hb dX6_sums_87 hl (k := 1) rfl (nI_1 j) (by decide) rfl (fun ls hl => ?_)
      refine lv_goto (tgt := 15) hx hb dX6_sums_90 (by decide) ?_
      have e9 : upd (upd (upd (upd (f_sum4 σ j) 0 ((f_many (σ 12) 1 j) + 0)) 1 ((f_many (σ 12) 2 j) + 0)) 2 ((f_sum (σ 15) j) + (σ 15 j))) 3 ((f_sum (σ 17) j) + (σ 17 j)) = f_sum4 σ (j + 1) := f_sum4_s σ j ((Int32.add_zero _).trans (show f_many (σ 12) 1 (j + 1) = _ from if_neg (by rw [e12b_2]; decide)).symm) ((Int32.add_zero _).trans (show f_many (σ 12) 2 (j + 1) = _ from if_neg (by rw [e12b_2]; decide)).symm)
      exact ih _ _ _ ⟨by rw [← e9]; exact hP, by rw [← e9]; exact hD, hS, lv_sub hl [0, 2, 3, 4, 5] rfl⟩
    · refine va_get (D := D) (ci := 5) (v := .null) (C := RX5) (T := TX5) (N := 13) hx hb hts hinX5 hown hK hP (3 + nb + j) (zx_l (zjq_S hj)) rfl 7 (by decide) hf70 (fun _ h9 => h9) (congrArg some (zrf_n e13b_2)) dX6_sums_33 ?_
      refine lv_ifnullN (tgt := 43) hx hb dX6_sums_36 (by decide) ?_
      refine lv_iconst (v := 0) hx hb dX6_sums_43 (by decide) ?_
      refine lv_iadd hx hb dX6_sums_44 ?_
      refine zk_st hx hb hK hP hD hS ((zj cB cS u bd sl nb ns σ).length + 0) 0 (zxr (i := 0) rfl) rfl (k := 0) (by omega) (by decide) zxs dX6_sums_45 (fun H locs hP hD hS => ?_)
      have hP : va_P D vwCl (zj cB cS u bd sl nb ns σ ++ [(q, .inl (cI, 4, .inl (upd (f_sum4 σ j) 0 ((f_many (σ 12) 1 j) + 0))))]) H := hP
      have hD : va_D A (zj cB cS u bd sl nb ns σ ++ [(q, .inl (cI, 4, .inl (upd (f_sum4 σ j) 0 ((f_many (σ 12) 1 j) + 0))))]) := hD
      refine lv_aload_n hx hb dX6_sums_46 rfl (lv_at hl 4 rfl) ?_
      refine lv_iconst (v := 1) hx hb dX6_sums_47 (by decide) ?_
      refine lv_dup2_11 hx hb dX6_sums_48 rfl rfl ?_
      refine zk_ld hx hb hK hP ((zj cB cS u bd sl nb ns σ).length + 0) 0 (zxr (i := 0) rfl) rfl (k := 1) (by omega) (by decide) (v := f_many (σ 12) 2 j) rfl dX6_sums_49 ?_
      refine lv_aload hx hb dX6_sums_50 (lv_at hl 0 rfl) ?_
      refine va_get (D := D) (ci := 5) (v := .int 1) (C := RX5) (T := TX5) (N := 13) hx hb hts hinX5 hown hK hP (3 + nb + j) (zx_l (zjq_S hj)) rfl 8 (by decide) hf77 (fun _ h9 => h9) (congrArg (fun z => some (Value.int z)) (zfl_2 e12b_2)) dX6_sums_52 ?_
      refine lv_if_eq (tgt := 62) hx hb dX6_sums_55 (by decide) (fun c => absurd c (by decide)) (fun _ => ?_)
      refine lv_iconst (v := 1) hx hb dX6_sums_58 (by decide) ?_
      refine lv_goto (tgt := 63) hx hb dX6_sums_59 (by decide) ?_
      refine lv_iadd hx hb dX6_sums_63 ?_
      refine zk_st hx hb hK hP hD hS ((zj cB cS u bd sl nb ns σ).length + 0) 0 (zxr (i := 0) rfl) rfl (k := 1) (by omega) (by decide) zxs dX6_sums_64 (fun H locs hP hD hS => ?_)
      have hP : va_P D vwCl (zj cB cS u bd sl nb ns σ ++ [(q, .inl (cI, 4, .inl (upd (upd (f_sum4 σ j) 0 ((f_many (σ 12) 1 j) + 0)) 1 ((f_many (σ 12) 2 j) + 1))))]) H := hP
      have hD : va_D A (zj cB cS u bd sl nb ns σ ++ [(q, .inl (cI, 4, .inl (upd (upd (f_sum4 σ j) 0 ((f_many (σ 12) 1 j) + 0)) 1 ((f_many (σ 12) 2 j) + 1))))]) := hD
      refine lv_aload_n hx hb dX6_sums_65 rfl (lv_at hl 4 rfl) ?_
      refine lv_iconst (v := 2) hx hb dX6_sums_66 (by decide) ?_
      refine lv_dup2_11 hx hb dX6_sums_67 rfl rfl ?_
      refine zk_ld hx hb hK hP ((zj cB cS u bd sl nb ns σ).length + 0) 0 (zxr (i := 0) rfl) rfl (k := 2) (by omega) (by decide) (v := f_sum (σ 15) j) rfl dX6_sums_68 ?_
      refine lv_aload hx hb dX6_sums_69 (lv_at hl 0 rfl) ?_
      refine va_get (D := D) (ci := 5) (v := .int (σ 15 j)) (C := RX5) (T := TX5) (N := 13) hx hb hts hinX5 hown hK hP (3 + nb + j) (zx_l (zjq_S hj)) rfl 10 (by decide) hf83 (fun _ h9 => h9) rfl dX6_sums_71 ?_
      refine lv_iadd hx hb dX6_sums_74 ?_
      refine zk_st hx hb hK hP hD hS ((zj cB cS u bd sl nb ns σ).length + 0) 0 (zxr (i := 0) rfl) rfl (k := 2) (by omega) (by decide) zxs dX6_sums_75 (fun H locs hP hD hS => ?_)
      have hP : va_P D vwCl (zj cB cS u bd sl nb ns σ ++ [(q, .inl (cI, 4, .inl (upd (upd (upd (f_sum4 σ j) 0 ((f_many (σ 12) 1 j) + 0)) 1 ((f_many (σ 12) 2 j) + 1)) 2 ((f_sum (σ 15) j) + (σ 15 j)))))]) H := hP
      have hD : va_D A (zj cB cS u bd sl nb ns σ ++ [(q, .inl (cI, 4, .inl (upd (upd (upd (f_sum4 σ j) 0 ((f_many (σ 12) 1 j) + 0)) 1 ((f_many (σ 12) 2 j) + 1)) 2 ((f_sum (σ 15) j) + (σ 15 j)))))]) := hD
      refine lv_aload_n hx hb dX6_sums_76 rfl (lv_at hl 4 rfl) ?_
      refine lv_iconst (v := 3) hx hb dX6_sums_77 (by decide) ?_
      refine lv_dup2_11 hx hb dX6_sums_78 rfl rfl ?_
      refine zk_ld hx hb hK hP ((zj cB cS u bd sl nb ns σ).length + 0) 0 (zxr (i := 0) rfl) rfl (k := 3) (by omega) (by decide) (v := f_sum (σ 17) j) rfl dX6_sums_79 ?_
      refine lv_aload hx hb dX6_sums_80 (lv_at hl 0 rfl) ?_
      refine va_get (D := D) (ci := 5) (v := .int (σ 17 j)) (C := RX5) (T := TX5) (N := 13) hx hb hts hinX5 hown hK hP (3 + nb + j) (zx_l (zjq_S hj)) rfl 12 (by decide) hf89 (fun _ h9 => h9) rfl dX6_sums_82 ?_
      refine lv_iadd hx hb dX6_sums_85 ?_
      refine zk_st hx hb hK hP hD hS ((zj cB cS u bd sl nb ns σ).length + 0) 0 (zxr (i := 0) rfl) rfl (k := 3) (by omega) (by decide) zxs dX6_sums_86 (fun H locs hP hD hS => ?_)
      have hP : va_P D vwCl (zj cB cS u bd sl nb ns σ ++ [(q, .inl (cI, 4, .inl (upd (upd (upd (upd (f_sum4 σ j) 0 ((f_many (σ 12) 1 j) + 0)) 1 ((f_many (σ 12) 2 j) + 1)) 2 ((f_sum (σ 15) j) + (σ 15 j))) 3 ((f_sum (σ 17) j) + (σ 17 j)))))]) H := hP
      have hD : va_D A (zj cB cS u bd sl nb ns σ ++ [(q, .inl (cI, 4, .inl (upd (upd (upd (upd (f_sum4 σ j) 0 ((f_many (σ 12) 1 j) + 0)) 1 ((f_many (σ 12) 2 j) + 1)) 2 ((f_sum (σ 15) j) + (σ 15 j))) 3 ((f_sum (σ 17) j) + (σ 17 j)))))]) := hD
      refine lv_iinc (v := nI (j + 1)) (lv' := [(4, .int (nI (j + 1))), (5, .ref (sl j)), (3, .int (nI ns)), (2, .ref (u 2)), (1, .ref q), (0, .ref (u 0))]) hx hb dX6_sums_87 hl (k := 1) rfl (nI_1 j) (by decide) rfl (fun ls hl => ?_)
      refine lv_goto (tgt := 15) hx hb dX6_sums_90 (by decide) ?_
      have e9 : upd (upd (upd (upd (f_sum4 σ j) 0 ((f_many (σ 12) 1 j) + 0)) 1 ((f_many (σ 12) 2 j) + 1)) 2 ((f_sum (σ 15) j) + (σ 15 j))) 3 ((f_sum (σ 17) j) + (σ 17 j)) = f_sum4 σ (j + 1) := f_sum4_s σ j ((Int32.add_zero _).trans (show f_many (σ 12) 1 (j + 1) = _ from if_neg (by rw [e12b_2]; decide)).symm) ((show f_many (σ 12) 2 (j + 1) = _ from if_pos e12b_2).symm)
      exact ih _ _ _ ⟨by rw [← e9]; exact hP, by rw [← e9]; exact hD, hS, lv_sub hl [0, 2, 3, 4, 5] rfl⟩
  · obtain ⟨hP, hD, hS, hl⟩ := hI
    refine lv_iload hx hb dX6_sums_15 (lv_at hl 0 rfl) ?_
    refine lv_iload_n hx hb dX6_sums_17 rfl (lv_at hl 1 rfl) ?_
    refine lv_icmp_ge (tgt := 93) hx hb dX6_sums_18 (by decide) (fun _ => ?_) (fun c => absurd (i32_rf _) c)
    refine lv_aload_n hx hb dX6_sums_93 rfl (lv_at hl 3 rfl) ?_
    exact W.aret (v := .ref q) hx hb hr (Or.inr ⟨_, rfl⟩) (Or.inr ⟨_, rfl⟩) (fun t ht hW => ⟨⟨(), q, rfl, trivial, by rw [ht]; exact hP, va_K.moved hW.alike hK, hD⟩, hS.F ht⟩) hS.2.2 dX6_sums_94
