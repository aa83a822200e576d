/-! THE LAW: what it asks after each hour -/
def zLw (p : Program) (s : State) (m : MethodId) (meth : Method) (c : Code) (D : va_G) (cI cB cS : ClassId) (b0 L : Nat) (xs : Nat → Int32) (A : Nat → Prop) : Prop := p.tables.exec = Jvm.exec ∧ c.code = cL_law ∧ c.maxLocals = 20 ∧ s.vm.findClass RL = some m.cls ∧ (∀ w ∈ wsL_law, w.before #[Value.ref b0] s = true) ∧ va_K D vwCl (zT3 cI cB cS) s ∧ zL s ∧ va_X b0 L xs s s.heap ∧ L ≤ 260 ∧ b0 < s.heap.size ∧ ¬ A b0
/-- rows that are renewed up to a place -/
def q_rp (f g : Nat → Int32) (k : Nat) : Nat → Int32 := fun i => if i < k then f i else g i
theorem q_rp_0 (f g : Nat → Int32) : q_rp f g 0 = g := by
  funext i
  unfold q_rp
  rw [if_neg (Nat.not_lt_zero i)]
theorem q_rp_s (f g : Nat → Int32) (k : Nat) : upd (q_rp f g k) k (f k) = q_rp f g (k + 1) := by
  funext i
  unfold upd q_rp
  by_cases e : i = k
  · subst e
    rw [if_pos rfl, if_pos (Nat.lt_succ_self i)]
  · rw [if_neg e]
    by_cases h : i < k
    · rw [if_pos h, if_pos (by omega)]
    · rw [if_neg h, if_neg (by omega)]
theorem q_rp_at (f g : Nat → Int32) (k : Nat) : q_rp f g k k = g k := if_neg (Nat.lt_irrefl k)
/-- what was noted of rest, lateness and floors is no more than there is -/
def zmA (R Lt Fl : Nat → Int32) (σ : zS) : Prop := ∀ k, k < 10 → R k ≤ σ 14 k ∧ Lt k ≤ σ 15 k ∧ Fl k ≤ σ 17 k
theorem zld_use {σ : zS} {h ns k w : Nat} (hld : zld σ h ns) (hk : k < ns) (hw3 : w < 3) (hw : σ 6 k = nI w) (h12 : ¬ σ 12 k = 0) (hne : ¬ nI (h / 8 % 3) = nI w) : (σ 0 1) + (nI (2 * ((h + 48 - 8 * (w + 1)) % 24))) < σ 7 k := by
  have e3 : h / 8 % 3 = h % 24 / 8 := by omega
  have h1 := hld k hk h12 (fun z => hne (by rw [e3]; exact z.symm.trans hw))
  unfold zgo at h1
  rw [hw, nI_clamp (by omega)] at h1
  have e4 : (h + 48 - 8 * (w + 1)) % 24 = (h % 24 + 24 - (w + 1) * 8) % 24 := by omega
  have e5 : (2 : Int32) * nI ((h % 24 + 24 - (w + 1) * 8) % 24) = nI (2 * ((h % 24 + 24 - (w + 1) * 8) % 24)) := pk_mul 2 _
  rw [e4, ← e5]
  exact h1
theorem zn_lt1 {k : Nat} (hk : k < 2 ^ 31) : ¬ nI k < -1 := fun z => by
  have h1 := Int32.lt_iff_toInt_lt.mp z
  rw [nI_toInt hk] at h1
  have h2 : (-1 : Int32).toInt = -1 := by decide
  rw [h2] at h1
  omega
theorem zn_le1 {k : Nat} (hk : k < 2 ^ 31) : ¬ nI k ≤ -1 := fun z => by
  have h1 := Int32.le_iff_toInt_le.mp z
  rw [nI_toInt hk] at h1
  have h2 : (-1 : Int32).toInt = -1 := by decide
  rw [h2] at h1
  omega
theorem i32_le {a b : Int32} (h : ¬ b < a) : a ≤ b := Int32.le_iff_toInt_le.mpr (by have := mt Int32.lt_iff_toInt_lt.mpr h; omega)
set_option maxHeartbeats 4000000 in
set_option maxRecDepth 100000 in
theorem l_bed {p : Program} {l : Launch} {e : Env} {s : State} {m : MethodId} {below : List Frame} {meth : Method} {c : Code} {Q : State → Prop} {D : va_G} {cI cB cS : ClassId} {x b0 L : Nat} {xs : Nat → Int32} {a b u bd sl : Nat → Nat} {A : Nat → Prop} {σ τ : zS} {a3 a4 a5 : Nat} {R Lt Fl : Nat → Int32} {ce sz tm : Nat} {H : Heap} {locs : List Loc} {ls : Array Slot} (C : zLw p s m meth c D cI cB cS b0 L xs A) (hA : ∀ q : Nat, s.heap.size ≤ q → A q) {nb ns h B : Nat} (hV : zV σ nb ns (h + 1) B) (hce : ce ≤ 10000) (hsz : sz ≤ 100000) {k : Nat} (hwm : zwm σ nb) (hk : k < nb) (hP : va_P D vwCl ((zw_X cI x a b σ τ ++ zj cB cS u bd sl nb ns σ) ++ [(a3, .inl (cI, 10, .inl R)), (a4, .inl (cI, 10, .inl Lt)), (a5, .inl (cI, 10, .inl Fl))]) H) (hD : va_D A ((zw_X cI x a b σ τ ++ zj cB cS u bd sl nb ns σ) ++ [(a3, .inl (cI, 10, .inl R)), (a4, .inl (cI, 10, .inl Lt)), (a5, .inl (cI, 10, .inl Fl))])) (hS : va_S A s.heap H locs) (hl : lv_has ls 20 [(15, .int (nI k)), (14, .int 0), (13, .int 0), (12, .int 0), (11, .int (f_inb (σ 5) k)), (10, .int (nI ns)), (9, .int (nI nb)), (8, .int (nI h)), (6, .int (nI tm)), (5, .ref a5), (4, .ref a4), (3, .ref a3), (2, .ref (u 0)), (1, .ref x), (0, .ref b0)])  (kk : ∀ (H : Heap) (locs : List Loc) (ls : Array Slot), va_P D vwCl ((zw_X cI x a b σ τ ++ zj cB cS u bd sl nb ns σ) ++ [(a3, .inl (cI, 10, .inl R)), (a4, .inl (cI, 10, .inl Lt)), (a5, .inl (cI, 10, .inl Fl))]) H → va_D A ((zw_X cI x a b σ τ ++ zj cB cS u bd sl nb ns σ) ++ [(a3, .inl (cI, 10, .inl R)), (a4, .inl (cI, 10, .inl Lt)), (a5, .inl (cI, 10, .inl Fl))]) → va_S A s.heap H locs → lv_has ls 20 [(15, .int (nI k)), (14, .int 0), (13, .int 0), (12, .int 0), (11, .int (f_inb (σ 5) (k + 1))), (10, .int (nI ns)), (9, .int (nI nb)), (8, .int (nI h)), (6, .int (nI tm)), (5, .ref a5), (4, .ref a4), (3, .ref a3), (2, .ref (u 0)), (1, .ref x), (0, .ref b0)] → W p l e room_1 s m #[Value.ref b0] below meth c H locs ce sz Q (F0 m 267 ls [])) : W p l e room_1 s m #[Value.ref b0] below meth c H locs ce sz Q (F0 m 140 ls []) := by
  obtain ⟨hx, hb, hml, hown, hts, hK, hL, hX, hL2, hbl, hbA⟩ := C
  have hnb := hV.1.2.1
  have hns := hV.1.2.2.2.1
  have hh := hV.1.2.2.2.2.2.1
  have hKi : va_K D vwCl [(cI, .int)] s := hK.sub [0] rfl
  rcases (hV.kbd hk).2.2.2 with e5 | ⟨k1, hk1, e5, z3, z4⟩
  · refine lv_aload_n hx hb dL_law_140 rfl (lv_at hl 13 rfl) ?_
    refine lv_iload hx hb dL_law_141 (lv_at hl 0 rfl) ?_
    refine lv_iconst (v := 4) hx hb dL_law_143 (by decide) ?_
    refine zk_R (D := D) (va_runV (As := [.int (nI k), .int (nI 4)]) (rest := []) ⟨hx, hb, hml, hown, hts⟩ (c_X3_about l D cI x a b σ τ hV.1 hk (w := 4) (by decide) _) (cwV 2 hts gL_law_X3_about rfl rfl rfl zdX3_about ⟨Nat.le_of_ble_eq_true rfl, Nat.le_of_ble_eq_true rfl⟩) ⟨zbl _, va_recv hKi (zxd_P (zxd_P hP)) (ci := 3) (q0 := 0) rfl rfl, zpr hKi (zxd_P (zxd_P hP)) (zxd_D (zxd_D hD))⟩ rfl rfl hl.1 rfl (lv_room (Nat.le_of_ble_eq_true rfl)) dL_law_144 ⟨by show _ ≤ 772990; omega, by show _ ≤ 6782653; omega⟩) hS (fun r H locs hw hkp hS => ?_)
    have hP := hkp _ hP
    have hw : r = (-1) := (show r = σ 5 k from hw).trans e5
    subst hw
    refine lv_istore (lv' := [(16, .int (-1)), (15, .int (nI k)), (14, .int 0), (13, .int 0), (12, .int 0), (11, .int (f_inb (σ 5) k)), (10, .int (nI ns)), (9, .int (nI nb)), (8, .int (nI h)), (6, .int (nI tm)), (5, .ref a5), (4, .ref a4), (3, .ref a3), (2, .ref (u 0)), (1, .ref x), (0, .ref b0)]) hx hb dL_law_147 hl (by decide) rfl (fun ls hl => ?_)
    refine lv_aload_n hx hb dL_law_149 rfl (lv_at hl 14 rfl) ?_
    refine lv_iload hx hb dL_law_150 (lv_at hl 1 rfl) ?_
    refine lv_iconst (v := 1) hx hb dL_law_152 (by decide) ?_
    refine zk_R (D := D) (va_runV (As := [.int (nI k), .int (nI 1)]) (rest := []) ⟨hx, hb, hml, hown, hts⟩ (c_X3_about l D cI x a b σ τ hV.1 hk (w := 1) (by decide) _) (cwV 2 hts gL_law_X3_about rfl rfl rfl zdX3_about ⟨Nat.le_of_ble_eq_true rfl, Nat.le_of_ble_eq_true rfl⟩) ⟨zbl _, va_recv hKi (zxd_P (zxd_P hP)) (ci := 3) (q0 := 0) rfl rfl, zpr hKi (zxd_P (zxd_P hP)) (zxd_D (zxd_D hD))⟩ rfl rfl hl.1 rfl (lv_room (Nat.le_of_ble_eq_true rfl)) dL_law_153 ⟨by show _ ≤ 772990; omega, by show _ ≤ 6782653; omega⟩) hS (fun r H locs hw hkp hS => ?_)
    have hP := hkp _ hP
    have hw : r = σ 2 k := hw
    subst hw
    refine lv_if_lt (tgt := 250) hx hb dL_law_156 (by decide) (fun c => absurd c ((hV.kbd hk).2.2.1.pos (by decide))) (fun _ => ?_)
    refine lv_aload_n hx hb dL_law_159 rfl (lv_at hl 14 rfl) ?_
    refine lv_iload hx hb dL_law_160 (lv_at hl 1 rfl) ?_
    refine lv_iconst (v := 1) hx hb dL_law_162 (by decide) ?_
    refine zk_R (D := D) (va_runV (As := [.int (nI k), .int (nI 1)]) (rest := []) ⟨hx, hb, hml, hown, hts⟩ (c_X3_about l D cI x a b σ τ hV.1 hk (w := 1) (by decide) _) (cwV 2 hts gL_law_X3_about rfl rfl rfl zdX3_about ⟨Nat.le_of_ble_eq_true rfl, Nat.le_of_ble_eq_true rfl⟩) ⟨zbl _, va_recv hKi (zxd_P (zxd_P hP)) (ci := 3) (q0 := 0) rfl rfl, zpr hKi (zxd_P (zxd_P hP)) (zxd_D (zxd_D hD))⟩ rfl rfl hl.1 rfl (lv_room (Nat.le_of_ble_eq_true rfl)) dL_law_163 ⟨by show _ ≤ 772990; omega, by show _ ≤ 6782653; omega⟩) hS (fun r H locs hw hkp hS => ?_)
    have hP := hkp _ hP
    have hw : r = σ 2 k := hw
    subst hw
    refine lv_bipush (v := 8) hx hb dL_law_166 (by decide) ?_
    refine lv_icmp_gt (tgt := 250) hx hb dL_law_168 (by decide) (fun c => absurd c (i32_nlt ((hV.kbd hk).2.2.1.le (by decide)))) (fun _ => ?_)
    refine lv_aload_n hx hb dL_law_171 rfl (lv_at hl 14 rfl) ?_
    refine lv_iload hx hb dL_law_172 (lv_at hl 1 rfl) ?_
    refine lv_iconst (v := 3) hx hb dL_law_174 (by decide) ?_
    refine zk_R (D := D) (va_runV (As := [.int (nI k), .int (nI 3)]) (rest := []) ⟨hx, hb, hml, hown, hts⟩ (c_X3_about l D cI x a b σ τ hV.1 hk (w := 3) (by decide) _) (cwV 2 hts gL_law_X3_about rfl rfl rfl zdX3_about ⟨Nat.le_of_ble_eq_true rfl, Nat.le_of_ble_eq_true rfl⟩) ⟨zbl _, va_recv hKi (zxd_P (zxd_P hP)) (ci := 3) (q0 := 0) rfl rfl, zpr hKi (zxd_P (zxd_P hP)) (zxd_D (zxd_D hD))⟩ rfl rfl hl.1 rfl (lv_room (Nat.le_of_ble_eq_true rfl)) dL_law_175 ⟨by show _ ≤ 772990; omega, by show _ ≤ 6782653; omega⟩) hS (fun r H locs hw hkp hS => ?_)
    have hP := hkp _ hP
    have hw : r = σ 4 k := hw
    subst hw
    refine lv_aload_n hx hb dL_law_178 rfl (lv_at hl 14 rfl) ?_
    refine lv_iload hx hb dL_law_179 (lv_at hl 1 rfl) ?_
    refine lv_iconst (v := 0) hx hb dL_law_181 (by decide) ?_
    refine zk_R (D := D) (va_runV (As := [.int (nI k), .int (nI 0)]) (rest := [.int (σ 4 k)]) ⟨hx, hb, hml, hown, hts⟩ (c_X3_about l D cI x a b σ τ hV.1 hk (w := 0) (by decide) _) (cwV 2 hts gL_law_X3_about rfl rfl rfl zdX3_about ⟨Nat.le_of_ble_eq_true rfl, Nat.le_of_ble_eq_true rfl⟩) ⟨zbl _, va_recv hKi (zxd_P (zxd_P hP)) (ci := 3) (q0 := 0) rfl rfl, zpr hKi (zxd_P (zxd_P hP)) (zxd_D (zxd_D hD))⟩ rfl rfl hl.1 rfl (lv_room (Nat.le_of_ble_eq_true rfl)) dL_law_182 ⟨by show _ ≤ 772990; omega, by show _ ≤ 6782653; omega⟩) hS (fun r H locs hw hkp hS => ?_)
    have hP := hkp _ hP
    have hw : r = σ 1 k := hw
    subst hw
    refine lv_aload_n hx hb dL_law_185 rfl (lv_at hl 14 rfl) ?_
    refine lv_iload hx hb dL_law_186 (lv_at hl 1 rfl) ?_
    refine lv_iconst (v := 2) hx hb dL_law_188 (by decide) ?_
    refine zk_R (D := D) (va_runV (As := [.int (nI k), .int (nI 2)]) (rest := [.int (σ 1 k), .int (σ 4 k)]) ⟨hx, hb, hml, hown, hts⟩ (c_X3_about l D cI x a b σ τ hV.1 hk (w := 2) (by decide) _) (cwV 2 hts gL_law_X3_about rfl rfl rfl zdX3_about ⟨Nat.le_of_ble_eq_true rfl, Nat.le_of_ble_eq_true rfl⟩) ⟨zbl _, va_recv hKi (zxd_P (zxd_P hP)) (ci := 3) (q0 := 0) rfl rfl, zpr hKi (zxd_P (zxd_P hP)) (zxd_D (zxd_D hD))⟩ rfl rfl hl.1 rfl (lv_room (Nat.le_of_ble_eq_true rfl)) dL_law_189 ⟨by show _ ≤ 772990; omega, by show _ ≤ 6782653; omega⟩) hS (fun r H locs hw hkp hS => ?_)
    have hP := hkp _ hP
    have hw : r = σ 3 k := hw
    subst hw
    refine lv_imul hx hb dL_law_192 ?_
    refine lv_icmp_ne (tgt := 250) hx hb dL_law_193 (by decide) (fun c => absurd ((hV.kbd hk).2.1) c) (fun _ => ?_)
    refine lv_iload hx hb dL_law_196 (lv_at hl 0 rfl) ?_
    refine lv_iconst (v := (-1)) hx hb dL_law_198 (by decide) ?_
    refine lv_icmp_lt (tgt := 250) hx hb dL_law_199 (by decide) (fun c => absurd c (by decide)) (fun _ => ?_)
    refine lv_iload hx hb dL_law_202 (lv_at hl 0 rfl) ?_
    refine lv_iload hx hb dL_law_204 (lv_at hl 6 rfl) ?_
    refine lv_icmp_ge (tgt := 250) hx hb dL_law_206 (by decide) (fun c => absurd c (zn_le1 (by omega))) (fun _ => ?_)
    refine lv_iload hx hb dL_law_209 (lv_at hl 0 rfl) ?_
    refine lv_if_lt (tgt := 252) hx hb dL_law_211 (by decide) (fun _ => ?_) (fun c => absurd (by decide) c)
    refine lv_iload hx hb dL_law_252 (lv_at hl 5 rfl) ?_
    refine lv_iload hx hb dL_law_254 (lv_at hl 0 rfl) ?_
    refine lv_if_lt (tgt := 263) hx hb dL_law_256 (by decide) (fun _ => ?_) (fun c => absurd (by decide) c)
    refine lv_iconst (v := 0) hx hb dL_law_263 (by decide) ?_
    refine lv_iadd hx hb dL_law_264 ?_
    refine lv_istore (lv' := [(11, .int ((f_inb (σ 5) k) + 0)), (16, .int (-1)), (15, .int (nI k)), (14, .int 0), (13, .int 0), (12, .int 0), (10, .int (nI ns)), (9, .int (nI nb)), (8, .int (nI h)), (6, .int (nI tm)), (5, .ref a5), (4, .ref a4), (3, .ref a3), (2, .ref (u 0)), (1, .ref x), (0, .ref b0)]) hx hb dL_law_265 hl (by decide) rfl (fun ls hl => ?_)
    have e9 : f_inb (σ 5) (k + 1) = (f_inb (σ 5) k) + 0 := congrArg (fun q => f_inb (σ 5) k + q) (if_pos (by rw [e5]; decide))
    exact kk _ _ _ hP hD hS (by rw [e9]; exact lv_sub hl [2, 3, 4, 5, 0, 6, 7, 8, 9, 10, 11, 12, 13, 14, 15] rfl)
  · refine lv_aload_n hx hb dL_law_140 rfl (lv_at hl 13 rfl) ?_
    refine lv_iload hx hb dL_law_141 (lv_at hl 0 rfl) ?_
    refine lv_iconst (v := 4) hx hb dL_law_143 (by decide) ?_
    refine zk_R (D := D) (va_runV (As := [.int (nI k), .int (nI 4)]) (rest := []) ⟨hx, hb, hml, hown, hts⟩ (c_X3_about l D cI x a b σ τ hV.1 hk (w := 4) (by decide) _) (cwV 2 hts gL_law_X3_about rfl rfl rfl zdX3_about ⟨Nat.le_of_ble_eq_true rfl, Nat.le_of_ble_eq_true rfl⟩) ⟨zbl _, va_recv hKi (zxd_P (zxd_P hP)) (ci := 3) (q0 := 0) rfl rfl, zpr hKi (zxd_P (zxd_P hP)) (zxd_D (zxd_D hD))⟩ rfl rfl hl.1 rfl (lv_room (Nat.le_of_ble_eq_true rfl)) dL_law_144 ⟨by show _ ≤ 772990; omega, by show _ ≤ 6782653; omega⟩) hS (fun r H locs hw hkp hS => ?_)
    have hP := hkp _ hP
    have hw : r = nI k1 := (show r = σ 5 k from hw).trans e5
    subst hw
    refine lv_istore (lv' := [(16, .int (nI k1)), (15, .int (nI k)), (14, .int 0), (13, .int 0), (12, .int 0), (11, .int (f_inb (σ 5) k)), (10, .int (nI ns)), (9, .int (nI nb)), (8, .int (nI h)), (6, .int (nI tm)), (5, .ref a5), (4, .ref a4), (3, .ref a3), (2, .ref (u 0)), (1, .ref x), (0, .ref b0)]) hx hb dL_law_147 hl (by decide) rfl (fun ls hl => ?_)
    refine lv_aload_n hx hb dL_law_149 rfl (lv_at hl 14 rfl) ?_
    refine lv_iload hx hb dL_law_150 (lv_at hl 1 rfl) ?_
    refine lv_iconst (v := 1) hx hb dL_law_152 (by decide) ?_
    refine zk_R (D := D) (va_runV (As := [.int (nI k), .int (nI 1)]) (rest := []) ⟨hx, hb, hml, hown, hts⟩ (c_X3_about l D cI x a b σ τ hV.1 hk (w := 1) (by decide) _) (cwV 2 hts gL_law_X3_about rfl rfl rfl zdX3_about ⟨Nat.le_of_ble_eq_true rfl, Nat.le_of_ble_eq_true rfl⟩) ⟨zbl _, va_recv hKi (zxd_P (zxd_P hP)) (ci := 3) (q0 := 0) rfl rfl, zpr hKi (zxd_P (zxd_P hP)) (zxd_D (zxd_D hD))⟩ rfl rfl hl.1 rfl (lv_room (Nat.le_of_ble_eq_true rfl)) dL_law_153 ⟨by show _ ≤ 772990; omega, by show _ ≤ 6782653; omega⟩) hS (fun r H locs hw hkp hS => ?_)
    have hP := hkp _ hP
    have hw : r = σ 2 k := hw
    subst hw
    refine lv_if_lt (tgt := 250) hx hb dL_law_156 (by decide) (fun c => absurd c ((hV.kbd hk).2.2.1.pos (by decide))) (fun _ => ?_)
    refine lv_aload_n hx hb dL_law_159 rfl (lv_at hl 14 rfl) ?_
    refine lv_iload hx hb dL_law_160 (lv_at hl 1 rfl) ?_
    refine lv_iconst (v := 1) hx hb dL_law_162 (by decide) ?_
    refine zk_R (D := D) (va_runV (As := [.int (nI k), .int (nI 1)]) (rest := []) ⟨hx, hb, hml, hown, hts⟩ (c_X3_about l D cI x a b σ τ hV.1 hk (w := 1) (by decide) _) (cwV 2 hts gL_law_X3_about rfl rfl rfl zdX3_about ⟨Nat.le_of_ble_eq_true rfl, Nat.le_of_ble_eq_true rfl⟩) ⟨zbl _, va_recv hKi (zxd_P (zxd_P hP)) (ci := 3) (q0 := 0) rfl rfl, zpr hKi (zxd_P (zxd_P hP)) (zxd_D (zxd_D hD))⟩ rfl rfl hl.1 rfl (lv_room (Nat.le_of_ble_eq_true rfl)) dL_law_163 ⟨by show _ ≤ 772990; omega, by show _ ≤ 6782653; omega⟩) hS (fun r H locs hw hkp hS => ?_)
    have hP := hkp _ hP
    have hw : r = σ 2 k := hw
    subst hw
    refine lv_bipush (v := 8) hx hb dL_law_166 (by decide) ?_
    refine lv_icmp_gt (tgt := 250) hx hb dL_law_168 (by decide) (fun c => absurd c (i32_nlt ((hV.kbd hk).2.2.1.le (by decide)))) (fun _ => ?_)
    refine lv_aload_n hx hb dL_law_171 rfl (lv_at hl 14 rfl) ?_
    refine lv_iload hx hb dL_law_172 (lv_at hl 1 rfl) ?_
    refine lv_iconst (v := 3) hx hb dL_law_174 (by decide) ?_
    refine zk_R (D := D) (va_runV (As := [.int (nI k), .int (nI 3)]) (rest := []) ⟨hx, hb, hml, hown, hts⟩ (c_X3_about l D cI x a b σ τ hV.1 hk (w := 3) (by decide) _) (cwV 2 hts gL_law_X3_about rfl rfl rfl zdX3_about ⟨Nat.le_of_ble_eq_true rfl, Nat.le_of_ble_eq_true rfl⟩) ⟨zbl _, va_recv hKi (zxd_P (zxd_P hP)) (ci := 3) (q0 := 0) rfl rfl, zpr hKi (zxd_P (zxd_P hP)) (zxd_D (zxd_D hD))⟩ rfl rfl hl.1 rfl (lv_room (Nat.le_of_ble_eq_true rfl)) dL_law_175 ⟨by show _ ≤ 772990; omega, by show _ ≤ 6782653; omega⟩) hS (fun r H locs hw hkp hS => ?_)
    have hP := hkp _ hP
    have hw : r = σ 4 k := hw
    subst hw
    refine lv_aload_n hx hb dL_law_178 rfl (lv_at hl 14 rfl) ?_
    refine lv_iload hx hb dL_law_179 (lv_at hl 1 rfl) ?_
    refine lv_iconst (v := 0) hx hb dL_law_181 (by decide) ?_
    refine zk_R (D := D) (va_runV (As := [.int (nI k), .int (nI 0)]) (rest := [.int (σ 4 k)]) ⟨hx, hb, hml, hown, hts⟩ (c_X3_about l D cI x a b σ τ hV.1 hk (w := 0) (by decide) _) (cwV 2 hts gL_law_X3_about rfl rfl rfl zdX3_about ⟨Nat.le_of_ble_eq_true rfl, Nat.le_of_ble_eq_true rfl⟩) ⟨zbl _, va_recv hKi (zxd_P (zxd_P hP)) (ci := 3) (q0 := 0) rfl rfl, zpr hKi (zxd_P (zxd_P hP)) (zxd_D (zxd_D hD))⟩ rfl rfl hl.1 rfl (lv_room (Nat.le_of_ble_eq_true rfl)) dL_law_182 ⟨by show _ ≤ 772990; omega, by show _ ≤ 6782653; omega⟩) hS (fun r H locs hw hkp hS => ?_)
    have hP := hkp _ hP
    have hw : r = σ 1 k := hw
    subst hw
    refine lv_aload_n hx hb dL_law_185 rfl (lv_at hl 14 rfl) ?_
    refine lv_iload hx hb dL_law_186 (lv_at hl 1 rfl) ?_
    refine lv_iconst (v := 2) hx hb dL_law_188 (by decide) ?_
    refine zk_R (D := D) (va_runV (As := [.int (nI k), .int (nI 2)]) (rest := [.int (σ 1 k), .int (σ 4 k)]) ⟨hx, hb, hml, hown, hts⟩ (c_X3_about l D cI x a b σ τ hV.1 hk (w := 2) (by decide) _) (cwV 2 hts gL_law_X3_about rfl rfl rfl zdX3_about ⟨Nat.le_of_ble_eq_true rfl, Nat.le_of_ble_eq_true rfl⟩) ⟨zbl _, va_recv hKi (zxd_P (zxd_P hP)) (ci := 3) (q0 := 0) rfl rfl, zpr hKi (zxd_P (zxd_P hP)) (zxd_D (zxd_D hD))⟩ rfl rfl hl.1 rfl (lv_room (Nat.le_of_ble_eq_true rfl)) dL_law_189 ⟨by show _ ≤ 772990; omega, by show _ ≤ 6782653; omega⟩) hS (fun r H locs hw hkp hS => ?_)
    have hP := hkp _ hP
    have hw : r = σ 3 k := hw
    subst hw
    refine lv_imul hx hb dL_law_192 ?_
    refine lv_icmp_ne (tgt := 250) hx hb dL_law_193 (by decide) (fun c => absurd ((hV.kbd hk).2.1) c) (fun _ => ?_)
    refine lv_iload hx hb dL_law_196 (lv_at hl 0 rfl) ?_
    refine lv_iconst (v := (-1)) hx hb dL_law_198 (by decide) ?_
    refine lv_icmp_lt (tgt := 250) hx hb dL_law_199 (by decide) (fun c => absurd c (zn_lt1 (by omega))) (fun _ => ?_)
    refine lv_iload hx hb dL_law_202 (lv_at hl 0 rfl) ?_
    refine lv_iload hx hb dL_law_204 (lv_at hl 6 rfl) ?_
    refine lv_icmp_ge (tgt := 250) hx hb dL_law_206 (by decide) (fun c => absurd c (nI_ge hk1 (by omega))) (fun _ => ?_)
    refine lv_iload hx hb dL_law_209 (lv_at hl 0 rfl) ?_
    refine lv_if_lt (tgt := 252) hx hb dL_law_211 (by decide) (fun c => absurd c (nI_pos (by omega))) (fun _ => ?_)
    refine lv_aload_n hx hb dL_law_214 rfl (lv_at hl 14 rfl) ?_
    refine lv_iload hx hb dL_law_215 (lv_at hl 0 rfl) ?_
    refine lv_bipush (v := 6) hx hb dL_law_217 (by decide) ?_
    refine zk_R (D := D) (va_runV (As := [.int (nI k1), .int (nI 6)]) (rest := []) ⟨hx, hb, hml, hown, hts⟩ (c_X3_told l D cI x a b σ τ hV.1 hk1 (w := 6) (by decide) _) (cwV 2 hts gL_law_X3_told rfl rfl rfl zdX3_told ⟨Nat.le_of_ble_eq_true rfl, Nat.le_of_ble_eq_true rfl⟩) ⟨zbl _, va_recv hKi (zxd_P (zxd_P hP)) (ci := 3) (q0 := 0) rfl rfl, zpr hKi (zxd_P (zxd_P hP)) (zxd_D (zxd_D hD))⟩ rfl rfl hl.1 rfl (lv_room (Nat.le_of_ble_eq_true rfl)) dL_law_219 ⟨by show _ ≤ 772990; omega, by show _ ≤ 6782653; omega⟩) hS (fun r H locs hw hkp hS => ?_)
    have hP := hkp _ hP
    have hw : r = 1 := (show r = σ 12 k1 from hw).trans z3
    subst hw
    refine lv_iconst (v := 1) hx hb dL_law_222 (by decide) ?_
    refine lv_icmp_ne (tgt := 250) hx hb dL_law_223 (by decide) (fun c => absurd (by decide) c) (fun _ => ?_)
    refine lv_aload_n hx hb dL_law_226 rfl (lv_at hl 14 rfl) ?_
    refine lv_iload hx hb dL_law_227 (lv_at hl 0 rfl) ?_
    refine lv_bipush (v := 7) hx hb dL_law_229 (by decide) ?_
    refine zk_R (D := D) (va_runV (As := [.int (nI k1), .int (nI 7)]) (rest := []) ⟨hx, hb, hml, hown, hts⟩ (c_X3_told l D cI x a b σ τ hV.1 hk1 (w := 7) (by decide) _) (cwV 2 hts gL_law_X3_told rfl rfl rfl zdX3_told ⟨Nat.le_of_ble_eq_true rfl, Nat.le_of_ble_eq_true rfl⟩) ⟨zbl _, va_recv hKi (zxd_P (zxd_P hP)) (ci := 3) (q0 := 0) rfl rfl, zpr hKi (zxd_P (zxd_P hP)) (zxd_D (zxd_D hD))⟩ rfl rfl hl.1 rfl (lv_room (Nat.le_of_ble_eq_true rfl)) dL_law_231 ⟨by show _ ≤ 772990; omega, by show _ ≤ 6782653; omega⟩) hS (fun r H locs hw hkp hS => ?_)
    have hP := hkp _ hP
    have hw : r = nI k := (show r = σ 13 k1 from hw).trans z4
    subst hw
    refine lv_iload hx hb dL_law_234 (lv_at hl 1 rfl) ?_
    refine lv_icmp_ne (tgt := 250) hx hb dL_law_236 (by decide) (fun c => absurd (rfl) c) (fun _ => ?_)
    refine lv_aload_n hx hb dL_law_239 rfl (lv_at hl 14 rfl) ?_
    refine lv_iload hx hb dL_law_240 (lv_at hl 1 rfl) ?_
    refine lv_iconst (v := 1) hx hb dL_law_242 (by decide) ?_
    refine zk_R (D := D) (va_runV (As := [.int (nI k), .int (nI 1)]) (rest := []) ⟨hx, hb, hml, hown, hts⟩ (c_X3_about l D cI x a b σ τ hV.1 hk (w := 1) (by decide) _) (cwV 2 hts gL_law_X3_about rfl rfl rfl zdX3_about ⟨Nat.le_of_ble_eq_true rfl, Nat.le_of_ble_eq_true rfl⟩) ⟨zbl _, va_recv hKi (zxd_P (zxd_P hP)) (ci := 3) (q0 := 0) rfl rfl, zpr hKi (zxd_P (zxd_P hP)) (zxd_D (zxd_D hD))⟩ rfl rfl hl.1 rfl (lv_room (Nat.le_of_ble_eq_true rfl)) dL_law_243 ⟨by show _ ≤ 772990; omega, by show _ ≤ 6782653; omega⟩) hS (fun r H locs hw hkp hS => ?_)
    have hP := hkp _ hP
    have hw : r = σ 2 k := hw
    subst hw
    refine lv_iconst (v := 2) hx hb dL_law_246 (by decide) ?_
    refine lv_icmp_ge (tgt := 252) hx hb dL_law_247 (by decide) (fun _ => ?_) (fun c => absurd (i32_le (hwm k hk (fun z => zn_m1 (k := k1) (by omega) (e5.symm.trans z)))) c)
    refine lv_iload hx hb dL_law_252 (lv_at hl 5 rfl) ?_
    refine lv_iload hx hb dL_law_254 (lv_at hl 0 rfl) ?_
    refine lv_if_lt (tgt := 263) hx hb dL_law_256 (by decide) (fun c => absurd c (nI_pos (by omega))) (fun _ => ?_)
    refine lv_iconst (v := 1) hx hb dL_law_259 (by decide) ?_
    refine lv_goto (tgt := 264) hx hb dL_law_260 (by decide) ?_
    refine lv_iadd hx hb dL_law_264 ?_
    refine lv_istore (lv' := [(11, .int ((f_inb (σ 5) k) + 1)), (16, .int (nI k1)), (15, .int (nI k)), (14, .int 0), (13, .int 0), (12, .int 0), (10, .int (nI ns)), (9, .int (nI nb)), (8, .int (nI h)), (6, .int (nI tm)), (5, .ref a5), (4, .ref a4), (3, .ref a3), (2, .ref (u 0)), (1, .ref x), (0, .ref b0)]) hx hb dL_law_265 hl (by decide) rfl (fun ls hl => ?_)
    have e9 : f_inb (σ 5) (k + 1) = (f_inb (σ 5) k) + 1 := congrArg (fun q => f_inb (σ 5) k + q) (if_neg (by rw [e5]; exact nI_pos (by omega)))
    exact kk _ _ _ hP hD hS (by rw [e9]; exact lv_sub hl [2, 3, 4, 5, 0, 6, 7, 8, 9, 10, 11, 12, 13, 14, 15] rfl)
set_option maxHeartbeats 4000000 in
set_option maxRecDepth 100000 in
theorem l_s1 {p : Program} {l : Launch} {e : Env} {s : State} {m : MethodId} {below : List Frame} {meth : Method} {c : Code} {Q : State → Prop} {D : va_G} {cI cB cS : ClassId} {x b0 L : Nat} {xs : Nat → Int32} {a b u bd sl : Nat → Nat} {A : Nat → Prop} {σ τ : zS} {a3 a4 a5 : Nat} {R Lt Fl : Nat → Int32} {ce sz tm : Nat} {H : Heap} {locs : List Loc} {ls : Array Slot} (C : zLw p s m meth c D cI cB cS b0 L xs A) (hA : ∀ q : Nat, s.heap.size ≤ q → A q) {nb ns h B : Nat} (hV : zV σ nb ns (h + 1) B) (hce : ce ≤ 10000) (hsz : sz ≤ 100000) {k : Nat} (hk : k < ns) (hP : va_P D vwCl ((zw_X cI x a b σ τ ++ zj cB cS u bd sl nb ns σ) ++ [(a3, .inl (cI, 10, .inl (q_rp (σ 14) R k))), (a4, .inl (cI, 10, .inl (q_rp (σ 15) Lt k))), (a5, .inl (cI, 10, .inl (q_rp (σ 17) Fl k)))]) H) (hD : va_D A ((zw_X cI x a b σ τ ++ zj cB cS u bd sl nb ns σ) ++ [(a3, .inl (cI, 10, .inl (q_rp (σ 14) R k))), (a4, .inl (cI, 10, .inl (q_rp (σ 15) Lt k))), (a5, .inl (cI, 10, .inl (q_rp (σ 17) Fl k)))])) (hS : va_S A s.heap H locs) (hl : lv_has ls 20 [(15, .int (nI k)), (14, .int (f_sum (σ 17) k)), (13, .int (f_sum (σ 15) k)), (12, .int (f_many (σ 12) 2 k)), (11, .int (f_inb (σ 5) nb)), (10, .int (nI ns)), (9, .int (nI nb)), (8, .int (nI h)), (6, .int (nI tm)), (5, .ref a5), (4, .ref a4), (3, .ref a3), (2, .ref (u 0)), (1, .ref x), (0, .ref b0)])  (kk : ∀ (H : Heap) (locs : List Loc) (ls : Array Slot), va_P D vwCl ((zw_X cI x a b σ τ ++ zj cB cS u bd sl nb ns σ) ++ [(a3, .inl (cI, 10, .inl (q_rp (σ 14) R k))), (a4, .inl (cI, 10, .inl (q_rp (σ 15) Lt k))), (a5, .inl (cI, 10, .inl (q_rp (σ 17) Fl k)))]) H → va_D A ((zw_X cI x a b σ τ ++ zj cB cS u bd sl nb ns σ) ++ [(a3, .inl (cI, 10, .inl (q_rp (σ 14) R k))), (a4, .inl (cI, 10, .inl (q_rp (σ 15) Lt k))), (a5, .inl (cI, 10, .inl (q_rp (σ 17) Fl k)))]) → va_S A s.heap H locs → lv_has ls 20 [(16, .int (σ 12 k)), (15, .int (nI k)), (14, .int (f_sum (σ 17) k)), (13, .int (f_sum (σ 15) k)), (12, .int (f_many (σ 12) 2 k)), (11, .int (f_inb (σ 5) nb)), (10, .int (nI ns)), (9, .int (nI nb)), (8, .int (nI h)), (6, .int (nI tm)), (5, .ref a5), (4, .ref a4), (3, .ref a3), (2, .ref (u 0)), (1, .ref x), (0, .ref b0)] → W p l e room_1 s m #[Value.ref b0] below meth c H locs ce sz Q (F0 m 357 ls [])) : W p l e room_1 s m #[Value.ref b0] below meth c H locs ce sz Q (F0 m 283 ls []) := by
  obtain ⟨hx, hb, hml, hown, hts, hK, hL, hX, hL2, hbl, hbA⟩ := C
  have hnb := hV.1.2.1
  have hns := hV.1.2.2.2.1
  have hh := hV.1.2.2.2.2.2.1
  have hKi : va_K D vwCl [(cI, .int)] s := hK.sub [0] rfl
  rcases zplace ((hV.ksk hk).2.2.2.1) with ⟨e12, -⟩ | ⟨e12, e13⟩ | ⟨e12, e13⟩
  · obtain ⟨b9, hb9, e13, e5⟩ := hV.kln hk e12
    refine lv_aload_n hx hb dL_law_283 rfl (lv_at hl 13 rfl) ?_
    refine lv_iload hx hb dL_law_284 (lv_at hl 0 rfl) ?_
    refine lv_bipush (v := 6) hx hb dL_law_286 (by decide) ?_
    refine zk_R (D := D) (va_runV (As := [.int (nI k), .int (nI 6)]) (rest := []) ⟨hx, hb, hml, hown, hts⟩ (c_X3_told l D cI x a b σ τ hV.1 hk (w := 6) (by decide) _) (cwV 2 hts gL_law_X3_told rfl rfl rfl zdX3_told ⟨Nat.le_of_ble_eq_true rfl, Nat.le_of_ble_eq_true rfl⟩) ⟨zbl _, va_recv hKi (zxd_P (zxd_P hP)) (ci := 3) (q0 := 0) rfl rfl, zpr hKi (zxd_P (zxd_P hP)) (zxd_D (zxd_D hD))⟩ rfl rfl hl.1 rfl (lv_room (Nat.le_of_ble_eq_true rfl)) dL_law_288 ⟨by show _ ≤ 772990; omega, by show _ ≤ 6782653; omega⟩) hS (fun r H locs hw hkp hS => ?_)
    have hP := hkp _ hP
    have hw : r = 1 := (show r = σ 12 k from hw).trans e12
    subst hw
    refine lv_istore (lv' := [(16, .int 1), (15, .int (nI k)), (14, .int (f_sum (σ 17) k)), (13, .int (f_sum (σ 15) k)), (12, .int (f_many (σ 12) 2 k)), (11, .int (f_inb (σ 5) nb)), (10, .int (nI ns)), (9, .int (nI nb)), (8, .int (nI h)), (6, .int (nI tm)), (5, .ref a5), (4, .ref a4), (3, .ref a3), (2, .ref (u 0)), (1, .ref x), (0, .ref b0)]) hx hb dL_law_291 hl (by decide) rfl (fun ls hl => ?_)
    refine lv_aload_n hx hb dL_law_293 rfl (lv_at hl 14 rfl) ?_
    refine lv_iload hx hb dL_law_294 (lv_at hl 1 rfl) ?_
    refine lv_bipush (v := 7) hx hb dL_law_296 (by decide) ?_
    refine zk_R (D := D) (va_runV (As := [.int (nI k), .int (nI 7)]) (rest := []) ⟨hx, hb, hml, hown, hts⟩ (c_X3_told l D cI x a b σ τ hV.1 hk (w := 7) (by decide) _) (cwV 2 hts gL_law_X3_told rfl rfl rfl zdX3_told ⟨Nat.le_of_ble_eq_true rfl, Nat.le_of_ble_eq_true rfl⟩) ⟨zbl _, va_recv hKi (zxd_P (zxd_P hP)) (ci := 3) (q0 := 0) rfl rfl, zpr hKi (zxd_P (zxd_P hP)) (zxd_D (zxd_D hD))⟩ rfl rfl hl.1 rfl (lv_room (Nat.le_of_ble_eq_true rfl)) dL_law_298 ⟨by show _ ≤ 772990; omega, by show _ ≤ 6782653; omega⟩) hS (fun r H locs hw hkp hS => ?_)
    have hP := hkp _ hP
    have hw : r = nI b9 := (show r = σ 13 k from hw).trans e13
    subst hw
    refine lv_istore (lv' := [(17, .int (nI b9)), (16, .int 1), (15, .int (nI k)), (14, .int (f_sum (σ 17) k)), (13, .int (f_sum (σ 15) k)), (12, .int (f_many (σ 12) 2 k)), (11, .int (f_inb (σ 5) nb)), (10, .int (nI ns)), (9, .int (nI nb)), (8, .int (nI h)), (6, .int (nI tm)), (5, .ref a5), (4, .ref a4), (3, .ref a3), (2, .ref (u 0)), (1, .ref x), (0, .ref b0)]) hx hb dL_law_301 hl (by decide) rfl (fun ls hl => ?_)
    refine lv_iload hx hb dL_law_303 (lv_at hl 1 rfl) ?_
    refine lv_if_lt (tgt := 355) hx hb dL_law_305 (by decide) (fun c => absurd c (by decide)) (fun _ => ?_)
    refine lv_iload hx hb dL_law_308 (lv_at hl 1 rfl) ?_
    refine lv_iconst (v := 2) hx hb dL_law_310 (by decide) ?_
    refine lv_icmp_gt (tgt := 355) hx hb dL_law_311 (by decide) (fun c => absurd c (by decide)) (fun _ => ?_)
    refine lv_iload hx hb dL_law_314 (lv_at hl 1 rfl) ?_
    refine lv_iconst (v := 1) hx hb dL_law_316 (by decide) ?_
    refine lv_icmp_ne (tgt := 324) hx hb dL_law_317 (by decide) (fun c => absurd (by decide) c) (fun _ => ?_)
    refine lv_iconst (v := 1) hx hb dL_law_320 (by decide) ?_
    refine lv_goto (tgt := 325) hx hb dL_law_321 (by decide) ?_
    refine lv_iload hx hb dL_law_325 (lv_at hl 0 rfl) ?_
    refine lv_if_lt (tgt := 334) hx hb dL_law_327 (by decide) (fun c => absurd c (nI_pos (by omega))) (fun _ => ?_)
    refine lv_iconst (v := 1) hx hb dL_law_330 (by decide) ?_
    refine lv_goto (tgt := 335) hx hb dL_law_331 (by decide) ?_
    refine lv_icmp_ne (tgt := 355) hx hb dL_law_335 (by decide) (fun c => absurd (by decide) c) (fun _ => ?_)
    refine lv_iload hx hb dL_law_338 (lv_at hl 0 rfl) ?_
    refine lv_if_lt (tgt := 357) hx hb dL_law_340 (by decide) (fun c => absurd c (nI_pos (by omega))) (fun _ => ?_)
    refine lv_aload_n hx hb dL_law_343 rfl (lv_at hl 15 rfl) ?_
    refine lv_iload hx hb dL_law_344 (lv_at hl 0 rfl) ?_
    refine lv_iconst (v := 4) hx hb dL_law_346 (by decide) ?_
    refine zk_R (D := D) (va_runV (As := [.int (nI b9), .int (nI 4)]) (rest := []) ⟨hx, hb, hml, hown, hts⟩ (c_X3_about l D cI x a b σ τ hV.1 hb9 (w := 4) (by decide) _) (cwV 2 hts gL_law_X3_about rfl rfl rfl zdX3_about ⟨Nat.le_of_ble_eq_true rfl, Nat.le_of_ble_eq_true rfl⟩) ⟨zbl _, va_recv hKi (zxd_P (zxd_P hP)) (ci := 3) (q0 := 0) rfl rfl, zpr hKi (zxd_P (zxd_P hP)) (zxd_D (zxd_D hD))⟩ rfl rfl hl.1 rfl (lv_room (Nat.le_of_ble_eq_true rfl)) dL_law_347 ⟨by show _ ≤ 772990; omega, by show _ ≤ 6782653; omega⟩) hS (fun r H locs hw hkp hS => ?_)
    have hP := hkp _ hP
    have hw : r = nI k := (show r = σ 5 b9 from hw).trans e5
    subst hw
    refine lv_iload hx hb dL_law_350 (lv_at hl 2 rfl) ?_
    refine lv_icmp_eq (tgt := 357) hx hb dL_law_352 (by decide) (fun _ => ?_) (fun c => absurd (rfl) c)
    exact kk _ _ _ hP hD hS (by rw [e12]; exact lv_sub hl [1, 2, 3, 4, 5, 6, 7, 8, 9, 10, 11, 12, 13, 14, 15, 16] rfl)
  · refine lv_aload_n hx hb dL_law_283 rfl (lv_at hl 13 rfl) ?_
    refine lv_iload hx hb dL_law_284 (lv_at hl 0 rfl) ?_
    refine lv_bipush (v := 6) hx hb dL_law_286 (by decide) ?_
    refine zk_R (D := D) (va_runV (As := [.int (nI k), .int (nI 6)]) (rest := []) ⟨hx, hb, hml, hown, hts⟩ (c_X3_told l D cI x a b σ τ hV.1 hk (w := 6) (by decide) _) (cwV 2 hts gL_law_X3_told rfl rfl rfl zdX3_told ⟨Nat.le_of_ble_eq_true rfl, Nat.le_of_ble_eq_true rfl⟩) ⟨zbl _, va_recv hKi (zxd_P (zxd_P hP)) (ci := 3) (q0 := 0) rfl rfl, zpr hKi (zxd_P (zxd_P hP)) (zxd_D (zxd_D hD))⟩ rfl rfl hl.1 rfl (lv_room (Nat.le_of_ble_eq_true rfl)) dL_law_288 ⟨by show _ ≤ 772990; omega, by show _ ≤ 6782653; omega⟩) hS (fun r H locs hw hkp hS => ?_)
    have hP := hkp _ hP
    have hw : r = 0 := (show r = σ 12 k from hw).trans e12
    subst hw
    refine lv_istore (lv' := [(16, .int 0), (15, .int (nI k)), (14, .int (f_sum (σ 17) k)), (13, .int (f_sum (σ 15) k)), (12, .int (f_many (σ 12) 2 k)), (11, .int (f_inb (σ 5) nb)), (10, .int (nI ns)), (9, .int (nI nb)), (8, .int (nI h)), (6, .int (nI tm)), (5, .ref a5), (4, .ref a4), (3, .ref a3), (2, .ref (u 0)), (1, .ref x), (0, .ref b0)]) hx hb dL_law_291 hl (by decide) rfl (fun ls hl => ?_)
    refine lv_aload_n hx hb dL_law_293 rfl (lv_at hl 14 rfl) ?_
    refine lv_iload hx hb dL_law_294 (lv_at hl 1 rfl) ?_
    refine lv_bipush (v := 7) hx hb dL_law_296 (by decide) ?_
    refine zk_R (D := D) (va_runV (As := [.int (nI k), .int (nI 7)]) (rest := []) ⟨hx, hb, hml, hown, hts⟩ (c_X3_told l D cI x a b σ τ hV.1 hk (w := 7) (by decide) _) (cwV 2 hts gL_law_X3_told rfl rfl rfl zdX3_told ⟨Nat.le_of_ble_eq_true rfl, Nat.le_of_ble_eq_true rfl⟩) ⟨zbl _, va_recv hKi (zxd_P (zxd_P hP)) (ci := 3) (q0 := 0) rfl rfl, zpr hKi (zxd_P (zxd_P hP)) (zxd_D (zxd_D hD))⟩ rfl rfl hl.1 rfl (lv_room (Nat.le_of_ble_eq_true rfl)) dL_law_298 ⟨by show _ ≤ 772990; omega, by show _ ≤ 6782653; omega⟩) hS (fun r H locs hw hkp hS => ?_)
    have hP := hkp _ hP
    have hw : r = (-1) := (show r = σ 13 k from hw).trans e13
    subst hw
    refine lv_istore (lv' := [(17, .int (-1)), (16, .int 0), (15, .int (nI k)), (14, .int (f_sum (σ 17) k)), (13, .int (f_sum (σ 15) k)), (12, .int (f_many (σ 12) 2 k)), (11, .int (f_inb (σ 5) nb)), (10, .int (nI ns)), (9, .int (nI nb)), (8, .int (nI h)), (6, .int (nI tm)), (5, .ref a5), (4, .ref a4), (3, .ref a3), (2, .ref (u 0)), (1, .ref x), (0, .ref b0)]) hx hb dL_law_301 hl (by decide) rfl (fun ls hl => ?_)
    refine lv_iload hx hb dL_law_303 (lv_at hl 1 rfl) ?_
    refine lv_if_lt (tgt := 355) hx hb dL_law_305 (by decide) (fun c => absurd c (by decide)) (fun _ => ?_)
    refine lv_iload hx hb dL_law_308 (lv_at hl 1 rfl) ?_
    refine lv_iconst (v := 2) hx hb dL_law_310 (by decide) ?_
    refine lv_icmp_gt (tgt := 355) hx hb dL_law_311 (by decide) (fun c => absurd c (by decide)) (fun _ => ?_)
    refine lv_iload hx hb dL_law_314 (lv_at hl 1 rfl) ?_
    refine lv_iconst (v := 1) hx hb dL_law_316 (by decide) ?_
    refine lv_icmp_ne (tgt := 324) hx hb dL_law_317 (by decide) (fun _ => ?_) (fun c => absurd c (by decide))
    refine lv_iconst (v := 0) hx hb dL_law_324 (by decide) ?_
    refine lv_iload hx hb dL_law_325 (lv_at hl 0 rfl) ?_
    refine lv_if_lt (tgt := 334) hx hb dL_law_327 (by decide) (fun _ => ?_) (fun c => absurd (by decide) c)
    refine lv_iconst (v := 0) hx hb dL_law_334 (by decide) ?_
    refine lv_icmp_ne (tgt := 355) hx hb dL_law_335 (by decide) (fun c => absurd (by decide) c) (fun _ => ?_)
    refine lv_iload hx hb dL_law_338 (lv_at hl 0 rfl) ?_
    refine lv_if_lt (tgt := 357) hx hb dL_law_340 (by decide) (fun _ => ?_) (fun c => absurd (by decide) c)
    exact kk _ _ _ hP hD hS (by rw [e12]; exact lv_sub hl [1, 2, 3, 4, 5, 6, 7, 8, 9, 10, 11, 12, 13, 14, 15, 16] rfl)
  · refine lv_aload_n hx hb dL_law_283 rfl (lv_at hl 13 rfl) ?_
    refine lv_iload hx hb dL_law_284 (lv_at hl 0 rfl) ?_
    refine lv_bipush (v := 6) hx hb dL_law_286 (by decide) ?_
    refine zk_R (D := D) (va_runV (As := [.int (nI k), .int (nI 6)]) (rest := []) ⟨hx, hb, hml, hown, hts⟩ (c_X3_told l D cI x a b σ τ hV.1 hk (w := 6) (by decide) _) (cwV 2 hts gL_law_X3_told rfl rfl rfl zdX3_told ⟨Nat.le_of_ble_eq_true rfl, Nat.le_of_ble_eq_true rfl⟩) ⟨zbl _, va_recv hKi (zxd_P (zxd_P hP)) (ci := 3) (q0 := 0) rfl rfl, zpr hKi (zxd_P (zxd_P hP)) (zxd_D (zxd_D hD))⟩ rfl rfl hl.1 rfl (lv_room (Nat.le_of_ble_eq_true rfl)) dL_law_288 ⟨by show _ ≤ 772990; omega, by show _ ≤ 6782653; omega⟩) hS (fun r H locs hw hkp hS => ?_)
    have hP := hkp _ hP
    have hw : r = 2 := (show r = σ 12 k from hw).trans e12
    subst hw
    refine lv_istore (lv' := [(16, .int 2), (15, .int (nI k)), (14, .int (f_sum (σ 17) k)), (13, .int (f_sum (σ 15) k)), (12, .int (f_many (σ 12) 2 k)), (11, .int (f_inb (σ 5) nb)), (10, .int (nI ns)), (9, .int (nI nb)), (8, .int (nI h)), (6, .int (nI tm)), (5, .ref a5), (4, .ref a4), (3, .ref a3), (2, .ref (u 0)), (1, .ref x), (0, .ref b0)]) hx hb dL_law_291 hl (by decide) rfl (fun ls hl => ?_)
    refine lv_aload_n hx hb dL_law_293 rfl (lv_at hl 14 rfl) ?_
    refine lv_iload hx hb dL_law_294 (lv_at hl 1 rfl) ?_
    refine lv_bipush (v := 7) hx hb dL_law_296 (by decide) ?_
    refine zk_R (D := D) (va_runV (As := [.int (nI k), .int (nI 7)]) (rest := []) ⟨hx, hb, hml, hown, hts⟩ (c_X3_told l D cI x a b σ τ hV.1 hk (w := 7) (by decide) _) (cwV 2 hts gL_law_X3_told rfl rfl rfl zdX3_told ⟨Nat.le_of_ble_eq_true rfl, Nat.le_of_ble_eq_true rfl⟩) ⟨zbl _, va_recv hKi (zxd_P (zxd_P hP)) (ci := 3) (q0 := 0) rfl rfl, zpr hKi (zxd_P (zxd_P hP)) (zxd_D (zxd_D hD))⟩ rfl rfl hl.1 rfl (lv_room (Nat.le_of_ble_eq_true rfl)) dL_law_298 ⟨by show _ ≤ 772990; omega, by show _ ≤ 6782653; omega⟩) hS (fun r H locs hw hkp hS => ?_)
    have hP := hkp _ hP
    have hw : r = (-1) := (show r = σ 13 k from hw).trans e13
    subst hw
    refine lv_istore (lv' := [(17, .int (-1)), (16, .int 2), (15, .int (nI k)), (14, .int (f_sum (σ 17) k)), (13, .int (f_sum (σ 15) k)), (12, .int (f_many (σ 12) 2 k)), (11, .int (f_inb (σ 5) nb)), (10, .int (nI ns)), (9, .int (nI nb)), (8, .int (nI h)), (6, .int (nI tm)), (5, .ref a5), (4, .ref a4), (3, .ref a3), (2, .ref (u 0)), (1, .ref x), (0, .ref b0)]) hx hb dL_law_301 hl (by decide) rfl (fun ls hl => ?_)
    refine lv_iload hx hb dL_law_303 (lv_at hl 1 rfl) ?_
    refine lv_if_lt (tgt := 355) hx hb dL_law_305 (by decide) (fun c => absurd c (by decide)) (fun _ => ?_)
    refine lv_iload hx hb dL_law_308 (lv_at hl 1 rfl) ?_
    refine lv_iconst (v := 2) hx hb dL_law_310 (by decide) ?_
    refine lv_icmp_gt (tgt := 355) hx hb dL_law_311 (by decide) (fun c => absurd c (by decide)) (fun _ => ?_)
    refine lv_iload hx hb dL_law_314 (lv_at hl 1 rfl) ?_
    refine lv_iconst (v := 1) hx hb dL_law_316 (by decide) ?_
    refine lv_icmp_ne (tgt := 324) hx hb dL_law_317 (by decide) (fun _ => ?_) (fun c => absurd c (by decide))
    refine lv_iconst (v := 0) hx hb dL_law_324 (by decide) ?_
    refine lv_iload hx hb dL_law_325 (lv_at hl 0 rfl) ?_
    refine lv_if_lt (tgt := 334) hx hb dL_law_327 (by decide) (fun _ => ?_) (fun c => absurd (by decide) c)
    refine lv_iconst (v := 0) hx hb dL_law_334 (by decide) ?_
    refine lv_icmp_ne (tgt := 355) hx hb dL_law_335 (by decide) (fun c => absurd (by decide) c) (fun _ => ?_)
    refine lv_iload hx hb dL_law_338 (lv_at hl 0 rfl) ?_
    refine lv_if_lt (tgt := 357) hx hb dL_law_340 (by decide) (fun _ => ?_) (fun c => absurd (by decide) c)
    exact kk _ _ _ hP hD hS (by rw [e12]; exact lv_sub hl [1, 2, 3, 4, 5, 6, 7, 8, 9, 10, 11, 12, 13, 14, 15, 16] rfl)
theorem zm1_lt {n : Nat} (hn : n < 2 ^ 31) : (-1 : Int32) < nI n := i32_lt (zn_le1 hn)
set_option maxHeartbeats 4000000 in
set_option maxRecDepth 100000 in
theorem l_s2 {p : Program} {l : Launch} {e : Env} {s : State} {m : MethodId} {below : List Frame} {meth : Method} {c : Code} {Q : State → Prop} {D : va_G} {cI cB cS : ClassId} {x b0 L : Nat} {xs : Nat → Int32} {a b u bd sl : Nat → Nat} {A : Nat → Prop} {σ τ : zS} {a3 a4 a5 : Nat} {R Lt Fl : Nat → Int32} {ce sz tm : Nat} {H : Heap} {locs : List Loc} {ls : Array Slot} (C : zLw p s m meth c D cI cB cS b0 L xs A) (hA : ∀ q : Nat, s.heap.size ≤ q → A q) {nb ns h B : Nat} (hV : zV σ nb ns (h + 1) B) (hce : ce ≤ 10000) (hsz : sz ≤ 100000) {k : Nat} (hk : k < ns) (hP : va_P D vwCl ((zw_X cI x a b σ τ ++ zj cB cS u bd sl nb ns σ) ++ [(a3, .inl (cI, 10, .inl (q_rp (σ 14) R k))), (a4, .inl (cI, 10, .inl (q_rp (σ 15) Lt k))), (a5, .inl (cI, 10, .inl (q_rp (σ 17) Fl k)))]) H) (hD : va_D A ((zw_X cI x a b σ τ ++ zj cB cS u bd sl nb ns σ) ++ [(a3, .inl (cI, 10, .inl (q_rp (σ 14) R k))), (a4, .inl (cI, 10, .inl (q_rp (σ 15) Lt k))), (a5, .inl (cI, 10, .inl (q_rp (σ 17) Fl k)))])) (hS : va_S A s.heap H locs) (hl : lv_has ls 20 [(16, .int (σ 12 k)), (15, .int (nI k)), (14, .int (f_sum (σ 17) k)), (13, .int (f_sum (σ 15) k)), (12, .int (f_many (σ 12) 2 k)), (11, .int (f_inb (σ 5) nb)), (10, .int (nI ns)), (9, .int (nI nb)), (8, .int (nI h)), (6, .int (nI tm)), (5, .ref a5), (4, .ref a4), (3, .ref a3), (2, .ref (u 0)), (1, .ref x), (0, .ref b0)])  (kk : ∀ (H : Heap) (locs : List Loc) (ls : Array Slot), va_P D vwCl ((zw_X cI x a b σ τ ++ zj cB cS u bd sl nb ns σ) ++ [(a3, .inl (cI, 10, .inl (q_rp (σ 14) R k))), (a4, .inl (cI, 10, .inl (q_rp (σ 15) Lt k))), (a5, .inl (cI, 10, .inl (q_rp (σ 17) Fl k)))]) H → va_D A ((zw_X cI x a b σ τ ++ zj cB cS u bd sl nb ns σ) ++ [(a3, .inl (cI, 10, .inl (q_rp (σ 14) R k))), (a4, .inl (cI, 10, .inl (q_rp (σ 15) Lt k))), (a5, .inl (cI, 10, .inl (q_rp (σ 17) Fl k)))]) → va_S A s.heap H locs → lv_has ls 20 [(16, .int (σ 12 k)), (15, .int (nI k)), (14, .int (f_sum (σ 17) k)), (13, .int (f_sum (σ 15) k)), (12, .int (f_many (σ 12) 2 k)), (11, .int (f_inb (σ 5) nb)), (10, .int (nI ns)), (9, .int (nI nb)), (8, .int (nI h)), (6, .int (nI tm)), (5, .ref a5), (4, .ref a4), (3, .ref a3), (2, .ref (u 0)), (1, .ref x), (0, .ref b0)] → W p l e room_1 s m #[Value.ref b0] below meth c H locs ce sz Q (F0 m 414 ls [])) : W p l e room_1 s m #[Value.ref b0] below meth c H locs ce sz Q (F0 m 357 ls []) := by
  obtain ⟨hx, hb, hml, hown, hts, hK, hL, hX, hL2, hbl, hbA⟩ := C
  have hnb := hV.1.2.1
  have hns := hV.1.2.2.2.1
  have hh := hV.1.2.2.2.2.2.1
  have hKi : va_K D vwCl [(cI, .int)] s := hK.sub [0] rfl
  rcases (hV.ksk hk).2.1 with e10 | e10
  · rcases (hV.ksk hk).2.2.1 with e11 | ⟨b9, hb9, e11⟩
    · refine lv_aload_n hx hb dL_law_357 rfl (lv_at hl 14 rfl) ?_
      refine lv_iload hx hb dL_law_358 (lv_at hl 1 rfl) ?_
      refine lv_iconst (v := 3) hx hb dL_law_360 (by decide) ?_
      refine zk_R (D := D) (va_runV (As := [.int (nI k), .int (nI 3)]) (rest := []) ⟨hx, hb, hml, hown, hts⟩ (c_X3_told l D cI x a b σ τ hV.1 hk (w := 3) (by decide) _) (cwV 2 hts gL_law_X3_told rfl rfl rfl zdX3_told ⟨Nat.le_of_ble_eq_true rfl, Nat.le_of_ble_eq_true rfl⟩) ⟨zbl _, va_recv hKi (zxd_P (zxd_P hP)) (ci := 3) (q0 := 0) rfl rfl, zpr hKi (zxd_P (zxd_P hP)) (zxd_D (zxd_D hD))⟩ rfl rfl hl.1 rfl (lv_room (Nat.le_of_ble_eq_true rfl)) dL_law_361 ⟨by show _ ≤ 772990; omega, by show _ ≤ 6782653; omega⟩) hS (fun r H locs hw hkp hS => ?_)
      have hP := hkp _ hP
      have hw : r = σ 9 k := hw
      subst hw
      refine lv_if_lt (tgt := 412) hx hb dL_law_364 (by decide) (fun c => absurd c ((hV.ksm hk).2.2.1.pos (by decide))) (fun _ => ?_)
      refine lv_aload_n hx hb dL_law_367 rfl (lv_at hl 14 rfl) ?_
      refine lv_iload hx hb dL_law_368 (lv_at hl 1 rfl) ?_
      refine lv_iconst (v := 3) hx hb dL_law_370 (by decide) ?_
      refine zk_R (D := D) (va_runV (As := [.int (nI k), .int (nI 3)]) (rest := []) ⟨hx, hb, hml, hown, hts⟩ (c_X3_told l D cI x a b σ τ hV.1 hk (w := 3) (by decide) _) (cwV 2 hts gL_law_X3_told rfl rfl rfl zdX3_told ⟨Nat.le_of_ble_eq_true rfl, Nat.le_of_ble_eq_true rfl⟩) ⟨zbl _, va_recv hKi (zxd_P (zxd_P hP)) (ci := 3) (q0 := 0) rfl rfl, zpr hKi (zxd_P (zxd_P hP)) (zxd_D (zxd_D hD))⟩ rfl rfl hl.1 rfl (lv_room (Nat.le_of_ble_eq_true rfl)) dL_law_371 ⟨by show _ ≤ 772990; omega, by show _ ≤ 6782653; omega⟩) hS (fun r H locs hw hkp hS => ?_)
      have hP := hkp _ hP
      have hw : r = σ 9 k := hw
      subst hw
      refine lv_bipush (v := 99) hx hb dL_law_374 (by decide) ?_
      refine lv_icmp_gt (tgt := 412) hx hb dL_law_376 (by decide) (fun c => absurd c (i32_nlt ((hV.ksm hk).2.2.1.le (by decide)))) (fun _ => ?_)
      refine lv_aload_n hx hb dL_law_379 rfl (lv_at hl 14 rfl) ?_
      refine lv_iload hx hb dL_law_380 (lv_at hl 1 rfl) ?_
      refine lv_iconst (v := 4) hx hb dL_law_382 (by decide) ?_
      refine zk_R (D := D) (va_runV (As := [.int (nI k), .int (nI 4)]) (rest := []) ⟨hx, hb, hml, hown, hts⟩ (c_X3_told l D cI x a b σ τ hV.1 hk (w := 4) (by decide) _) (cwV 2 hts gL_law_X3_told rfl rfl rfl zdX3_told ⟨Nat.le_of_ble_eq_true rfl, Nat.le_of_ble_eq_true rfl⟩) ⟨zbl _, va_recv hKi (zxd_P (zxd_P hP)) (ci := 3) (q0 := 0) rfl rfl, zpr hKi (zxd_P (zxd_P hP)) (zxd_D (zxd_D hD))⟩ rfl rfl hl.1 rfl (lv_room (Nat.le_of_ble_eq_true rfl)) dL_law_383 ⟨by show _ ≤ 772990; omega, by show _ ≤ 6782653; omega⟩) hS (fun r H locs hw hkp hS => ?_)
      have hP := hkp _ hP
      have hw : r = 0 := (show r = σ 10 k from hw).trans e10
      subst hw
      refine lv_if_lt (tgt := 412) hx hb dL_law_386 (by decide) (fun c => absurd c (by decide)) (fun _ => ?_)
      refine lv_aload_n hx hb dL_law_389 rfl (lv_at hl 14 rfl) ?_
      refine lv_iload hx hb dL_law_390 (lv_at hl 1 rfl) ?_
      refine lv_iconst (v := 4) hx hb dL_law_392 (by decide) ?_
      refine zk_R (D := D) (va_runV (As := [.int (nI k), .int (nI 4)]) (rest := []) ⟨hx, hb, hml, hown, hts⟩ (c_X3_told l D cI x a b σ τ hV.1 hk (w := 4) (by decide) _) (cwV 2 hts gL_law_X3_told rfl rfl rfl zdX3_told ⟨Nat.le_of_ble_eq_true rfl, Nat.le_of_ble_eq_true rfl⟩) ⟨zbl _, va_recv hKi (zxd_P (zxd_P hP)) (ci := 3) (q0 := 0) rfl rfl, zpr hKi (zxd_P (zxd_P hP)) (zxd_D (zxd_D hD))⟩ rfl rfl hl.1 rfl (lv_room (Nat.le_of_ble_eq_true rfl)) dL_law_393 ⟨by show _ ≤ 772990; omega, by show _ ≤ 6782653; omega⟩) hS (fun r H locs hw hkp hS => ?_)
      have hP := hkp _ hP
      have hw : r = 0 := (show r = σ 10 k from hw).trans e10
      subst hw
      refine lv_iconst (v := 1) hx hb dL_law_396 (by decide) ?_
      refine lv_icmp_gt (tgt := 412) hx hb dL_law_397 (by decide) (fun c => absurd c (by decide)) (fun _ => ?_)
      refine lv_aload_n hx hb dL_law_400 rfl (lv_at hl 14 rfl) ?_
      refine lv_iload hx hb dL_law_401 (lv_at hl 1 rfl) ?_
      refine lv_iconst (v := 5) hx hb dL_law_403 (by decide) ?_
      refine zk_R (D := D) (va_runV (As := [.int (nI k), .int (nI 5)]) (rest := []) ⟨hx, hb, hml, hown, hts⟩ (c_X3_told l D cI x a b σ τ hV.1 hk (w := 5) (by decide) _) (cwV 2 hts gL_law_X3_told rfl rfl rfl zdX3_told ⟨Nat.le_of_ble_eq_true rfl, Nat.le_of_ble_eq_true rfl⟩) ⟨zbl _, va_recv hKi (zxd_P (zxd_P hP)) (ci := 3) (q0 := 0) rfl rfl, zpr hKi (zxd_P (zxd_P hP)) (zxd_D (zxd_D hD))⟩ rfl rfl hl.1 rfl (lv_room (Nat.le_of_ble_eq_true rfl)) dL_law_404 ⟨by show _ ≤ 772990; omega, by show _ ≤ 6782653; omega⟩) hS (fun r H locs hw hkp hS => ?_)
      have hP := hkp _ hP
      have hw : r = (-1) := (show r = σ 11 k from hw).trans e11
      subst hw
      refine lv_iload hx hb dL_law_407 (lv_at hl 7 rfl) ?_
      refine lv_icmp_lt (tgt := 414) hx hb dL_law_409 (by decide) (fun _ => ?_) (fun c => absurd (zm1_lt (by omega)) c)
      exact kk _ _ _ hP hD hS (lv_sub hl [0, 1, 2, 3, 4, 5, 6, 7, 8, 9, 10, 11, 12, 13, 14, 15] rfl)
    · refine lv_aload_n hx hb dL_law_357 rfl (lv_at hl 14 rfl) ?_
      refine lv_iload hx hb dL_law_358 (lv_at hl 1 rfl) ?_
      refine lv_iconst (v := 3) hx hb dL_law_360 (by decide) ?_
      refine zk_R (D := D) (va_runV (As := [.int (nI k), .int (nI 3)]) (rest := []) ⟨hx, hb, hml, hown, hts⟩ (c_X3_told l D cI x a b σ τ hV.1 hk (w := 3) (by decide) _) (cwV 2 hts gL_law_X3_told rfl rfl rfl zdX3_told ⟨Nat.le_of_ble_eq_true rfl, Nat.le_of_ble_eq_true rfl⟩) ⟨zbl _, va_recv hKi (zxd_P (zxd_P hP)) (ci := 3) (q0 := 0) rfl rfl, zpr hKi (zxd_P (zxd_P hP)) (zxd_D (zxd_D hD))⟩ rfl rfl hl.1 rfl (lv_room (Nat.le_of_ble_eq_true rfl)) dL_law_361 ⟨by show _ ≤ 772990; omega, by show _ ≤ 6782653; omega⟩) hS (fun r H locs hw hkp hS => ?_)
      have hP := hkp _ hP
      have hw : r = σ 9 k := hw
      subst hw
      refine lv_if_lt (tgt := 412) hx hb dL_law_364 (by decide) (fun c => absurd c ((hV.ksm hk).2.2.1.pos (by decide))) (fun _ => ?_)
      refine lv_aload_n hx hb dL_law_367 rfl (lv_at hl 14 rfl) ?_
      refine lv_iload hx hb dL_law_368 (lv_at hl 1 rfl) ?_
      refine lv_iconst (v := 3) hx hb dL_law_370 (by decide) ?_
      refine zk_R (D := D) (va_runV (As := [.int (nI k), .int (nI 3)]) (rest := []) ⟨hx, hb, hml, hown, hts⟩ (c_X3_told l D cI x a b σ τ hV.1 hk (w := 3) (by decide) _) (cwV 2 hts gL_law_X3_told rfl rfl rfl zdX3_told ⟨Nat.le_of_ble_eq_true rfl, Nat.le_of_ble_eq_true rfl⟩) ⟨zbl _, va_recv hKi (zxd_P (zxd_P hP)) (ci := 3) (q0 := 0) rfl rfl, zpr hKi (zxd_P (zxd_P hP)) (zxd_D (zxd_D hD))⟩ rfl rfl hl.1 rfl (lv_room (Nat.le_of_ble_eq_true rfl)) dL_law_371 ⟨by show _ ≤ 772990; omega, by show _ ≤ 6782653; omega⟩) hS (fun r H locs hw hkp hS => ?_)
      have hP := hkp _ hP
      have hw : r = σ 9 k := hw
      subst hw
      refine lv_bipush (v := 99) hx hb dL_law_374 (by decide) ?_
      refine lv_icmp_gt (tgt := 412) hx hb dL_law_376 (by decide) (fun c => absurd c (i32_nlt ((hV.ksm hk).2.2.1.le (by decide)))) (fun _ => ?_)
      refine lv_aload_n hx hb dL_law_379 rfl (lv_at hl 14 rfl) ?_
      refine lv_iload hx hb dL_law_380 (lv_at hl 1 rfl) ?_
      refine lv_iconst (v := 4) hx hb dL_law_382 (by decide) ?_
      refine zk_R (D := D) (va_runV (As := [.int (nI k), .int (nI 4)]) (rest := []) ⟨hx, hb, hml, hown, hts⟩ (c_X3_told l D cI x a b σ τ hV.1 hk (w := 4) (by decide) _) (cwV 2 hts gL_law_X3_told rfl rfl rfl zdX3_told ⟨Nat.le_of_ble_eq_true rfl, Nat.le_of_ble_eq_true rfl⟩) ⟨zbl _, va_recv hKi (zxd_P (zxd_P hP)) (ci := 3) (q0 := 0) rfl rfl, zpr hKi (zxd_P (zxd_P hP)) (zxd_D (zxd_D hD))⟩ rfl rfl hl.1 rfl (lv_room (Nat.le_of_ble_eq_true rfl)) dL_law_383 ⟨by show _ ≤ 772990; omega, by show _ ≤ 6782653; omega⟩) hS (fun r H locs hw hkp hS => ?_)
      have hP := hkp _ hP
      have hw : r = 0 := (show r = σ 10 k from hw).trans e10
      subst hw
      refine lv_if_lt (tgt := 412) hx hb dL_law_386 (by decide) (fun c => absurd c (by decide)) (fun _ => ?_)
      refine lv_aload_n hx hb dL_law_389 rfl (lv_at hl 14 rfl) ?_
      refine lv_iload hx hb dL_law_390 (lv_at hl 1 rfl) ?_
      refine lv_iconst (v := 4) hx hb dL_law_392 (by decide) ?_
      refine zk_R (D := D) (va_runV (As := [.int (nI k), .int (nI 4)]) (rest := []) ⟨hx, hb, hml, hown, hts⟩ (c_X3_told l D cI x a b σ τ hV.1 hk (w := 4) (by decide) _) (cwV 2 hts gL_law_X3_told rfl rfl rfl zdX3_told ⟨Nat.le_of_ble_eq_true rfl, Nat.le_of_ble_eq_true rfl⟩) ⟨zbl _, va_recv hKi (zxd_P (zxd_P hP)) (ci := 3) (q0 := 0) rfl rfl, zpr hKi (zxd_P (zxd_P hP)) (zxd_D (zxd_D hD))⟩ rfl rfl hl.1 rfl (lv_room (Nat.le_of_ble_eq_true rfl)) dL_law_393 ⟨by show _ ≤ 772990; omega, by show _ ≤ 6782653; omega⟩) hS (fun r H locs hw hkp hS => ?_)
      have hP := hkp _ hP
      have hw : r = 0 := (show r = σ 10 k from hw).trans e10
      subst hw
      refine lv_iconst (v := 1) hx hb dL_law_396 (by decide) ?_
      refine lv_icmp_gt (tgt := 412) hx hb dL_law_397 (by decide) (fun c => absurd c (by decide)) (fun _ => ?_)
      refine lv_aload_n hx hb dL_law_400 rfl (lv_at hl 14 rfl) ?_
      refine lv_iload hx hb dL_law_401 (lv_at hl 1 rfl) ?_
      refine lv_iconst (v := 5) hx hb dL_law_403 (by decide) ?_
      refine zk_R (D := D) (va_runV (As := [.int (nI k), .int (nI 5)]) (rest := []) ⟨hx, hb, hml, hown, hts⟩ (c_X3_told l D cI x a b σ τ hV.1 hk (w := 5) (by decide) _) (cwV 2 hts gL_law_X3_told rfl rfl rfl zdX3_told ⟨Nat.le_of_ble_eq_true rfl, Nat.le_of_ble_eq_true rfl⟩) ⟨zbl _, va_recv hKi (zxd_P (zxd_P hP)) (ci := 3) (q0 := 0) rfl rfl, zpr hKi (zxd_P (zxd_P hP)) (zxd_D (zxd_D hD))⟩ rfl rfl hl.1 rfl (lv_room (Nat.le_of_ble_eq_true rfl)) dL_law_404 ⟨by show _ ≤ 772990; omega, by show _ ≤ 6782653; omega⟩) hS (fun r H locs hw hkp hS => ?_)
      have hP := hkp _ hP
      have hw : r = nI b9 := (show r = σ 11 k from hw).trans e11
      subst hw
      refine lv_iload hx hb dL_law_407 (lv_at hl 7 rfl) ?_
      refine lv_icmp_lt (tgt := 414) hx hb dL_law_409 (by decide) (fun _ => ?_) (fun c => absurd (nI_lt hb9 (by omega)) c)
      exact kk _ _ _ hP hD hS (lv_sub hl [0, 1, 2, 3, 4, 5, 6, 7, 8, 9, 10, 11, 12, 13, 14, 15] rfl)
  · rcases (hV.ksk hk).2.2.1 with e11 | ⟨b9, hb9, e11⟩
    · refine lv_aload_n hx hb dL_law_357 rfl (lv_at hl 14 rfl) ?_
      refine lv_iload hx hb dL_law_358 (lv_at hl 1 rfl) ?_
      refine lv_iconst (v := 3) hx hb dL_law_360 (by decide) ?_
      refine zk_R (D := D) (va_runV (As := [.int (nI k), .int (nI 3)]) (rest := []) ⟨hx, hb, hml, hown, hts⟩ (c_X3_told l D cI x a b σ τ hV.1 hk (w := 3) (by decide) _) (cwV 2 hts gL_law_X3_told rfl rfl rfl zdX3_told ⟨Nat.le_of_ble_eq_true rfl, Nat.le_of_ble_eq_true rfl⟩) ⟨zbl _, va_recv hKi (zxd_P (zxd_P hP)) (ci := 3) (q0 := 0) rfl rfl, zpr hKi (zxd_P (zxd_P hP)) (zxd_D (zxd_D hD))⟩ rfl rfl hl.1 rfl (lv_room (Nat.le_of_ble_eq_true rfl)) dL_law_361 ⟨by show _ ≤ 772990; omega, by show _ ≤ 6782653; omega⟩) hS (fun r H locs hw hkp hS => ?_)
      have hP := hkp _ hP
      have hw : r = σ 9 k := hw
      subst hw
      refine lv_if_lt (tgt := 412) hx hb dL_law_364 (by decide) (fun c => absurd c ((hV.ksm hk).2.2.1.pos (by decide))) (fun _ => ?_)
      refine lv_aload_n hx hb dL_law_367 rfl (lv_at hl 14 rfl) ?_
      refine lv_iload hx hb dL_law_368 (lv_at hl 1 rfl) ?_
      refine lv_iconst (v := 3) hx hb dL_law_370 (by decide) ?_
      refine zk_R (D := D) (va_runV (As := [.int (nI k), .int (nI 3)]) (rest := []) ⟨hx, hb, hml, hown, hts⟩ (c_X3_told l D cI x a b σ τ hV.1 hk (w := 3) (by decide) _) (cwV 2 hts gL_law_X3_told rfl rfl rfl zdX3_told ⟨Nat.le_of_ble_eq_true rfl, Nat.le_of_ble_eq_true rfl⟩) ⟨zbl _, va_recv hKi (zxd_P (zxd_P hP)) (ci := 3) (q0 := 0) rfl rfl, zpr hKi (zxd_P (zxd_P hP)) (zxd_D (zxd_D hD))⟩ rfl rfl hl.1 rfl (lv_room (Nat.le_of_ble_eq_true rfl)) dL_law_371 ⟨by show _ ≤ 772990; omega, by show _ ≤ 6782653; omega⟩) hS (fun r H locs hw hkp hS => ?_)
      have hP := hkp _ hP
      have hw : r = σ 9 k := hw
      subst hw
      refine lv_bipush (v := 99) hx hb dL_law_374 (by decide) ?_
      refine lv_icmp_gt (tgt := 412) hx hb dL_law_376 (by decide) (fun c => absurd c (i32_nlt ((hV.ksm hk).2.2.1.le (by decide)))) (fun _ => ?_)
      refine lv_aload_n hx hb dL_law_379 rfl (lv_at hl 14 rfl) ?_
      refine lv_iload hx hb dL_law_380 (lv_at hl 1 rfl) ?_
      refine lv_iconst (v := 4) hx hb dL_law_382 (by decide) ?_
      refine zk_R (D := D) (va_runV (As := [.int (nI k), .int (nI 4)]) (rest := []) ⟨hx, hb, hml, hown, hts⟩ (c_X3_told l D cI x a b σ τ hV.1 hk (w := 4) (by decide) _) (cwV 2 hts gL_law_X3_told rfl rfl rfl zdX3_told ⟨Nat.le_of_ble_eq_true rfl, Nat.le_of_ble_eq_true rfl⟩) ⟨zbl _, va_recv hKi (zxd_P (zxd_P hP)) (ci := 3) (q0 := 0) rfl rfl, zpr hKi (zxd_P (zxd_P hP)) (zxd_D (zxd_D hD))⟩ rfl rfl hl.1 rfl (lv_room (Nat.le_of_ble_eq_true rfl)) dL_law_383 ⟨by show _ ≤ 772990; omega, by show _ ≤ 6782653; omega⟩) hS (fun r H locs hw hkp hS => ?_)
      have hP := hkp _ hP
      have hw : r = 1 := (show r = σ 10 k from hw).trans e10
      subst hw
      refine lv_if_lt (tgt := 412) hx hb dL_law_386 (by decide) (fun c => absurd c (by decide)) (fun _ => ?_)
      refine lv_aload_n hx hb dL_law_389 rfl (lv_at hl 14 rfl) ?_
      refine lv_iload hx hb dL_law_390 (lv_at hl 1 rfl) ?_
      refine lv_iconst (v := 4) hx hb dL_law_392 (by decide) ?_
      refine zk_R (D := D) (va_runV (As := [.int (nI k), .int (nI 4)]) (rest := []) ⟨hx, hb, hml, hown, hts⟩ (c_X3_told l D cI x a b σ τ hV.1 hk (w := 4) (by decide) _) (cwV 2 hts gL_law_X3_told rfl rfl rfl zdX3_told ⟨Nat.le_of_ble_eq_true rfl, Nat.le_of_ble_eq_true rfl⟩) ⟨zbl _, va_recv hKi (zxd_P (zxd_P hP)) (ci := 3) (q0 := 0) rfl rfl, zpr hKi (zxd_P (zxd_P hP)) (zxd_D (zxd_D hD))⟩ rfl rfl hl.1 rfl (lv_room (Nat.le_of_ble_eq_true rfl)) dL_law_393 ⟨by show _ ≤ 772990; omega, by show _ ≤ 6782653; omega⟩) hS (fun r H locs hw hkp hS => ?_)
      have hP := hkp _ hP
      have hw : r = 1 := (show r = σ 10 k from hw).trans e10
      subst hw
      refine lv_iconst (v := 1) hx hb dL_law_396 (by decide) ?_
      refine lv_icmp_gt (tgt := 412) hx hb dL_law_397 (by decide) (fun c => absurd c (by decide)) (fun _ => ?_)
      refine lv_aload_n hx hb dL_law_400 rfl (lv_at hl 14 rfl) ?_
      refine lv_iload hx hb dL_law_401 (lv_at hl 1 rfl) ?_
      refine lv_iconst (v := 5) hx hb dL_law_403 (by decide) ?_
      refine zk_R (D := D) (va_runV (As := [.int (nI k), .int (nI 5)]) (rest := []) ⟨hx, hb, hml, hown, hts⟩ (c_X3_told l D cI x a b σ τ hV.1 hk (w := 5) (by decide) _) (cwV 2 hts gL_law_X3_told rfl rfl rfl zdX3_told ⟨Nat.le_of_ble_eq_true rfl, Nat.le_of_ble_eq_true rfl⟩) ⟨zbl _, va_recv hKi (zxd_P (zxd_P hP)) (ci := 3) (q0 := 0) rfl rfl, zpr hKi (zxd_P (zxd_P hP)) (zxd_D (zxd_D hD))⟩ rfl rfl hl.1 rfl (lv_room (Nat.le_of_ble_eq_true rfl)) dL_law_404 ⟨by show _ ≤ 772990; omega, by show _ ≤ 6782653; omega⟩) hS (fun r H locs hw hkp hS => ?_)
      have hP := hkp _ hP
      have hw : r = (-1) := (show r = σ 11 k from hw).trans e11
      subst hw
      refine lv_iload hx hb dL_law_407 (lv_at hl 7 rfl) ?_
      refine lv_icmp_lt (tgt := 414) hx hb dL_law_409 (by decide) (fun _ => ?_) (fun c => absurd (zm1_lt (by omega)) c)
      exact kk _ _ _ hP hD hS (lv_sub hl [0, 1, 2, 3, 4, 5, 6, 7, 8, 9, 10, 11, 12, 13, 14, 15] rfl)
    · refine lv_aload_n hx hb dL_law_357 rfl (lv_at hl 14 rfl) ?_
      refine lv_iload hx hb dL_law_358 (lv_at hl 1 rfl) ?_
      refine lv_iconst (v := 3) hx hb dL_law_360 (by decide) ?_
      refine zk_R (D := D) (va_runV (As := [.int (nI k), .int (nI 3)]) (rest := []) ⟨hx, hb, hml, hown, hts⟩ (c_X3_told l D cI x a b σ τ hV.1 hk (w := 3) (by decide) _) (cwV 2 hts gL_law_X3_told rfl rfl rfl zdX3_told ⟨Nat.le_of_ble_eq_true rfl, Nat.le_of_ble_eq_true rfl⟩) ⟨zbl _, va_recv hKi (zxd_P (zxd_P hP)) (ci := 3) (q0 := 0) rfl rfl, zpr hKi (zxd_P (zxd_P hP)) (zxd_D (zxd_D hD))⟩ rfl rfl hl.1 rfl (lv_room (Nat.le_of_ble_eq_true rfl)) dL_law_361 ⟨by show _ ≤ 772990; omega, by show _ ≤ 6782653; omega⟩) hS (fun r H locs hw hkp hS => ?_)
      have hP := hkp _ hP
      have hw : r = σ 9 k := hw
      subst hw
      refine lv_if_lt (tgt := 412) hx hb dL_law_364 (by decide) (fun c => absurd c ((hV.ksm hk).2.2.1.pos (by decide))) (fun _ => ?_)
      refine lv_aload_n hx hb dL_law_367 rfl (lv_at hl 14 rfl) ?_
      refine lv_iload hx hb dL_law_368 (lv_at hl 1 rfl) ?_
      refine lv_iconst (v := 3) hx hb dL_law_370 (by decide) ?_
      refine zk_R (D := D) (va_runV (As := [.int (nI k), .int (nI 3)]) (rest := []) ⟨hx, hb, hml, hown, hts⟩ (c_X3_told l D cI x a b σ τ hV.1 hk (w := 3) (by decide) _) (cwV 2 hts gL_law_X3_told rfl rfl rfl zdX3_told ⟨Nat.le_of_ble_eq_true rfl, Nat.le_of_ble_eq_true rfl⟩) ⟨zbl _, va_recv hKi (zxd_P (zxd_P hP)) (ci := 3) (q0 := 0) rfl rfl, zpr hKi (zxd_P (zxd_P hP)) (zxd_D (zxd_D hD))⟩ rfl rfl hl.1 rfl (lv_room (Nat.le_of_ble_eq_true rfl)) dL_law_371 ⟨by show _ ≤ 772990; omega, by show _ ≤ 6782653; omega⟩) hS (fun r H locs hw hkp hS => ?_)
      have hP := hkp _ hP
      have hw : r = σ 9 k := hw
      subst hw
      refine lv_bipush (v := 99) hx hb dL_law_374 (by decide) ?_
      refine lv_icmp_gt (tgt := 412) hx hb dL_law_376 (by decide) (fun c => absurd c (i32_nlt ((hV.ksm hk).2.2.1.le (by decide)))) (fun _ => ?_)
      refine lv_aload_n hx hb dL_law_379 rfl (lv_at hl 14 rfl) ?_
      refine lv_iload hx hb dL_law_380 (lv_at hl 1 rfl) ?_
      refine lv_iconst (v := 4) hx hb dL_law_382 (by decide) ?_
      refine zk_R (D := D) (va_runV (As := [.int (nI k), .int (nI 4)]) (rest := []) ⟨hx, hb, hml, hown, hts⟩ (c_X3_told l D cI x a b σ τ hV.1 hk (w := 4) (by decide) _) (cwV 2 hts gL_law_X3_told rfl rfl rfl zdX3_told ⟨Nat.le_of_ble_eq_true rfl, Nat.le_of_ble_eq_true rfl⟩) ⟨zbl _, va_recv hKi (zxd_P (zxd_P hP)) (ci := 3) (q0 := 0) rfl rfl, zpr hKi (zxd_P (zxd_P hP)) (zxd_D (zxd_D hD))⟩ rfl rfl hl.1 rfl (lv_room (Nat.le_of_ble_eq_true rfl)) dL_law_383 ⟨by show _ ≤ 772990; omega, by show _ ≤ 6782653; omega⟩) hS (fun r H locs hw hkp hS => ?_)
      have hP := hkp _ hP
      have hw : r = 1 := (show r = σ 10 k from hw).trans e10
      subst hw
      refine lv_if_lt (tgt := 412) hx hb dL_law_386 (by decide) (fun c => absurd c (by decide)) (fun _ => ?_)
      refine lv_aload_n hx hb dL_law_389 rfl (lv_at hl 14 rfl) ?_
      refine lv_iload hx hb dL_law_390 (lv_at hl 1 rfl) ?_
      refine lv_iconst (v := 4) hx hb dL_law_392 (by decide) ?_
      refine zk_R (D := D) (va_runV (As := [.int (nI k), .int (nI 4)]) (rest := []) ⟨hx, hb, hml, hown, hts⟩ (c_X3_told l D cI x a b σ τ hV.1 hk (w := 4) (by decide) _) (cwV 2 hts gL_law_X3_told rfl rfl rfl zdX3_told ⟨Nat.le_of_ble_eq_true rfl, Nat.le_of_ble_eq_true rfl⟩) ⟨zbl _, va_recv hKi (zxd_P (zxd_P hP)) (ci := 3) (q0 := 0) rfl rfl, zpr hKi (zxd_P (zxd_P hP)) (zxd_D (zxd_D hD))⟩ rfl rfl hl.1 rfl (lv_room (Nat.le_of_ble_eq_true rfl)) dL_law_393 ⟨by show _ ≤ 772990; omega, by show _ ≤ 6782653; omega⟩) hS (fun r H locs hw hkp hS => ?_)
      have hP := hkp _ hP
      have hw : r = 1 := (show r = σ 10 k from hw).trans e10
      subst hw
      refine lv_iconst (v := 1) hx hb dL_law_396 (by decide) ?_
      refine lv_icmp_gt (tgt := 412) hx hb dL_law_397 (by decide) (fun c => absurd c (by decide)) (fun _ => ?_)
      refine lv_aload_n hx hb dL_law_400 rfl (lv_at hl 14 rfl) ?_
      refine lv_iload hx hb dL_law_401 (lv_at hl 1 rfl) ?_
      refine lv_iconst (v := 5) hx hb dL_law_403 (by decide) ?_
      refine zk_R (D := D) (va_runV (As := [.int (nI k), .int (nI 5)]) (rest := []) ⟨hx, hb, hml, hown, hts⟩ (c_X3_told l D cI x a b σ τ hV.1 hk (w := 5) (by decide) _) (cwV 2 hts gL_law_X3_told rfl rfl rfl zdX3_told ⟨Nat.le_of_ble_eq_true rfl, Nat.le_of_ble_eq_true rfl⟩) ⟨zbl _, va_recv hKi (zxd_P (zxd_P hP)) (ci := 3) (q0 := 0) rfl rfl, zpr hKi (zxd_P (zxd_P hP)) (zxd_D (zxd_D hD))⟩ rfl rfl hl.1 rfl (lv_room (Nat.le_of_ble_eq_true rfl)) dL_law_404 ⟨by show _ ≤ 772990; omega, by show _ ≤ 6782653; omega⟩) hS (fun r H locs hw hkp hS => ?_)
      have hP := hkp _ hP
      have hw : r = nI b9 := (show r = σ 11 k from hw).trans e11
      subst hw
      refine lv_iload hx hb dL_law_407 (lv_at hl 7 rfl) ?_
      refine lv_icmp_lt (tgt := 414) hx hb dL_law_409 (by decide) (fun _ => ?_) (fun c => absurd (nI_lt hb9 (by omega)) c)
      exact kk _ _ _ hP hD hS (lv_sub hl [0, 1, 2, 3, 4, 5, 6, 7, 8, 9, 10, 11, 12, 13, 14, 15] rfl)
set_option maxHeartbeats 4000000 in
set_option maxRecDepth 100000 in
theorem l_s3 {p : Program} {l : Launch} {e : Env} {s : State} {m : MethodId} {below : List Frame} {meth : Method} {c : Code} {Q : State → Prop} {D : va_G} {cI cB cS : ClassId} {x b0 L : Nat} {xs : Nat → Int32} {a b u bd sl : Nat → Nat} {A : Nat → Prop} {σ τ : zS} {a3 a4 a5 : Nat} {R Lt Fl : Nat → Int32} {ce sz tm : Nat} {H : Heap} {locs : List Loc} {ls : Array Slot} (C : zLw p s m meth c D cI cB cS b0 L xs A) (hA : ∀ q : Nat, s.heap.size ≤ q → A q) {nb ns h B : Nat} (hV : zV σ nb ns (h + 1) B) (hce : ce ≤ 10000) (hsz : sz ≤ 100000) {k : Nat} (hld : zld σ h ns) (hk : k < ns) (hP : va_P D vwCl ((zw_X cI x a b σ τ ++ zj cB cS u bd sl nb ns σ) ++ [(a3, .inl (cI, 10, .inl (q_rp (σ 14) R k))), (a4, .inl (cI, 10, .inl (q_rp (σ 15) Lt k))), (a5, .inl (cI, 10, .inl (q_rp (σ 17) Fl k)))]) H) (hD : va_D A ((zw_X cI x a b σ τ ++ zj cB cS u bd sl nb ns σ) ++ [(a3, .inl (cI, 10, .inl (q_rp (σ 14) R k))), (a4, .inl (cI, 10, .inl (q_rp (σ 15) Lt k))), (a5, .inl (cI, 10, .inl (q_rp (σ 17) Fl k)))])) (hS : va_S A s.heap H locs) (hl : lv_has ls 20 [(16, .int (σ 12 k)), (15, .int (nI k)), (14, .int (f_sum (σ 17) k)), (13, .int (f_sum (σ 15) k)), (12, .int (f_many (σ 12) 2 k)), (11, .int (f_inb (σ 5) nb)), (10, .int (nI ns)), (9, .int (nI nb)), (8, .int (nI h)), (6, .int (nI tm)), (5, .ref a5), (4, .ref a4), (3, .ref a3), (2, .ref (u 0)), (1, .ref x), (0, .ref b0)])  (kk : ∀ (H : Heap) (locs : List Loc) (ls : Array Slot), va_P D vwCl ((zw_X cI x a b σ τ ++ zj cB cS u bd sl nb ns σ) ++ [(a3, .inl (cI, 10, .inl (q_rp (σ 14) R k))), (a4, .inl (cI, 10, .inl (q_rp (σ 15) Lt k))), (a5, .inl (cI, 10, .inl (q_rp (σ 17) Fl k)))]) H → va_D A ((zw_X cI x a b σ τ ++ zj cB cS u bd sl nb ns σ) ++ [(a3, .inl (cI, 10, .inl (q_rp (σ 14) R k))), (a4, .inl (cI, 10, .inl (q_rp (σ 15) Lt k))), (a5, .inl (cI, 10, .inl (q_rp (σ 17) Fl k)))]) → va_S A s.heap H locs → lv_has ls 20 [(16, .int (σ 12 k)), (15, .int (nI k)), (14, .int (f_sum (σ 17) k)), (13, .int (f_sum (σ 15) k)), (12, .int (f_many (σ 12) 2 k)), (11, .int (f_inb (σ 5) nb)), (10, .int (nI ns)), (9, .int (nI nb)), (8, .int (nI h)), (6, .int (nI tm)), (5, .ref a5), (4, .ref a4), (3, .ref a3), (2, .ref (u 0)), (1, .ref x), (0, .ref b0)] → W p l e room_1 s m #[Value.ref b0] below meth c H locs ce sz Q (F0 m 481 ls [])) : W p l e room_1 s m #[Value.ref b0] below meth c H locs ce sz Q (F0 m 414 ls []) := by
  obtain ⟨hx, hb, hml, hown, hts, hK, hL, hX, hL2, hbl, hbA⟩ := C
  have hnb := hV.1.2.1
  have hns := hV.1.2.2.2.1
  have hh := hV.1.2.2.2.2.2.1
  have hKi : va_K D vwCl [(cI, .int)] s := hK.sub [0] rfl
  obtain ⟨w, hw3, hw6⟩ := (hV.ksk hk).1
  refine lv_aload_n hx hb dL_law_414 rfl (lv_at hl 14 rfl) ?_
  refine lv_iload hx hb dL_law_415 (lv_at hl 1 rfl) ?_
  refine lv_iconst (v := 0) hx hb dL_law_417 (by decide) ?_
  refine zk_R (D := D) (va_runV (As := [.int (nI k), .int (nI 0)]) (rest := []) ⟨hx, hb, hml, hown, hts⟩ (c_X3_told l D cI x a b σ τ hV.1 hk (w := 0) (by decide) _) (cwV 2 hts gL_law_X3_told rfl rfl rfl zdX3_told ⟨Nat.le_of_ble_eq_true rfl, Nat.le_of_ble_eq_true rfl⟩) ⟨zbl _, va_recv hKi (zxd_P (zxd_P hP)) (ci := 3) (q0 := 0) rfl rfl, zpr hKi (zxd_P (zxd_P hP)) (zxd_D (zxd_D hD))⟩ rfl rfl hl.1 rfl (lv_room (Nat.le_of_ble_eq_true rfl)) dL_law_418 ⟨by show _ ≤ 772990; omega, by show _ ≤ 6782653; omega⟩) hS (fun r H locs hw hkp hS => ?_)
  have hP := hkp _ hP
  have hw : r = nI w := (show r = σ 6 k from hw).trans hw6
  subst hw
  refine lv_istore (lv' := [(18, .int (nI w)), (16, .int (σ 12 k)), (15, .int (nI k)), (14, .int (f_sum (σ 17) k)), (13, .int (f_sum (σ 15) k)), (12, .int (f_many (σ 12) 2 k)), (11, .int (f_inb (σ 5) nb)), (10, .int (nI ns)), (9, .int (nI nb)), (8, .int (nI h)), (6, .int (nI tm)), (5, .ref a5), (4, .ref a4), (3, .ref a3), (2, .ref (u 0)), (1, .ref x), (0, .ref b0)]) hx hb dL_law_421 hl (by decide) rfl (fun ls hl => ?_)
  refine lv_iload hx hb dL_law_423 (lv_at hl 9 rfl) ?_
  refine lv_bipush (v := 48) hx hb dL_law_425 (by decide) ?_
  refine zk_add (x := h) (y := 48) hx hb dL_law_427 ?_
  refine lv_bipush (v := 8) hx hb dL_law_428 (by decide) ?_
  refine lv_iload hx hb dL_law_430 (lv_at hl 0 rfl) ?_
  refine lv_iconst (v := 1) hx hb dL_law_432 (by decide) ?_
  refine zk_add (x := w) (y := 1) hx hb dL_law_433 ?_
  refine zk_mul (x := 8) (y := (w + 1)) hx hb dL_law_434 ?_
  refine zk_sub (x := (h + 48)) (y := (8 * (w + 1))) hx hb dL_law_435 (by omega) ?_
  refine lv_bipush (v := 24) hx hb dL_law_436 (by decide) ?_
  refine zk_rem (x := ((h + 48) - (8 * (w + 1)))) (y := 24) hx hb dL_law_438 (by omega) (by decide) (by decide) ?_
  refine lv_istore (lv' := [(19, .int (nI (((h + 48) - (8 * (w + 1))) % 24))), (18, .int (nI w)), (16, .int (σ 12 k)), (15, .int (nI k)), (14, .int (f_sum (σ 17) k)), (13, .int (f_sum (σ 15) k)), (12, .int (f_many (σ 12) 2 k)), (11, .int (f_inb (σ 5) nb)), (10, .int (nI ns)), (9, .int (nI nb)), (8, .int (nI h)), (6, .int (nI tm)), (5, .ref a5), (4, .ref a4), (3, .ref a3), (2, .ref (u 0)), (1, .ref x), (0, .ref b0)]) hx hb dL_law_439 hl (by decide) rfl (fun ls hl => ?_)
  refine lv_iload hx hb dL_law_441 (lv_at hl 2 rfl) ?_
  refine lv_if_eq (tgt := 481) hx hb dL_law_443 (by decide) (fun c_1 => ?_) (fun c_1 => ?_)
  · exact kk _ _ _ hP hD hS (lv_sub hl [2, 3, 4, 5, 6, 7, 8, 9, 10, 11, 12, 13, 14, 15, 16, 17] rfl)
  · refine lv_iload hx hb dL_law_446 (lv_at hl 10 rfl) ?_
    refine lv_bipush (v := 8) hx hb dL_law_448 (by decide) ?_
    refine zk_div (x := h) (y := 8) hx hb dL_law_450 (by omega) (by decide) (by decide) ?_
    refine lv_iconst (v := 3) hx hb dL_law_451 (by decide) ?_
    refine zk_rem (x := (h / 8)) (y := 3) hx hb dL_law_452 (by omega) (by decide) (by decide) ?_
    refine lv_iload hx hb dL_law_453 (lv_at hl 1 rfl) ?_
    refine lv_icmp_eq (tgt := 481) hx hb dL_law_455 (by decide) (fun c_2 => ?_) (fun c_2 => ?_)
    · exact kk _ _ _ hP hD hS (lv_sub hl [2, 3, 4, 5, 6, 7, 8, 9, 10, 11, 12, 13, 14, 15, 16, 17] rfl)
    · refine lv_aload_n hx hb dL_law_458 rfl (lv_at hl 16 rfl) ?_
      refine lv_bipush (v := 8) hx hb dL_law_459 (by decide) ?_
      refine zk_R (D := D) (va_runV (As := [.int (nI 8)]) (rest := []) ⟨hx, hb, hml, hown, hts⟩ (c_X3_count l D cI x a b σ τ hV.1 (w := 8) (by decide) _) (cwV 1 hts gL_law_X3_count rfl rfl rfl zdX3_count ⟨Nat.le_of_ble_eq_true rfl, Nat.le_of_ble_eq_true rfl⟩) ⟨zbl _, va_recv hKi (zxd_P (zxd_P hP)) (ci := 3) (q0 := 0) rfl rfl, zpr hKi (zxd_P (zxd_P hP)) (zxd_D (zxd_D hD))⟩ rfl rfl hl.1 rfl (lv_room (Nat.le_of_ble_eq_true rfl)) dL_law_461 ⟨by show _ ≤ 772990; omega, by show _ ≤ 6782653; omega⟩) hS (fun r H locs hw hkp hS => ?_)
      have hP := hkp _ hP
      have hw : r = σ 0 1 := hw
      subst hw
      refine lv_iconst (v := 2) hx hb dL_law_464 (by decide) ?_
      refine lv_iload hx hb dL_law_465 (lv_at hl 0 rfl) ?_
      refine zk_mul (x := 2) (y := (((h + 48) - (8 * (w + 1))) % 24)) hx hb dL_law_467 ?_
      refine lv_iadd hx hb dL_law_468 ?_
      refine lv_aload_n hx hb dL_law_469 rfl (lv_at hl 16 rfl) ?_
      refine lv_iload hx hb dL_law_470 (lv_at hl 3 rfl) ?_
      refine lv_iconst (v := 1) hx hb dL_law_472 (by decide) ?_
      refine zk_R (D := D) (va_runV (As := [.int (nI k), .int (nI 1)]) (rest := [.int ((σ 0 1) + (nI (2 * (((h + 48) - (8 * (w + 1))) % 24))))]) ⟨hx, hb, hml, hown, hts⟩ (c_X3_told l D cI x a b σ τ hV.1 hk (w := 1) (by decide) _) (cwV 2 hts gL_law_X3_told rfl rfl rfl zdX3_told ⟨Nat.le_of_ble_eq_true rfl, Nat.le_of_ble_eq_true rfl⟩) ⟨zbl _, va_recv hKi (zxd_P (zxd_P hP)) (ci := 3) (q0 := 0) rfl rfl, zpr hKi (zxd_P (zxd_P hP)) (zxd_D (zxd_D hD))⟩ rfl rfl hl.1 rfl (lv_room (Nat.le_of_ble_eq_true rfl)) dL_law_473 ⟨by show _ ≤ 772990; omega, by show _ ≤ 6782653; omega⟩) hS (fun r H locs hw hkp hS => ?_)
      have hP := hkp _ hP
      have hw : r = σ 7 k := hw
      subst hw
      refine lv_icmp_lt (tgt := 481) hx hb dL_law_476 (by decide) (fun _ => ?_) (fun c => absurd (zld_use hld hk hw3 hw6 c_1 c_2) c)
      exact kk _ _ _ hP hD hS (lv_sub hl [2, 3, 4, 5, 6, 7, 8, 9, 10, 11, 12, 13, 14, 15, 16, 17] rfl)
set_option maxHeartbeats 4000000 in
set_option maxRecDepth 100000 in
theorem l_s4 {p : Program} {l : Launch} {e : Env} {s : State} {m : MethodId} {below : List Frame} {meth : Method} {c : Code} {Q : State → Prop} {D : va_G} {cI cB cS : ClassId} {x b0 L : Nat} {xs : Nat → Int32} {a b u bd sl : Nat → Nat} {A : Nat → Prop} {σ τ : zS} {a3 a4 a5 : Nat} {R Lt Fl : Nat → Int32} {ce sz tm : Nat} {H : Heap} {locs : List Loc} {ls : Array Slot} (C : zLw p s m meth c D cI cB cS b0 L xs A) (hA : ∀ q : Nat, s.heap.size ≤ q → A q) {nb ns h B : Nat} (hV : zV σ nb ns (h + 1) B) (hce : ce ≤ 10000) (hsz : sz ≤ 100000) {k : Nat} (hmo : zmA R Lt Fl σ) (hk : k < ns) (hP : va_P D vwCl ((zw_X cI x a b σ τ ++ zj cB cS u bd sl nb ns σ) ++ [(a3, .inl (cI, 10, .inl (q_rp (σ 14) R k))), (a4, .inl (cI, 10, .inl (q_rp (σ 15) Lt k))), (a5, .inl (cI, 10, .inl (q_rp (σ 17) Fl k)))]) H) (hD : va_D A ((zw_X cI x a b σ τ ++ zj cB cS u bd sl nb ns σ) ++ [(a3, .inl (cI, 10, .inl (q_rp (σ 14) R k))), (a4, .inl (cI, 10, .inl (q_rp (σ 15) Lt k))), (a5, .inl (cI, 10, .inl (q_rp (σ 17) Fl k)))])) (hS : va_S A s.heap H locs) (hl : lv_has ls 20 [(16, .int (σ 12 k)), (15, .int (nI k)), (14, .int (f_sum (σ 17) k)), (13, .int (f_sum (σ 15) k)), (12, .int (f_many (σ 12) 2 k)), (11, .int (f_inb (σ 5) nb)), (10, .int (nI ns)), (9, .int (nI nb)), (8, .int (nI h)), (6, .int (nI tm)), (5, .ref a5), (4, .ref a4), (3, .ref a3), (2, .ref (u 0)), (1, .ref x), (0, .ref b0)])  (kk : ∀ (H : Heap) (locs : List Loc) (ls : Array Slot), va_P D vwCl ((zw_X cI x a b σ τ ++ zj cB cS u bd sl nb ns σ) ++ [(a3, .inl (cI, 10, .inl (q_rp (σ 14) R k))), (a4, .inl (cI, 10, .inl (q_rp (σ 15) Lt k))), (a5, .inl (cI, 10, .inl (q_rp (σ 17) Fl k)))]) H → va_D A ((zw_X cI x a b σ τ ++ zj cB cS u bd sl nb ns σ) ++ [(a3, .inl (cI, 10, .inl (q_rp (σ 14) R k))), (a4, .inl (cI, 10, .inl (q_rp (σ 15) Lt k))), (a5, .inl (cI, 10, .inl (q_rp (σ 17) Fl k)))]) → va_S A s.heap H locs → lv_has ls 20 [(16, .int (σ 12 k)), (15, .int (nI k)), (14, .int (f_sum (σ 17) k)), (13, .int (f_sum (σ 15) k)), (12, .int (f_many (σ 12) 2 k)), (11, .int (f_inb (σ 5) nb)), (10, .int (nI ns)), (9, .int (nI nb)), (8, .int (nI h)), (6, .int (nI tm)), (5, .ref a5), (4, .ref a4), (3, .ref a3), (2, .ref (u 0)), (1, .ref x), (0, .ref b0)] → W p l e room_1 s m #[Value.ref b0] below meth c H locs ce sz Q (F0 m 530 ls [])) : W p l e room_1 s m #[Value.ref b0] below meth c H locs ce sz Q (F0 m 481 ls []) := by
  obtain ⟨hx, hb, hml, hown, hts, hK, hL, hX, hL2, hbl, hbA⟩ := C
  have hnb := hV.1.2.1
  have hns := hV.1.2.2.2.1
  have hh := hV.1.2.2.2.2.2.1
  have hKi : va_K D vwCl [(cI, .int)] s := hK.sub [0] rfl
  refine lv_aload_n hx hb dL_law_481 rfl (lv_at hl 14 rfl) ?_
  refine lv_iload hx hb dL_law_482 (lv_at hl 1 rfl) ?_
  refine lv_bipush (v := 8) hx hb dL_law_484 (by decide) ?_
  refine zk_R (D := D) (va_runV (As := [.int (nI k), .int (nI 8)]) (rest := []) ⟨hx, hb, hml, hown, hts⟩ (c_X3_told l D cI x a b σ τ hV.1 hk (w := 8) (by decide) _) (cwV 2 hts gL_law_X3_told rfl rfl rfl zdX3_told ⟨Nat.le_of_ble_eq_true rfl, Nat.le_of_ble_eq_true rfl⟩) ⟨zbl _, va_recv hKi (zxd_P (zxd_P hP)) (ci := 3) (q0 := 0) rfl rfl, zpr hKi (zxd_P (zxd_P hP)) (zxd_D (zxd_D hD))⟩ rfl rfl hl.1 rfl (lv_room (Nat.le_of_ble_eq_true rfl)) dL_law_486 ⟨by show _ ≤ 772990; omega, by show _ ≤ 6782653; omega⟩) hS (fun r H locs hw hkp hS => ?_)
  have hP := hkp _ hP
  have hw : r = σ 14 k := hw
  subst hw
  refine lv_aload_n hx hb dL_law_489 rfl (lv_at hl 12 rfl) ?_
  refine lv_iload hx hb dL_law_490 (lv_at hl 1 rfl) ?_
  refine zk_ld hx hb hK hP ((zw_X cI x a b σ τ ++ zj cB cS u bd sl nb ns σ).length + 0) 0 (zxr (i := 0) rfl) rfl (k := k) (by omega) (by decide) (v := R k) (q_rp_at _ _ _) dL_law_492 ?_
  refine lv_icmp_lt (tgt := 528) hx hb dL_law_493 (by decide) (fun c => absurd c (i32_nlt (hmo k (by omega)).1)) (fun _ => ?_)
  refine lv_aload_n hx hb dL_law_496 rfl (lv_at hl 14 rfl) ?_
  refine lv_iload hx hb dL_law_497 (lv_at hl 1 rfl) ?_
  refine lv_bipush (v := 9) hx hb dL_law_499 (by decide) ?_
  refine zk_R (D := D) (va_runV (As := [.int (nI k), .int (nI 9)]) (rest := []) ⟨hx, hb, hml, hown, hts⟩ (c_X3_told l D cI x a b σ τ hV.1 hk (w := 9) (by decide) _) (cwV 2 hts gL_law_X3_told rfl rfl rfl zdX3_told ⟨Nat.le_of_ble_eq_true rfl, Nat.le_of_ble_eq_true rfl⟩) ⟨zbl _, va_recv hKi (zxd_P (zxd_P hP)) (ci := 3) (q0 := 0) rfl rfl, zpr hKi (zxd_P (zxd_P hP)) (zxd_D (zxd_D hD))⟩ rfl rfl hl.1 rfl (lv_room (Nat.le_of_ble_eq_true rfl)) dL_law_501 ⟨by show _ ≤ 772990; omega, by show _ ≤ 6782653; omega⟩) hS (fun r H locs hw hkp hS => ?_)
  have hP := hkp _ hP
  have hw : r = σ 15 k := hw
  subst hw
  refine lv_aload hx hb dL_law_504 (lv_at hl 11 rfl) ?_
  refine lv_iload hx hb dL_law_506 (lv_at hl 1 rfl) ?_
  refine zk_ld hx hb hK hP ((zw_X cI x a b σ τ ++ zj cB cS u bd sl nb ns σ).length + 1) 0 (zxr (i := 1) rfl) rfl (k := k) (by omega) (by decide) (v := Lt k) (q_rp_at _ _ _) dL_law_508 ?_
  refine lv_icmp_lt (tgt := 528) hx hb dL_law_509 (by decide) (fun c => absurd c (i32_nlt (hmo k (by omega)).2.1)) (fun _ => ?_)
  refine lv_aload_n hx hb dL_law_512 rfl (lv_at hl 14 rfl) ?_
  refine lv_iload hx hb dL_law_513 (lv_at hl 1 rfl) ?_
  refine lv_bipush (v := 10) hx hb dL_law_515 (by decide) ?_
  refine zk_R (D := D) (va_runV (As := [.int (nI k), .int (nI 10)]) (rest := []) ⟨hx, hb, hml, hown, hts⟩ (c_X3_told l D cI x a b σ τ hV.1 hk (w := 10) (by decide) _) (cwV 2 hts gL_law_X3_told rfl rfl rfl zdX3_told ⟨Nat.le_of_ble_eq_true rfl, Nat.le_of_ble_eq_true rfl⟩) ⟨zbl _, va_recv hKi (zxd_P (zxd_P hP)) (ci := 3) (q0 := 0) rfl rfl, zpr hKi (zxd_P (zxd_P hP)) (zxd_D (zxd_D hD))⟩ rfl rfl hl.1 rfl (lv_room (Nat.le_of_ble_eq_true rfl)) dL_law_517 ⟨by show _ ≤ 772990; omega, by show _ ≤ 6782653; omega⟩) hS (fun r H locs hw hkp hS => ?_)
  have hP := hkp _ hP
  have hw : r = σ 17 k := hw
  subst hw
  refine lv_aload hx hb dL_law_520 (lv_at hl 10 rfl) ?_
  refine lv_iload hx hb dL_law_522 (lv_at hl 1 rfl) ?_
  refine zk_ld hx hb hK hP ((zw_X cI x a b σ τ ++ zj cB cS u bd sl nb ns σ).length + 2) 0 (zxr (i := 2) rfl) rfl (k := k) (by omega) (by decide) (v := Fl k) (q_rp_at _ _ _) dL_law_524 ?_
  refine lv_icmp_ge (tgt := 530) hx hb dL_law_525 (by decide) (fun _ => ?_) (fun c => absurd ((hmo k (by omega)).2.2) c)
  exact kk _ _ _ hP hD hS (lv_sub hl [0, 1, 2, 3, 4, 5, 6, 7, 8, 9, 10, 11, 12, 13, 14, 15] rfl)
set_option maxHeartbeats 4000000 in
set_option maxRecDepth 100000 in
theorem l_s5 {p : Program} {l : Launch} {e : Env} {s : State} {m : MethodId} {below : List Frame} {meth : Method} {c : Code} {Q : State → Prop} {D : va_G} {cI cB cS : ClassId} {x b0 L : Nat} {xs : Nat → Int32} {a b u bd sl : Nat → Nat} {A : Nat → Prop} {σ τ : zS} {a3 a4 a5 : Nat} {R Lt Fl : Nat → Int32} {ce sz tm : Nat} {H : Heap} {locs : List Loc} {ls : Array Slot} (C : zLw p s m meth c D cI cB cS b0 L xs A) (hA : ∀ q : Nat, s.heap.size ≤ q → A q) {nb ns h B : Nat} (hV : zV σ nb ns (h + 1) B) (hce : ce ≤ 10000) (hsz : sz ≤ 100000) {k : Nat} (hk : k < ns) (hP : va_P D vwCl ((zw_X cI x a b σ τ ++ zj cB cS u bd sl nb ns σ) ++ [(a3, .inl (cI, 10, .inl (q_rp (σ 14) R k))), (a4, .inl (cI, 10, .inl (q_rp (σ 15) Lt k))), (a5, .inl (cI, 10, .inl (q_rp (σ 17) Fl k)))]) H) (hD : va_D A ((zw_X cI x a b σ τ ++ zj cB cS u bd sl nb ns σ) ++ [(a3, .inl (cI, 10, .inl (q_rp (σ 14) R k))), (a4, .inl (cI, 10, .inl (q_rp (σ 15) Lt k))), (a5, .inl (cI, 10, .inl (q_rp (σ 17) Fl k)))])) (hS : va_S A s.heap H locs) (hl : lv_has ls 20 [(16, .int (σ 12 k)), (15, .int (nI k)), (14, .int (f_sum (σ 17) k)), (13, .int (f_sum (σ 15) k)), (12, .int (f_many (σ 12) 2 k)), (11, .int (f_inb (σ 5) nb)), (10, .int (nI ns)), (9, .int (nI nb)), (8, .int (nI h)), (6, .int (nI tm)), (5, .ref a5), (4, .ref a4), (3, .ref a3), (2, .ref (u 0)), (1, .ref x), (0, .ref b0)])  (kk : ∀ (H : Heap) (locs : List Loc) (ls : Array Slot), va_P D vwCl ((zw_X cI x a b σ τ ++ zj cB cS u bd sl nb ns σ) ++ [(a3, .inl (cI, 10, .inl (q_rp (σ 14) R (k + 1)))), (a4, .inl (cI, 10, .inl (q_rp (σ 15) Lt (k + 1)))), (a5, .inl (cI, 10, .inl (q_rp (σ 17) Fl (k + 1))))]) H → va_D A ((zw_X cI x a b σ τ ++ zj cB cS u bd sl nb ns σ) ++ [(a3, .inl (cI, 10, .inl (q_rp (σ 14) R (k + 1)))), (a4, .inl (cI, 10, .inl (q_rp (σ 15) Lt (k + 1)))), (a5, .inl (cI, 10, .inl (q_rp (σ 17) Fl (k + 1))))]) → va_S A s.heap H locs → lv_has ls 20 [(15, .int (nI k)), (14, .int (f_sum (σ 17) (k + 1))), (13, .int (f_sum (σ 15) (k + 1))), (12, .int (f_many (σ 12) 2 (k + 1))), (11, .int (f_inb (σ 5) nb)), (10, .int (nI ns)), (9, .int (nI nb)), (8, .int (nI h)), (6, .int (nI tm)), (5, .ref a5), (4, .ref a4), (3, .ref a3), (2, .ref (u 0)), (1, .ref x), (0, .ref b0)] → W p l e room_1 s m #[Value.ref b0] below meth c H locs ce sz Q (F0 m 604 ls [])) : W p l e room_1 s m #[Value.ref b0] below meth c H locs ce sz Q (F0 m 530 ls []) := by
  obtain ⟨hx, hb, hml, hown, hts, hK, hL, hX, hL2, hbl, hbA⟩ := C
  have hnb := hV.1.2.1
  have hns := hV.1.2.2.2.1
  have hh := hV.1.2.2.2.2.2.1
  have hKi : va_K D vwCl [(cI, .int)] s := hK.sub [0] rfl
  refine lv_aload_n hx hb dL_law_530 rfl (lv_at hl 12 rfl) ?_
  refine lv_iload hx hb dL_law_531 (lv_at hl 1 rfl) ?_
  refine lv_aload_n hx hb dL_law_533 rfl (lv_at hl 14 rfl) ?_
  refine lv_iload hx hb dL_law_534 (lv_at hl 1 rfl) ?_
  refine lv_bipush (v := 8) hx hb dL_law_536 (by decide) ?_
  refine zk_R (D := D) (va_runV (As := [.int (nI k), .int (nI 8)]) (rest := [.int (nI k), .ref a3]) ⟨hx, hb, hml, hown, hts⟩ (c_X3_told l D cI x a b σ τ hV.1 hk (w := 8) (by decide) _) (cwV 2 hts gL_law_X3_told rfl rfl rfl zdX3_told ⟨Nat.le_of_ble_eq_true rfl, Nat.le_of_ble_eq_true rfl⟩) ⟨zbl _, va_recv hKi (zxd_P (zxd_P hP)) (ci := 3) (q0 := 0) rfl rfl, zpr hKi (zxd_P (zxd_P hP)) (zxd_D (zxd_D hD))⟩ rfl rfl hl.1 rfl (lv_room (Nat.le_of_ble_eq_true rfl)) dL_law_538 ⟨by show _ ≤ 772990; omega, by show _ ≤ 6782653; omega⟩) hS (fun r H locs hw hkp hS => ?_)
  have hP := hkp _ hP
  have hw : r = σ 14 k := hw
  subst hw
  refine zk_st hx hb hK hP hD hS ((zw_X cI x a b σ τ ++ zj cB cS u bd sl nb ns σ).length + 0) 0 (zxr (i := 0) rfl) rfl (k := k) (by omega) (by decide) zxs dL_law_541 (fun H locs hP hD hS => ?_)
  have hP : va_P D vwCl ((zw_X cI x a b σ τ ++ zj cB cS u bd sl nb ns σ) ++ [(a3, .inl (cI, 10, .inl (upd (q_rp (σ 14) R k) k (σ 14 k)))), (a4, .inl (cI, 10, .inl (q_rp (σ 15) Lt k))), (a5, .inl (cI, 10, .inl (q_rp (σ 17) Fl k)))]) H := hP
  have hD : va_D A ((zw_X cI x a b σ τ ++ zj cB cS u bd sl nb ns σ) ++ [(a3, .inl (cI, 10, .inl (upd (q_rp (σ 14) R k) k (σ 14 k)))), (a4, .inl (cI, 10, .inl (q_rp (σ 15) Lt k))), (a5, .inl (cI, 10, .inl (q_rp (σ 17) Fl k)))]) := hD
  refine lv_aload hx hb dL_law_542 (lv_at hl 11 rfl) ?_
  refine lv_iload hx hb dL_law_544 (lv_at hl 1 rfl) ?_
  refine lv_aload_n hx hb dL_law_546 rfl (lv_at hl 14 rfl) ?_
  refine lv_iload hx hb dL_law_547 (lv_at hl 1 rfl) ?_
  refine lv_bipush (v := 9) hx hb dL_law_549 (by decide) ?_
  refine zk_R (D := D) (va_runV (As := [.int (nI k), .int (nI 9)]) (rest := [.int (nI k), .ref a4]) ⟨hx, hb, hml, hown, hts⟩ (c_X3_told l D cI x a b σ τ hV.1 hk (w := 9) (by decide) _) (cwV 2 hts gL_law_X3_told rfl rfl rfl zdX3_told ⟨Nat.le_of_ble_eq_true rfl, Nat.le_of_ble_eq_true rfl⟩) ⟨zbl _, va_recv hKi (zxd_P (zxd_P hP)) (ci := 3) (q0 := 0) rfl rfl, zpr hKi (zxd_P (zxd_P hP)) (zxd_D (zxd_D hD))⟩ rfl rfl hl.1 rfl (lv_room (Nat.le_of_ble_eq_true rfl)) dL_law_551 ⟨by show _ ≤ 772990; omega, by show _ ≤ 6782653; omega⟩) hS (fun r H locs hw hkp hS => ?_)
  have hP := hkp _ hP
  have hw : r = σ 15 k := hw
  subst hw
  refine zk_st hx hb hK hP hD hS ((zw_X cI x a b σ τ ++ zj cB cS u bd sl nb ns σ).length + 1) 0 (zxr (i := 1) rfl) rfl (k := k) (by omega) (by decide) zxs dL_law_554 (fun H locs hP hD hS => ?_)
  have hP : va_P D vwCl ((zw_X cI x a b σ τ ++ zj cB cS u bd sl nb ns σ) ++ [(a3, .inl (cI, 10, .inl (upd (q_rp (σ 14) R k) k (σ 14 k)))), (a4, .inl (cI, 10, .inl (upd (q_rp (σ 15) Lt k) k (σ 15 k)))), (a5, .inl (cI, 10, .inl (q_rp (σ 17) Fl k)))]) H := hP
  have hD : va_D A ((zw_X cI x a b σ τ ++ zj cB cS u bd sl nb ns σ) ++ [(a3, .inl (cI, 10, .inl (upd (q_rp (σ 14) R k) k (σ 14 k)))), (a4, .inl (cI, 10, .inl (upd (q_rp (σ 15) Lt k) k (σ 15 k)))), (a5, .inl (cI, 10, .inl (q_rp (σ 17) Fl k)))]) := hD
  refine lv_aload hx hb dL_law_555 (lv_at hl 10 rfl) ?_
  refine lv_iload hx hb dL_law_557 (lv_at hl 1 rfl) ?_
  refine lv_aload_n hx hb dL_law_559 rfl (lv_at hl 14 rfl) ?_
  refine lv_iload hx hb dL_law_560 (lv_at hl 1 rfl) ?_
  refine lv_bipush (v := 10) hx hb dL_law_562 (by decide) ?_
  refine zk_R (D := D) (va_runV (As := [.int (nI k), .int (nI 10)]) (rest := [.int (nI k), .ref a5]) ⟨hx, hb, hml, hown, hts⟩ (c_X3_told l D cI x a b σ τ hV.1 hk (w := 10) (by decide) _) (cwV 2 hts gL_law_X3_told rfl rfl rfl zdX3_told ⟨Nat.le_of_ble_eq_true rfl, Nat.le_of_ble_eq_true rfl⟩) ⟨zbl _, va_recv hKi (zxd_P (zxd_P hP)) (ci := 3) (q0 := 0) rfl rfl, zpr hKi (zxd_P (zxd_P hP)) (zxd_D (zxd_D hD))⟩ rfl rfl hl.1 rfl (lv_room (Nat.le_of_ble_eq_true rfl)) dL_law_564 ⟨by show _ ≤ 772990; omega, by show _ ≤ 6782653; omega⟩) hS (fun r H locs hw hkp hS => ?_)
  have hP := hkp _ hP
  have hw : r = σ 17 k := hw
  subst hw
  refine zk_st hx hb hK hP hD hS ((zw_X cI x a b σ τ ++ zj cB cS u bd sl nb ns σ).length + 2) 0 (zxr (i := 2) rfl) rfl (k := k) (by omega) (by decide) zxs dL_law_567 (fun H locs hP hD hS => ?_)
  have hP : va_P D vwCl ((zw_X cI x a b σ τ ++ zj cB cS u bd sl nb ns σ) ++ [(a3, .inl (cI, 10, .inl (upd (q_rp (σ 14) R k) k (σ 14 k)))), (a4, .inl (cI, 10, .inl (upd (q_rp (σ 15) Lt k) k (σ 15 k)))), (a5, .inl (cI, 10, .inl (upd (q_rp (σ 17) Fl k) k (σ 17 k))))]) H := hP
  have hD : va_D A ((zw_X cI x a b σ τ ++ zj cB cS u bd sl nb ns σ) ++ [(a3, .inl (cI, 10, .inl (upd (q_rp (σ 14) R k) k (σ 14 k)))), (a4, .inl (cI, 10, .inl (upd (q_rp (σ 15) Lt k) k (σ 15 k)))), (a5, .inl (cI, 10, .inl (upd (q_rp (σ 17) Fl k) k (σ 17 k))))]) := hD
  have hP : va_P D vwCl ((zw_X cI x a b σ τ ++ zj cB cS u bd sl nb ns σ) ++ [(a3, .inl (cI, 10, .inl (q_rp (σ 14) R (k + 1)))), (a4, .inl (cI, 10, .inl (q_rp (σ 15) Lt (k + 1)))), (a5, .inl (cI, 10, .inl (q_rp (σ 17) Fl (k + 1))))]) H := by rw [← q_rp_s, ← q_rp_s, ← q_rp_s]; exact hP
  have hD : va_D A ((zw_X cI x a b σ τ ++ zj cB cS u bd sl nb ns σ) ++ [(a3, .inl (cI, 10, .inl (q_rp (σ 14) R (k + 1)))), (a4, .inl (cI, 10, .inl (q_rp (σ 15) Lt (k + 1)))), (a5, .inl (cI, 10, .inl (q_rp (σ 17) Fl (k + 1))))]) := by rw [← q_rp_s, ← q_rp_s, ← q_rp_s]; exact hD
  refine lv_iload hx hb dL_law_568 (lv_at hl 4 rfl) ?_
  refine lv_iload hx hb dL_law_570 (lv_at hl 0 rfl) ?_
  refine lv_iconst (v := 2) hx hb dL_law_572 (by decide) ?_
  refine lv_icmp_ne (tgt := 580) hx hb dL_law_573 (by decide) (fun c_1 => ?_) (fun c_1 => ?_)
  · refine lv_iconst (v := 0) hx hb dL_law_580 (by decide) ?_
    refine lv_iadd hx hb dL_law_581 ?_
    refine lv_istore (lv' := [(12, .int ((f_many (σ 12) 2 k) + 0)), (16, .int (σ 12 k)), (15, .int (nI k)), (14, .int (f_sum (σ 17) k)), (13, .int (f_sum (σ 15) k)), (11, .int (f_inb (σ 5) nb)), (10, .int (nI ns)), (9, .int (nI nb)), (8, .int (nI h)), (6, .int (nI tm)), (5, .ref a5), (4, .ref a4), (3, .ref a3), (2, .ref (u 0)), (1, .ref x), (0, .ref b0)]) hx hb dL_law_582 hl (by decide) rfl (fun ls hl => ?_)
    refine lv_iload hx hb dL_law_584 (lv_at hl 4 rfl) ?_
    refine lv_aload hx hb dL_law_586 (lv_at hl 11 rfl) ?_
    refine lv_iload hx hb dL_law_588 (lv_at hl 2 rfl) ?_
    refine zk_ld hx hb hK hP ((zw_X cI x a b σ τ ++ zj cB cS u bd sl nb ns σ).length + 1) 0 (zxr (i := 1) rfl) rfl (k := k) (by omega) (by decide) (v := σ 15 k) (if_pos (Nat.lt_succ_self k)) dL_law_590 ?_
    refine lv_iadd hx hb dL_law_591 ?_
    refine lv_istore (lv' := [(13, .int ((f_sum (σ 15) k) + (σ 15 k))), (12, .int ((f_many (σ 12) 2 k) + 0)), (16, .int (σ 12 k)), (15, .int (nI k)), (14, .int (f_sum (σ 17) k)), (11, .int (f_inb (σ 5) nb)), (10, .int (nI ns)), (9, .int (nI nb)), (8, .int (nI h)), (6, .int (nI tm)), (5, .ref a5), (4, .ref a4), (3, .ref a3), (2, .ref (u 0)), (1, .ref x), (0, .ref b0)]) hx hb dL_law_592 hl (by decide) rfl (fun ls hl => ?_)
    refine lv_iload hx hb dL_law_594 (lv_at hl 4 rfl) ?_
    refine lv_aload hx hb dL_law_596 (lv_at hl 10 rfl) ?_
    refine lv_iload hx hb dL_law_598 (lv_at hl 3 rfl) ?_
    refine zk_ld hx hb hK hP ((zw_X cI x a b σ τ ++ zj cB cS u bd sl nb ns σ).length + 2) 0 (zxr (i := 2) rfl) rfl (k := k) (by omega) (by decide) (v := σ 17 k) (if_pos (Nat.lt_succ_self k)) dL_law_600 ?_
    refine lv_iadd hx hb dL_law_601 ?_
    refine lv_istore (lv' := [(14, .int ((f_sum (σ 17) k) + (σ 17 k))), (13, .int ((f_sum (σ 15) k) + (σ 15 k))), (12, .int ((f_many (σ 12) 2 k) + 0)), (16, .int (σ 12 k)), (15, .int (nI k)), (11, .int (f_inb (σ 5) nb)), (10, .int (nI ns)), (9, .int (nI nb)), (8, .int (nI h)), (6, .int (nI tm)), (5, .ref a5), (4, .ref a4), (3, .ref a3), (2, .ref (u 0)), (1, .ref x), (0, .ref b0)]) hx hb dL_law_602 hl (by decide) rfl (fun ls hl => ?_)
    have e9 : f_many (σ 12) 2 (k + 1) = (f_many (σ 12) 2 k) + 0 := (show f_many (σ 12) 2 (k + 1) = _ from if_neg c_1).trans (Int32.add_zero _).symm
    exact kk _ _ _ hP hD hS (by rw [e9]; exact lv_sub hl [4, 0, 1, 2, 5, 6, 7, 8, 9, 10, 11, 12, 13, 14, 15] rfl)
  · refine lv_iconst (v := 1) hx hb dL_law_576 (by decide) ?_
    refine lv_goto (tgt := 581) hx hb dL_law_577 (by decide) ?_
    refine lv_iadd hx hb dL_law_581 ?_
    refine lv_istore (lv' := [(12, .int ((f_many (σ 12) 2 k) + 1)), (16, .int (σ 12 k)), (15, .int (nI k)), (14, .int (f_sum (σ 17) k)), (13, .int (f_sum (σ 15) k)), (11, .int (f_inb (σ 5) nb)), (10, .int (nI ns)), (9, .int (nI nb)), (8, .int (nI h)), (6, .int (nI tm)), (5, .ref a5), (4, .ref a4), (3, .ref a3), (2, .ref (u 0)), (1, .ref x), (0, .ref b0)]) hx hb dL_law_582 hl (by decide) rfl (fun ls hl => ?_)
    refine lv_iload hx hb dL_law_584 (lv_at hl 4 rfl) ?_
    refine lv_aload hx hb dL_law_586 (lv_at hl 11 rfl) ?_
    refine lv_iload hx hb dL_law_588 (lv_at hl 2 rfl) ?_
    refine zk_ld hx hb hK hP ((zw_X cI x a b σ τ ++ zj cB cS u bd sl nb ns σ).length + 1) 0 (zxr (i := 1) rfl) rfl (k := k) (by omega) (by decide) (v := σ 15 k) (if_pos (Nat.lt_succ_self k)) dL_law_590 ?_
    refine lv_iadd hx hb dL_law_591 ?_
    refine lv_istore (lv' := [(13, .int ((f_sum (σ 15) k) + (σ 15 k))), (12, .int ((f_many (σ 12) 2 k) + 1)), (16, .int (σ 12 k)), (15, .int (nI k)), (14, .int (f_sum (σ 17) k)), (11, .int (f_inb (σ 5) nb)), (10, .int (nI ns)), (9, .int (nI nb)), (8, .int (nI h)), (6, .int (nI tm)), (5, .ref a5), (4, .ref a4), (3, .ref a3), (2, .ref (u 0)), (1, .ref x), (0, .ref b0)]) hx hb dL_law_592 hl (by decide) rfl (fun ls hl => ?_)
    refine lv_iload hx hb dL_law_594 (lv_at hl 4 rfl) ?_
    refine lv_aload hx hb dL_law_596 (lv_at hl 10 rfl) ?_
    refine lv_iload hx hb dL_law_598 (lv_at hl 3 rfl) ?_
    refine zk_ld hx hb hK hP ((zw_X cI x a b σ τ ++ zj cB cS u bd sl nb ns σ).length + 2) 0 (zxr (i := 2) rfl) rfl (k := k) (by omega) (by decide) (v := σ 17 k) (if_pos (Nat.lt_succ_self k)) dL_law_600 ?_
    refine lv_iadd hx hb dL_law_601 ?_
    refine lv_istore (lv' := [(14, .int ((f_sum (σ 17) k) + (σ 17 k))), (13, .int ((f_sum (σ 15) k) + (σ 15 k))), (12, .int ((f_many (σ 12) 2 k) + 1)), (16, .int (σ 12 k)), (15, .int (nI k)), (11, .int (f_inb (σ 5) nb)), (10, .int (nI ns)), (9, .int (nI nb)), (8, .int (nI h)), (6, .int (nI tm)), (5, .ref a5), (4, .ref a4), (3, .ref a3), (2, .ref (u 0)), (1, .ref x), (0, .ref b0)]) hx hb dL_law_602 hl (by decide) rfl (fun ls hl => ?_)
    have e9 : f_many (σ 12) 2 (k + 1) = (f_many (σ 12) 2 k) + 1 := (show f_many (σ 12) 2 (k + 1) = _ from if_pos c_1)
    exact kk _ _ _ hP hD hS (by rw [e9]; exact lv_sub hl [4, 0, 1, 2, 5, 6, 7, 8, 9, 10, 11, 12, 13, 14, 15] rfl)
