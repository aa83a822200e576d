set_option maxHeartbeats 4000000 in
set_option maxRecDepth 100000 in
theorem law_loop {p : Program} {l : Launch} {e : Env} {s0 : State} {m : MethodId} {below : List Frame} {meth : Method} {c : Code} {D : va_G} {cI cL : ClassId} {b0 L : Nat} {xs : Nat → Int32} {x o : Nat} {a b μ : Nat → Nat} (hlocks : meth.locks = false) (CC : ∀ d : Drawn, zLA l p (s0.setDrawn d) m meth c D cI cL b0 L xs) :
    ∀ (n j : Nat) (d0 : Drawn), s0.drawn.sameBut d0 lw_cs → 5 * j ≤ L → L < 5 * (j + n) → zGo p l e (s0.setDrawn d0) m below meth c D cI cL b0 x o a b μ (lw_Z below #[Value.ref b0] s0) (48 + j) (661 + 6 * j) 23 (5 * j) (72 * j) := by
  intro n
  induction n with
  | zero => intro j d0 _ h1 h2; exact absurd h2 (by omega)
  | succ n ih =>
    intro j d0 hd0 hj hjn
    obtain ⟨hx, hb, hr, hml, hown, hts, hX, hbl, hK, hL, hZ, hst, hL2⟩ := CC d0
    intro σ τ f th κ nb ns h H locs ls hU hh hP hD hS hl
    have hbA : ¬ (fun q => s0.heap.size ≤ q) b0 := Nat.not_le.mpr hbl
    refine lv_iload hx hb dL_law_23 (lv_at hl 4 rfl) ?_
    refine lv_aload_n hx hb dL_law_25 rfl (lv_at hl 0 rfl) ?_
    refine va_slen hx hb hX hbl hbA hS dL_law_26 ?_
    refine lv_iconst (v := 5) hx hb dL_law_27 (by decide) ?_
    refine lv_isub hx hb dL_law_28 ?_
    refine lv_icmp_gt (tgt := 1266) hx hb dL_law_29 (by decide) (fun c1 => ?_) (fun c1 => ?_)
    · refine lv_iconst (v := 1) hx hb dL_law_1266 (by decide) ?_
      refine va_forget (fun q hq => hS.2.2 q hq) ?_
      refine W.widen (k := 1092) (n := 8973) (by omega) (by omega) ?_
      exact lw_ret hd0 hx hb hr hlocks dL_law_1267
    · have hi : 5 * j + 5 ≤ L := zn_end hL2 hj c1
      have kk0 : ∀ d : Drawn, s0.drawn.sameBut d lw_cs → zGo p l e (s0.setDrawn d) m below meth c D cI cL b0 x o a b μ (lw_Z below #[Value.ref b0] s0) (48 + j + 1) (661 + 6 * j + 6) 1260 (5 * j) (72 * j + 72) := by
        intro d hd
        have h1 := ih (j + 1) d hd (by omega) (by omega)
        rw [show 48 + (j + 1) = 48 + j + 1 from by omega, show 661 + 6 * (j + 1) = 661 + 6 * j + 6 from by omega, show 5 * (j + 1) = 5 * j + 5 from by omega, show 72 * (j + 1) = 72 * j + 72 from by omega] at h1
        intro σ τ f th κ nb ns h H locs ls hU hh hP hD hS hl
        refine lv_iinc (v := nI (5 * j + 5)) (lv' := [(4, .int (nI (5 * j + 5))), (0, .ref b0), (1, .ref x), (2, .ref (μ 0)), (3, .ref o)]) hx hb dL_law_1260 hl (k := 4) rfl (nI_add (5 * j) 5) (by decide) rfl (fun ls hl => ?_)
        refine lv_goto (tgt := 23) hx hb dL_law_1263 (by decide) ?_
        exact h1 σ τ f th κ nb ns h H locs ls hU hh hP hD hS (lv_sub hl [1, 2, 3, 4, 0] rfl)
      refine lv_aload_n hx hb dL_law_32 rfl (lv_at hl 0 rfl) ?_
      refine lv_iload hx hb dL_law_33 (lv_at hl 4 rfl) ?_
      refine va_sld hx hb hX hbl hbA hS (vp_in_nI (by omega) (by omega)) dL_law_35 ?_
      refine lv_bipush (v := 31) hx hb dL_law_36 (by decide) ?_
      refine lv_iand hx hb dL_law_38 ?_
      generalize xs (nI (5 * j)).toNatClampNeg &&& 31 = t
      by_cases hv : t.toInt < 0 ∨ (19 : Int) < t.toInt
      · refine lv_tableOut hx hb dL_law_39 hv (tgt := 1260) (by decide) ?_
        refine W.widen (k := 48 + j + 1) (n := 661 + 6 * j + 6) (by omega) (by omega) ?_
        exact kk0 d0 hd0 σ τ f th κ nb ns h H locs ls hU (by omega) hP hD hS hl
      · obtain ⟨w, hw, rfl⟩ := zn_w (n := 19) hv
        rcases (show w = 0 ∨ w = 1 ∨ w = 2 ∨ w = 3 ∨ w = 4 ∨ w = 5 ∨ w = 6 ∨ w = 7 ∨ w = 8 ∨ w = 9 ∨ w = 10 ∨ w = 11 ∨ w = 12 ∨ w = 13 ∨ w = 14 ∨ w = 15 ∨ w = 16 ∨ w = 17 ∨ w = 18 ∨ w = 19 by omega) with rfl | rfl | rfl | rfl | rfl | rfl | rfl | rfl | rfl | rfl | rfl | rfl | rfl | rfl | rfl | rfl | rfl | rfl | rfl | rfl
        · refine lv_tableIn hx hb dL_law_39 (by decide) (by decide) (off := 93) (by decide) (tgt := 132) (by decide) ?_
          exact law_bed (CC d0) (kk0 d0 hd0) (by omega) (by omega) hi (by omega) σ τ f th κ nb ns h H locs ls hU hh hP hD hS hl
        · refine lv_tableIn hx hb dL_law_39 (by decide) (by decide) (off := 149) (by decide) (tgt := 188) (by decide) ?_
          exact law_sailor (CC d0) (kk0 d0 hd0) (by omega) (by omega) hi (by omega) σ τ f th κ nb ns h H locs ls hU hh hP hD hS hl
        · refine lv_tableIn hx hb dL_law_39 (by decide) (by decide) (off := 241) (by decide) (tgt := 280) (by decide) ?_
          exact law_keep (CC d0) (kk0 d0 hd0) (by omega) (by omega) hi (by omega) σ τ f th κ nb ns h H locs ls hU hh hP hD hS hl
        · refine lv_tableIn hx hb dL_law_39 (by decide) (by decide) (off := 309) (by decide) (tgt := 348) (by decide) ?_
          exact law_setBell (CC d0) (kk0 d0 hd0) (by omega) (by omega) hi (by omega) σ τ f th κ nb ns h H locs ls hU hh hP hD hS hl
        · refine lv_tableIn hx hb dL_law_39 (by decide) (by decide) (off := 365) (by decide) (tgt := 404) (by decide) ?_
          exact law_setPawn (CC d0) (kk0 d0 hd0) (by omega) (by omega) hi (by omega) σ τ f th κ nb ns h H locs ls hU hh hP hD hS hl
        · refine lv_tableIn hx hb dL_law_39 (by decide) (by decide) (off := 421) (by decide) (tgt := 460) (by decide) ?_
          exact law_give (CC d0) (kk0 d0 hd0) (by omega) (by omega) hi (by omega) σ τ f th κ nb ns h H locs ls hU hh hP hD hS hl
        · refine lv_tableIn hx hb dL_law_39 (by decide) (by decide) (off := 489) (by decide) (tgt := 528) (by decide) ?_
          exact law_pawn (CC d0) (kk0 d0 hd0) (by omega) (by omega) hi (by omega) σ τ f th κ nb ns h H locs ls hU hh hP hD hS hl
        · refine lv_tableIn hx hb dL_law_39 (by decide) (by decide) (off := 545) (by decide) (tgt := 584) (by decide) ?_
          exact law_redeem (CC d0) (kk0 d0 hd0) (by omega) (by omega) hi (by omega) σ τ f th κ nb ns h H locs ls hU hh hP hD hS hl
        · refine lv_tableIn hx hb dL_law_39 (by decide) (by decide) (off := 601) (by decide) (tgt := 640) (by decide) ?_
          exact law_call (CC d0) (kk0 d0 hd0) (by omega) (by omega) hi (by omega) σ τ f th κ nb ns h H locs ls hU hh hP hD hS hl
        · refine lv_tableIn hx hb dL_law_39 (by decide) (by decide) (off := 657) (by decide) (tgt := 696) (by decide) ?_
          exact law_shift (CC d0) (kk0 d0 hd0) (by omega) (by omega) hi (by omega) σ τ f th κ nb ns h H locs ls hU hh hP hD hS hl
        · refine lv_tableIn hx hb dL_law_39 (by decide) (by decide) (off := 725) (by decide) (tgt := 764) (by decide) ?_
          exact law_pass (CC d0) (kk0 d0 hd0) (by omega) (by omega) hi (by omega) σ τ f th κ nb ns h H locs ls hU hh hP hD hS hl
        · refine lv_tableIn hx hb dL_law_39 (by decide) (by decide) (off := 781) (by decide) (tgt := 820) (by decide) ?_
          exact law_told (CC d0) (kk0 d0 hd0) (by omega) (by omega) hi (by omega) σ τ f th κ nb ns h H locs ls hU hh hP hD hS hl
        · refine lv_tableIn hx hb dL_law_39 (by decide) (by decide) (off := 849) (by decide) (tgt := 888) (by decide) ?_
          exact law_about (CC d0) (kk0 d0 hd0) (by omega) (by omega) hi (by omega) σ τ f th κ nb ns h H locs ls hU hh hP hD hS hl
        · refine lv_tableIn hx hb dL_law_39 (by decide) (by decide) (off := 917) (by decide) (tgt := 956) (by decide) ?_
          exact law_count (CC d0) (kk0 d0 hd0) (by omega) (by omega) hi (by omega) σ τ f th κ nb ns h H locs ls hU hh hP hD hS hl
        · refine lv_tableIn hx hb dL_law_39 (by decide) (by decide) (off := 973) (by decide) (tgt := 1012) (by decide) ?_
          exact law_would (CC d0) (kk0 d0 hd0) (by omega) (by omega) hi (by omega) σ τ f th κ nb ns h H locs ls hU hh hP hD hS hl
        · refine lv_tableIn hx hb dL_law_39 (by decide) (by decide) (off := 1041) (by decide) (tgt := 1080) (by decide) ?_
          exact law_until (CC d0) (kk0 d0 hd0) (by omega) (by omega) hi (by omega) σ τ f th κ nb ns h H locs ls hU hh hP hD hS hl
        · refine lv_tableIn hx hb dL_law_39 (by decide) (by decide) (off := 1097) (by decide) (tgt := 1136) (by decide) ?_
          refine W.widen (k := 48 + j + 1) (n := 661 + 6 * j + 6) (by omega) (by omega) ?_
          exact law_quiet (CC d0) (kk0 d0 hd0) (by omega) (by omega) (by omega) σ τ f th κ nb ns h H locs ls hU (by omega) hP hD hS hl
        · refine lv_tableIn hx hb dL_law_39 (by decide) (by decide) (off := 1110) (by decide) (tgt := 1149) (by decide) ?_
          exact law_advise (CC d0) (kk0 d0 hd0) (by omega) (by omega) hi (by omega) σ τ f th κ nb ns h H locs ls hU hh hP hD hS hl
        · refine lv_tableIn hx hb dL_law_39 (by decide) (by decide) (off := 1166) (by decide) (tgt := 1205) (by decide) ?_
          refine W.widen (k := 48 + j + 1) (n := 661 + 6 * j + 6) (by omega) (by omega) ?_
          exact law_mean CC hd0 kk0 (by omega) (by omega) σ τ f th κ nb ns h H locs ls hU (by omega) hP hD hS hl
        · refine lv_tableIn hx hb dL_law_39 (by decide) (by decide) (off := 1207) (by decide) (tgt := 1246) (by decide) ?_
          refine W.widen (k := 48 + j + 1) (n := 661 + 6 * j + 6) (by omega) (by omega) ?_
          exact law_digest (CC d0) (kk0 d0 hd0) (by omega) (by omega) (by omega) σ τ f th κ nb ns h H locs ls hU (by omega) hP hD hS hl
