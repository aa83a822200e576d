section
-- ===== PART A: goes FIRST, ahead of the names: the tables' words, and 'selects' of the private methods out of them =====
/-- a private method of a class that the tables say can be made, by its rows of tables_1 -/
def lw_okq (q : MethodName × Nat) : Prop := (q.1.cls ≠ "java/lang/invoke/MethodHandle" ∧ q.1.cls ≠ "java/lang/invoke/VarHandle") ∧ Cond.instantiable q.1.cls q.2 ∈ tables_1 ∧ Cond.privateMethod q.1 ∈ tables_1 ∧ Cond.instanceMethod q.1 ∈ tables_1
theorem lw_p0 : lw_okq (⟨"java/lang/Throwable", "fillInStackTrace", "(I)Ljava/lang/Throwable;"⟩, 6) := ⟨⟨by decide +kernel, by decide +kernel⟩, List.mem_of_getElem? (i := 206) (by decide +kernel), List.mem_of_getElem? (i := 204) (by decide +kernel), List.mem_of_getElem? (i := 205) (by decide +kernel)⟩
theorem lw_p1 : lw_okq (⟨"HotBeds$Sailors", "sum", "([I)I"⟩, 13) := ⟨⟨by decide +kernel, by decide +kernel⟩, List.mem_of_getElem? (i := 66) (by decide +kernel), List.mem_of_getElem? (i := 240) (by decide +kernel), List.mem_of_getElem? (i := 241) (by decide +kernel)⟩
theorem lw_p2 : lw_okq (⟨"HotBeds$House", "ringBell", "(I)V"⟩, 5) := ⟨⟨by decide +kernel, by decide +kernel⟩, List.mem_of_getElem? (i := 24) (by decide +kernel), List.mem_of_getElem? (i := 248) (by decide +kernel), List.mem_of_getElem? (i := 249) (by decide +kernel)⟩
theorem lw_p3 : lw_okq (⟨"HotBeds$House", "isInWatch", "(I)Z"⟩, 5) := ⟨⟨by decide +kernel, by decide +kernel⟩, List.mem_of_getElem? (i := 24) (by decide +kernel), List.mem_of_getElem? (i := 256) (by decide +kernel), List.mem_of_getElem? (i := 257) (by decide +kernel)⟩
theorem lw_p4 : lw_okq (⟨"HotBeds$House", "hoursSinceWatch", "(I)I"⟩, 5) := ⟨⟨by decide +kernel, by decide +kernel⟩, List.mem_of_getElem? (i := 24) (by decide +kernel), List.mem_of_getElem? (i := 264) (by decide +kernel), List.mem_of_getElem? (i := 265) (by decide +kernel)⟩
theorem lw_p5 : lw_okq (⟨"HotBeds$House", "serve", "(I)V"⟩, 5) := ⟨⟨by decide +kernel, by decide +kernel⟩, List.mem_of_getElem? (i := 24) (by decide +kernel), List.mem_of_getElem? (i := 280) (by decide +kernel), List.mem_of_getElem? (i := 281) (by decide +kernel)⟩
theorem lw_p6 : lw_okq (⟨"HotBeds$House", "lookForBed", "(I)V"⟩, 5) := ⟨⟨by decide +kernel, by decide +kernel⟩, List.mem_of_getElem? (i := 24) (by decide +kernel), List.mem_of_getElem? (i := 311) (by decide +kernel), List.mem_of_getElem? (i := 312) (by decide +kernel)⟩
theorem lw_p7 : lw_okq (⟨"HotBeds$House", "tryBed", "(II)V"⟩, 5) := ⟨⟨by decide +kernel, by decide +kernel⟩, List.mem_of_getElem? (i := 24) (by decide +kernel), List.mem_of_getElem? (i := 325) (by decide +kernel), List.mem_of_getElem? (i := 326) (by decide +kernel)⟩
theorem lw_p8 : lw_okq (⟨"HotBeds$House", "getInto", "(II)V"⟩, 5) := ⟨⟨by decide +kernel, by decide +kernel⟩, List.mem_of_getElem? (i := 24) (by decide +kernel), List.mem_of_getElem? (i := 334) (by decide +kernel), List.mem_of_getElem? (i := 335) (by decide +kernel)⟩
theorem lw_p9 : lw_okq (⟨"HotBeds$House", "restOfHour", "(I)I"⟩, 5) := ⟨⟨by decide +kernel, by decide +kernel⟩, List.mem_of_getElem? (i := 24) (by decide +kernel), List.mem_of_getElem? (i := 342) (by decide +kernel), List.mem_of_getElem? (i := 343) (by decide +kernel)⟩
theorem lw_p10 : lw_okq (⟨"HotBeds", "requireSailor", "(I)V"⟩, 2) := ⟨⟨by decide +kernel, by decide +kernel⟩, List.mem_of_getElem? (i := 16) (by decide +kernel), List.mem_of_getElem? (i := 360) (by decide +kernel), List.mem_of_getElem? (i := 361) (by decide +kernel)⟩
theorem lw_p11 : lw_okq (⟨"HotBeds", "requireBed", "(I)V"⟩, 2) := ⟨⟨by decide +kernel, by decide +kernel⟩, List.mem_of_getElem? (i := 16) (by decide +kernel), List.mem_of_getElem? (i := 385) (by decide +kernel), List.mem_of_getElem? (i := 386) (by decide +kernel)⟩
theorem lw_p12 : lw_okq (⟨"HotBedsLaw$Sim", "free", "(LHotBedsLaw$Sailor;)LHotBedsLaw$Bed;"⟩, 5) := ⟨⟨by decide +kernel, by decide +kernel⟩, List.mem_of_getElem? (i := 420) (by decide +kernel), List.mem_of_getElem? (i := 418) (by decide +kernel), List.mem_of_getElem? (i := 419) (by decide +kernel)⟩
theorem lw_p13 : lw_okq (⟨"HotBeds", "requireUp", "(I)V"⟩, 2) := ⟨⟨by decide +kernel, by decide +kernel⟩, List.mem_of_getElem? (i := 16) (by decide +kernel), List.mem_of_getElem? (i := 634) (by decide +kernel), List.mem_of_getElem? (i := 635) (by decide +kernel)⟩
def lw_privs_1 : List (MethodName × Nat) := [(⟨"java/lang/Throwable", "fillInStackTrace", "(I)Ljava/lang/Throwable;"⟩, 6), (⟨"HotBeds$Sailors", "sum", "([I)I"⟩, 13), (⟨"HotBeds$House", "ringBell", "(I)V"⟩, 5), (⟨"HotBeds$House", "isInWatch", "(I)Z"⟩, 5), (⟨"HotBeds$House", "hoursSinceWatch", "(I)I"⟩, 5), (⟨"HotBeds$House", "serve", "(I)V"⟩, 5), (⟨"HotBeds$House", "lookForBed", "(I)V"⟩, 5), (⟨"HotBeds$House", "tryBed", "(II)V"⟩, 5), (⟨"HotBeds$House", "getInto", "(II)V"⟩, 5), (⟨"HotBeds$House", "restOfHour", "(I)I"⟩, 5), (⟨"HotBeds", "requireSailor", "(I)V"⟩, 2), (⟨"HotBeds", "requireBed", "(I)V"⟩, 2), (⟨"HotBedsLaw$Sim", "free", "(LHotBedsLaw$Sailor;)LHotBedsLaw$Bed;"⟩, 5), (⟨"HotBeds", "requireUp", "(I)V"⟩, 2)]
theorem lw_r1 : ∀ q ∈ lw_privs_1, lw_okq q := List.forall_mem_cons.mpr ⟨lw_p0, List.forall_mem_cons.mpr ⟨lw_p1, List.forall_mem_cons.mpr ⟨lw_p2, List.forall_mem_cons.mpr ⟨lw_p3, List.forall_mem_cons.mpr ⟨lw_p4, List.forall_mem_cons.mpr ⟨lw_p5, List.forall_mem_cons.mpr ⟨lw_p6, List.forall_mem_cons.mpr ⟨lw_p7, List.forall_mem_cons.mpr ⟨lw_p8, List.forall_mem_cons.mpr ⟨lw_p9, List.forall_mem_cons.mpr ⟨lw_p10, List.forall_mem_cons.mpr ⟨lw_p11, List.forall_mem_cons.mpr ⟨lw_p12, List.forall_mem_cons.mpr ⟨lw_p13, fun _ h => absurd h List.not_mem_nil⟩⟩⟩⟩⟩⟩⟩⟩⟩⟩⟩⟩⟩⟩
def lw_privs : List (MethodName × Nat) := lw_privs_1
def lw_tbl : List Cond := k2_sels lw_privs ++ tables_1
theorem lw_privs_ok : ∀ q ∈ lw_privs, lw_okq q := lw_r1
/-- the streams that the claim lets the run draw from -/
abbrev lw_cs : List Choice := [Jvm.Choice.named "NaN.bits"]
theorem lw_bits : nanBits ∈ lw_cs := by first | decide | exact List.mem_cons_self | simp [lw_cs, nanBits]
end
section
/-! ===== BEGIN words of one list among another's, by their places ===== -/
theorem goodIn_r {big : List Cond} (ws : List Cond) (ps : List Nat) (hp : ws = ps.filterMap (fun i => big[i]?)) (h : ws.all goodWord = true) : GoodIn big ws := by
  intro w hw
  have h1 := List.all_eq_true.mp h w hw
  rw [hp] at hw
  obtain ⟨i, -, hi⟩ := List.mem_filterMap.mp hw
  have hm : w ∈ big := by first | exact List.mem_of_getElem? hi | exact List.getElem?_mem hi
  exact ⟨hm, good_of_word h1⟩
theorem goodIn_app {big a b : List Cond} (ha : GoodIn big a) (hb : GoodIn big b) : GoodIn big (a ++ b) := fun w h => (List.mem_append.mp h).elim (ha w) (hb w)
theorem goodIn_ca {big a b : List Cond} {c : Cond} (ha : GoodIn big (c :: a)) (hb : GoodIn big b) : GoodIn big (c :: (a ++ b)) := fun w h => (List.mem_cons.mp h).elim (fun e => ha w (List.mem_cons.mpr (Or.inl e))) (fun h => (List.mem_append.mp h).elim (fun h => ha w (List.mem_cons.mpr (Or.inr h))) (hb w))
theorem goodIn_sub {big ws : List Cond} (hm : ∀ w ∈ ws, w ∈ big) (h : ws.all goodWord = true) : GoodIn big ws := fun w hw => ⟨hm w hw, good_of_word (List.all_eq_true.mp h w hw)⟩
/-! ===== END ===== -/

/-! ===== BEGIN exceptions that leave a method, and their catching by the caller (launches without stack traces) ===== -/
section VXA
/-! The laws vx_back, vx_callV, vx_callS, vx_callSW, vx_throw0, vx_throwS follow proofs of the library, with one case more: JvmDerived/Free/Laws.lean (Back.of_free), Shelf42/LK1.lean (callV, callS), Shelf/KitTraced.lean (throwNew0V, throwNewS). -/
/-- where a method has thrown q: the class by its name, the cell, what was written, the world -/
def vx_T (XC : String → State → State → Prop) (st : State) (q : Addr) (t : State) (mc ms : Nat) (free : Addr → Prop) : Prop :=
  ∃ (E : String) (ce : Cell) (L : List Loc), XC E st t ∧ t.heap[q]? = some ce ∧ ce.vm = .none ∧ st.vm.findClass E = some ce.cls ∧ st.WarmedH t.vm ∧ st.sameButNew ({ t with vm := st.vm } : State) L mc ms ∧ ∀ z ∈ L, free z.base
def vx_Q (Qc : Array Value → State → Outcome → State → Prop) (XC : String → State → State → Prop) (mc ms : Nat) (free : Addr → Prop) : Array Value → State → Outcome → State → Prop := fun a st o t =>
  (Qc a st o t ∧ ∃ L, FrameEnd st o t L mc ms ∧ ∀ q ∈ L, free q.base) ∨ ∃ q, o = .threw q ∧ vx_T XC st q t mc ms free
/-- a callee that returns or throws -/
def vx_Met (l : Launch) (y : MethodName) (ws : List Cond) (rm : Room) (Pc : Array Value → State → Prop) (Qc : Array Value → State → Outcome → State → Prop) (XC : String → State → State → Prop) (mc ms : Nat) (free : Addr → Prop) : Prop :=
  MetFree l y (headSpec ws rm) Pc (fun _ _ _ _ _ => True) (vx_Q Qc XC mc ms free)
def vx_Post (XC : String → State → State → Prop) (mc ms : Nat) (free : Addr → Prop) : Pt → Array Value → Addr → Pt → Prop := fun A a q B =>
  ∃ (g : JFrame) (mk : MethodId) (t : State) (L : List Loc) (E : String) (ce : Cell), B.U.heap = t.heap ∧ B.U.vm = t.vm ∧ XC E (A.U.calling g mk a) t ∧ t.heap[q]? = some ce ∧ ce.vm = .none ∧ A.U.vm.findClass E = some ce.cls ∧ B.locs = A.locs ++ L ∧ (∀ z ∈ L, free z.base) ∧ B.cells = A.cells + mc ∧ B.slots = A.slots + ms
def vx_Back (l : Launch) (R : Room) (p : Program) (e : Env) (below : List Frame) (s : State) (sargs : Array Value) (y : MethodName) (len W9 : Nat)
    (Pre : Pt → Array Value → Prop) (Post : Pt → Array Value → Option Value → Pt → Prop) (PostX : Pt → Array Value → Addr → Pt → Prop) : Prop :=
  ∀ (m : MethodId) (meth : Method) (c : Code) (A : Pt) (g : JFrame) (ig : Instr) (mk : MethodId) (a : Array Value),
    Stand p l e R s m sargs below meth c A.U A.locs A.cells A.slots → g.method = m → g.locals.size = c.maxLocals → decode c.code g.pc = .ok (ig, len) →
    2 * g.monitorRoom + (g.stack.map fun v => v.category).sum ≤ W9 → A.U.methodNamed? y = some mk → Pre A a →
    (∃ (v : Option Value) (B : Pt), Stand p l e R s m sargs below meth c B.U B.locs B.cells B.slots ∧ Post A a v B ∧
      Steps p.tables e below (doInvoke e (A.U.setTop g) [] mk a).1 (B.U.setTop { g with pc := g.pc + len, stack := v.toList ++ g.stack })) ∨
    (∃ (q : Addr) (B : Pt), Stand p l e R s m sargs below meth c B.U B.locs B.cells B.slots ∧ PostX A a q B ∧
      Steps p.tables e below (doInvoke e (A.U.setTop g) [] mk a).1 ((B.U.setTop g).pushFrame (.throwing q)))
section Payer
variable {l : Launch} {R : Room} {p : Program} {e : Env} {below : List Frame} {s : State} {sargs : Array Value} {y : MethodName} {len W9 : Nat}
theorem vx_back {ws : List Cond} {rm : Room} {Pc : Array Value → State → Prop} {Qc : Array Value → State → Outcome → State → Prop} {XC : String → State → State → Prop} {mc ms : Nat} {free : Addr → Prop} {bytes : ByteArray} {maxL : Nat} {ret : Option FieldType}
    (hM : vx_Met l y ws rm Pc Qc XC mc ms free) (hblind : FrameBlind Pc) (hrc : rm.cells = mc) (hrs : rm.slots = ms)
    (hframes : rm.frames + 1 ≤ R.frames) (hlocals : W9 + (maxL + 11) + rm.locals ≤ R.locals)
    (hws : ∀ w ∈ ws, ∀ a' U, s.WarmedH U.vm → w.before a' U = true) (hcode : Cond.code y bytes maxL ret ∈ ws) (hinit : ∀ a' U, s.WarmedH U.vm → (Cond.initialized y.cls).before a' U = true) :
    vx_Back l R p e below s sargs y len W9 (PreOf R mc ms Pc) (PostOf Qc mc ms free) (vx_Post XC mc ms free) := by
  intro m meth c A g ig mk a X hg hsize hdg hW hn hp
  have h1 : (headSpec ws rm).pre.before a A.U = true := atoms_intro fun w hw => hws w hw _ _ X.warmed
  have h2 : (Cond.code y bytes maxL ret).before a A.U = true := hws _ hcode _ _ X.warmed
  have h3 : (Cond.initialized y.cls).before a A.U = true := hinit _ _ X.warmed
  have h4 : A.cells + (headSpec ws rm).room.cells ≤ R.cells := by rw [show (headSpec ws rm).room.cells = mc from hrc]; exact hp.1
  have h5 : A.slots + (headSpec ws rm).room.slots ≤ R.slots := by rw [show (headSpec ws rm).room.slots = ms from hrs]; exact hp.2.1
  have hPc : Pc a (A.U.calling g mk a) := hblind _ _ _ _ hp.2.2
  obtain ⟨U, Ls, c0, s0⟩ := A
  dsimp only [Pt.U, Pt.locs, Pt.cells, Pt.slots] at h1 h2 h3 h4 h5 X hn hPc ⊢
  obtain ⟨methY, cY, hmY, hcY, -, hlY, -, -, -, -⟩ := Cond.code_spec hn h2
  obtain ⟨kY, hkY, -⟩ := className_of_methodNamed hn
  have hinitY : kY.init = .initialized := Cond.initialized_spec (findClass_of_methodNamed hn) hkY h3
  have h : At U g.method c below := by rw [hg]; exact X.here
  have hlocals9 : W9 + (maxL + 11) + (headSpec ws rm).room.locals ≤ R.locals := hlocals
  have happ : (headSpec ws rm).appliesLoose y e.platform (U.calling g mk a) = true :=
    Spec.appliesLoose_calling (g := g) h hdg hn hkY hinitY
      (X.room_calling (g := g) (R' := (headSpec ws rm).room) hsize hmY hcY hframes (by rw [hlY]; omega) h4 h5) h1
  obtain ⟨mid, hmid⟩ := h.above
  have hfr : (U.setTop g).frames = (.java g :: mid) ++ below := by rw [State.frames_setTop' g h.top, hmid]; rfl
  obtain ⟨o, s₂, hsteps, -, hend, hq⟩ := Steps.callFree hM p X.admits X.cas X.clock (acts := []) hfr happ hPc trivial
  have hq' : vx_Q Qc XC mc ms free a (U.calling g mk a) o s₂ := hq
  rw [State.frames_setTop' g h.top] at hend
  obtain ⟨g₀, hg0⟩ := Option.isSome_iff_exists.mp h.top
  obtain ⟨r, hr⟩ := State.topJava?_eq_some.mp hg0
  have hr' : (({ U with heap := s₂.heap, slotsUsed := s₂.slotsUsed } : State).setVm s₂.vm).frames = .java g₀ :: r := hr
  rcases hq' with ⟨hqc, L, hfe, hL⟩ | ⟨q, rfl, E, ce, L, hx, hce, hcv, hcl, hW₂, hsm, hL⟩
  · obtain ⟨⟨v, rfl⟩, hW₂, e2, q2, q3, q4, q5, q6⟩ := id hfe
    have e3 : s₂ = ({ (U.calling g mk a).setFrames s₂.frames with heap := s₂.heap, slotsUsed := s₂.slotsUsed } : State).setVm s₂.vm := by
      have : s₂ = ({ s₂ with vm := (U.calling g mk a).vm } : State).setVm s₂.vm := rfl
      rw [e2] at this
      exact this
    obtain ⟨c₂, i₂, len₂, hc₂, hd₂, hf₂⟩ := hend
    have hW' : U.WarmedH s₂.vm := hW₂
    have hcc : c₂ = c := by
      have h1 : s₂.code? g.method = U.code? g.method := by
        rw [State.code?_eq, State.code?_eq, hW'.alike.method?]
      exact Option.some.inj (hc₂.symm.trans (h1.trans h.code))
    subst hcc
    have hlen : len₂ = len := by rw [hdg] at hd₂; cases hd₂; rfl
    subst hlen
    have hs₂ : s₂ = (({ U with heap := s₂.heap, slotsUsed := s₂.slotsUsed } : State).setVm s₂.vm).setTop { g with pc := g.pc + len₂, stack := v.toList ++ g.stack } := by
      refine e3.trans ?_
      rw [hf₂, State.calling_eq h.top, State.setFrames_setFrames, State.setTop_of_frames _ hr', hr]
      rfl
    have hsame : U.sameButNew ({ U with heap := s₂.heap, slotsUsed := s₂.slotsUsed } : State) L mc ms := by
      refine ⟨?_, q2, q3, q4, q5, q6⟩
      obtain ⟨t, ht, -⟩ := State.frames_cons hr
      show ({ U with heap := s₂.heap, slotsUsed := s₂.slotsUsed } : State) = { U.setFrames U.frames with heap := s₂.heap, slotsUsed := s₂.slotsUsed }
      rw [State.setFrames_self ht]
    subst hg
    refine Or.inl ⟨v, ⟨(({ U with heap := s₂.heap, slotsUsed := s₂.slotsUsed } : State).setVm s₂.vm), Ls ++ L, c0 + mc, s0 + ms⟩,
      ⟨X.admits, X.cas, X.clock, X.frames, X.room, X.hears, X.method, X.code, (X.here.setHeapUsed s₂.heap s₂.slotsUsed).setVm hW'.alike, X.tail, State.WarmedH.trans X.warmed hW', X.limits, X.bytes, X.same.trans (hsame.setVm s.vm)⟩,
      ⟨g, mk, s₂, L, rfl, rfl, hqc, rfl, hL, rfl, rfl⟩, ?_⟩
    show Steps p.tables e below _ ((({ U with heap := s₂.heap, slotsUsed := s₂.slotsUsed } : State).setVm s₂.vm).setTop { g with pc := g.pc + len₂, stack := v.toList ++ g.stack })
    rw [← hs₂]
    exact hsteps
  · obtain ⟨e2, q2, q3, q4, q5, q6⟩ := id hsm
    have e3 : s₂ = ({ (U.calling g mk a).setFrames s₂.frames with heap := s₂.heap, slotsUsed := s₂.slotsUsed } : State).setVm s₂.vm := by
      have : s₂ = ({ s₂ with vm := (U.calling g mk a).vm } : State).setVm s₂.vm := rfl
      rw [e2] at this
      exact this
    have hf₂ : s₂.frames = .throwing q :: .java g :: U.frames.tail := hend
    have hW' : U.WarmedH s₂.vm := hW₂
    have hs₂ : s₂ = ((({ U with heap := s₂.heap, slotsUsed := s₂.slotsUsed } : State).setVm s₂.vm).setTop g).pushFrame (.throwing q) := by
      refine e3.trans ?_
      rw [hf₂, State.calling_eq h.top, State.setFrames_setFrames, State.pushFrame, State.frames_setTop _ hr', State.setTop_of_frames _ hr', State.setFrames_setFrames, hr]
      rfl
    have hsame : U.sameButNew ({ U with heap := s₂.heap, slotsUsed := s₂.slotsUsed } : State) L mc ms := by
      refine ⟨?_, q2, q3, q4, q5, q6⟩
      obtain ⟨t, ht, -⟩ := State.frames_cons hr
      show ({ U with heap := s₂.heap, slotsUsed := s₂.slotsUsed } : State) = { U.setFrames U.frames with heap := s₂.heap, slotsUsed := s₂.slotsUsed }
      rw [State.setFrames_self ht]
    subst hg
    refine Or.inr ⟨q, ⟨(({ U with heap := s₂.heap, slotsUsed := s₂.slotsUsed } : State).setVm s₂.vm), Ls ++ L, c0 + mc, s0 + ms⟩,
      ⟨X.admits, X.cas, X.clock, X.frames, X.room, X.hears, X.method, X.code, (X.here.setHeapUsed s₂.heap s₂.slotsUsed).setVm hW'.alike, X.tail, State.WarmedH.trans X.warmed hW', X.limits, X.bytes, X.same.trans (hsame.setVm s.vm)⟩,
      ⟨g, mk, s₂, L, E, ce, rfl, rfl, hx, hce, hcv, hcl, rfl, hL, rfl, rfl⟩, ?_⟩
    show Steps p.tables e below _ (((({ U with heap := s₂.heap, slotsUsed := s₂.slotsUsed } : State).setVm s₂.vm).setTop g).pushFrame (.throwing q))
    rw [← hs₂]
    exact hsteps
end Payer
section Calls
variable {p : Program} {l : Launch} {e : Env} {R : Room} {s : State} {m : MethodId} {args : Array Value} {below : List Frame} {meth : Method} {c : Code} {T : State} {locs : List Loc} {cells slots : Nat}
theorem vx_callV (X : Stand p l e R s m args below meth c T locs cells slots) (hexec : p.tables.exec = Jvm.exec) {own C : String} {index : Nat} {y : MethodName} {bytes : ByteArray} {maxL : Nat} {ret : Option FieldType}
    (hown : s.vm.findClass own = some m.cls) (hlink : (Cond.methodLink own index y).before args s = true) (hinst : (Cond.instanceMethod y).before args s = true) (hsel : (Cond.selects C y y).before args s = true)
    (hcode : (Cond.code y bytes maxL ret).before args s = true) (hy : y.cls ≠ "java/lang/invoke/MethodHandle" ∧ y.cls ≠ "java/lang/invoke/VarHandle")
    {W9 : Nat} {Pre : Pt → Array Value → Prop} {Post : Pt → Array Value → Option Value → Pt → Prop} {PostX : Pt → Array Value → Addr → Pt → Prop} (hK : vx_Back l R p e below s args y 3 W9 Pre Post PostX)
    {b : Addr} {cellB : Cell} (hcell : T.heap[b]? = some cellB) (hobj : cellB.vm.isStatics = false) (hcls : s.vm.findClass C = some cellB.cls)
    {g : JFrame} (hg : g.method = m) (hsize : g.locals.size = c.maxLocals) {argsL rest : List Value} (hlen : ∀ sig, parseMethodDescriptor y.desc = some sig → argsL.length = sig.parameters.length)
    (hstack : g.stack = argsL.reverse ++ .ref b :: rest) (hW : 2 * g.monitorRoom + (rest.map fun v => v.category).sum ≤ W9) (hdg : decode c.code g.pc = .ok (.invokevirtual index, 3))
    (hpre : ∀ vm₁, s.WarmedH vm₁ → Pre ⟨T.setVm vm₁, locs, cells, slots⟩ (Value.ref b :: argsL).toArray) :
    (∃ (v : Option Value) (vm₁ : Vm) (B : Pt), s.WarmedH vm₁ ∧ Stand p l e R s m args below meth c B.U B.locs B.cells B.slots ∧ Post ⟨T.setVm vm₁, locs, cells, slots⟩ (Value.ref b :: argsL).toArray v B ∧
      ∀ target, Steps p.tables e below (B.U.setTop { g with pc := g.pc + 3, stack := v.toList ++ rest }) target → Steps p.tables e below (T.setTop g) target) ∨
    (∃ (q : Addr) (vm₁ : Vm) (B : Pt), s.WarmedH vm₁ ∧ Stand p l e R s m args below meth c B.U B.locs B.cells B.slots ∧ PostX ⟨T.setVm vm₁, locs, cells, slots⟩ (Value.ref b :: argsL).toArray q B ∧
      Steps p.tables e below (T.setTop g) ((B.U.setTop { g with stack := rest }).pushFrame (.throwing q))) := by
  obtain ⟨mk, methM, hnamed, hmethM, hstM, habM⟩ := Cond.instanceMethod_spec hinst
  obtain ⟨methM', cM, hmethM', -, -, -, -, -, -, hsigM⟩ := Cond.code_spec hnamed hcode
  cases hmethM.symm.trans hmethM'
  obtain ⟨c2, r2, m2, q1, q2, q3, q4, kP, hkP, hkPi⟩ := Cond.selects_spec hsel
  cases hcls.symm.trans q1
  cases (State.methodFound?_of_named hnamed hy).symm.trans q2
  cases hnamed.symm.trans q3
  have hselP : selectMethod e.platform s.vm cellB.cls mk = .method mk := by rw [Launch.admits_selectMethod X.admits]; exact q4
  obtain ⟨vm₁, X₁, hstep₁⟩ := X.invokevirtual hexec hown hlink hnamed hmethM hstM hkP hkPi hy (a := b) (cell := cellB) hcell
    (fun z h => by rw [h] at hobj; cases hobj) hselP hmethM habM hkP hkPi (g := g) hg (argsL := argsL) (rest := rest) (hlen _ hsigM) hstack hdg
  rcases hK m meth c ⟨T.setVm vm₁, locs, cells, slots⟩ { g with stack := rest } (.invokevirtual index) mk (Value.ref b :: argsL).toArray X₁ hg hsize hdg hW (X₁.named hnamed) (hpre vm₁ X₁.warmed) with ⟨v, B, X', hpost, hsteps⟩ | ⟨q, B, X', hpost, hsteps⟩
  · exact Or.inl ⟨v, vm₁, B, X₁.warmed, X', hpost, fun target h => hstep₁ _ fun acts => by rw [doInvoke_state]; exact hsteps.trans h⟩
  · exact Or.inr ⟨q, vm₁, B, X₁.warmed, X', hpost, hstep₁ _ fun acts => by rw [doInvoke_state]; exact hsteps⟩
theorem vx_callS (X : Stand p l e R s m args below meth c T locs cells slots) (hexec : p.tables.exec = Jvm.exec) {own : String} {index : Nat} {y : MethodName} {bytes : ByteArray} {maxL : Nat} {ret : Option FieldType}
    (hown : s.vm.findClass own = some m.cls) (hlink : (Cond.methodLink own index y).before args s = true) (hstat : (Cond.static y).before args s = true) (hinit : (Cond.initialized y.cls).before args s = true)
    (hcode : (Cond.code y bytes maxL ret).before args s = true) (hy : y.cls ≠ "java/lang/invoke/MethodHandle" ∧ y.cls ≠ "java/lang/invoke/VarHandle")
    {W9 : Nat} {Pre : Pt → Array Value → Prop} {Post : Pt → Array Value → Option Value → Pt → Prop} {PostX : Pt → Array Value → Addr → Pt → Prop} (hK : vx_Back l R p e below s args y 3 W9 Pre Post PostX)
    {g : JFrame} (hg : g.method = m) (hsize : g.locals.size = c.maxLocals) {argsL rest : List Value} (hlen : ∀ sig, parseMethodDescriptor y.desc = some sig → argsL.length = sig.parameters.length)
    (hstack : g.stack = argsL.reverse ++ rest) (hW : 2 * g.monitorRoom + (rest.map fun v => v.category).sum ≤ W9) (hdg : decode c.code g.pc = .ok (.invokestatic index, 3))
    (hpre : ∀ vm₁, s.WarmedH vm₁ → Pre ⟨T.setVm vm₁, locs, cells, slots⟩ argsL.toArray) :
    (∃ (v : Option Value) (vm₁ : Vm) (B : Pt), s.WarmedH vm₁ ∧ Stand p l e R s m args below meth c B.U B.locs B.cells B.slots ∧ Post ⟨T.setVm vm₁, locs, cells, slots⟩ argsL.toArray v B ∧
      ∀ target, Steps p.tables e below (B.U.setTop { g with pc := g.pc + 3, stack := v.toList ++ rest }) target → Steps p.tables e below (T.setTop g) target) ∨
    (∃ (q : Addr) (vm₁ : Vm) (B : Pt), s.WarmedH vm₁ ∧ Stand p l e R s m args below meth c B.U B.locs B.cells B.slots ∧ PostX ⟨T.setVm vm₁, locs, cells, slots⟩ argsL.toArray q B ∧
      Steps p.tables e below (T.setTop g) ((B.U.setTop { g with stack := rest }).pushFrame (.throwing q))) := by
  obtain ⟨mk, hnamed⟩ := Cond.code_named hcode
  obtain ⟨methM, cM, hmethM, -, -, -, -, -, -, hsigM⟩ := Cond.code_spec hnamed hcode
  have hstatic : methM.isStatic = true := Cond.static_spec hnamed hmethM hstat
  obtain ⟨kP, hkP, -⟩ := className_of_methodNamed hnamed
  have hinitP : kP.init = .initialized := Cond.initialized_spec (findClass_of_methodNamed hnamed) hkP hinit
  obtain ⟨vm₁, X₁, hstep₁⟩ := X.invokestatic hexec hown hlink hnamed hmethM hstatic hkP hinitP hy (g := g) hg (argsL := argsL) (rest := rest) (hlen _ hsigM) hstack hdg
  rcases hK m meth c ⟨T.setVm vm₁, locs, cells, slots⟩ { g with stack := rest } (.invokestatic index) mk argsL.toArray X₁ hg hsize hdg hW (X₁.named hnamed) (hpre vm₁ X₁.warmed) with ⟨v, B, X', hpost, hsteps⟩ | ⟨q, B, X', hpost, hsteps⟩
  · exact Or.inl ⟨v, vm₁, B, X₁.warmed, X', hpost, fun target h => hstep₁ _ fun acts => by rw [doInvoke_state]; exact hsteps.trans h⟩
  · exact Or.inr ⟨q, vm₁, B, X₁.warmed, X', hpost, hstep₁ _ fun acts => by rw [doInvoke_state]; exact hsteps⟩
end Calls
theorem vx_cls {s : State} {T : State} {vm₁ : Vm} {E : String} {k : ClassId} (hW : s.WarmedH vm₁) (h : (T.setVm vm₁).vm.findClass E = some k) : s.vm.findClass E = some k := by
  have h1 : vm₁.findClass E = some k := h
  rw [hW.alike.findClass] at h1
  exact h1
/-- the method's frame g, with q thrown over it -/
def vx_W (p : Program) (l : Launch) (e : Env) (R : Room) (s : State) (m : MethodId) (args : Array Value) (below : List Frame) (meth : Method) (c : Code) (H : Heap) (locs : List Loc) (cells slots : Nat) (Q : State → Prop) (g : JFrame) (q : Addr) : Prop :=
  ∀ T : State, T.heap = H → Stand p l e R s m args below meth c T locs cells slots → ∃ t, Steps p.tables e below ((T.setTop g).pushFrame (.throwing q)) t ∧ Q t
def vx_Run (p : Program) (l : Launch) (e : Env) (R : Room) (s : State) (m : MethodId) (args : Array Value) (below : List Frame) (meth : Method) (c : Code) (H : Heap) (locs : List Loc) (cells slots mc ms : Nat) (g : JFrame) (rest : List Value) (Qa : State → Outcome → State → Prop) (XC : String → State → State → Prop) (free : Addr → Prop) : Prop :=
  ∀ T : State, T.heap = H → Stand p l e R s m args below meth c T locs cells slots →
    (∃ (v : Option Value) (st₀ t T' : State) (L : List Loc), st₀.heap = H ∧ Stand p l e R s m args below meth c T' (locs ++ L) (cells + mc) (slots + ms) ∧ (∀ q ∈ L, free q.base) ∧ T'.heap = t.heap ∧ T'.vm = t.vm ∧ Qa st₀ (.returned v) t ∧
      Goes p e below T g T' { g with pc := g.pc + 3, stack := v.toList ++ rest }) ∨
    (∃ (q : Addr) (st₀ t T' : State) (L : List Loc) (E : String) (ce : Cell), st₀.heap = H ∧ Stand p l e R s m args below meth c T' (locs ++ L) (cells + mc) (slots + ms) ∧ (∀ z ∈ L, free z.base) ∧ T'.heap = t.heap ∧ T'.vm = t.vm ∧ XC E st₀ t ∧ t.heap[q]? = some ce ∧ ce.vm = .none ∧ s.vm.findClass E = some ce.cls ∧
      Steps p.tables e below (T.setTop g) ((T'.setTop { g with stack := rest }).pushFrame (.throwing q)))
def vx_X {S : Type} (px : S → Prop) (B : String → S → State → Prop) (A : Nat → Prop) : String → State → State → Prop := fun E st t => ∃ u : S, px u ∧ B E u t ∧ va_F A st t
section Runs
variable {p : Program} {l : Launch} {e : Env} {R : Room} {s : State} {m : MethodId} {args : Array Value} {below : List Frame} {meth : Method} {c : Code} {H : Heap} {locs : List Loc} {cells slots : Nat}
variable {y : MethodName} {bytes cc : ByteArray} {maxL nL mc ms n index : Nat} {ret : Option FieldType} {ws : List Cond} {rm : Room} {Pc : Array Value → State → Prop} {Qc : Array Value → State → Outcome → State → Prop} {XC : String → State → State → Prop} {free : Addr → Prop} {Ts : List Cond} {own C : String} {b : Addr} {As rest : List Value} {g : JFrame}
theorem vx_callBack (cb : CallB R s args own index y bytes maxL ret ws rm mc ms n) (hM : vx_Met l y ws rm Pc Qc XC mc ms free) (hbl : FrameBlind Pc) : vx_Back l R p e below s args y 3 8 (PreOf R mc ms Pc) (PostOf Qc mc ms free) (vx_Post XC mc ms free) := by
  obtain ⟨hrc, hrs, hfr, hlo, hws, hcw, -, hini, -⟩ := cb
  exact vx_back (bytes := bytes) (maxL := maxL) (ret := ret) hM hbl hrc hrs hfr hlo hws hcw (fun a' U hW => word_at hW (Or.inl (by first | rfl | simp [Cond.onTables, Cond.keeps, Cond.steady])) hini)
theorem vx_runV (S : CallFix p m c cc nL s args Ts own) (hM : vx_Met l y ws rm Pc Qc XC mc ms free) (cw : CallW R s args own C index y bytes maxL ret ws rm mc ms n) (hp : PreV s H C b Pc As)
    (hg : g.method = m) (hn : As.length = n) (hsize : g.locals.size = nL) (hstack : g.stack = As.reverse ++ .ref b :: rest) (hW : 2 * g.monitorRoom + (rest.map fun v => v.category).sum ≤ 8) (hdg : decode cc g.pc = .ok (.invokevirtual index, 3)) (hf : cells + mc ≤ R.cells ∧ slots + ms ≤ R.slots) :
    vx_Run p l e R s m args below meth c H locs cells slots mc ms g rest (Qc (Value.ref b :: As).toArray) XC free := by
  have hK : vx_Back l R p e below s args y 3 8 (PreOf R mc ms Pc) (PostOf Qc mc ms free) (vx_Post XC mc ms free) := vx_callBack cw.1 hM hp.1
  obtain ⟨⟨-, -, -, -, -, -, hcode, -, hy, hlen, hl⟩, hin, hse⟩ := cw
  obtain ⟨hx, hb, hml, ho, -⟩ := S
  obtain ⟨-, ⟨cellB, hcB, hoB, hclB⟩, hPc⟩ := hp
  intro T hT X
  rcases vx_callV X hx (C := C) (bytes := bytes) (maxL := maxL) (ret := ret) ho hl hin hse hcode hy hK (by rw [hT]; exact hcB) hoB hclB hg (hsize.trans hml.symm) (argsL := As) (rest := rest) (fun sig h => hn.trans (hlen sig h)) hstack hW (by rw [hb]; exact hdg)
    (fun vm₁ hW₁ => ⟨hf.1, hf.2, hPc (T.setVm vm₁) hT hW₁⟩) with ⟨v, vm₁, ⟨U', l2, c2, s2⟩, hW₁, X', ⟨g', mk, t, L, e1, e2, hq, h1, hL, h2, h3⟩, st⟩ | ⟨q, vm₁, ⟨U', l2, c2, s2⟩, hW₁, X', ⟨g', mk, t, L, E, ce, e1, e2, hq, hce, hcv, hcl, h1, hL, h2, h3⟩, st⟩
  · dsimp only [Pt.U, Pt.locs, Pt.cells, Pt.slots] at X' e1 e2 h1 h2 h3 st
    subst h1; subst h2; subst h3
    exact Or.inl ⟨v, (T.setVm vm₁).calling g' mk (Value.ref b :: As).toArray, t, U', L, hT, X', hL, e1, e2, hq, st⟩
  · dsimp only [Pt.U, Pt.locs, Pt.cells, Pt.slots] at X' e1 e2 h1 h2 h3 st hcl
    subst h1; subst h2; subst h3
    exact Or.inr ⟨q, (T.setVm vm₁).calling g' mk (Value.ref b :: As).toArray, t, U', L, E, ce, hT, X', hL, e1, e2, hq, hce, hcv, vx_cls hW₁ hcl, st⟩
theorem vx_runS (S : CallFix p m c cc nL s args Ts own) (hM : vx_Met l y ws rm Pc Qc XC mc ms free) (cw : CallB R s args own index y bytes maxL ret ws rm mc ms n ∧ (Cond.static y).before args s = true) (hp : PreS s H Pc As)
    (hg : g.method = m) (hn : As.length = n) (hsize : g.locals.size = nL) (hstack : g.stack = As.reverse ++ rest) (hW : 2 * g.monitorRoom + (rest.map fun v => v.category).sum ≤ 8) (hdg : decode cc g.pc = .ok (.invokestatic index, 3)) (hf : cells + mc ≤ R.cells ∧ slots + ms ≤ R.slots) :
    vx_Run p l e R s m args below meth c H locs cells slots mc ms g rest (Qc As.toArray) XC free := by
  have hK : vx_Back l R p e below s args y 3 8 (PreOf R mc ms Pc) (PostOf Qc mc ms free) (vx_Post XC mc ms free) := vx_callBack cw.1 hM hp.1
  obtain ⟨⟨-, -, -, -, -, -, hcode, hini, hy, hlen, hl⟩, hstt⟩ := cw
  obtain ⟨hx, hb, hml, ho, -⟩ := S
  intro T hT X
  rcases vx_callS X hx (bytes := bytes) (maxL := maxL) (ret := ret) ho hl hstt hini hcode hy hK hg (hsize.trans hml.symm) (argsL := As) (rest := rest) (fun sig h => hn.trans (hlen sig h)) hstack hW (by rw [hb]; exact hdg)
    (fun vm₁ hW₁ => ⟨hf.1, hf.2, hp.2 (T.setVm vm₁) hT hW₁⟩) with ⟨v, vm₁, ⟨U', l2, c2, s2⟩, hW₁, X', ⟨g', mk, t, L, e1, e2, hq, h1, hL, h2, h3⟩, st⟩ | ⟨q, vm₁, ⟨U', l2, c2, s2⟩, hW₁, X', ⟨g', mk, t, L, E, ce, e1, e2, hq, hce, hcv, hcl, h1, hL, h2, h3⟩, st⟩
  · dsimp only [Pt.U, Pt.locs, Pt.cells, Pt.slots] at X' e1 e2 h1 h2 h3 st
    subst h1; subst h2; subst h3
    exact Or.inl ⟨v, (T.setVm vm₁).calling g' mk As.toArray, t, U', L, hT, X', hL, e1, e2, hq, st⟩
  · dsimp only [Pt.U, Pt.locs, Pt.cells, Pt.slots] at X' e1 e2 h1 h2 h3 st hcl
    subst h1; subst h2; subst h3
    exact Or.inr ⟨q, (T.setVm vm₁).calling g' mk As.toArray, t, U', L, E, ce, hT, X', hL, e1, e2, hq, hce, hcv, vx_cls hW₁ hcl, st⟩
end Runs
section Rows
variable {p : Program} {l : Launch} {e : Env} {R : Room} {s : State} {m : MethodId} {args : Array Value} {below : List Frame} {meth : Method} {c : Code} {H : Heap} {locs : List Loc} {cells slots : Nat} {Q : State → Prop}
variable {mc ms : Nat} {free : Addr → Prop} {A0 A1 : Nat → Prop} {H0 : Heap} {a : Array Value} {pc : Nat} {ls : Array Slot} {st0 rest : List Value}
theorem vx_keep {st₀ t T' : State} {L : List Loc} (h0 : st₀.heap = H) (e1 : T'.heap = t.heap) (hS : va_S A0 H0 H locs) (hA : ∀ q, q < H.size → A1 q → A0 q) (hf : ∀ q, free q → A0 q) (hL : ∀ q ∈ L, free q.base) (hF : va_F A1 st₀ t) :
    H.size ≤ T'.heap.size ∧ (∀ q : Nat, q < H.size → ¬ A1 q → T'.heap[q]? = H[q]?) ∧ va_S A0 H0 T'.heap (locs ++ L) := by
  obtain ⟨hz, hk⟩ := hF
  rw [h0] at hz hk
  exact ⟨by rw [e1]; exact hz, fun q h1 h2 => by rw [e1]; exact hk q h1 h2,
    ⟨Nat.le_trans hS.1 (by rw [e1]; exact hz), fun q h1 h2 => by rw [e1, hk q (Nat.lt_of_lt_of_le h1 hS.1) (fun z => h2 (hA q (Nat.lt_of_lt_of_le h1 hS.1) z))]; exact hS.2.1 q h1 h2, fun q hq => by
      rcases List.mem_append.mp hq with h | h
      · exact hS.2.2 q h
      · exact hf _ (hL q h)⟩⟩
theorem vx_calli {S SX : Type} {post : Int32 → S → Prop} {px : SX → Prop} {B : S → State → Prop} {BX : String → SX → State → Prop} {AX : Nat → Prop} (hr : vx_Run p l e R s m args below meth c H locs cells slots mc ms (F0 m pc ls st0) rest (va_Qi post B A1 a) (vx_X px BX AX) free) (hS : va_S A0 H0 H locs) (hA : ∀ q, q < H.size → A1 q → A0 q) (hf : ∀ q, free q → A0 q) (hAX : ∀ q, q < H.size → AX q → A0 q)
    (kx : ∀ (E : String) (ce : Cell) (q9 : Addr) (u : SX) (t : State) (H1 : Heap) (locs1 : List Loc), t.heap = H1 → s.vm.Alike t.vm → px u → BX E u t → H.size ≤ H1.size → (∀ q : Nat, q < H.size → ¬ AX q → H1[q]? = H[q]?) → va_S A0 H0 H1 locs1 → H1[q9]? = some ce → ce.vm = .none → s.vm.findClass E = some ce.cls → vx_W p l e R s m args below meth c H1 locs1 (cells + mc) (slots + ms) Q (F0 m pc ls rest) q9)
    (kk : ∀ (r : Int32) (u : S) (t : State) (H1 : Heap) (locs1 : List Loc), t.heap = H1 → s.vm.Alike t.vm → post r u → B u t → H.size ≤ H1.size → (∀ q : Nat, q < H.size → ¬ A1 q → H1[q]? = H[q]?) → va_S A0 H0 H1 locs1 → W p l e R s m args below meth c H1 locs1 (cells + mc) (slots + ms) Q (F0 m (pc + 3) ls (.int r :: rest))) : W p l e R s m args below meth c H locs cells slots Q (F0 m pc ls st0) := by
  intro T hT X
  rcases hr T hT X with ⟨v, st₀, t, T', L, h0, X', hL, e1, e2, ⟨⟨r, u, hv, hp, hb⟩, hF⟩, st⟩ | ⟨q, st₀, t, T', L, E, ce, h0, X', hL, e1, e2, ⟨u, hp, hb, hF⟩, hce, hcv, hcl, st⟩
  · cases hv
    obtain ⟨k1, k2, k3⟩ := vx_keep h0 e1 hS hA hf hL hF
    obtain ⟨t2, a1, b1⟩ := kk r u t T'.heap (locs ++ L) e1.symm (by rw [← e2]; exact X'.warmed.alike) hp hb k1 k2 k3 T' rfl X'
    exact ⟨t2, st t2 a1, b1⟩
  · obtain ⟨k1, k2, k3⟩ := vx_keep h0 e1 hS hAX hf hL hF
    obtain ⟨t2, a1, b1⟩ := kx E ce q u t T'.heap (locs ++ L) e1.symm (by rw [← e2]; exact X'.warmed.alike) hp hb k1 k2 k3 (by rw [e1]; exact hce) hcv hcl T' rfl X'
    exact ⟨t2, st.trans a1, b1⟩
theorem vx_calll {S SX : Type} {post : Int64 → S → Prop} {px : SX → Prop} {B : S → State → Prop} {BX : String → SX → State → Prop} {AX : Nat → Prop} (hr : vx_Run p l e R s m args below meth c H locs cells slots mc ms (F0 m pc ls st0) rest (va_Ql post B A1 a) (vx_X px BX AX) free) (hS : va_S A0 H0 H locs) (hA : ∀ q, q < H.size → A1 q → A0 q) (hf : ∀ q, free q → A0 q) (hAX : ∀ q, q < H.size → AX q → A0 q)
    (kx : ∀ (E : String) (ce : Cell) (q9 : Addr) (u : SX) (t : State) (H1 : Heap) (locs1 : List Loc), t.heap = H1 → s.vm.Alike t.vm → px u → BX E u t → H.size ≤ H1.size → (∀ q : Nat, q < H.size → ¬ AX q → H1[q]? = H[q]?) → va_S A0 H0 H1 locs1 → H1[q9]? = some ce → ce.vm = .none → s.vm.findClass E = some ce.cls → vx_W p l e R s m args below meth c H1 locs1 (cells + mc) (slots + ms) Q (F0 m pc ls rest) q9)
    (kk : ∀ (r : Int64) (u : S) (t : State) (H1 : Heap) (locs1 : List Loc), t.heap = H1 → s.vm.Alike t.vm → post r u → B u t → H.size ≤ H1.size → (∀ q : Nat, q < H.size → ¬ A1 q → H1[q]? = H[q]?) → va_S A0 H0 H1 locs1 → W p l e R s m args below meth c H1 locs1 (cells + mc) (slots + ms) Q (F0 m (pc + 3) ls (.long r :: rest))) : W p l e R s m args below meth c H locs cells slots Q (F0 m pc ls st0) := by
  intro T hT X
  rcases hr T hT X with ⟨v, st₀, t, T', L, h0, X', hL, e1, e2, ⟨⟨r, u, hv, hp, hb⟩, hF⟩, st⟩ | ⟨q, st₀, t, T', L, E, ce, h0, X', hL, e1, e2, ⟨u, hp, hb, hF⟩, hce, hcv, hcl, st⟩
  · cases hv
    obtain ⟨k1, k2, k3⟩ := vx_keep h0 e1 hS hA hf hL hF
    obtain ⟨t2, a1, b1⟩ := kk r u t T'.heap (locs ++ L) e1.symm (by rw [← e2]; exact X'.warmed.alike) hp hb k1 k2 k3 T' rfl X'
    exact ⟨t2, st t2 a1, b1⟩
  · obtain ⟨k1, k2, k3⟩ := vx_keep h0 e1 hS hAX hf hL hF
    obtain ⟨t2, a1, b1⟩ := kx E ce q u t T'.heap (locs ++ L) e1.symm (by rw [← e2]; exact X'.warmed.alike) hp hb k1 k2 k3 (by rw [e1]; exact hce) hcv hcl T' rfl X'
    exact ⟨t2, st.trans a1, b1⟩
theorem vx_callf {S SX : Type} {post : UInt32 → S → Prop} {px : SX → Prop} {B : S → State → Prop} {BX : String → SX → State → Prop} {AX : Nat → Prop} (hr : vx_Run p l e R s m args below meth c H locs cells slots mc ms (F0 m pc ls st0) rest (va_Qf post B A1 a) (vx_X px BX AX) free) (hS : va_S A0 H0 H locs) (hA : ∀ q, q < H.size → A1 q → A0 q) (hf : ∀ q, free q → A0 q) (hAX : ∀ q, q < H.size → AX q → A0 q)
    (kx : ∀ (E : String) (ce : Cell) (q9 : Addr) (u : SX) (t : State) (H1 : Heap) (locs1 : List Loc), t.heap = H1 → s.vm.Alike t.vm → px u → BX E u t → H.size ≤ H1.size → (∀ q : Nat, q < H.size → ¬ AX q → H1[q]? = H[q]?) → va_S A0 H0 H1 locs1 → H1[q9]? = some ce → ce.vm = .none → s.vm.findClass E = some ce.cls → vx_W p l e R s m args below meth c H1 locs1 (cells + mc) (slots + ms) Q (F0 m pc ls rest) q9)
    (kk : ∀ (r : UInt32) (u : S) (t : State) (H1 : Heap) (locs1 : List Loc), t.heap = H1 → s.vm.Alike t.vm → post r u → B u t → H.size ≤ H1.size → (∀ q : Nat, q < H.size → ¬ A1 q → H1[q]? = H[q]?) → va_S A0 H0 H1 locs1 → W p l e R s m args below meth c H1 locs1 (cells + mc) (slots + ms) Q (F0 m (pc + 3) ls (.float r :: rest))) : W p l e R s m args below meth c H locs cells slots Q (F0 m pc ls st0) := by
  intro T hT X
  rcases hr T hT X with ⟨v, st₀, t, T', L, h0, X', hL, e1, e2, ⟨⟨r, u, hv, hp, hb⟩, hF⟩, st⟩ | ⟨q, st₀, t, T', L, E, ce, h0, X', hL, e1, e2, ⟨u, hp, hb, hF⟩, hce, hcv, hcl, st⟩
  · cases hv
    obtain ⟨k1, k2, k3⟩ := vx_keep h0 e1 hS hA hf hL hF
    obtain ⟨t2, a1, b1⟩ := kk r u t T'.heap (locs ++ L) e1.symm (by rw [← e2]; exact X'.warmed.alike) hp hb k1 k2 k3 T' rfl X'
    exact ⟨t2, st t2 a1, b1⟩
  · obtain ⟨k1, k2, k3⟩ := vx_keep h0 e1 hS hAX hf hL hF
    obtain ⟨t2, a1, b1⟩ := kx E ce q u t T'.heap (locs ++ L) e1.symm (by rw [← e2]; exact X'.warmed.alike) hp hb k1 k2 k3 (by rw [e1]; exact hce) hcv hcl T' rfl X'
    exact ⟨t2, st.trans a1, b1⟩
theorem vx_calld {S SX : Type} {post : UInt64 → S → Prop} {px : SX → Prop} {B : S → State → Prop} {BX : String → SX → State → Prop} {AX : Nat → Prop} (hr : vx_Run p l e R s m args below meth c H locs cells slots mc ms (F0 m pc ls st0) rest (va_Qd post B A1 a) (vx_X px BX AX) free) (hS : va_S A0 H0 H locs) (hA : ∀ q, q < H.size → A1 q → A0 q) (hf : ∀ q, free q → A0 q) (hAX : ∀ q, q < H.size → AX q → A0 q)
    (kx : ∀ (E : String) (ce : Cell) (q9 : Addr) (u : SX) (t : State) (H1 : Heap) (locs1 : List Loc), t.heap = H1 → s.vm.Alike t.vm → px u → BX E u t → H.size ≤ H1.size → (∀ q : Nat, q < H.size → ¬ AX q → H1[q]? = H[q]?) → va_S A0 H0 H1 locs1 → H1[q9]? = some ce → ce.vm = .none → s.vm.findClass E = some ce.cls → vx_W p l e R s m args below meth c H1 locs1 (cells + mc) (slots + ms) Q (F0 m pc ls rest) q9)
    (kk : ∀ (r : UInt64) (u : S) (t : State) (H1 : Heap) (locs1 : List Loc), t.heap = H1 → s.vm.Alike t.vm → post r u → B u t → H.size ≤ H1.size → (∀ q : Nat, q < H.size → ¬ A1 q → H1[q]? = H[q]?) → va_S A0 H0 H1 locs1 → W p l e R s m args below meth c H1 locs1 (cells + mc) (slots + ms) Q (F0 m (pc + 3) ls (.double r :: rest))) : W p l e R s m args below meth c H locs cells slots Q (F0 m pc ls st0) := by
  intro T hT X
  rcases hr T hT X with ⟨v, st₀, t, T', L, h0, X', hL, e1, e2, ⟨⟨r, u, hv, hp, hb⟩, hF⟩, st⟩ | ⟨q, st₀, t, T', L, E, ce, h0, X', hL, e1, e2, ⟨u, hp, hb, hF⟩, hce, hcv, hcl, st⟩
  · cases hv
    obtain ⟨k1, k2, k3⟩ := vx_keep h0 e1 hS hA hf hL hF
    obtain ⟨t2, a1, b1⟩ := kk r u t T'.heap (locs ++ L) e1.symm (by rw [← e2]; exact X'.warmed.alike) hp hb k1 k2 k3 T' rfl X'
    exact ⟨t2, st t2 a1, b1⟩
  · obtain ⟨k1, k2, k3⟩ := vx_keep h0 e1 hS hAX hf hL hF
    obtain ⟨t2, a1, b1⟩ := kx E ce q u t T'.heap (locs ++ L) e1.symm (by rw [← e2]; exact X'.warmed.alike) hp hb k1 k2 k3 (by rw [e1]; exact hce) hcv hcl T' rfl X'
    exact ⟨t2, st.trans a1, b1⟩
theorem vx_callv {S SX : Type} {post : S → Prop} {px : SX → Prop} {B : S → State → Prop} {BX : String → SX → State → Prop} {AX : Nat → Prop} (hr : vx_Run p l e R s m args below meth c H locs cells slots mc ms (F0 m pc ls st0) rest (va_Qv post B A1 a) (vx_X px BX AX) free) (hS : va_S A0 H0 H locs) (hA : ∀ q, q < H.size → A1 q → A0 q) (hf : ∀ q, free q → A0 q) (hAX : ∀ q, q < H.size → AX q → A0 q)
    (kx : ∀ (E : String) (ce : Cell) (q9 : Addr) (u : SX) (t : State) (H1 : Heap) (locs1 : List Loc), t.heap = H1 → s.vm.Alike t.vm → px u → BX E u t → H.size ≤ H1.size → (∀ q : Nat, q < H.size → ¬ AX q → H1[q]? = H[q]?) → va_S A0 H0 H1 locs1 → H1[q9]? = some ce → ce.vm = .none → s.vm.findClass E = some ce.cls → vx_W p l e R s m args below meth c H1 locs1 (cells + mc) (slots + ms) Q (F0 m pc ls rest) q9)
    (kk : ∀ (u : S) (t : State) (H1 : Heap) (locs1 : List Loc), t.heap = H1 → s.vm.Alike t.vm → post u → B u t → H.size ≤ H1.size → (∀ q : Nat, q < H.size → ¬ A1 q → H1[q]? = H[q]?) → va_S A0 H0 H1 locs1 → W p l e R s m args below meth c H1 locs1 (cells + mc) (slots + ms) Q (F0 m (pc + 3) ls (rest))) : W p l e R s m args below meth c H locs cells slots Q (F0 m pc ls st0) := by
  intro T hT X
  rcases hr T hT X with ⟨v, st₀, t, T', L, h0, X', hL, e1, e2, ⟨⟨u, hv, hp, hb⟩, hF⟩, st⟩ | ⟨q, st₀, t, T', L, E, ce, h0, X', hL, e1, e2, ⟨u, hp, hb, hF⟩, hce, hcv, hcl, st⟩
  · cases hv
    obtain ⟨k1, k2, k3⟩ := vx_keep h0 e1 hS hA hf hL hF
    obtain ⟨t2, a1, b1⟩ := kk u t T'.heap (locs ++ L) e1.symm (by rw [← e2]; exact X'.warmed.alike) hp hb k1 k2 k3 T' rfl X'
    exact ⟨t2, st t2 a1, b1⟩
  · obtain ⟨k1, k2, k3⟩ := vx_keep h0 e1 hS hAX hf hL hF
    obtain ⟨t2, a1, b1⟩ := kx E ce q u t T'.heap (locs ++ L) e1.symm (by rw [← e2]; exact X'.warmed.alike) hp hb k1 k2 k3 (by rw [e1]; exact hce) hcv hcl T' rfl X'
    exact ⟨t2, st.trans a1, b1⟩
/-- caught by the row x of this method's table; the rows ahead don't take it -/
theorem vx_catch {own name : String} {E : String} {ce : Cell} {q : Addr} (hown : s.vm.findClass own = some m.cls) (pre : List ExceptionTableEntry) (x : ExceptionTableEntry) (suf : List ExceptionTableEntry) (hsplit : c.exceptionTable.toList = pre ++ x :: suf)
    (hpass : ∀ z ∈ pre, covers z pc = false ∨ (z.catchType ≠ 0 ∧ ∃ nm : String, (Cond.classLink own z.catchType nm).before args s = true ∧ va_Nc E nm s)) (hx : covers x pc = true) (h0 : x.catchType ≠ 0)
    (hlink : (Cond.classLink own x.catchType name).before args s = true) (hcast : (Cond.castable E name).before args s = true) (hcell : H[q]? = some ce) (hv : ce.vm = .none) (hcl : s.vm.findClass E = some ce.cls)
    (kk : W p l e R s m args below meth c H locs cells slots Q (F0 m x.handlerPc ls [.ref q])) : vx_W p l e R s m args below meth c H locs cells slots Q (F0 m pc ls rest) q := by
  intro T hT X
  have hpl : e.platform.magicAccessors = ({} : Platform).magicAccessors := by rw [X.admits.platform]
  obtain ⟨c3, c4, hc3, hc4, hasg⟩ := Cond.castable_spec hcast
  cases Option.some.inj (hc3.symm.trans hcl)
  obtain ⟨c5, hc5, hcl5⟩ := Cond.classLink_spec hown hlink e.platform hpl
  cases Option.some.inj (hc4.symm.trans hc5)
  obtain ⟨vm', X', st⟩ := X.thenCaughtThrough q (g := F0 m pc ls rest) rfl (Steps.refl _) (by rw [hT]; exact hcell) (by rw [hv]; rfl) (by obtain ⟨k9, h9, -⟩ := Vm.findClass_spec hcl; exact ⟨k9, h9⟩) pre x suf hsplit
    (fun z hz => by
      rcases hpass z hz with h | ⟨hz0, nm, hl1, hn1⟩
      · exact Or.inl h
      · obtain ⟨c6, hc6, hcl6⟩ := Cond.classLink_spec hown hl1 e.platform hpl
        obtain ⟨a8, b8, h1, h2, h3⟩ := hn1
        cases Option.some.inj (h1.symm.trans hcl)
        cases Option.some.inj (h2.symm.trans hc6)
        exact Or.inr ⟨hz0, _, hcl6, h3⟩) hx (Or.inr ⟨h0, c4, hcl5, hasg⟩)
  obtain ⟨t, a1, b1⟩ := kk (T.setVm vm') hT X'
  exact ⟨t, st.trans a1, b1⟩
end Rows
section Ends
variable {p : Program} {l : Launch} {e : Env} {R : Room} {s : State} {m : MethodId} {args : Array Value} {below : List Frame} {meth : Method} {c : Code} {H : Heap} {locs : List Loc} {cells slots : Nat} {Q : State → Prop}
variable {mc ms : Nat} {free : Addr → Prop} {A0 A1 : Nat → Prop} {H0 : Heap} {a : Array Value} {ls : Array Slot} {st0 rest : List Value}
variable {Qc : Array Value → State → Outcome → State → Prop} {XC : String → State → State → Prop}
/-- what a body that may throw owes at its end -/
def vx_MQ (below : List Frame) (Qc : Array Value → State → Outcome → State → Prop) (XC : String → State → State → Prop) (a : Array Value) (s : State) (mc ms : Nat) (free : Addr → Prop) : State → Prop := fun t =>
  ∃ o, t.status = .running ∧ Ended t below o ∧ vx_Q Qc XC mc ms free a s o t
theorem vx_ret {g : JFrame} {mc ms : Nat} (k : W p l e R s m args below meth c H locs cells slots (MQ below Qc args s mc ms free) g) : W p l e R s m args below meth c H locs cells slots (vx_MQ below Qc XC args s mc ms free) g := by
  intro T hT X
  obtain ⟨t, a1, o, b1, b2, b3, b4⟩ := k T hT X
  exact ⟨t, a1, o, b1, b2, Or.inl ⟨b3, b4⟩⟩
/-- not caught here: it goes on to the caller -/
theorem vx_widen {g : JFrame} {q : Addr} {k n : Nat} (h1 : cells ≤ k) (h2 : slots ≤ n) (kk : vx_W p l e R s m args below meth c H locs k n Q g q) : vx_W p l e R s m args below meth c H locs cells slots Q g q := fun T hT X => kk T hT (stand_widen X h1 h2)
theorem vx_out {pc : Nat} {E : String} {ce : Cell} {q : Addr} {mc ms : Nat} (hout : ∀ x ∈ c.exceptionTable.toList, covers x pc = false) (hlocks : meth.locks = false) (hcell : H[q]? = some ce) (hv : ce.vm = .none) (hcl : s.vm.findClass E = some ce.cls)
    (hx : ∀ t : State, t.heap = H → s.vm.Alike t.vm → XC E s t) (hf : ∀ z ∈ locs, free z.base) (hc : cells ≤ mc) (hs : slots ≤ ms) :
    vx_W p l e R s m args below meth c H locs cells slots (vx_MQ below Qc XC args s mc ms free) (F0 m pc ls rest) q := by
  intro T hT X
  obtain ⟨st1, hrun, hend, hW, hsm⟩ := X.leaveThrown q (g := F0 m pc ls rest) rfl rfl rfl hout hlocks
  have hcell9 : (T.setFrames (.throwing q :: below)).heap[q]? = some ce := by
    show T.heap[q]? = some ce
    rw [hT]; exact hcell
  exact ⟨_, st1, .threw q, hrun, hend, Or.inr ⟨q, rfl, E, ce, locs, hx _ hT hW.alike, hcell9, hv, hcl, hW, hsm.mono hc hs, hf⟩⟩
theorem vx_frame {U : State} {k n : Nat} (h : s.sameButNew ({ U with vm := s.vm } : State) locs k n) : s.heap.size ≤ U.heap.size ∧ ∀ q : Nat, q < s.heap.size → (∀ z ∈ locs, z.base ≠ q) → U.heap[q]? = s.heap[q]? := by
  obtain ⟨-, h2, -, -, -, h6⟩ := h
  refine ⟨h2, fun q hq hz => ?_⟩
  obtain ⟨c9, e1, e2, e3, e4⟩ := h6 q _ (Array.getElem?_eq_getElem hq)
  have hs : c9.slots = (s.heap[q]).slots := Array.ext_getElem? fun i => e4 i fun hm => hz _ hm rfl
  have h9 : c9 = s.heap[q] := by
    rw [hs] at e2
    exact e2
  have e5 : U.heap[q]? = some c9 := e1
  rw [e5, h9, Array.getElem?_eq_getElem hq]
/-- the words of a throw but the four that speak of the heap -/
def vx_no (w : Cond) : Bool := decide (w ≠ .isRef (.static Bundle.tN "UNASSIGNED_STACK" Bundle.steD)) && decide (w ≠ .isRef (.static Bundle.tN "SUPPRESSED_SENTINEL" Bundle.listD)) && decide (w ≠ .laysStatic Bundle.tN "UNASSIGNED_STACK" Bundle.steD) && decide (w ≠ .laysStatic Bundle.tN "SUPPRESSED_SENTINEL" Bundle.listD)
def vx_at0 (own : String) (ic : Nat) (X : String) (names : List String) : List Cond := (Bundle.ownAtoms0 own ic X names).filter vx_no
def vx_atS (own : String) (ic : Nat) (X : String) (names : List String) : List Cond := (Bundle.ownAtoms own ic X names).filter vx_no
/-- a word that the tables alone decide, or a good one -/
def vx_ot (w : Cond) : Bool := w.onTables || goodWord w
theorem vx_ot_at {args a' : Array Value} {s U : State} {w : Cond} (hW : s.WarmedH U.vm) (hvm : s.vm = U.vm) (hg : vx_ot w = true) (h : w.before args s = true) : w.before a' U = true := by
  simp only [vx_ot, Bool.or_eq_true] at hg
  rcases hg with hg | hg
  · exact va_tabs hg hvm h
  · exact word_at hW (good_of_word hg) h
/-- a list's words: the good ones out of the method's own list, the others by premises of their own -/
theorem vx_hat {args : Array Value} {s : State} {L B : List Cond} (h1 : ∀ w ∈ L.filter goodWord, w.before args s = true) (h2 : ∀ w ∈ L.filter (fun w => !goodWord w), w ∈ B) (h3 : ∀ w ∈ B, w.before args s = true) : ∀ w ∈ L, w.before args s = true := by
  intro w hw
  by_cases g : goodWord w = true
  · exact h1 w (List.mem_filter.mpr ⟨hw, g⟩)
  · refine h3 w (h2 w (List.mem_filter.mpr ⟨hw, ?_⟩))
    show (!goodWord w) = true
    cases hgw : goodWord w
    · rfl
    · exact absurd hgw g
theorem vx_c {args : Array Value} {s : State} {w : Cond} {B : List Cond} (h : w.before args s = true) (t : ∀ w ∈ B, w.before args s = true) : ∀ w' ∈ w :: B, w'.before args s = true := fun w' h' => (List.mem_cons.mp h').elim (fun e => by rw [e]; exact h) (t w')
theorem vx_n {args : Array Value} {s : State} : ∀ w ∈ ([] : List Cond), w.before args s = true := fun _ h => nomatch h
theorem vx_own {args : Array Value} {s : State} {L : List Cond} (h1 : ∀ w ∈ L.filter vx_no, w.before args s = true)
    (hU : (Cond.isRef (.static Bundle.tN "UNASSIGNED_STACK" Bundle.steD)).before args s = true) (hN : (Cond.isRef (.static Bundle.tN "SUPPRESSED_SENTINEL" Bundle.listD)).before args s = true)
    (lU : (Cond.laysStatic Bundle.tN "UNASSIGNED_STACK" Bundle.steD).before args s = true) (lN : (Cond.laysStatic Bundle.tN "SUPPRESSED_SENTINEL" Bundle.listD).before args s = true) : ∀ w ∈ L, w.before args s = true := by
  intro w hw
  by_cases e1 : w = .isRef (.static Bundle.tN "UNASSIGNED_STACK" Bundle.steD)
  · rw [e1]; exact hU
  · by_cases e2 : w = .isRef (.static Bundle.tN "SUPPRESSED_SENTINEL" Bundle.listD)
    · rw [e2]; exact hN
    · by_cases e3 : w = .laysStatic Bundle.tN "UNASSIGNED_STACK" Bundle.steD
      · rw [e3]; exact lU
      · by_cases e4 : w = .laysStatic Bundle.tN "SUPPRESSED_SENTINEL" Bundle.listD
        · rw [e4]; exact lN
        · exact h1 w (List.mem_filter.mpr ⟨hw, by unfold vx_no; rw [decide_eq_true e1, decide_eq_true e2, decide_eq_true e3, decide_eq_true e4]; rfl⟩)
/-- where a static field lies, its class's statics cell in H -/
def vx_L (C n d : String) (A : Nat → Prop) (U : State) (H : Heap) : Prop := ∃ (c : ClassId) (k : Class) (i : Nat) (f : Field) (a : Nat) (cell : Cell), U.vm.findClass C = some c ∧ U.fieldFound? C n d = some (c, k, i, f) ∧ f.isStatic = true ∧ k.statics = some a ∧ H[a]? = some cell ∧ cell.vm.isStatics = true ∧ cell.cls = c ∧ f.slot < cell.slots.size ∧ k.staticTypes[f.slot]? = some f.type ∧ ¬ A a
theorem vx_L.moved {C n d : String} {A : Nat → Prop} {u U : State} {H : Heap} (hvm : u.vm.Alike U.vm) (h : vx_L C n d A u H) : vx_L C n d A U H := by
  obtain ⟨c, k, i, f, a, cell, h1, h2, h3, h4, h5, h6, h7, h8, h9, h10⟩ := h
  obtain ⟨k', hi', he⟩ := State.fieldFound?_setVm hvm h2
  exact ⟨c, k', i, f, a, cell, by rw [hvm.findClass]; exact h1, hi', h3, by rw [he]; exact h4, h5, h6, h7, h8, by rw [he]; exact h9, h10⟩
theorem vx_L.kept {C n d : String} {A : Nat → Prop} {U : State} {H H1 : Heap} (h : vx_L C n d A U H) (hq : ∀ a : Nat, a < H.size → ¬ A a → H1[a]? = H[a]?) : vx_L C n d A U H1 := by
  obtain ⟨c, k, i, f, a, cell, h1, h2, h3, h4, h5, h6, h7, h8, h9, h10⟩ := h
  exact ⟨c, k, i, f, a, cell, h1, h2, h3, h4, by rw [hq a (Array.getElem?_eq_some_iff.mp h5).1 h10]; exact h5, h6, h7, h8, h9, h10⟩
theorem vx_L.narrow {C n d : String} {A B : Nat → Prop} {U : State} {H : Heap} (h : vx_L C n d A U H) (hAB : ∀ q, B q → A q) : vx_L C n d B U H := by
  obtain ⟨c, k, i, f, a, cell, h1, h2, h3, h4, h5, h6, h7, h8, h9, h10⟩ := h
  exact ⟨c, k, i, f, a, cell, h1, h2, h3, h4, h5, h6, h7, h8, h9, fun z => h10 (hAB _ z)⟩
theorem vx_L.word {C n d : String} {A : Nat → Prop} {s : State} {args : Array Value} (h : vx_L C n d A s s.heap) : (Cond.laysStatic C n d).before args s = true := by
  obtain ⟨c, k, i, f, a, cell, h1, h2, h3, h4, h5, h6, h7, h8, h9, -⟩ := h
  show (Cond.laysStatic C n d).holds args s none s [] = true
  exact Cond.laysStatic_of h1 h2 h3 h4 h5 h6 h7 h8 h9
/-- .. and what it holds: null or some reference -/
def vx_Zq (C n d : String) (A : Nat → Prop) (U : State) (H : Heap) : Prop := va_Zq C n d A U H ∧ vx_L C n d A U H
theorem vx_Zq.moved {C n d : String} {A : Nat → Prop} {u U : State} {H : Heap} (hvm : u.vm.Alike U.vm) (h : vx_Zq C n d A u H) : vx_Zq C n d A U H := ⟨va_Zq.moved hvm h.1, vx_L.moved hvm h.2⟩
theorem vx_Zq.kept {C n d : String} {A : Nat → Prop} {U : State} {H H1 : Heap} (h : vx_Zq C n d A U H) (hq : ∀ a : Nat, a < H.size → ¬ A a → H1[a]? = H[a]?) : vx_Zq C n d A U H1 := ⟨va_Zq.kept h.1 hq, vx_L.kept h.2 hq⟩
theorem vx_Zq.narrow {C n d : String} {A B : Nat → Prop} {U : State} {H : Heap} (h : vx_Zq C n d A U H) (hAB : ∀ q, B q → A q) : vx_Zq C n d B U H := ⟨va_Zq.narrow h.1 hAB, vx_L.narrow h.2 hAB⟩
theorem vx_Zqof {args : Array Value} {s : State} {C n d : String} {A : Nat → Prop} (hl : (Cond.laysStatic C n d).before args s = true) (hini : (Cond.initialized C).before args s = true) (h : (Cond.isRef (.static C n d)).before args s = true) (hA : ∀ a : Nat, a < s.heap.size → ¬ A a) : vx_Zq C n d A s s.heap := by
  refine ⟨va_Zqof hl hini h hA, ?_⟩
  obtain ⟨c, k, i, f, a, cell, h1, h2, h3, h4, h5, h6, h7, h8, h9⟩ := Cond.laysStatic_spec hl
  exact ⟨c, k, i, f, a, cell, h1, h2, h3, h4, h5, h6, h7, h8, h9, hA a (Array.getElem?_eq_some_iff.mp h5).1⟩
theorem vx_isRef {C n d : String} {v : Value} {A : Nat → Prop} {s : State} {args : Array Value} (h : va_Z C n d v A s s.heap) (hv : v.isRef = true) : (Cond.isRef (.static C n d)).before args s = true := by
  obtain ⟨cf, kf, fi, f, a, cell, h1, h2, h3, h4, h5, h6, h7, -⟩ := h
  have he : (Term.static C n d).eval args s none [] s = some v := by
    simp [Term.eval, State.fieldNamed?, h1, h2, h4, h5, h6, h7]
  simp only [Cond.before, Cond.holds, Cond.value, he]
  cases v <;> simp_all [Value.isRef]
theorem vx_isRefq {C n d : String} {A : Nat → Prop} {s : State} {args : Array Value} (h : va_Zq C n d A s s.heap) : (Cond.isRef (.static C n d)).before args s = true := by
  rcases h with h | ⟨t, h⟩
  · exact vx_isRef h rfl
  · exact vx_isRef h rfl
/-- the same frame, seen from here: as if the method were called anew in this heap -/
theorem vx_rebase {T : State} (X : Stand p l e R s m args below meth c T locs cells slots) {R' : Room} (hf : R'.frames ≤ R.frames) (hl : R'.locals ≤ R.locals) (hc : cells + R'.cells ≤ R.cells) (hs : slots + R'.slots ≤ R.slots) :
    Stand p l e R' ((T.setVm s.vm).setFrames (.invoking m args :: below)) m args below meth c T [] 0 0 := by
  have htop : (T.setVm s.vm).topJava?.isSome := X.here.top
  have hF : ((T.setVm s.vm).setFrames (.invoking m args :: below)).frames = .invoking m args :: below := State.frames_setFrames _ (State.cur_lt_of_top htop)
  obtain ⟨g₀, hg0⟩ := Option.isSome_iff_exists.mp htop
  obtain ⟨r, hr⟩ := State.topJava?_eq_some.mp hg0
  have hl9 : e.platform.stackLimits (T.setVm s.vm).me = e.platform.stackLimits s.me := X.limits
  have hb9 : (T.setVm s.vm).me.stackBytes = s.me.stackBytes := X.bytes
  refine ⟨X.admits, X.cas, X.clock, hF, ?_, X.hears, X.method, X.code, X.here, X.tail, X.warmed, ?_, ?_, ?_⟩
  · have h := X.room
    have hU : ((T.setVm s.vm).setFrames (.invoking m args :: below)).localsInUse = s.localsInUse := by
      rw [State.localsInUse_invoking hF (meth := meth) (c := c) X.method X.code, State.localsInUse_invoking X.frames X.method X.code]
    simp only [State.hasRoom, Bool.and_eq_true, decide_eq_true_eq] at h ⊢
    obtain ⟨⟨⟨⟨h1, h2, h3, h4, h5, h6⟩, h7⟩, h8⟩, h9⟩ := h
    rw [X.frames, List.length_cons] at h2 h3
    have q1 := X.heapSize
    have q2 := X.used
    simp only [hF, hU, List.length_cons, State.stackLimits_setFrames, State.stackBytes_setFrames, hl9, hb9]
    refine ⟨⟨⟨⟨by omega, by omega, by omega, by omega, by omega, h6⟩, ?_⟩, ?_⟩, X.book⟩
    · show T.heap.size + R'.cells ≤ e.platform.maxCells
      omega
    · show T.slotsUsed + R'.slots ≤ e.platform.maxSlots
      omega
  · rw [State.stackLimits_setFrames]; rfl
  · rw [State.stackBytes_setFrames]; rfl
  · refine ⟨?_, Nat.le_refl _, Nat.le_refl _, ?_, ?_, fun a c9 h9 => ⟨c9, h9, rfl, rfl, fun _ _ => rfl⟩⟩
    · obtain ⟨t, ht, -⟩ := State.frames_cons hr
      show T.setVm s.vm = { ((T.setVm s.vm).setFrames (.invoking m args :: below)).setFrames (T.setVm s.vm).frames with heap := T.heap, slotsUsed := T.slotsUsed }
      rw [State.setFrames_setFrames, State.setFrames_self ht]
      rfl
    · show T.slotsUsed = T.slotsUsed + ((T.heap.toList.drop T.heap.size).map (·.slots.size)).sum
      rw [List.drop_eq_nil_of_le (Nat.le_of_eq Array.length_toList)]
      rfl
    · show ((T.heap.toList.drop T.heap.size).map (·.slots.size)).sum ≤ 0
      rw [List.drop_eq_nil_of_le (Nat.le_of_eq Array.length_toList)]
      exact Nat.le_refl _
/-- 'throw new E()': new; dup; invokespecial; athrow -/
theorem vx_throw0 {cc : ByteArray} {pc : Nat} (hexec : p.tables.exec = Jvm.exec) (hb : c.code = cc) (hl : l.stackTraces = false) {own cls : String} {names : List String} {ik ic mc ms : Nat} {A : Nat → Prop}
    (hown : s.vm.findClass own = some m.cls) (hcls : Bundle.fit cls = true) (hnames : ∀ n ∈ names, Bundle.fit n = true)
    (hk : (Cond.classLink own ik cls).before args s = true) (hini : (Cond.initialized cls).before args s = true) (hat : ∀ w ∈ vx_at0 own ic cls names, w.before args s = true)
    (hgood : ∀ w ∈ Cond.classLink own ik cls :: Cond.initialized cls :: vx_at0 own ic cls names, vx_ot w = true)
    (hU : vx_Zq Bundle.tN "UNASSIGNED_STACK" Bundle.steD A s s.heap) (hN : vx_Zq Bundle.tN "SUPPRESSED_SENTINEL" Bundle.listD A s s.heap) (hS : va_S A s.heap H locs) (hsize : ls.size = c.maxLocals)
    (d0 : decode cc pc = .ok (.new ik, 3)) (d3 : decode cc (pc + 3) = .ok (.dup, 1)) (d4 : decode cc (pc + 4) = .ok (.invokespecial ic, 3)) (d7 : decode cc (pc + 7) = .ok (.athrow, 1))
    (hout : ∀ x ∈ c.exceptionTable.toList, covers x (pc + 7) = false)
    (hRframes : names.length + 3 < R.frames) (hRlocals : (rest.map fun v => v.category).sum + (13 * (names.length + 1) + 42) ≤ R.locals) (hRcells : cells + 1 ≤ R.cells) (hRslots : slots + 6 ≤ R.slots) (hlocks : meth.locks = false)
    (hx : ∀ t : State, s.vm.Alike t.vm → H.size ≤ t.heap.size → (∀ q : Nat, q < H.size → t.heap[q]? = H[q]?) → XC cls s t)
    (hf : ∀ z ∈ locs, free z.base) (hc : cells + 1 ≤ mc) (hs : slots + 6 ≤ ms) :
    W p l e R s m args below meth c H locs cells slots (vx_MQ below Qc XC args s mc ms free) (F0 m pc ls rest) := by
  intro T hT X
  have htr : e.platform.stackTraces = false := (show e.platform.stackTraces = l.stackTraces by rw [X.admits.platform]).trans hl
  have Y := vx_rebase X (R' := { frames := R.frames, locals := R.locals, cells := 1, slots := 6 }) (Nat.le_refl _) (Nat.le_refl _) hRcells hRslots
  obtain ⟨s', hA⟩ : ∃ z, z = (T.setVm s.vm).setFrames (.invoking m args :: below) := ⟨_, rfl⟩
  rw [← hA] at Y
  have hvm : s'.vm = s.vm := by rw [hA]; rfl
  have hhp : s'.heap = H := by rw [hA]; exact hT
  have hW0 : s.WarmedH s'.vm := by rw [hvm]; exact State.WarmedH.refl s
  have hat' : ∀ w ∈ vx_at0 own ic cls names, w.before args s' = true := fun w hw => vx_ot_at hW0 hvm.symm (hgood w (List.mem_cons_of_mem _ (List.mem_cons_of_mem _ hw))) (hat w hw)
  have hk' : (Cond.classLink own ik cls).before args s' = true := vx_ot_at hW0 hvm.symm (hgood _ List.mem_cons_self) hk
  have hini' : (Cond.initialized cls).before args s' = true := vx_ot_at hW0 hvm.symm (hgood _ (List.mem_cons_of_mem _ List.mem_cons_self)) hini
  have hU' : vx_Zq Bundle.tN "UNASSIGNED_STACK" Bundle.steD A s' s'.heap := by rw [hhp]; exact vx_Zq.moved hW0.alike (hU.kept hS.2.1)
  have hN' : vx_Zq Bundle.tN "SUPPRESSED_SENTINEL" Bundle.listD A s' s'.heap := by rw [hhp]; exact vx_Zq.moved hW0.alike (hN.kept hS.2.1)
  have h : ∀ w ∈ Bundle.ownAtoms0 own ic cls names, w.before args s' = true := vx_own hat' (vx_isRefq hU'.1) (vx_isRefq hN'.1) hU'.2.word hN'.2.word
  have hown' : s'.vm.findClass own = some m.cls := by rw [hvm]; exact hown
  have hins : (Cond.instantiable cls 6).before args s' = true := h _ (by simp [Bundle.ownAtoms0])
  obtain ⟨vm₁, cX, kX, hfX, hkX, -, -, X₁, st1⟩ := Y.newCold hexec (own := own) (C := cls) (index := ik) (n := 6) hown' hk' hins hini'
    (g := F0 m pc ls rest) rfl (by rw [hb]; exact d0) (Nat.le_refl _) (Nat.le_refl _)
  generalize hT1 : (T.setVm vm₁).pushCell { cls := cX, slots := kX.instanceTypes.map defaultValue, vm := .none } = T1 at X₁ st1
  have hcat : (Value.ref T.heap.size).category = 1 := rfl
  have hcellA : T1.heap[T.heap.size]? = some (freshCell cX kX) := by rw [← hT1]; exact State.heap_pushCell_size _ _
  have d3' : decode c.code (pc + 3) = .ok (.dup, 1) := by rw [hb]; exact d3
  obtain ⟨U, hsteps, hrun, hend, hW, hsame, ce, hce, hO⟩ := X₁.ctorThrow0 hexec htr (own := own) (cls := cls) (names := names) (ic := ic) hown' hcls hnames h (fun x hx => nomatch hx) hfX hkX hcellA (by rw [hhp, hT]; exact Nat.le_refl _)
    (g := { method := m, pc := pc + 4, locals := ls, stack := .ref T.heap.size :: .ref T.heap.size :: rest, locked := none }) rfl hsize rfl rfl (rest := rest) rfl
    (by rw [hb]; exact d4) (by rw [hb]; exact d7) hout hRframes (by simp only [List.map_cons, List.sum_cons, hcat]; omega) hlocks
  obtain ⟨f1, f2⟩ := vx_frame hsame
  rw [hhp] at f1 f2
  have hWs : s.WarmedH U.vm := State.WarmedH.trans hW0 hW
  have hcl : s.vm.findClass cls = some ce.cls := by
    have h9 := hO.cls
    rw [hvm] at h9
    exact h9
  have hall : s.sameButNew ({ U with vm := s.vm } : State) locs mc ms := by
    subst hA
    obtain ⟨e1, e2⟩ := hsame
    rw [State.setFrames_setFrames] at e1
    have h2 : (T.setVm s.vm).sameButNew ({ U with vm := s.vm } : State) [] (0 + 1) (0 + 6) := ⟨e1, e2⟩
    have h3 := X.same.trans h2
    rw [List.append_nil] at h3
    exact h3.mono hc hs
  refine ⟨U, ?_, .threw T.heap.size, hrun, hend, Or.inr ⟨T.heap.size, rfl, cls, ce, locs, hx U hWs.alike f1 (fun q hq => f2 q hq (fun z hz => nomatch hz)), hce, hO.vm, hcl, hWs, hall, hf⟩⟩
  refine st1 _ ?_
  show Steps p.tables e below (T1.setTop { method := m, pc := pc + 3, locals := ls, stack := .ref T.heap.size :: rest, locked := none }) _
  jvm_step X₁.here [X₁.here.top, hexec, d3', Value.category]
  exact hsteps
/-- 'throw new E("text")': new; dup; ldc; invokespecial; athrow -/
theorem vx_throwS {cc : ByteArray} {pc : Nat} (hexec : p.tables.exec = Jvm.exec) (hb : c.code = cc) (hl : l.stackTraces = false) {own cls text : String} {names : List String} {ik is ic mc ms sa : Nat} {A : Nat → Prop}
    (hown : s.vm.findClass own = some m.cls) (hcls : Bundle.fit cls = true) (hnames : ∀ n ∈ names, Bundle.fit n = true)
    (hk : (Cond.classLink own ik cls).before args s = true) (hini : (Cond.initialized cls).before args s = true) (hstr : vk_R own is text sa s) (hat : ∀ w ∈ vx_atS own ic cls names, w.before args s = true)
    (hgood : ∀ w ∈ Cond.classLink own ik cls :: Cond.initialized cls :: vx_atS own ic cls names, vx_ot w = true)
    (hU : vx_Zq Bundle.tN "UNASSIGNED_STACK" Bundle.steD A s s.heap) (hN : vx_Zq Bundle.tN "SUPPRESSED_SENTINEL" Bundle.listD A s s.heap) (hS : va_S A s.heap H locs) (hsize : ls.size = c.maxLocals)
    (d0 : decode cc pc = .ok (.new ik, 3)) (d3 : decode cc (pc + 3) = .ok (.dup, 1)) (d4 : decode cc (pc + 4) = .ok (.ldc is, 2)) (d6 : decode cc (pc + 6) = .ok (.invokespecial ic, 3)) (d9 : decode cc (pc + 9) = .ok (.athrow, 1))
    (hout : ∀ x ∈ c.exceptionTable.toList, covers x (pc + 9) = false)
    (hRframes : names.length + 3 < R.frames) (hRlocals : (rest.map fun v => v.category).sum + (13 * (names.length + 1) + 43) ≤ R.locals) (hRcells : cells + 1 ≤ R.cells) (hRslots : slots + 6 ≤ R.slots) (hlocks : meth.locks = false)
    (hx : ∀ t : State, s.vm.Alike t.vm → H.size ≤ t.heap.size → (∀ q : Nat, q < H.size → t.heap[q]? = H[q]?) → XC cls s t)
    (hf : ∀ z ∈ locs, free z.base) (hc : cells + 1 ≤ mc) (hs : slots + 6 ≤ ms) :
    W p l e R s m args below meth c H locs cells slots (vx_MQ below Qc XC args s mc ms free) (F0 m pc ls rest) := by
  intro T hT X
  have htr : e.platform.stackTraces = false := (show e.platform.stackTraces = l.stackTraces by rw [X.admits.platform]).trans hl
  have Y := vx_rebase X (R' := { frames := R.frames, locals := R.locals, cells := 1, slots := 6 }) (Nat.le_refl _) (Nat.le_refl _) hRcells hRslots
  obtain ⟨s', hA⟩ : ∃ z, z = (T.setVm s.vm).setFrames (.invoking m args :: below) := ⟨_, rfl⟩
  rw [← hA] at Y
  have hvm : s'.vm = s.vm := by rw [hA]; rfl
  have hhp : s'.heap = H := by rw [hA]; exact hT
  have hW0 : s.WarmedH s'.vm := by rw [hvm]; exact State.WarmedH.refl s
  have hat' : ∀ w ∈ vx_atS own ic cls names, w.before args s' = true := fun w hw => vx_ot_at hW0 hvm.symm (hgood w (List.mem_cons_of_mem _ (List.mem_cons_of_mem _ hw))) (hat w hw)
  have hk' : (Cond.classLink own ik cls).before args s' = true := vx_ot_at hW0 hvm.symm (hgood _ List.mem_cons_self) hk
  have hini' : (Cond.initialized cls).before args s' = true := vx_ot_at hW0 hvm.symm (hgood _ (List.mem_cons_of_mem _ List.mem_cons_self)) hini
  have hU' : vx_Zq Bundle.tN "UNASSIGNED_STACK" Bundle.steD A s' s'.heap := by rw [hhp]; exact vx_Zq.moved hW0.alike (hU.kept hS.2.1)
  have hN' : vx_Zq Bundle.tN "SUPPRESSED_SENTINEL" Bundle.listD A s' s'.heap := by rw [hhp]; exact vx_Zq.moved hW0.alike (hN.kept hS.2.1)
  have h : ∀ w ∈ Bundle.ownAtoms own ic cls names, w.before args s' = true := vx_own hat' (vx_isRefq hU'.1) (vx_isRefq hN'.1) hU'.2.word hN'.2.word
  have hown' : s'.vm.findClass own = some m.cls := by rw [hvm]; exact hown
  have hins : (Cond.instantiable cls 6).before args s' = true := h _ (by simp [Bundle.ownAtoms])
  obtain ⟨vm₁, cX, kX, hfX, hkX, -, -, X₁, st1⟩ := Y.newCold hexec (own := own) (C := cls) (index := ik) (n := 6) hown' hk' hins hini'
    (g := F0 m pc ls rest) rfl (by rw [hb]; exact d0) (Nat.le_refl _) (Nat.le_refl _)
  generalize hT1 : (T.setVm vm₁).pushCell { cls := cX, slots := kX.instanceTypes.map defaultValue, vm := .none } = T1 at X₁ st1
  have hcat : (Value.ref T.heap.size).category = 1 := rfl
  have hcellA : T1.heap[T.heap.size]? = some (freshCell cX kX) := by rw [← hT1]; exact State.heap_pushCell_size _ _
  have d3' : decode c.code (pc + 3) = .ok (.dup, 1) := by rw [hb]; exact d3
  have d4' : decode c.code (pc + 4) = .ok (.ldc is, 2) := by rw [hb]; exact d4
  have hstr' : vk_R own is text sa s' := vk_R.warm hW0 hstr
  obtain ⟨U, hsteps, hrun, hend, hW, hsame, ce, hce, hO⟩ := X₁.ctorThrowS hexec htr (own := own) (cls := cls) (names := names) (ic := ic) hown' hcls hnames h (fun x hx => nomatch hx) hfX hkX hcellA (by rw [hhp, hT]; exact Nat.le_refl _) (msg := .ref sa) rfl
    (g := { method := m, pc := pc + 6, locals := ls, stack := .ref sa :: .ref T.heap.size :: .ref T.heap.size :: rest, locked := none }) rfl hsize rfl rfl (rest := rest) rfl
    (by rw [hb]; exact d6) (by rw [hb]; exact d9) hout hRframes (by simp only [List.map_cons, List.sum_cons, hcat]; omega) hlocks
  obtain ⟨f1, f2⟩ := vx_frame hsame
  rw [hhp] at f1 f2
  have hWs : s.WarmedH U.vm := State.WarmedH.trans hW0 hW
  have hcl : s.vm.findClass cls = some ce.cls := by
    have h9 := hO.cls
    rw [hvm] at h9
    exact h9
  have hall : s.sameButNew ({ U with vm := s.vm } : State) locs mc ms := by
    subst hA
    obtain ⟨e1, e2⟩ := hsame
    rw [State.setFrames_setFrames] at e1
    have h2 : (T.setVm s.vm).sameButNew ({ U with vm := s.vm } : State) [] (0 + 1) (0 + 6) := ⟨e1, e2⟩
    have h3 := X.same.trans h2
    rw [List.append_nil] at h3
    exact h3.mono hc hs
  refine ⟨U, ?_, .threw T.heap.size, hrun, hend, Or.inr ⟨T.heap.size, rfl, cls, ce, locs, hx U hWs.alike f1 (fun q hq => f2 q hq (fun z hz => nomatch hz)), hce, hO.vm, hcl, hWs, hall, hf⟩⟩
  refine st1 _ ?_
  show Steps p.tables e below (T1.setTop { method := m, pc := pc + 3, locals := ls, stack := .ref T.heap.size :: rest, locked := none }) _
  jvm_step X₁.here [X₁.here.top, hexec, d3', Value.category]
  exact X₁.ldcString hexec (own := own) (text := text) (index := is) (a := sa) hown' hstr'.1 hstr'.2
    (g := { method := m, pc := pc + 4, locals := ls, stack := .ref T.heap.size :: .ref T.heap.size :: rest, locked := none }) rfl d4' _ hsteps
/-- 'throw new E("text")', the text by a wide index -/
theorem vx_throwSW {cc : ByteArray} {pc : Nat} (hexec : p.tables.exec = Jvm.exec) (hb : c.code = cc) (hl : l.stackTraces = false) {own cls text : String} {names : List String} {ik is ic mc ms sa : Nat} {A : Nat → Prop}
    (hown : s.vm.findClass own = some m.cls) (hcls : Bundle.fit cls = true) (hnames : ∀ n ∈ names, Bundle.fit n = true)
    (hk : (Cond.classLink own ik cls).before args s = true) (hini : (Cond.initialized cls).before args s = true) (hstr : vk_R own is text sa s) (hat : ∀ w ∈ vx_atS own ic cls names, w.before args s = true)
    (hgood : ∀ w ∈ Cond.classLink own ik cls :: Cond.initialized cls :: vx_atS own ic cls names, vx_ot w = true)
    (hU : vx_Zq Bundle.tN "UNASSIGNED_STACK" Bundle.steD A s s.heap) (hN : vx_Zq Bundle.tN "SUPPRESSED_SENTINEL" Bundle.listD A s s.heap) (hS : va_S A s.heap H locs) (hsize : ls.size = c.maxLocals)
    (d0 : decode cc pc = .ok (.new ik, 3)) (d3 : decode cc (pc + 3) = .ok (.dup, 1)) (d4 : decode cc (pc + 4) = .ok (.ldc_w is, 3)) (d7 : decode cc (pc + 7) = .ok (.invokespecial ic, 3)) (d10 : decode cc (pc + 10) = .ok (.athrow, 1))
    (hout : ∀ x ∈ c.exceptionTable.toList, covers x (pc + 10) = false)
    (hRframes : names.length + 3 < R.frames) (hRlocals : (rest.map fun v => v.category).sum + (13 * (names.length + 1) + 43) ≤ R.locals) (hRcells : cells + 1 ≤ R.cells) (hRslots : slots + 6 ≤ R.slots) (hlocks : meth.locks = false)
    (hx : ∀ t : State, s.vm.Alike t.vm → H.size ≤ t.heap.size → (∀ q : Nat, q < H.size → t.heap[q]? = H[q]?) → XC cls s t)
    (hf : ∀ z ∈ locs, free z.base) (hc : cells + 1 ≤ mc) (hs : slots + 6 ≤ ms) :
    W p l e R s m args below meth c H locs cells slots (vx_MQ below Qc XC args s mc ms free) (F0 m pc ls rest) := by
  intro T hT X
  have htr : e.platform.stackTraces = false := (show e.platform.stackTraces = l.stackTraces by rw [X.admits.platform]).trans hl
  have Y := vx_rebase X (R' := { frames := R.frames, locals := R.locals, cells := 1, slots := 6 }) (Nat.le_refl _) (Nat.le_refl _) hRcells hRslots
  obtain ⟨s', hA⟩ : ∃ z, z = (T.setVm s.vm).setFrames (.invoking m args :: below) := ⟨_, rfl⟩
  rw [← hA] at Y
  have hvm : s'.vm = s.vm := by rw [hA]; rfl
  have hhp : s'.heap = H := by rw [hA]; exact hT
  have hW0 : s.WarmedH s'.vm := by rw [hvm]; exact State.WarmedH.refl s
  have hat' : ∀ w ∈ vx_atS own ic cls names, w.before args s' = true := fun w hw => vx_ot_at hW0 hvm.symm (hgood w (List.mem_cons_of_mem _ (List.mem_cons_of_mem _ hw))) (hat w hw)
  have hk' : (Cond.classLink own ik cls).before args s' = true := vx_ot_at hW0 hvm.symm (hgood _ List.mem_cons_self) hk
  have hini' : (Cond.initialized cls).before args s' = true := vx_ot_at hW0 hvm.symm (hgood _ (List.mem_cons_of_mem _ List.mem_cons_self)) hini
  have hU' : vx_Zq Bundle.tN "UNASSIGNED_STACK" Bundle.steD A s' s'.heap := by rw [hhp]; exact vx_Zq.moved hW0.alike (hU.kept hS.2.1)
  have hN' : vx_Zq Bundle.tN "SUPPRESSED_SENTINEL" Bundle.listD A s' s'.heap := by rw [hhp]; exact vx_Zq.moved hW0.alike (hN.kept hS.2.1)
  have h : ∀ w ∈ Bundle.ownAtoms own ic cls names, w.before args s' = true := vx_own hat' (vx_isRefq hU'.1) (vx_isRefq hN'.1) hU'.2.word hN'.2.word
  have hown' : s'.vm.findClass own = some m.cls := by rw [hvm]; exact hown
  have hins : (Cond.instantiable cls 6).before args s' = true := h _ (by simp [Bundle.ownAtoms])
  obtain ⟨vm₁, cX, kX, hfX, hkX, -, -, X₁, st1⟩ := Y.newCold hexec (own := own) (C := cls) (index := ik) (n := 6) hown' hk' hins hini'
    (g := F0 m pc ls rest) rfl (by rw [hb]; exact d0) (Nat.le_refl _) (Nat.le_refl _)
  generalize hT1 : (T.setVm vm₁).pushCell { cls := cX, slots := kX.instanceTypes.map defaultValue, vm := .none } = T1 at X₁ st1
  have hcat : (Value.ref T.heap.size).category = 1 := rfl
  have hcellA : T1.heap[T.heap.size]? = some (freshCell cX kX) := by rw [← hT1]; exact State.heap_pushCell_size _ _
  have d3' : decode c.code (pc + 3) = .ok (.dup, 1) := by rw [hb]; exact d3
  have d4' : decode c.code (pc + 4) = .ok (.ldc_w is, 3) := by rw [hb]; exact d4
  have hstr' : vk_R own is text sa s' := vk_R.warm hW0 hstr
  obtain ⟨U, hsteps, hrun, hend, hW, hsame, ce, hce, hO⟩ := X₁.ctorThrowS hexec htr (own := own) (cls := cls) (names := names) (ic := ic) hown' hcls hnames h (fun x hx => nomatch hx) hfX hkX hcellA (by rw [hhp, hT]; exact Nat.le_refl _) (msg := .ref sa) rfl
    (g := { method := m, pc := pc + 7, locals := ls, stack := .ref sa :: .ref T.heap.size :: .ref T.heap.size :: rest, locked := none }) rfl hsize rfl rfl (rest := rest) rfl
    (by rw [hb]; exact d7) (by rw [hb]; exact d10) hout hRframes (by simp only [List.map_cons, List.sum_cons, hcat]; omega) hlocks
  obtain ⟨f1, f2⟩ := vx_frame hsame
  rw [hhp] at f1 f2
  have hWs : s.WarmedH U.vm := State.WarmedH.trans hW0 hW
  have hcl : s.vm.findClass cls = some ce.cls := by
    have h9 := hO.cls
    rw [hvm] at h9
    exact h9
  have hall : s.sameButNew ({ U with vm := s.vm } : State) locs mc ms := by
    subst hA
    obtain ⟨e1, e2⟩ := hsame
    rw [State.setFrames_setFrames] at e1
    have h2 : (T.setVm s.vm).sameButNew ({ U with vm := s.vm } : State) [] (0 + 1) (0 + 6) := ⟨e1, e2⟩
    have h3 := X.same.trans h2
    rw [List.append_nil] at h3
    exact h3.mono hc hs
  refine ⟨U, ?_, .threw T.heap.size, hrun, hend, Or.inr ⟨T.heap.size, rfl, cls, ce, locs, hx U hWs.alike f1 (fun q hq => f2 q hq (fun z hz => nomatch hz)), hce, hO.vm, hcl, hWs, hall, hf⟩⟩
  refine st1 _ ?_
  show Steps p.tables e below (T1.setTop { method := m, pc := pc + 3, locals := ls, stack := .ref T.heap.size :: rest, locked := none }) _
  jvm_step X₁.here [X₁.here.top, hexec, d3', Value.category]
  exact X₁.ldcStringW hexec (own := own) (text := text) (index := is) (a := sa) hown' hstr'.1 hstr'.2
    (g := { method := m, pc := pc + 4, locals := ls, stack := .ref T.heap.size :: .ref T.heap.size :: rest, locked := none }) rfl d4' _ hsteps
end Ends
section Bodies
variable {l : Launch}
theorem vx_ofW {y : MethodName} {ws ws' : List Cond} {rm : Room} {Pc : Array Value → State → Prop} {Qc : Array Value → State → Outcome → State → Prop} {XC : String → State → State → Prop} {mc ms : Nat} {free : Addr → Prop} {cc : ByteArray} {maxL : Nat} {ret : Option FieldType}
    (hy : plainName y.cls = true) (hw : ws = Cond.code y cc maxL ret :: ws')
    (body : ∀ p e s m args below meth c s₁, BodyLoose p l y (headSpec ws rm) cc maxL ret e s m args below meth c s₁ → c.maxLocals = maxL → (∀ x ∈ c.exceptionTable.toList, False) → Pc args s →
      W p l e (headSpec ws rm).room s m args below meth c s.heap [] 0 0 (vx_MQ below Qc XC args s mc ms free) (entryFrame m args maxL)) : vx_Met l y ws rm Pc Qc XC mc ms free := by
  refine MetFree.of_bodyS (code := cc) (maxLocals := maxL) (ret := ret) hy ?_ ?_
  · intro args s m h hn
    obtain ⟨meth, c, h1, h2, h3, h4, h5, h6, -, -⟩ := Cond.code_spec hn (atoms_spec (ws := ws) h _ (by rw [hw]; exact List.mem_cons_self))
    exact ⟨meth, c, h1, h2, h3, h4, h5, h6⟩
  · intro p e s m args below meth c s₁ B hml hP _
    have hh0 : s₁.heap = s.heap := by rw [B.state]; rfl
    have ht : ∀ x ∈ c.exceptionTable.toList, False := by
      obtain ⟨meth9, c9, h1, h2, -, -, -, -, h7, -⟩ := Cond.code_spec B.named (atoms_spec (ws := ws) B.pre _ (by rw [hw]; exact List.mem_cons_self))
      cases Option.some.inj (h1.symm.trans B.method)
      cases Option.some.inj (h2.symm.trans (Stand.of_body B).code)
      intro x hx
      rw [Array.isEmpty_iff.mp h7] at hx
      cases hx
    obtain ⟨t, a1, o, b1, b2, b3⟩ := body p e s m args below meth c s₁ B hml ht hP s₁ hh0 (Stand.of_body B)
    exact ⟨t, o, a1, b1, b2, b3⟩
/-- the table of a body with handlers -/
theorem vx_table {p : Program} {x y : MethodName} {S : Spec} {cc bytes : ByteArray} {maxL maxL' : Nat} {ret ret' : Option FieldType} {e : Env} {s s₁ : State} {m : MethodId} {args : Array Value} {below : List Frame} {meth : Method} {c : Code} {hh : List (Nat × Nat × Nat × Nat)}
    (B : BodyLoose p l y S cc maxL ret e s m args below meth c s₁) (h : (Cond.codeWith y bytes maxL' ret' hh).before args s = true) : c.exceptionTable.toList = tableOf hh := by
  obtain ⟨m9, meth9, c9, hn9, h1, h2, -, -, h6, -⟩ := Cond.codeWith_spec h
  cases Option.some.inj (hn9.symm.trans B.named)
  cases Option.some.inj (h1.symm.trans B.method)
  cases Option.some.inj (h2.symm.trans (Stand.of_body B).code)
  rw [← h6, table_eq]
end Bodies
end VXA
/-! ===== END ===== -/
/-! ===== BEGIN a static call of a method with an exception table ===== -/
section VXS
variable {p : Program} {l : Launch} {e : Env} {R : Room} {s : State} {m : MethodId} {args : Array Value} {below : List Frame} {meth : Method} {c : Code} {T : State} {H : Heap} {locs : List Loc} {cells slots : Nat}
abbrev vx_CSW (R : Room) (s : State) (args : Array Value) (own : String) (index : Nat) (y : MethodName) (bytes : ByteArray) (maxL : Nat) (ret : Option FieldType) (hh : List (Nat × Nat × Nat × Nat)) (ws : List Cond) (rm : Room) (mc ms n : Nat) : Prop :=
  (rm.cells = mc ∧ rm.slots = ms ∧ rm.frames + 1 ≤ R.frames ∧ 8 + (maxL + 11) + rm.locals ≤ R.locals ∧ (∀ w ∈ ws, ∀ (a' : Array Value) (U : State), s.WarmedH U.vm → w.before a' U = true) ∧ Cond.codeWith y bytes maxL ret hh ∈ ws) ∧
  (Cond.codeWith y bytes maxL ret hh).before args s = true ∧ (Cond.initialized y.cls).before args s = true ∧ (y.cls ≠ "java/lang/invoke/MethodHandle" ∧ y.cls ≠ "java/lang/invoke/VarHandle") ∧
  (∀ sig, parseMethodDescriptor y.desc = some sig → n = sig.parameters.length) ∧ (Cond.methodLink own index y).before args s = true ∧ (Cond.static y).before args s = true
theorem vx_cwSW {own : String} {index maxL mc ms : Nat} {y : MethodName} {bytes : ByteArray} {ret : Option FieldType} {hh : List (Nat × Nat × Nat × Nat)} {Ts ws ws' : List Cond} {rm : Room} (n : Nat) (ht : ∀ w ∈ Ts, w.before args s = true) (hT : GoodIn Ts (va_wsS own index y ws)) (hw : ws = Cond.codeWith y bytes maxL ret hh :: ws') (hrc : rm.cells = mc) (hrs : rm.slots = ms)
    (hd : y.cls ≠ "java/lang/invoke/MethodHandle" ∧ y.cls ≠ "java/lang/invoke/VarHandle" ∧ (parseMethodDescriptor y.desc).map (fun d => d.parameters.length) = some n) (hR : rm.frames + 1 ≤ R.frames ∧ 8 + (maxL + 11) + rm.locals ≤ R.locals) :
    vx_CSW R s args own index y bytes maxL ret hh ws rm mc ms n := by
  have ok : ∀ w ∈ va_wsS own index y ws, w.before args s = true := fun w h => ht w (hT w h).1
  have hG : GoodIn Ts ws := fun w h => hT w (by unfold va_wsS; exact List.mem_append_right _ h)
  have hc : Cond.codeWith y bytes maxL ret hh ∈ ws := by rw [hw]; exact List.mem_cons_self
  refine ⟨⟨hrc, hrs, hR.1, hR.2, pay_in ht hG, hc⟩, ht _ (hG _ hc).1, ok _ (by simp [va_wsS]), ⟨hd.1, hd.2.1⟩, fun sig h => ?_, ok _ (by simp [va_wsS]), ok _ (by simp [va_wsS])⟩
  have h2 := hd.2.2
  rw [h] at h2
  exact (Option.some.inj h2).symm
theorem vx_callSW (X : Stand p l e R s m args below meth c T locs cells slots) (hexec : p.tables.exec = Jvm.exec) {own : String} {index : Nat} {y : MethodName} {bytes : ByteArray} {maxL : Nat} {ret : Option FieldType} {hh : List (Nat × Nat × Nat × Nat)}
    (hown : s.vm.findClass own = some m.cls) (hlink : (Cond.methodLink own index y).before args s = true) (hstat : (Cond.static y).before args s = true) (hinit : (Cond.initialized y.cls).before args s = true)
    (hcode : (Cond.codeWith y bytes maxL ret hh).before args s = true) (hy : y.cls ≠ "java/lang/invoke/MethodHandle" ∧ y.cls ≠ "java/lang/invoke/VarHandle")
    {W9 : Nat} {Pre : Pt → Array Value → Prop} {Post : Pt → Array Value → Option Value → Pt → Prop} (hK : Back l R p e below s args y 3 W9 Pre Post)
    {g : JFrame} (hg : g.method = m) (hsize : g.locals.size = c.maxLocals) {argsL rest : List Value} (hlen : ∀ sig, parseMethodDescriptor y.desc = some sig → argsL.length = sig.parameters.length)
    (hstack : g.stack = argsL.reverse ++ rest) (hW : 2 * g.monitorRoom + (rest.map fun v => v.category).sum ≤ W9) (hdg : decode c.code g.pc = .ok (.invokestatic index, 3))
    (hpre : ∀ vm₁, s.WarmedH vm₁ → Pre ⟨T.setVm vm₁, locs, cells, slots⟩ argsL.toArray) :
    ∃ (v : Option Value) (vm₁ : Vm) (B : Pt), s.WarmedH vm₁ ∧ Stand p l e R s m args below meth c B.U B.locs B.cells B.slots ∧ Post ⟨T.setVm vm₁, locs, cells, slots⟩ argsL.toArray v B ∧
      ∀ target, Steps p.tables e below (B.U.setTop { g with pc := g.pc + 3, stack := v.toList ++ rest }) target → Steps p.tables e below (T.setTop g) target := by
  obtain ⟨mk, methM, cM, hnamed, hmethM, -, -, -, -, -, -, hsigM⟩ := Cond.codeWith_spec hcode
  have hstatic : methM.isStatic = true := Cond.static_spec hnamed hmethM hstat
  obtain ⟨kP, hkP, -⟩ := className_of_methodNamed hnamed
  have hinitP : kP.init = .initialized := Cond.initialized_spec (findClass_of_methodNamed hnamed) hkP hinit
  obtain ⟨vm₁, X₁, hstep₁⟩ := X.invokestatic hexec hown hlink hnamed hmethM hstatic hkP hinitP hy (g := g) hg (argsL := argsL) (rest := rest) (hlen _ hsigM) hstack hdg
  obtain ⟨v, B, X', hpost, hsteps⟩ := hK m meth c ⟨T.setVm vm₁, locs, cells, slots⟩ { g with stack := rest } (.invokestatic index) mk argsL.toArray X₁ hg hsize hdg hW (X₁.named hnamed) (hpre vm₁ X₁.warmed)
  exact ⟨v, vm₁, B, X₁.warmed, X', hpost, fun target h => hstep₁ _ fun acts => by rw [doInvoke_state]; exact hsteps.trans h⟩
theorem vx_runSW {y : MethodName} {bytes cc : ByteArray} {maxL nL mc ms n index : Nat} {ret : Option FieldType} {hh : List (Nat × Nat × Nat × Nat)} {ws : List Cond} {rm : Room} {Pc : Array Value → State → Prop} {Qc : Array Value → State → Outcome → State → Prop} {free : Addr → Prop} {Ts : List Cond} {own : String} {As rest : List Value} {g : JFrame}
    (S : CallFix p m c cc nL s args Ts own) (hM : Met l y ws rm Pc Qc mc ms free) (cw : vx_CSW R s args own index y bytes maxL ret hh ws rm mc ms n) (hp : PreS s H Pc As)
    (hg : g.method = m) (hn : As.length = n) (hsize : g.locals.size = nL) (hstack : g.stack = As.reverse ++ rest) (hW : 2 * g.monitorRoom + (rest.map fun v => v.category).sum ≤ 8) (hdg : decode cc g.pc = .ok (.invokestatic index, 3)) (hf : cells + mc ≤ R.cells ∧ slots + ms ≤ R.slots) :
    va_Run p l e R s m args below meth c H locs cells slots mc ms g rest (Qc As.toArray) (free) := by
  obtain ⟨⟨hrc, hrs, hfr, hlo, hws, hcw⟩, hcode, hini, hy, hlen, hl, hstt⟩ := cw
  have hK : Back l R p e below s args y 3 8 (PreOf R mc ms Pc) (PostOf Qc mc ms free) := va_backW (hh := hh) (bytes := bytes) (maxL := maxL) (ret := ret) hM hp.1 hrc hrs hfr hlo hws hcw (fun a' U hW => word_at hW (Or.inl (by first | rfl | simp [Cond.onTables, Cond.keeps, Cond.steady])) hini)
  obtain ⟨hx, hb, hml, ho, -⟩ := S
  intro T hT X
  obtain ⟨v, vm₁, ⟨U', l2, c2, s2⟩, hW₁, X', ⟨g', mk, t, L, e1, e2, hq, h1, hL, h2, h3⟩, st⟩ := vx_callSW X hx (hh := hh) (bytes := bytes) (maxL := maxL) (ret := ret) ho hl hstt hini hcode hy hK hg (hsize.trans hml.symm) (argsL := As) (rest := rest) (fun sig h => hn.trans (hlen sig h)) hstack hW (by rw [hb]; exact hdg)
    (fun vm₁ hW₁ => ⟨hf.1, hf.2, hp.2 (T.setVm vm₁) hT hW₁⟩)
  dsimp only [Pt.U, Pt.locs, Pt.cells, Pt.slots] at X' e1 e2 h1 h2 h3 st
  subst h1; subst h2; subst h3
  exact ⟨v, (T.setVm vm₁).calling g' mk As.toArray, t, U', L, hT, X', hL, e1, e2, hq, st⟩
/-- not caught here, past rows that name other classes: it goes on to the caller -/
theorem vx_outP {p : Program} {l : Launch} {e : Env} {R : Room} {s : State} {m : MethodId} {args : Array Value} {below : List Frame} {meth : Method} {c : Code} {H : Heap} {locs : List Loc} {cells slots : Nat} {free : Addr → Prop} {ls : Array Slot} {rest : List Value} {Qc : Array Value → State → Outcome → State → Prop} {XC : String → State → State → Prop}
    {pc : Nat} {own E : String} {ce : Cell} {q : Addr} {mc ms : Nat} (hown : s.vm.findClass own = some m.cls) (hlocks : meth.locks = false)
    (hpass : ∀ z ∈ c.exceptionTable.toList, covers z pc = false ∨ (z.catchType ≠ 0 ∧ ∃ nm : String, (Cond.classLink own z.catchType nm).before args s = true ∧ va_Nc E nm s)) (hcell : H[q]? = some ce) (hv : ce.vm = .none) (hcl : s.vm.findClass E = some ce.cls)
    (hx : ∀ t : State, t.heap = H → s.vm.Alike t.vm → XC E s t) (hf : ∀ z ∈ locs, free z.base) (hc : cells ≤ mc) (hs : slots ≤ ms) :
    vx_W p l e R s m args below meth c H locs cells slots (vx_MQ below Qc XC args s mc ms free) (F0 m pc ls rest) q := by
  intro T hT X
  have hpl : e.platform.magicAccessors = ({} : Platform).magicAccessors := by rw [X.admits.platform]
  obtain ⟨vm', hW', X', st⟩ := X.outThrough hlocks q (g := F0 m pc ls rest) rfl rfl rfl (cell := ce) (by rw [hT]; exact hcell) (by rw [hv]; rfl)
    (by obtain ⟨k9, h9, -⟩ := Vm.findClass_spec hcl; exact ⟨k9, h9⟩) (fun z hz => by
      rcases hpass z hz with h | ⟨hz0, nm, hl1, hn1⟩
      · exact Or.inl h
      · obtain ⟨c6, hc6, hcl6⟩ := Cond.classLink_spec hown hl1 e.platform hpl
        obtain ⟨a8, b8, h1, h2, h3⟩ := hn1
        cases Option.some.inj (h1.symm.trans hcl)
        cases Option.some.inj (h2.symm.trans hc6)
        exact Or.inr ⟨hz0, _, hcl6, h3⟩)
  obtain ⟨g₀, hfr⟩ := X'.frames_eq
  have hcell9 : ((T.setVm vm').setFrames (.throwing q :: below)).heap[q]? = some ce := by
    show T.heap[q]? = some ce
    rw [hT]; exact hcell
  have hend : Ended ((T.setVm vm').setFrames (.throwing q :: below)) below (.threw q) := State.frames_setFrames _ (State.cur_lt_of_frames hfr)
  refine ⟨(T.setVm vm').setFrames (.throwing q :: below), ?_, .threw q, X'.here.running, hend, Or.inr ⟨q, rfl, E, ce, locs, hx _ hT (X'.ends _).1.alike, hcell9, hv, hcl, (X'.ends _).1, (X'.ends _).2.mono hc hs, hf⟩⟩
  rw [X.pushThrowing_eq]
  exact st
/-- a thing of a world lies in the heap -/
theorem vx_lt {D : va_G} {cl : List vw_C} {ws : va_W} {H1 : Heap} (h : va_P D cl ws H1) {k : Nat} {q : Nat × va_E} (hk : ws[k]? = some q) : q.1 < H1.size := (h k q hk).lt
end VXS
/-! ===== END ===== -/
/-! ===== BEGIN methods with a table of their own: called by a name, returning or throwing ===== -/
section VXH
/-! vx_backW, vx_callVX, vx_callSX, vx_callVW, vx_runVW, vx_runVX, vx_runSX, vx_ofWH follow the same proofs as their sisters above (Free/Laws.lean, Shelf42/LK1.lean); vx_outP calls Shelf42/NT130.lean (outThrough). -/
section
variable {l : Launch} {R : Room} {p : Program} {e : Env} {below : List Frame} {s : State} {sargs : Array Value} {y : MethodName} {len W9 : Nat}
theorem vx_backW {ws : List Cond} {rm : Room} {Pc : Array Value → State → Prop} {Qc : Array Value → State → Outcome → State → Prop} {XC : String → State → State → Prop} {mc ms : Nat} {free : Addr → Prop} {bytes : ByteArray} {maxL : Nat} {ret : Option FieldType} {hh : List (Nat × Nat × Nat × Nat)}
    (hM : vx_Met l y ws rm Pc Qc XC mc ms free) (hblind : FrameBlind Pc) (hrc : rm.cells = mc) (hrs : rm.slots = ms)
    (hframes : rm.frames + 1 ≤ R.frames) (hlocals : W9 + (maxL + 11) + rm.locals ≤ R.locals)
    (hws : ∀ w ∈ ws, ∀ a' U, s.WarmedH U.vm → w.before a' U = true) (hcode : Cond.codeWith y bytes maxL ret hh ∈ ws) (hinit : ∀ a' U, s.WarmedH U.vm → (Cond.initialized y.cls).before a' U = true) :
    vx_Back l R p e below s sargs y len W9 (PreOf R mc ms Pc) (PostOf Qc mc ms free) (vx_Post XC mc ms free) := by
  intro m meth c A g ig mk a X hg hsize hdg hW hn hp
  have h1 : (headSpec ws rm).pre.before a A.U = true := atoms_intro fun w hw => hws w hw _ _ X.warmed
  have h2 : (Cond.codeWith y bytes maxL ret hh).before a A.U = true := hws _ hcode _ _ X.warmed
  have h3 : (Cond.initialized y.cls).before a A.U = true := hinit _ _ X.warmed
  have h4 : A.cells + (headSpec ws rm).room.cells ≤ R.cells := by rw [show (headSpec ws rm).room.cells = mc from hrc]; exact hp.1
  have h5 : A.slots + (headSpec ws rm).room.slots ≤ R.slots := by rw [show (headSpec ws rm).room.slots = ms from hrs]; exact hp.2.1
  have hPc : Pc a (A.U.calling g mk a) := hblind _ _ _ _ hp.2.2
  obtain ⟨U, Ls, c0, s0⟩ := A
  dsimp only [Pt.U, Pt.locs, Pt.cells, Pt.slots] at h1 h2 h3 h4 h5 X hn hPc ⊢
  obtain ⟨m9, methY, cY, hn9, hmY, hcY, -, hlY, -⟩ := Cond.codeWith_spec h2
  cases Option.some.inj (hn9.symm.trans hn)
  obtain ⟨kY, hkY, -⟩ := className_of_methodNamed hn
  have hinitY : kY.init = .initialized := Cond.initialized_spec (findClass_of_methodNamed hn) hkY h3
  have h : At U g.method c below := by rw [hg]; exact X.here
  have hlocals9 : W9 + (maxL + 11) + (headSpec ws rm).room.locals ≤ R.locals := hlocals
  have happ : (headSpec ws rm).appliesLoose y e.platform (U.calling g mk a) = true :=
    Spec.appliesLoose_calling (g := g) h hdg hn hkY hinitY
      (X.room_calling (g := g) (R' := (headSpec ws rm).room) hsize hmY hcY hframes (by rw [hlY]; omega) h4 h5) h1
  obtain ⟨mid, hmid⟩ := h.above
  have hfr : (U.setTop g).frames = (.java g :: mid) ++ below := by rw [State.frames_setTop' g h.top, hmid]; rfl
  obtain ⟨o, s₂, hsteps, -, hend, hq⟩ := Steps.callFree hM p X.admits X.cas X.clock (acts := []) hfr happ hPc trivial
  have hq' : vx_Q Qc XC mc ms free a (U.calling g mk a) o s₂ := hq
  rw [State.frames_setTop' g h.top] at hend
  obtain ⟨g₀, hg0⟩ := Option.isSome_iff_exists.mp h.top
  obtain ⟨r, hr⟩ := State.topJava?_eq_some.mp hg0
  have hr' : (({ U with heap := s₂.heap, slotsUsed := s₂.slotsUsed } : State).setVm s₂.vm).frames = .java g₀ :: r := hr
  rcases hq' with ⟨hqc, L, hfe, hL⟩ | ⟨q, rfl, E, ce, L, hx, hce, hcv, hcl, hW₂, hsm, hL⟩
  · obtain ⟨⟨v, rfl⟩, hW₂, e2, q2, q3, q4, q5, q6⟩ := id hfe
    have e3 : s₂ = ({ (U.calling g mk a).setFrames s₂.frames with heap := s₂.heap, slotsUsed := s₂.slotsUsed } : State).setVm s₂.vm := by
      have : s₂ = ({ s₂ with vm := (U.calling g mk a).vm } : State).setVm s₂.vm := rfl
      rw [e2] at this
      exact this
    obtain ⟨c₂, i₂, len₂, hc₂, hd₂, hf₂⟩ := hend
    have hW' : U.WarmedH s₂.vm := hW₂
    have hcc : c₂ = c := by
      have h1 : s₂.code? g.method = U.code? g.method := by
        rw [State.code?_eq, State.code?_eq, hW'.alike.method?]
      exact Option.some.inj (hc₂.symm.trans (h1.trans h.code))
    subst hcc
    have hlen : len₂ = len := by rw [hdg] at hd₂; cases hd₂; rfl
    subst hlen
    have hs₂ : s₂ = (({ U with heap := s₂.heap, slotsUsed := s₂.slotsUsed } : State).setVm s₂.vm).setTop { g with pc := g.pc + len₂, stack := v.toList ++ g.stack } := by
      refine e3.trans ?_
      rw [hf₂, State.calling_eq h.top, State.setFrames_setFrames, State.setTop_of_frames _ hr', hr]
      rfl
    have hsame : U.sameButNew ({ U with heap := s₂.heap, slotsUsed := s₂.slotsUsed } : State) L mc ms := by
      refine ⟨?_, q2, q3, q4, q5, q6⟩
      obtain ⟨t, ht, -⟩ := State.frames_cons hr
      show ({ U with heap := s₂.heap, slotsUsed := s₂.slotsUsed } : State) = { U.setFrames U.frames with heap := s₂.heap, slotsUsed := s₂.slotsUsed }
      rw [State.setFrames_self ht]
    subst hg
    refine Or.inl ⟨v, ⟨(({ U with heap := s₂.heap, slotsUsed := s₂.slotsUsed } : State).setVm s₂.vm), Ls ++ L, c0 + mc, s0 + ms⟩,
      ⟨X.admits, X.cas, X.clock, X.frames, X.room, X.hears, X.method, X.code, (X.here.setHeapUsed s₂.heap s₂.slotsUsed).setVm hW'.alike, X.tail, State.WarmedH.trans X.warmed hW', X.limits, X.bytes, X.same.trans (hsame.setVm s.vm)⟩,
      ⟨g, mk, s₂, L, rfl, rfl, hqc, rfl, hL, rfl, rfl⟩, ?_⟩
    show Steps p.tables e below _ ((({ U with heap := s₂.heap, slotsUsed := s₂.slotsUsed } : State).setVm s₂.vm).setTop { g with pc := g.pc + len₂, stack := v.toList ++ g.stack })
    rw [← hs₂]
    exact hsteps
  · obtain ⟨e2, q2, q3, q4, q5, q6⟩ := id hsm
    have e3 : s₂ = ({ (U.calling g mk a).setFrames s₂.frames with heap := s₂.heap, slotsUsed := s₂.slotsUsed } : State).setVm s₂.vm := by
      have : s₂ = ({ s₂ with vm := (U.calling g mk a).vm } : State).setVm s₂.vm := rfl
      rw [e2] at this
      exact this
    have hf₂ : s₂.frames = .throwing q :: .java g :: U.frames.tail := hend
    have hW' : U.WarmedH s₂.vm := hW₂
    have hs₂ : s₂ = ((({ U with heap := s₂.heap, slotsUsed := s₂.slotsUsed } : State).setVm s₂.vm).setTop g).pushFrame (.throwing q) := by
      refine e3.trans ?_
      rw [hf₂, State.calling_eq h.top, State.setFrames_setFrames, State.pushFrame, State.frames_setTop _ hr', State.setTop_of_frames _ hr', State.setFrames_setFrames, hr]
      rfl
    have hsame : U.sameButNew ({ U with heap := s₂.heap, slotsUsed := s₂.slotsUsed } : State) L mc ms := by
      refine ⟨?_, q2, q3, q4, q5, q6⟩
      obtain ⟨t, ht, -⟩ := State.frames_cons hr
      show ({ U with heap := s₂.heap, slotsUsed := s₂.slotsUsed } : State) = { U.setFrames U.frames with heap := s₂.heap, slotsUsed := s₂.slotsUsed }
      rw [State.setFrames_self ht]
    subst hg
    refine Or.inr ⟨q, ⟨(({ U with heap := s₂.heap, slotsUsed := s₂.slotsUsed } : State).setVm s₂.vm), Ls ++ L, c0 + mc, s0 + ms⟩,
      ⟨X.admits, X.cas, X.clock, X.frames, X.room, X.hears, X.method, X.code, (X.here.setHeapUsed s₂.heap s₂.slotsUsed).setVm hW'.alike, X.tail, State.WarmedH.trans X.warmed hW', X.limits, X.bytes, X.same.trans (hsame.setVm s.vm)⟩,
      ⟨g, mk, s₂, L, E, ce, rfl, rfl, hx, hce, hcv, hcl, rfl, hL, rfl, rfl⟩, ?_⟩
    show Steps p.tables e below _ (((({ U with heap := s₂.heap, slotsUsed := s₂.slotsUsed } : State).setVm s₂.vm).setTop g).pushFrame (.throwing q))
    rw [← hs₂]
    exact hsteps
end
variable {p : Program} {l : Launch} {e : Env} {R : Room} {s : State} {m : MethodId} {args : Array Value} {below : List Frame} {meth : Method} {c : Code} {T : State} {H : Heap} {locs : List Loc} {cells slots : Nat}
theorem vx_callVX (X : Stand p l e R s m args below meth c T locs cells slots) (hexec : p.tables.exec = Jvm.exec) {own C : String} {index : Nat} {y : MethodName} {bytes : ByteArray} {maxL : Nat} {ret : Option FieldType} {hh : List (Nat × Nat × Nat × Nat)}
    (hown : s.vm.findClass own = some m.cls) (hlink : (Cond.methodLink own index y).before args s = true) (hinst : (Cond.instanceMethod y).before args s = true) (hsel : (Cond.selects C y y).before args s = true)
    (hcode : (Cond.codeWith y bytes maxL ret hh).before args s = true) (hy : y.cls ≠ "java/lang/invoke/MethodHandle" ∧ y.cls ≠ "java/lang/invoke/VarHandle")
    {W9 : Nat} {Pre : Pt → Array Value → Prop} {Post : Pt → Array Value → Option Value → Pt → Prop} {PostX : Pt → Array Value → Addr → Pt → Prop} (hK : vx_Back l R p e below s args y 3 W9 Pre Post PostX)
    {b : Addr} {cellB : Cell} (hcell : T.heap[b]? = some cellB) (hobj : cellB.vm.isStatics = false) (hcls : s.vm.findClass C = some cellB.cls)
    {g : JFrame} (hg : g.method = m) (hsize : g.locals.size = c.maxLocals) {argsL rest : List Value} (hlen : ∀ sig, parseMethodDescriptor y.desc = some sig → argsL.length = sig.parameters.length)
    (hstack : g.stack = argsL.reverse ++ .ref b :: rest) (hW : 2 * g.monitorRoom + (rest.map fun v => v.category).sum ≤ W9) (hdg : decode c.code g.pc = .ok (.invokevirtual index, 3))
    (hpre : ∀ vm₁, s.WarmedH vm₁ → Pre ⟨T.setVm vm₁, locs, cells, slots⟩ (Value.ref b :: argsL).toArray) :
    (∃ (v : Option Value) (vm₁ : Vm) (B : Pt), s.WarmedH vm₁ ∧ Stand p l e R s m args below meth c B.U B.locs B.cells B.slots ∧ Post ⟨T.setVm vm₁, locs, cells, slots⟩ (Value.ref b :: argsL).toArray v B ∧
      ∀ target, Steps p.tables e below (B.U.setTop { g with pc := g.pc + 3, stack := v.toList ++ rest }) target → Steps p.tables e below (T.setTop g) target) ∨
    (∃ (q : Addr) (vm₁ : Vm) (B : Pt), s.WarmedH vm₁ ∧ Stand p l e R s m args below meth c B.U B.locs B.cells B.slots ∧ PostX ⟨T.setVm vm₁, locs, cells, slots⟩ (Value.ref b :: argsL).toArray q B ∧
      Steps p.tables e below (T.setTop g) ((B.U.setTop { g with stack := rest }).pushFrame (.throwing q))) := by
  obtain ⟨mk, methM, hnamed, hmethM, hstM, habM⟩ := Cond.instanceMethod_spec hinst
  obtain ⟨m8, methM', cM, hn8, hmethM', -, -, -, -, -, -, hsigM⟩ := Cond.codeWith_spec hcode
  cases Option.some.inj (hn8.symm.trans hnamed)
  cases hmethM.symm.trans hmethM'
  obtain ⟨c2, r2, m2, q1, q2, q3, q4, kP, hkP, hkPi⟩ := Cond.selects_spec hsel
  cases hcls.symm.trans q1
  cases (State.methodFound?_of_named hnamed hy).symm.trans q2
  cases hnamed.symm.trans q3
  have hselP : selectMethod e.platform s.vm cellB.cls mk = .method mk := by rw [Launch.admits_selectMethod X.admits]; exact q4
  obtain ⟨vm₁, X₁, hstep₁⟩ := X.invokevirtual hexec hown hlink hnamed hmethM hstM hkP hkPi hy (a := b) (cell := cellB) hcell
    (fun z h => by rw [h] at hobj; cases hobj) hselP hmethM habM hkP hkPi (g := g) hg (argsL := argsL) (rest := rest) (hlen _ hsigM) hstack hdg
  rcases hK m meth c ⟨T.setVm vm₁, locs, cells, slots⟩ { g with stack := rest } (.invokevirtual index) mk (Value.ref b :: argsL).toArray X₁ hg hsize hdg hW (X₁.named hnamed) (hpre vm₁ X₁.warmed) with ⟨v, B, X', hpost, hsteps⟩ | ⟨q, B, X', hpost, hsteps⟩
  · exact Or.inl ⟨v, vm₁, B, X₁.warmed, X', hpost, fun target h => hstep₁ _ fun acts => by rw [doInvoke_state]; exact hsteps.trans h⟩
  · exact Or.inr ⟨q, vm₁, B, X₁.warmed, X', hpost, hstep₁ _ fun acts => by rw [doInvoke_state]; exact hsteps⟩
theorem vx_callSX (X : Stand p l e R s m args below meth c T locs cells slots) (hexec : p.tables.exec = Jvm.exec) {own : String} {index : Nat} {y : MethodName} {bytes : ByteArray} {maxL : Nat} {ret : Option FieldType} {hh : List (Nat × Nat × Nat × Nat)}
    (hown : s.vm.findClass own = some m.cls) (hlink : (Cond.methodLink own index y).before args s = true) (hstat : (Cond.static y).before args s = true) (hinit : (Cond.initialized y.cls).before args s = true)
    (hcode : (Cond.codeWith y bytes maxL ret hh).before args s = true) (hy : y.cls ≠ "java/lang/invoke/MethodHandle" ∧ y.cls ≠ "java/lang/invoke/VarHandle")
    {W9 : Nat} {Pre : Pt → Array Value → Prop} {Post : Pt → Array Value → Option Value → Pt → Prop} {PostX : Pt → Array Value → Addr → Pt → Prop} (hK : vx_Back l R p e below s args y 3 W9 Pre Post PostX)
    {g : JFrame} (hg : g.method = m) (hsize : g.locals.size = c.maxLocals) {argsL rest : List Value} (hlen : ∀ sig, parseMethodDescriptor y.desc = some sig → argsL.length = sig.parameters.length)
    (hstack : g.stack = argsL.reverse ++ rest) (hW : 2 * g.monitorRoom + (rest.map fun v => v.category).sum ≤ W9) (hdg : decode c.code g.pc = .ok (.invokestatic index, 3))
    (hpre : ∀ vm₁, s.WarmedH vm₁ → Pre ⟨T.setVm vm₁, locs, cells, slots⟩ argsL.toArray) :
    (∃ (v : Option Value) (vm₁ : Vm) (B : Pt), s.WarmedH vm₁ ∧ Stand p l e R s m args below meth c B.U B.locs B.cells B.slots ∧ Post ⟨T.setVm vm₁, locs, cells, slots⟩ argsL.toArray v B ∧
      ∀ target, Steps p.tables e below (B.U.setTop { g with pc := g.pc + 3, stack := v.toList ++ rest }) target → Steps p.tables e below (T.setTop g) target) ∨
    (∃ (q : Addr) (vm₁ : Vm) (B : Pt), s.WarmedH vm₁ ∧ Stand p l e R s m args below meth c B.U B.locs B.cells B.slots ∧ PostX ⟨T.setVm vm₁, locs, cells, slots⟩ argsL.toArray q B ∧
      Steps p.tables e below (T.setTop g) ((B.U.setTop { g with stack := rest }).pushFrame (.throwing q))) := by
  obtain ⟨mk, methM, cM, hnamed, hmethM, -, -, -, -, -, -, hsigM⟩ := Cond.codeWith_spec hcode
  have hstatic : methM.isStatic = true := Cond.static_spec hnamed hmethM hstat
  obtain ⟨kP, hkP, -⟩ := className_of_methodNamed hnamed
  have hinitP : kP.init = .initialized := Cond.initialized_spec (findClass_of_methodNamed hnamed) hkP hinit
  obtain ⟨vm₁, X₁, hstep₁⟩ := X.invokestatic hexec hown hlink hnamed hmethM hstatic hkP hinitP hy (g := g) hg (argsL := argsL) (rest := rest) (hlen _ hsigM) hstack hdg
  rcases hK m meth c ⟨T.setVm vm₁, locs, cells, slots⟩ { g with stack := rest } (.invokestatic index) mk argsL.toArray X₁ hg hsize hdg hW (X₁.named hnamed) (hpre vm₁ X₁.warmed) with ⟨v, B, X', hpost, hsteps⟩ | ⟨q, B, X', hpost, hsteps⟩
  · exact Or.inl ⟨v, vm₁, B, X₁.warmed, X', hpost, fun target h => hstep₁ _ fun acts => by rw [doInvoke_state]; exact hsteps.trans h⟩
  · exact Or.inr ⟨q, vm₁, B, X₁.warmed, X', hpost, hstep₁ _ fun acts => by rw [doInvoke_state]; exact hsteps⟩
theorem vx_callVW (X : Stand p l e R s m args below meth c T locs cells slots) (hexec : p.tables.exec = Jvm.exec) {own C : String} {index : Nat} {y : MethodName} {bytes : ByteArray} {maxL : Nat} {ret : Option FieldType} {hh : List (Nat × Nat × Nat × Nat)}
    (hown : s.vm.findClass own = some m.cls) (hlink : (Cond.methodLink own index y).before args s = true) (hinst : (Cond.instanceMethod y).before args s = true) (hsel : (Cond.selects C y y).before args s = true)
    (hcode : (Cond.codeWith y bytes maxL ret hh).before args s = true) (hy : y.cls ≠ "java/lang/invoke/MethodHandle" ∧ y.cls ≠ "java/lang/invoke/VarHandle")
    {W9 : Nat} {Pre : Pt → Array Value → Prop} {Post : Pt → Array Value → Option Value → Pt → Prop} (hK : Back l R p e below s args y 3 W9 Pre Post)
    {b : Addr} {cellB : Cell} (hcell : T.heap[b]? = some cellB) (hobj : cellB.vm.isStatics = false) (hcls : s.vm.findClass C = some cellB.cls)
    {g : JFrame} (hg : g.method = m) (hsize : g.locals.size = c.maxLocals) {argsL rest : List Value} (hlen : ∀ sig, parseMethodDescriptor y.desc = some sig → argsL.length = sig.parameters.length)
    (hstack : g.stack = argsL.reverse ++ .ref b :: rest) (hW : 2 * g.monitorRoom + (rest.map fun v => v.category).sum ≤ W9) (hdg : decode c.code g.pc = .ok (.invokevirtual index, 3))
    (hpre : ∀ vm₁, s.WarmedH vm₁ → Pre ⟨T.setVm vm₁, locs, cells, slots⟩ (Value.ref b :: argsL).toArray) :
    ∃ (v : Option Value) (vm₁ : Vm) (B : Pt), s.WarmedH vm₁ ∧ Stand p l e R s m args below meth c B.U B.locs B.cells B.slots ∧ Post ⟨T.setVm vm₁, locs, cells, slots⟩ (Value.ref b :: argsL).toArray v B ∧
      ∀ target, Steps p.tables e below (B.U.setTop { g with pc := g.pc + 3, stack := v.toList ++ rest }) target → Steps p.tables e below (T.setTop g) target := by
  obtain ⟨mk, methM, hnamed, hmethM, hstM, habM⟩ := Cond.instanceMethod_spec hinst
  obtain ⟨m8, methM', cM, hn8, hmethM', -, -, -, -, -, -, hsigM⟩ := Cond.codeWith_spec hcode
  cases Option.some.inj (hn8.symm.trans hnamed)
  cases hmethM.symm.trans hmethM'
  obtain ⟨c2, r2, m2, q1, q2, q3, q4, kP, hkP, hkPi⟩ := Cond.selects_spec hsel
  cases hcls.symm.trans q1
  cases (State.methodFound?_of_named hnamed hy).symm.trans q2
  cases hnamed.symm.trans q3
  have hselP : selectMethod e.platform s.vm cellB.cls mk = .method mk := by rw [Launch.admits_selectMethod X.admits]; exact q4
  obtain ⟨vm₁, X₁, hstep₁⟩ := X.invokevirtual hexec hown hlink hnamed hmethM hstM hkP hkPi hy (a := b) (cell := cellB) hcell
    (fun z h => by rw [h] at hobj; cases hobj) hselP hmethM habM hkP hkPi (g := g) hg (argsL := argsL) (rest := rest) (hlen _ hsigM) hstack hdg
  obtain ⟨v, B, X', hpost, hsteps⟩ := hK m meth c ⟨T.setVm vm₁, locs, cells, slots⟩ { g with stack := rest } (.invokevirtual index) mk (Value.ref b :: argsL).toArray X₁ hg hsize hdg hW (X₁.named hnamed) (hpre vm₁ X₁.warmed)
  exact ⟨v, vm₁, B, X₁.warmed, X', hpost, fun target h => hstep₁ _ fun acts => by rw [doInvoke_state]; exact hsteps.trans h⟩
abbrev vx_CVW (R : Room) (s : State) (args : Array Value) (own C : String) (index : Nat) (y : MethodName) (bytes : ByteArray) (maxL : Nat) (ret : Option FieldType) (hh : List (Nat × Nat × Nat × Nat)) (ws : List Cond) (rm : Room) (mc ms n : Nat) : Prop :=
  (rm.cells = mc ∧ rm.slots = ms ∧ rm.frames + 1 ≤ R.frames ∧ 8 + (maxL + 11) + rm.locals ≤ R.locals ∧ (∀ w ∈ ws, ∀ (a' : Array Value) (U : State), s.WarmedH U.vm → w.before a' U = true) ∧ Cond.codeWith y bytes maxL ret hh ∈ ws) ∧
  (Cond.codeWith y bytes maxL ret hh).before args s = true ∧ (Cond.initialized y.cls).before args s = true ∧ (y.cls ≠ "java/lang/invoke/MethodHandle" ∧ y.cls ≠ "java/lang/invoke/VarHandle") ∧
  (∀ sig, parseMethodDescriptor y.desc = some sig → n = sig.parameters.length) ∧ (Cond.methodLink own index y).before args s = true ∧ (Cond.instanceMethod y).before args s = true ∧ (Cond.selects C y y).before args s = true
theorem vx_cwVW {own C : String} {index maxL mc ms : Nat} {y : MethodName} {bytes : ByteArray} {ret : Option FieldType} {hh : List (Nat × Nat × Nat × Nat)} {Ts ws ws' : List Cond} {rm : Room} (n : Nat) (ht : ∀ w ∈ Ts, w.before args s = true) (hT : GoodIn Ts (wsV own index C y ws)) (hw : ws = Cond.codeWith y bytes maxL ret hh :: ws') (hrc : rm.cells = mc) (hrs : rm.slots = ms)
    (hd : y.cls = C ∧ y.cls ≠ "java/lang/invoke/MethodHandle" ∧ y.cls ≠ "java/lang/invoke/VarHandle" ∧ (parseMethodDescriptor y.desc).map (fun d => d.parameters.length) = some n) (hR : rm.frames + 1 ≤ R.frames ∧ 8 + (maxL + 11) + rm.locals ≤ R.locals) :
    vx_CVW R s args own C index y bytes maxL ret hh ws rm mc ms n := by
  obtain ⟨hC, hd⟩ := hd
  subst hC
  have ok : ∀ w ∈ wsV own index y.cls y ws, w.before args s = true := fun w h => ht w (hT w h).1
  have hG : GoodIn Ts ws := fun w h => hT w (by unfold wsV; exact List.mem_append_right _ h)
  have hc : Cond.codeWith y bytes maxL ret hh ∈ ws := by rw [hw]; exact List.mem_cons_self
  refine ⟨⟨hrc, hrs, hR.1, hR.2, pay_in ht hG, hc⟩, ht _ (hG _ hc).1, ok _ (by simp [wsV]), ⟨hd.1, hd.2.1⟩, fun sig h => ?_, ok _ (by simp [wsV]), ok _ (by simp [wsV]), ok _ (by simp [wsV])⟩
  have h2 := hd.2.2
  rw [h] at h2
  exact (Option.some.inj h2).symm
theorem vx_runVW {y : MethodName} {bytes cc : ByteArray} {maxL nL mc ms n index : Nat} {ret : Option FieldType} {hh : List (Nat × Nat × Nat × Nat)} {ws : List Cond} {rm : Room} {Pc : Array Value → State → Prop} {Qc : Array Value → State → Outcome → State → Prop} {free : Addr → Prop} {Ts : List Cond} {own C : String} {b : Addr} {As rest : List Value} {g : JFrame}
    (S : CallFix p m c cc nL s args Ts own) (hM : Met l y ws rm Pc Qc mc ms free) (cw : vx_CVW R s args own C index y bytes maxL ret hh ws rm mc ms n) (hp : PreV s H C b Pc As)
    (hg : g.method = m) (hn : As.length = n) (hsize : g.locals.size = nL) (hstack : g.stack = As.reverse ++ .ref b :: rest) (hW : 2 * g.monitorRoom + (rest.map fun v => v.category).sum ≤ 8) (hdg : decode cc g.pc = .ok (.invokevirtual index, 3)) (hf : cells + mc ≤ R.cells ∧ slots + ms ≤ R.slots) :
    va_Run p l e R s m args below meth c H locs cells slots mc ms g rest (Qc (Value.ref b :: As).toArray) free := by
  obtain ⟨⟨hrc, hrs, hfr, hlo, hws, hcw⟩, hcode, hini, hy, hlen, hl, hin, hse⟩ := cw
  have hK : Back l R p e below s args y 3 8 (PreOf R mc ms Pc) (PostOf Qc mc ms free) := va_backW (hh := hh) (bytes := bytes) (maxL := maxL) (ret := ret) hM hp.1 hrc hrs hfr hlo hws hcw (fun a' U hW => word_at hW (Or.inl (by first | rfl | simp [Cond.onTables, Cond.keeps, Cond.steady])) hini)
  obtain ⟨hx, hb, hml, ho, -⟩ := S
  obtain ⟨-, ⟨cellB, hcB, hoB, hclB⟩, hPc⟩ := hp
  intro T hT X
  obtain ⟨v, vm₁, ⟨U', l2, c2, s2⟩, hW₁, X', ⟨g', mk, t, L, e1, e2, hq, h1, hL, h2, h3⟩, st⟩ := vx_callVW X hx (C := C) (hh := hh) (bytes := bytes) (maxL := maxL) (ret := ret) ho hl hin hse hcode hy hK (by rw [hT]; exact hcB) hoB hclB hg (hsize.trans hml.symm) (argsL := As) (rest := rest) (fun sig h => hn.trans (hlen sig h)) hstack hW (by rw [hb]; exact hdg)
    (fun vm₁ hW₁ => ⟨hf.1, hf.2, hPc (T.setVm vm₁) hT hW₁⟩)
  dsimp only [Pt.U, Pt.locs, Pt.cells, Pt.slots] at X' e1 e2 h1 h2 h3 st
  subst h1; subst h2; subst h3
  exact ⟨v, (T.setVm vm₁).calling g' mk (Value.ref b :: As).toArray, t, U', L, hT, X', hL, e1, e2, hq, st⟩
section
variable {y : MethodName} {bytes cc : ByteArray} {maxL nL mc ms n index : Nat} {ret : Option FieldType} {ws : List Cond} {rm : Room} {Pc : Array Value → State → Prop} {Qc : Array Value → State → Outcome → State → Prop} {XC : String → State → State → Prop} {free : Addr → Prop} {Ts : List Cond} {own C : String} {b : Addr} {As rest : List Value} {g : JFrame}
theorem vx_runVX {hh : List (Nat × Nat × Nat × Nat)} (S : CallFix p m c cc nL s args Ts own) (hM : vx_Met l y ws rm Pc Qc XC mc ms free) (cw : vx_CVW R s args own C index y bytes maxL ret hh ws rm mc ms n) (hp : PreV s H C b Pc As)
    (hg : g.method = m) (hn : As.length = n) (hsize : g.locals.size = nL) (hstack : g.stack = As.reverse ++ .ref b :: rest) (hW : 2 * g.monitorRoom + (rest.map fun v => v.category).sum ≤ 8) (hdg : decode cc g.pc = .ok (.invokevirtual index, 3)) (hf : cells + mc ≤ R.cells ∧ slots + ms ≤ R.slots) :
    vx_Run p l e R s m args below meth c H locs cells slots mc ms g rest (Qc (Value.ref b :: As).toArray) XC free := by
  obtain ⟨⟨hrc, hrs, hfr, hlo, hws, hcw⟩, hcode, hini, hy, hlen, hl, hin, hse⟩ := cw
  have hK : vx_Back l R p e below s args y 3 8 (PreOf R mc ms Pc) (PostOf Qc mc ms free) (vx_Post XC mc ms free) := vx_backW (hh := hh) (bytes := bytes) (maxL := maxL) (ret := ret) hM hp.1 hrc hrs hfr hlo hws hcw (fun a' U hW => word_at hW (Or.inl (by first | rfl | simp [Cond.onTables, Cond.keeps, Cond.steady])) hini)
  obtain ⟨hx, hb, hml, ho, -⟩ := S
  obtain ⟨-, ⟨cellB, hcB, hoB, hclB⟩, hPc⟩ := hp
  intro T hT X
  rcases vx_callVX X hx (C := C) (hh := hh) (bytes := bytes) (maxL := maxL) (ret := ret) ho hl hin hse hcode hy hK (by rw [hT]; exact hcB) hoB hclB hg (hsize.trans hml.symm) (argsL := As) (rest := rest) (fun sig h => hn.trans (hlen sig h)) hstack hW (by rw [hb]; exact hdg)
    (fun vm₁ hW₁ => ⟨hf.1, hf.2, hPc (T.setVm vm₁) hT hW₁⟩) with ⟨v, vm₁, ⟨U', l2, c2, s2⟩, hW₁, X', ⟨g', mk, t, L, e1, e2, hq, h1, hL, h2, h3⟩, st⟩ | ⟨q, vm₁, ⟨U', l2, c2, s2⟩, hW₁, X', ⟨g', mk, t, L, E, ce, e1, e2, hq, hce, hcv, hcl, h1, hL, h2, h3⟩, st⟩
  · dsimp only [Pt.U, Pt.locs, Pt.cells, Pt.slots] at X' e1 e2 h1 h2 h3 st
    subst h1; subst h2; subst h3
    exact Or.inl ⟨v, (T.setVm vm₁).calling g' mk (Value.ref b :: As).toArray, t, U', L, hT, X', hL, e1, e2, hq, st⟩
  · dsimp only [Pt.U, Pt.locs, Pt.cells, Pt.slots] at X' e1 e2 h1 h2 h3 st hcl
    subst h1; subst h2; subst h3
    exact Or.inr ⟨q, (T.setVm vm₁).calling g' mk (Value.ref b :: As).toArray, t, U', L, E, ce, hT, X', hL, e1, e2, hq, hce, hcv, vx_cls hW₁ hcl, st⟩
theorem vx_runSX {hh : List (Nat × Nat × Nat × Nat)} (S : CallFix p m c cc nL s args Ts own) (hM : vx_Met l y ws rm Pc Qc XC mc ms free) (cw : vx_CSW R s args own index y bytes maxL ret hh ws rm mc ms n) (hp : PreS s H Pc As)
    (hg : g.method = m) (hn : As.length = n) (hsize : g.locals.size = nL) (hstack : g.stack = As.reverse ++ rest) (hW : 2 * g.monitorRoom + (rest.map fun v => v.category).sum ≤ 8) (hdg : decode cc g.pc = .ok (.invokestatic index, 3)) (hf : cells + mc ≤ R.cells ∧ slots + ms ≤ R.slots) :
    vx_Run p l e R s m args below meth c H locs cells slots mc ms g rest (Qc As.toArray) XC free := by
  obtain ⟨⟨hrc, hrs, hfr, hlo, hws, hcw⟩, hcode, hini, hy, hlen, hl, hstt⟩ := cw
  have hK : vx_Back l R p e below s args y 3 8 (PreOf R mc ms Pc) (PostOf Qc mc ms free) (vx_Post XC mc ms free) := vx_backW (hh := hh) (bytes := bytes) (maxL := maxL) (ret := ret) hM hp.1 hrc hrs hfr hlo hws hcw (fun a' U hW => word_at hW (Or.inl (by first | rfl | simp [Cond.onTables, Cond.keeps, Cond.steady])) hini)
  obtain ⟨hx, hb, hml, ho, -⟩ := S
  intro T hT X
  rcases vx_callSX X hx (hh := hh) (bytes := bytes) (maxL := maxL) (ret := ret) ho hl hstt hini hcode hy hK hg (hsize.trans hml.symm) (argsL := As) (rest := rest) (fun sig h => hn.trans (hlen sig h)) hstack hW (by rw [hb]; exact hdg)
    (fun vm₁ hW₁ => ⟨hf.1, hf.2, hp.2 (T.setVm vm₁) hT hW₁⟩) with ⟨v, vm₁, ⟨U', l2, c2, s2⟩, hW₁, X', ⟨g', mk, t, L, e1, e2, hq, h1, hL, h2, h3⟩, st⟩ | ⟨q, vm₁, ⟨U', l2, c2, s2⟩, hW₁, X', ⟨g', mk, t, L, E, ce, e1, e2, hq, hce, hcv, hcl, h1, hL, h2, h3⟩, st⟩
  · dsimp only [Pt.U, Pt.locs, Pt.cells, Pt.slots] at X' e1 e2 h1 h2 h3 st
    subst h1; subst h2; subst h3
    exact Or.inl ⟨v, (T.setVm vm₁).calling g' mk As.toArray, t, U', L, hT, X', hL, e1, e2, hq, st⟩
  · dsimp only [Pt.U, Pt.locs, Pt.cells, Pt.slots] at X' e1 e2 h1 h2 h3 st hcl
    subst h1; subst h2; subst h3
    exact Or.inr ⟨q, (T.setVm vm₁).calling g' mk As.toArray, t, U', L, E, ce, hT, X', hL, e1, e2, hq, hce, hcv, vx_cls hW₁ hcl, st⟩
end
end VXH
theorem vx_ofWH {l : Launch} {y : MethodName} {ws ws' : List Cond} {rm : Room} {Pc : Array Value → State → Prop} {Qc : Array Value → State → Outcome → State → Prop} {XC : String → State → State → Prop} {mc ms : Nat} {free : Addr → Prop} {cc : ByteArray} {maxL : Nat} {ret : Option FieldType} {hh : List (Nat × Nat × Nat × Nat)}
    (hy : plainName y.cls = true) (hw : ws = Cond.codeWith y cc maxL ret hh :: ws')
    (body : ∀ p e s m args below meth c s₁, BodyLoose p l y (headSpec ws rm) cc maxL ret e s m args below meth c s₁ → c.maxLocals = maxL → Pc args s →
      W p l e (headSpec ws rm).room s m args below meth c s.heap [] 0 0 (vx_MQ below Qc XC args s mc ms free) (entryFrame m args maxL)) : vx_Met l y ws rm Pc Qc XC mc ms free := by
  refine MetFree.of_bodyS (code := cc) (maxLocals := maxL) (ret := ret) hy ?_ ?_
  · intro args s m h hn
    obtain ⟨m9, meth, c, hn9, h1, h2, h3, h4, -, h5, h6, -⟩ := Cond.codeWith_spec (atoms_spec (ws := ws) h _ (by rw [hw]; exact List.mem_cons_self))
    cases hn.symm.trans hn9
    exact ⟨meth, c, h1, h2, h3, h4, h5, h6⟩
  · intro p e s m args below meth c s₁ B hml hP _
    have hh0 : s₁.heap = s.heap := by rw [B.state]; rfl
    obtain ⟨t, a1, o, b1, b2, b3⟩ := body p e s m args below meth c s₁ B hml hP s₁ hh0 (Stand.of_body B)
    exact ⟨t, o, a1, b1, b2, b3⟩
/-! ===== END ===== -/
end
section
def RX0 : String := "HotBeds$Beds"
def TX0 : u_T := fun k => match k with
  | 0 => ("HotBeds$Beds", "size", "I", false)
  | 1 => ("HotBeds$Beds", "price", "[I", true)
  | 2 => ("HotBeds$Beds", "warmth", "[I", true)
  | 3 => ("HotBeds$Beds", "entries", "[I", true)
  | 4 => ("HotBeds$Beds", "paid", "[I", true)
  | _ => ("HotBeds$Beds", "sleeper", "[I", true)
def tyX0 : Nat → FieldType := fun k => match k with
  | 0 => .int
  | 1 => .array .int
  | 2 => .array .int
  | 3 => .array .int
  | 4 => .array .int
  | _ => .array .int
abbrev wsX00 : List Cond := u_ws RX0 TX0 6
theorem nmX0 : ∀ a, a < 6 → ∀ b, b < 6 → a ≠ b → (TX0 a).2.1 ≠ (TX0 b).2.1 := by decide +kernel
theorem tyX0_ok : ∀ k, k < 6 → parseFieldDescriptor (TX0 k).2.2.1 = some (tyX0 k) := by decide +kernel
abbrev cX0_init : ByteArray := prog_2_method_1_code
def yX0_init : MethodName := ⟨RX0, "<init>", "()V"⟩
abbrev cX0_add : ByteArray := prog_2_method_2_code
def yX0_add : MethodName := ⟨RX0, "add", "(I)I"⟩
abbrev cX0_has : ByteArray := prog_2_method_4_code
def yX0_has : MethodName := ⟨RX0, "has", "(I)Z"⟩
abbrev cX0_isFree : ByteArray := prog_2_method_5_code
def yX0_isFree : MethodName := ⟨RX0, "isFree", "(I)Z"⟩
abbrev cX0_isWarm : ByteArray := prog_2_method_6_code
def yX0_isWarm : MethodName := ⟨RX0, "isWarm", "(I)Z"⟩
abbrev cX0_cheapestFree : ByteArray := prog_2_method_7_code
def yX0_cheapestFree : MethodName := ⟨RX0, "cheapestFree", "()I"⟩
abbrev cX0_changeWarmth : ByteArray := prog_2_method_8_code
def yX0_changeWarmth : MethodName := ⟨RX0, "changeWarmth", "()V"⟩
def RX1 : String := "HotBeds$House"
def TX1 : u_T := fun k => match k with
  | 0 => ("HotBeds$House", "hour", "I", false)
  | 1 => ("HotBeds$House", "bell", "I", false)
  | 2 => ("HotBeds$House", "pawn", "I", false)
  | 3 => ("HotBeds$House", "beds", "LHotBeds$Beds;", true)
  | _ => ("HotBeds$House", "sailors", "LHotBeds$Sailors;", true)
def tyX1 : Nat → FieldType := fun k => match k with
  | 0 => .int
  | 1 => .int
  | 2 => .int
  | 3 => .object "HotBeds$Beds"
  | _ => .object "HotBeds$Sailors"
abbrev wsX10 : List Cond := u_ws RX1 TX1 5
theorem nmX1 : ∀ a, a < 5 → ∀ b, b < 5 → a ≠ b → (TX1 a).2.1 ≠ (TX1 b).2.1 := by decide +kernel
theorem tyX1_ok : ∀ k, k < 5 → parseFieldDescriptor (TX1 k).2.2.1 = some (tyX1 k) := by decide +kernel
abbrev cX1_init : ByteArray := prog_3_method_1_code
def yX1_init : MethodName := ⟨RX1, "<init>", "()V"⟩
abbrev cX1_watchNow : ByteArray := prog_3_method_3_code
def yX1_watchNow : MethodName := ⟨RX1, "watchNow", "()I"⟩
abbrev cX1_goOn : ByteArray := prog_3_method_4_code
def yX1_goOn : MethodName := ⟨RX1, "goOn", "(I)V"⟩
abbrev cX1_getUp : ByteArray := prog_3_method_5_code
def yX1_getUp : MethodName := ⟨RX1, "getUp", "(I)V"⟩
abbrev cX1_pawnBoots : ByteArray := prog_3_method_6_code
def yX1_pawnBoots : MethodName := ⟨RX1, "pawnBoots", "(I)V"⟩
abbrev cX1_canRedeemBoots : ByteArray := prog_3_method_7_code
def yX1_canRedeemBoots : MethodName := ⟨RX1, "canRedeemBoots", "(I)Z"⟩
abbrev cX1_redeemBoots : ByteArray := prog_3_method_8_code
def yX1_redeemBoots : MethodName := ⟨RX1, "redeemBoots", "(I)V"⟩
abbrev cX1_ringBell : ByteArray := prog_3_method_9_code
def yX1_ringBell : MethodName := ⟨RX1, "ringBell", "(I)V"⟩
abbrev cX1_isInWatch : ByteArray := prog_3_method_10_code
def yX1_isInWatch : MethodName := ⟨RX1, "isInWatch", "(I)Z"⟩
abbrev cX1_hoursSinceWatch : ByteArray := prog_3_method_11_code
def yX1_hoursSinceWatch : MethodName := ⟨RX1, "hoursSinceWatch", "(I)I"⟩
abbrev cX1_serve : ByteArray := prog_3_method_12_code
def yX1_serve : MethodName := ⟨RX1, "serve", "(I)V"⟩
abbrev cX1_lookForBed : ByteArray := prog_3_method_13_code
def yX1_lookForBed : MethodName := ⟨RX1, "lookForBed", "(I)V"⟩
abbrev cX1_tryBed : ByteArray := prog_3_method_14_code
def yX1_tryBed : MethodName := ⟨RX1, "tryBed", "(II)V"⟩
abbrev cX1_getInto : ByteArray := prog_3_method_15_code
def yX1_getInto : MethodName := ⟨RX1, "getInto", "(II)V"⟩
abbrev cX1_restOfHour : ByteArray := prog_3_method_16_code
def yX1_restOfHour : MethodName := ⟨RX1, "restOfHour", "(I)I"⟩
def RX2 : String := "HotBeds$Sailors"
def TX2 : u_T := fun k => match k with
  | 0 => ("HotBeds$Sailors", "size", "I", false)
  | 1 => ("HotBeds$Sailors", "watch", "[I", true)
  | 2 => ("HotBeds$Sailors", "heavy", "[I", true)
  | 3 => ("HotBeds$Sailors", "wage", "[I", true)
  | 4 => ("HotBeds$Sailors", "purse", "[I", true)
  | 5 => ("HotBeds$Sailors", "boots", "[I", true)
  | 6 => ("HotBeds$Sailors", "kept", "[I", true)
  | 7 => ("HotBeds$Sailors", "place", "[I", true)
  | 8 => ("HotBeds$Sailors", "bed", "[I", true)
  | 9 => ("HotBeds$Sailors", "rest", "[I", true)
  | 10 => ("HotBeds$Sailors", "late", "[I", true)
  | 11 => ("HotBeds$Sailors", "lateSincePay", "[I", true)
  | _ => ("HotBeds$Sailors", "floors", "[I", true)
def tyX2 : Nat → FieldType := fun k => match k with
  | 0 => .int
  | 1 => .array .int
  | 2 => .array .int
  | 3 => .array .int
  | 4 => .array .int
  | 5 => .array .int
  | 6 => .array .int
  | 7 => .array .int
  | 8 => .array .int
  | 9 => .array .int
  | 10 => .array .int
  | 11 => .array .int
  | _ => .array .int
abbrev wsX20 : List Cond := u_ws RX2 TX2 13
theorem nmX2 : ∀ a, a < 13 → ∀ b, b < 13 → a ≠ b → (TX2 a).2.1 ≠ (TX2 b).2.1 := by decide +kernel
theorem tyX2_ok : ∀ k, k < 13 → parseFieldDescriptor (TX2 k).2.2.1 = some (tyX2 k) := by decide +kernel
abbrev cX2_init : ByteArray := prog_4_method_1_code
def yX2_init : MethodName := ⟨RX2, "<init>", "()V"⟩
abbrev cX2_add : ByteArray := prog_4_method_2_code
def yX2_add : MethodName := ⟨RX2, "add", "(IIII)I"⟩
abbrev cX2_isUp : ByteArray := prog_4_method_4_code
def yX2_isUp : MethodName := ⟨RX2, "isUp", "(I)Z"⟩
abbrev cX2_hasBoots : ByteArray := prog_4_method_5_code
def yX2_hasBoots : MethodName := ⟨RX2, "hasBoots", "(I)Z"⟩
abbrev cX2_earn : ByteArray := prog_4_method_6_code
def yX2_earn : MethodName := ⟨RX2, "earn", "(II)V"⟩
abbrev cX2_beLate : ByteArray := prog_4_method_7_code
def yX2_beLate : MethodName := ⟨RX2, "beLate", "(I)V"⟩
abbrev cX2_lieOnFloor : ByteArray := prog_4_method_8_code
def yX2_lieOnFloor : MethodName := ⟨RX2, "lieOnFloor", "(I)V"⟩
abbrev cX2_payWage : ByteArray := prog_4_method_9_code
def yX2_payWage : MethodName := ⟨RX2, "payWage", "(I)V"⟩
abbrev cX2_howManyAt : ByteArray := prog_4_method_10_code
def yX2_howManyAt : MethodName := ⟨RX2, "howManyAt", "(I)I"⟩
abbrev cX2_allRest : ByteArray := prog_4_method_11_code
def yX2_allRest : MethodName := ⟨RX2, "allRest", "()I"⟩
abbrev cX2_allLate : ByteArray := prog_4_method_12_code
def yX2_allLate : MethodName := ⟨RX2, "allLate", "()I"⟩
abbrev cX2_allFloors : ByteArray := prog_4_method_13_code
def yX2_allFloors : MethodName := ⟨RX2, "allFloors", "()I"⟩
abbrev cX2_sum : ByteArray := prog_4_method_14_code
def yX2_sum : MethodName := ⟨RX2, "sum", "([I)I"⟩
def RX3 : String := "HotBeds"
def TX3 : u_T := fun k => match k with
  | 0 => ("HotBeds", "house", "LHotBeds$House;", true)
  | _ => ("HotBeds", "trial", "LHotBeds$House;", true)
def tyX3 : Nat → FieldType := fun k => match k with
  | 0 => .object "HotBeds$House"
  | _ => .object "HotBeds$House"
abbrev wsX30 : List Cond := u_ws RX3 TX3 2
theorem nmX3 : ∀ a, a < 2 → ∀ b, b < 2 → a ≠ b → (TX3 a).2.1 ≠ (TX3 b).2.1 := by decide +kernel
theorem tyX3_ok : ∀ k, k < 2 → parseFieldDescriptor (TX3 k).2.2.1 = some (tyX3 k) := by decide +kernel
abbrev cX3_init : ByteArray := prog_1_method_1_code
def yX3_init : MethodName := ⟨RX3, "<init>", "()V"⟩
abbrev cX3_bed : ByteArray := prog_1_method_2_code
def yX3_bed : MethodName := ⟨RX3, "bed", "(I)I"⟩
abbrev cX3_sailor : ByteArray := prog_1_method_3_code
def yX3_sailor : MethodName := ⟨RX3, "sailor", "(IIII)I"⟩
abbrev cX3_keep : ByteArray := prog_1_method_4_code
def yX3_keep : MethodName := ⟨RX3, "keep", "(II)I"⟩
abbrev cX3_setBell : ByteArray := prog_1_method_5_code
def yX3_setBell : MethodName := ⟨RX3, "setBell", "(I)I"⟩
abbrev cX3_setPawn : ByteArray := prog_1_method_6_code
def yX3_setPawn : MethodName := ⟨RX3, "setPawn", "(I)I"⟩
abbrev cX3_give : ByteArray := prog_1_method_7_code
def yX3_give : MethodName := ⟨RX3, "give", "(II)I"⟩
abbrev cX3_pawn : ByteArray := prog_1_method_8_code
def yX3_pawn : MethodName := ⟨RX3, "pawn", "(I)I"⟩
abbrev cX3_redeem : ByteArray := prog_1_method_9_code
def yX3_redeem : MethodName := ⟨RX3, "redeem", "(I)I"⟩
abbrev cX3_call : ByteArray := prog_1_method_10_code
def yX3_call : MethodName := ⟨RX3, "call", "(I)I"⟩
abbrev cX3_shift : ByteArray := prog_1_method_11_code
def yX3_shift : MethodName := ⟨RX3, "shift", "(II)I"⟩
abbrev cX3_pass : ByteArray := prog_1_method_12_code
def yX3_pass : MethodName := ⟨RX3, "pass", "(I)I"⟩
abbrev cX3_told : ByteArray := prog_1_method_13_code
def yX3_told : MethodName := ⟨RX3, "told", "(II)I"⟩
abbrev cX3_about : ByteArray := prog_1_method_14_code
def yX3_about : MethodName := ⟨RX3, "about", "(II)I"⟩
abbrev cX3_count : ByteArray := prog_1_method_15_code
def yX3_count : MethodName := ⟨RX3, "count", "(I)I"⟩
abbrev cX3_mean : ByteArray := prog_1_method_20_code
def yX3_mean : MethodName := ⟨RX3, "mean", "()D"⟩
abbrev cX3_requireSailor : ByteArray := prog_1_method_22_code
def yX3_requireSailor : MethodName := ⟨RX3, "requireSailor", "(I)V"⟩
abbrev cX3_requireBed : ByteArray := prog_1_method_23_code
def yX3_requireBed : MethodName := ⟨RX3, "requireBed", "(I)V"⟩
abbrev cX3_requireWatch : ByteArray := prog_1_method_24_code
def yX3_requireWatch : MethodName := ⟨RX3, "requireWatch", "(I)V"⟩
abbrev cX3_requireUp : ByteArray := prog_1_method_25_code
def yX3_requireUp : MethodName := ⟨RX3, "requireUp", "(I)V"⟩
abbrev cX3_requireHours : ByteArray := prog_1_method_26_code
def yX3_requireHours : MethodName := ⟨RX3, "requireHours", "(I)V"⟩
def RX4 : String := "HotBedsLaw$Bed"
def TX4 : u_T := fun k => match k with
  | 0 => ("HotBedsLaw$Bed", "price", "I", false)
  | 1 => ("HotBedsLaw$Bed", "warmth", "I", false)
  | 2 => ("HotBedsLaw$Bed", "times", "I", false)
  | 3 => ("HotBedsLaw$Bed", "coins", "I", false)
  | 4 => ("HotBedsLaw$Bed", "who", "LHotBedsLaw$Sailor;", false)
  | _ => ("HotBedsLaw$Bed", "number", "I", false)
def tyX4 : Nat → FieldType := fun k => match k with
  | 0 => .int
  | 1 => .int
  | 2 => .int
  | 3 => .int
  | 4 => .object "HotBedsLaw$Sailor"
  | _ => .int
abbrev wsX40 : List Cond := u_ws RX4 TX4 6
theorem nmX4 : ∀ a, a < 6 → ∀ b, b < 6 → a ≠ b → (TX4 a).2.1 ≠ (TX4 b).2.1 := by decide +kernel
theorem tyX4_ok : ∀ k, k < 6 → parseFieldDescriptor (TX4 k).2.2.1 = some (tyX4 k) := by decide +kernel
abbrev cX4_init : ByteArray := prog_6_method_1_code
def yX4_init : MethodName := ⟨RX4, "<init>", "()V"⟩
def RX5 : String := "HotBedsLaw$Sailor"
def TX5 : u_T := fun k => match k with
  | 0 => ("HotBedsLaw$Sailor", "number", "I", false)
  | 1 => ("HotBedsLaw$Sailor", "watch", "I", false)
  | 2 => ("HotBedsLaw$Sailor", "heavy", "I", false)
  | 3 => ("HotBedsLaw$Sailor", "wage", "I", false)
  | 4 => ("HotBedsLaw$Sailor", "purse", "I", false)
  | 5 => ("HotBedsLaw$Sailor", "hasBoots", "Z", false)
  | 6 => ("HotBedsLaw$Sailor", "kept", "LHotBedsLaw$Bed;", false)
  | 7 => ("HotBedsLaw$Sailor", "in", "LHotBedsLaw$Bed;", false)
  | 8 => ("HotBedsLaw$Sailor", "onFloor", "Z", false)
  | 9 => ("HotBedsLaw$Sailor", "rest", "I", false)
  | 10 => ("HotBedsLaw$Sailor", "late", "I", false)
  | 11 => ("HotBedsLaw$Sailor", "since", "I", false)
  | _ => ("HotBedsLaw$Sailor", "floors", "I", false)
def tyX5 : Nat → FieldType := fun k => match k with
  | 0 => .int
  | 1 => .int
  | 2 => .int
  | 3 => .int
  | 4 => .int
  | 5 => .boolean
  | 6 => .object "HotBedsLaw$Bed"
  | 7 => .object "HotBedsLaw$Bed"
  | 8 => .boolean
  | 9 => .int
  | 10 => .int
  | 11 => .int
  | _ => .int
abbrev wsX50 : List Cond := u_ws RX5 TX5 13
theorem nmX5 : ∀ a, a < 13 → ∀ b, b < 13 → a ≠ b → (TX5 a).2.1 ≠ (TX5 b).2.1 := by decide +kernel
theorem tyX5_ok : ∀ k, k < 13 → parseFieldDescriptor (TX5 k).2.2.1 = some (tyX5 k) := by decide +kernel
abbrev cX5_init : ByteArray := prog_7_method_1_code
def yX5_init : MethodName := ⟨RX5, "<init>", "()V"⟩
abbrev cX5_up : ByteArray := prog_7_method_2_code
def yX5_up : MethodName := ⟨RX5, "up", "()V"⟩
abbrev cX5_gets : ByteArray := prog_7_method_3_code
def yX5_gets : MethodName := ⟨RX5, "gets", "(I)V"⟩
def RX6 : String := "HotBedsLaw$Sim"
def TX6 : u_T := fun k => match k with
  | 0 => ("HotBedsLaw$Sim", "hour", "I", false)
  | 1 => ("HotBedsLaw$Sim", "bell", "I", false)
  | 2 => ("HotBedsLaw$Sim", "pawn", "I", false)
  | 3 => ("HotBedsLaw$Sim", "beds", "[LHotBedsLaw$Bed;", false)
  | _ => ("HotBedsLaw$Sim", "sailors", "[LHotBedsLaw$Sailor;", false)
def tyX6 : Nat → FieldType := fun k => match k with
  | 0 => .int
  | 1 => .int
  | 2 => .int
  | 3 => .array (.object "HotBedsLaw$Bed")
  | _ => .array (.object "HotBedsLaw$Sailor")
abbrev wsX60 : List Cond := u_ws RX6 TX6 5
theorem nmX6 : ∀ a, a < 5 → ∀ b, b < 5 → a ≠ b → (TX6 a).2.1 ≠ (TX6 b).2.1 := by decide +kernel
theorem tyX6_ok : ∀ k, k < 5 → parseFieldDescriptor (TX6 k).2.2.1 = some (tyX6 k) := by decide +kernel
abbrev cX6_init : ByteArray := prog_8_method_1_code
def yX6_init : MethodName := ⟨RX6, "<init>", "()V"⟩
abbrev cX6_free : ByteArray := prog_8_method_3_code
def yX6_free : MethodName := ⟨RX6, "free", "(LHotBedsLaw$Sailor;)LHotBedsLaw$Bed;"⟩
abbrev cX6_pass : ByteArray := prog_8_method_4_code
def yX6_pass : MethodName := ⟨RX6, "pass", "()V"⟩
abbrev cX6_behind : ByteArray := prog_8_method_5_code
def yX6_behind : MethodName := ⟨RX6, "behind", "(I)LHotBedsLaw$Sim;"⟩
abbrev cX6_sums : ByteArray := prog_8_method_6_code
def yX6_sums : MethodName := ⟨RX6, "sums", "()[I"⟩
abbrev cX6_isSame : ByteArray := prog_8_method_7_code
def yX6_isSame : MethodName := ⟨RX6, "isSame", "(LHotBeds;)Z"⟩
def RX7 : String := "HotBedsModel"
def TX7 : u_T := fun k => match k with
  | _ => ("", "", "", false)
def tyX7 : Nat → FieldType := fun k => match k with
  | _ => .int
abbrev wsX70 : List Cond := u_ws RX7 TX7 0
theorem nmX7 : ∀ a, a < 0 → ∀ b, b < 0 → a ≠ b → (TX7 a).2.1 ≠ (TX7 b).2.1 := by decide +kernel
theorem tyX7_ok : ∀ k, k < 0 → parseFieldDescriptor (TX7 k).2.2.1 = some (tyX7 k) := by decide +kernel
def RJ9 : String := "java/lang/Math"
def TJ9 : u_T := fun k => match k with
  | _ => ("", "", "", false)
def tyJ9 : Nat → FieldType := fun k => match k with
  | _ => .int
abbrev wsJ90 : List Cond := u_ws RJ9 TJ9 0
theorem nmJ9 : ∀ a, a < 0 → ∀ b, b < 0 → a ≠ b → (TJ9 a).2.1 ≠ (TJ9 b).2.1 := by decide +kernel
theorem tyJ9_ok : ∀ k, k < 0 → parseFieldDescriptor (TJ9 k).2.2.1 = some (tyJ9 k) := by decide +kernel
abbrev cJ9_max_7cf53 : ByteArray := prog_14_method_65_code
def yJ9_max_7cf53 : MethodName := ⟨RJ9, "max", "(II)I"⟩
abbrev cJ9_min_7cf53 : ByteArray := prog_14_method_69_code
def yJ9_min_7cf53 : MethodName := ⟨RJ9, "min", "(II)I"⟩
def RJ0 : String := "java/lang/String"
def TJ0 : u_T := fun k => match k with
  | _ => ("", "", "", false)
def tyJ0 : Nat → FieldType := fun k => match k with
  | _ => .int
abbrev wsJ00 : List Cond := u_ws RJ0 TJ0 0
theorem nmJ0 : ∀ a, a < 0 → ∀ b, b < 0 → a ≠ b → (TJ0 a).2.1 ≠ (TJ0 b).2.1 := by decide +kernel
theorem tyJ0_ok : ∀ k, k < 0 → parseFieldDescriptor (TJ0 k).2.2.1 = some (tyJ0 k) := by decide +kernel
def RL : String := "HotBedsLaw"
abbrev cL_below : ByteArray := method_2_code
def yL_below : MethodName := ⟨RL, "below", "(II)I"⟩
abbrev cL_cell : ByteArray := method_3_code
def yL_cell : MethodName := ⟨RL, "cell", "([II)I"⟩
abbrev cL_act : ByteArray := method_4_code
def yL_act : MethodName := ⟨RL, "act", "(LHotBeds;LHotBedsLaw$Sim;I)Z"⟩
abbrev cL_build : ByteArray := method_5_code
def yL_build : MethodName := ⟨RL, "build", "(LHotBeds;[I)LHotBedsLaw$Sim;"⟩
abbrev cL_law : ByteArray := code
def yL_law : MethodName := ⟨RL, "law", "([I)Z"⟩
def wsX0_init : List Cond := .code yX0_init cX0_init 1 none :: ([.methodLink RX0 1 objectInit, .instanceMethod objectInit, .code objectInit ⟨#[0xb1]⟩ 1 none, .fieldLink RX0 7 "HotBeds$Beds" "size" "I", .arrayClass .int, .fieldLink RX0 13 "HotBeds$Beds" "price" "[I", .fieldLink RX0 17 "HotBeds$Beds" "warmth" "[I", .fieldLink RX0 20 "HotBeds$Beds" "entries" "[I", .fieldLink RX0 23 "HotBeds$Beds" "paid" "[I", .fieldLink RX0 26 "HotBeds$Beds" "sleeper" "[I"] ++ wsX00)
def wsX0_add : List Cond := .code yX0_add cX0_add 3 (some .int) :: ([.classLink RX0 29 "java/lang/IllegalStateException", .initialized "java/lang/IllegalStateException", .fieldLink RX0 7 "HotBeds$Beds" "size" "I", .fieldLink RX0 13 "HotBeds$Beds" "price" "[I", .fieldLink RX0 26 "HotBeds$Beds" "sleeper" "[I"] ++ wsX00 ++ (vx_atS RX0 33 "java/lang/IllegalStateException" ["java/lang/RuntimeException", "java/lang/Exception"]).filter goodWord)
def wsX0_has : List Cond := .code yX0_has cX0_has 2 (some .boolean) :: ([.fieldLink RX0 7 "HotBeds$Beds" "size" "I"] ++ wsX00)
def wsX0_isFree : List Cond := .code yX0_isFree cX0_isFree 2 (some .boolean) :: ([.fieldLink RX0 26 "HotBeds$Beds" "sleeper" "[I", .methodLink RX0 42 yX0_has, .instanceMethod yX0_has, .selects RX0 yX0_has yX0_has, .initialized RX0, .code yX0_has cX0_has 2 (some .boolean), .fieldLink RX0 7 "HotBeds$Beds" "size" "I"] ++ wsX00)
def wsX0_isWarm : List Cond := .code yX0_isWarm cX0_isWarm 2 (some .boolean) :: ([.fieldLink RX0 17 "HotBeds$Beds" "warmth" "[I", .methodLink RX0 42 yX0_has, .instanceMethod yX0_has, .selects RX0 yX0_has yX0_has, .initialized RX0, .code yX0_has cX0_has 2 (some .boolean), .fieldLink RX0 7 "HotBeds$Beds" "size" "I"] ++ wsX00)
def wsX0_cheapestFree : List Cond := .code yX0_cheapestFree cX0_cheapestFree 3 (some .int) :: ([.fieldLink RX0 7 "HotBeds$Beds" "size" "I", .fieldLink RX0 13 "HotBeds$Beds" "price" "[I", .methodLink RX0 46 yX0_isFree, .instanceMethod yX0_isFree, .selects RX0 yX0_isFree yX0_isFree, .initialized RX0, .code yX0_isFree cX0_isFree 2 (some .boolean), .fieldLink RX0 26 "HotBeds$Beds" "sleeper" "[I", .methodLink RX0 42 yX0_has, .instanceMethod yX0_has, .selects RX0 yX0_has yX0_has, .code yX0_has cX0_has 2 (some .boolean)] ++ wsX00)
def wsX0_changeWarmth : List Cond := .code yX0_changeWarmth cX0_changeWarmth 2 none :: ([.fieldLink RX0 7 "HotBeds$Beds" "size" "I", .fieldLink RX0 26 "HotBeds$Beds" "sleeper" "[I", .fieldLink RX0 17 "HotBeds$Beds" "warmth" "[I", .methodLink RX0 49 Lib.Math.max.name, .static Lib.Math.max.name, .initialized "java/lang/Math", .code Lib.Math.max.name Lib.Math.max.code 2 (some .int), .methodLink RX0 55 Lib.Math.min.name, .static Lib.Math.min.name, .code Lib.Math.min.name Lib.Math.min.code 2 (some .int)] ++ wsX00)
def wsX2_init : List Cond := .code yX2_init cX2_init 1 none :: ([.methodLink RX2 1 objectInit, .instanceMethod objectInit, .code objectInit ⟨#[0xb1]⟩ 1 none, .fieldLink RX2 7 "HotBeds$Sailors" "size" "I", .arrayClass .int, .fieldLink RX2 13 "HotBeds$Sailors" "watch" "[I", .fieldLink RX2 17 "HotBeds$Sailors" "heavy" "[I", .fieldLink RX2 20 "HotBeds$Sailors" "wage" "[I", .fieldLink RX2 23 "HotBeds$Sailors" "purse" "[I", .fieldLink RX2 26 "HotBeds$Sailors" "boots" "[I", .fieldLink RX2 29 "HotBeds$Sailors" "kept" "[I", .fieldLink RX2 32 "HotBeds$Sailors" "place" "[I", .fieldLink RX2 35 "HotBeds$Sailors" "bed" "[I", .fieldLink RX2 38 "HotBeds$Sailors" "rest" "[I", .fieldLink RX2 41 "HotBeds$Sailors" "late" "[I", .fieldLink RX2 44 "HotBeds$Sailors" "lateSincePay" "[I", .fieldLink RX2 47 "HotBeds$Sailors" "floors" "[I"] ++ wsX20)
def wsX1_init_r1 : List Cond := [Cond.methodLink RX1 1 objectInit, Cond.instanceMethod objectInit, Cond.code objectInit ⟨#[0xb1]⟩ 1 none, Cond.fieldLink RX1 7 "HotBeds$House" "hour" "I", Cond.fieldLink RX1 13 "HotBeds$House" "bell" "I", Cond.fieldLink RX1 16 "HotBeds$House" "pawn" "I", Cond.classLink RX1 19 RX0, Cond.instantiable RX0 6, Cond.initialized RX0, Cond.fieldLink RX1 22 "HotBeds$House" "beds" "LHotBeds$Beds;", Cond.classLink RX1 26 RX2, Cond.instantiable RX2 13, Cond.initialized RX2, Cond.fieldLink RX1 29 "HotBeds$House" "sailors" "LHotBeds$Sailors;", Cond.instanceMethod yX0_init, Cond.code yX0_init cX0_init 1 none, Cond.methodLink RX0 1 objectInit, Cond.fieldLink RX0 7 "HotBeds$Beds" "size" "I", Cond.arrayClass .int, Cond.fieldLink RX0 13 "HotBeds$Beds" "price" "[I", Cond.fieldLink RX0 17 "HotBeds$Beds" "warmth" "[I", Cond.fieldLink RX0 20 "HotBeds$Beds" "entries" "[I", Cond.fieldLink RX0 23 "HotBeds$Beds" "paid" "[I", Cond.fieldLink RX0 26 "HotBeds$Beds" "sleeper" "[I"]
def wsX1_init_r2 : List Cond := [Cond.instanceMethod yX2_init, Cond.code yX2_init cX2_init 1 none, Cond.methodLink RX2 1 objectInit, Cond.fieldLink RX2 7 "HotBeds$Sailors" "size" "I", Cond.fieldLink RX2 13 "HotBeds$Sailors" "watch" "[I", Cond.fieldLink RX2 17 "HotBeds$Sailors" "heavy" "[I", Cond.fieldLink RX2 20 "HotBeds$Sailors" "wage" "[I", Cond.fieldLink RX2 23 "HotBeds$Sailors" "purse" "[I", Cond.fieldLink RX2 26 "HotBeds$Sailors" "boots" "[I", Cond.fieldLink RX2 29 "HotBeds$Sailors" "kept" "[I", Cond.fieldLink RX2 32 "HotBeds$Sailors" "place" "[I", Cond.fieldLink RX2 35 "HotBeds$Sailors" "bed" "[I", Cond.fieldLink RX2 38 "HotBeds$Sailors" "rest" "[I", Cond.fieldLink RX2 41 "HotBeds$Sailors" "late" "[I", Cond.fieldLink RX2 44 "HotBeds$Sailors" "lateSincePay" "[I", Cond.fieldLink RX2 47 "HotBeds$Sailors" "floors" "[I"]
def wsX1_init : List Cond := .code yX1_init cX1_init 1 none :: ((wsX1_init_r1 ++ wsX1_init_r2) ++ wsX10 ++ wsX00 ++ wsX20)
def wsX1_watchNow : List Cond := .code yX1_watchNow cX1_watchNow 1 (some .int) :: ([.fieldLink RX1 7 "HotBeds$House" "hour" "I"] ++ wsX10)
def wsX2_isUp : List Cond := .code yX2_isUp cX2_isUp 2 (some .boolean) :: ([.fieldLink RX2 32 "HotBeds$Sailors" "place" "[I"] ++ wsX20)
def wsX1_isInWatch : List Cond := .code yX1_isInWatch cX1_isInWatch 2 (some .boolean) :: ([.fieldLink RX1 29 "HotBeds$House" "sailors" "LHotBeds$Sailors;", .fieldLink RX1 105 "HotBeds$Sailors" "watch" "[I", .methodLink RX1 108 yX1_watchNow, .instanceMethod yX1_watchNow, .selects RX1 yX1_watchNow yX1_watchNow, .initialized RX1, .code yX1_watchNow cX1_watchNow 1 (some .int), .fieldLink RX1 7 "HotBeds$House" "hour" "I"] ++ wsX10 ++ wsX20)
def wsX1_hoursSinceWatch : List Cond := .code yX1_hoursSinceWatch cX1_hoursSinceWatch 3 (some .int) :: ([.fieldLink RX1 29 "HotBeds$House" "sailors" "LHotBeds$Sailors;", .fieldLink RX1 105 "HotBeds$Sailors" "watch" "[I", .fieldLink RX1 7 "HotBeds$House" "hour" "I"] ++ wsX10 ++ wsX20)
def wsX1_getUp : List Cond := .code yX1_getUp cX1_getUp 3 none :: ([.fieldLink RX1 29 "HotBeds$House" "sailors" "LHotBeds$Sailors;", .fieldLink RX1 61 "HotBeds$Sailors" "bed" "[I", .fieldLink RX1 22 "HotBeds$House" "beds" "LHotBeds$Beds;", .fieldLink RX1 68 "HotBeds$Beds" "sleeper" "[I", .fieldLink RX1 71 "HotBeds$Sailors" "place" "[I", .methodLink RX1 64 yX0_has, .instanceMethod yX0_has, .selects RX0 yX0_has yX0_has, .initialized RX0, .code yX0_has cX0_has 2 (some .boolean), .fieldLink RX0 7 "HotBeds$Beds" "size" "I"] ++ wsX10 ++ wsX20 ++ wsX00)
def wsX2_beLate : List Cond := .code yX2_beLate cX2_beLate 2 none :: ([.fieldLink RX2 41 "HotBeds$Sailors" "late" "[I", .fieldLink RX2 44 "HotBeds$Sailors" "lateSincePay" "[I"] ++ wsX20)
def wsX1_ringBell_r1 : List Cond := [Cond.fieldLink RX1 29 "HotBeds$House" "sailors" "LHotBeds$Sailors;", Cond.fieldLink RX1 13 "HotBeds$House" "bell" "I", Cond.fieldLink RX1 96 "HotBeds$Sailors" "heavy" "[I", Cond.methodLink RX1 87 yX2_isUp, Cond.instanceMethod yX2_isUp, Cond.selects RX2 yX2_isUp yX2_isUp, Cond.initialized RX2, Cond.code yX2_isUp cX2_isUp 2 (some .boolean), Cond.fieldLink RX2 32 "HotBeds$Sailors" "place" "[I", Cond.methodLink RX1 90 yX1_isInWatch, Cond.instanceMethod yX1_isInWatch, Cond.selects RX1 yX1_isInWatch yX1_isInWatch, Cond.initialized RX1, Cond.code yX1_isInWatch cX1_isInWatch 2 (some .boolean), Cond.fieldLink RX1 105 "HotBeds$Sailors" "watch" "[I", Cond.methodLink RX1 108 yX1_watchNow, Cond.instanceMethod yX1_watchNow, Cond.selects RX1 yX1_watchNow yX1_watchNow, Cond.code yX1_watchNow cX1_watchNow 1 (some .int), Cond.fieldLink RX1 7 "HotBeds$House" "hour" "I", Cond.methodLink RX1 93 yX1_hoursSinceWatch, Cond.instanceMethod yX1_hoursSinceWatch, Cond.selects RX1 yX1_hoursSinceWatch yX1_hoursSinceWatch, Cond.code yX1_hoursSinceWatch cX1_hoursSinceWatch 3 (some .int)]
def wsX1_ringBell_r2 : List Cond := [Cond.methodLink RX1 99 yX1_getUp, Cond.instanceMethod yX1_getUp, Cond.selects RX1 yX1_getUp yX1_getUp, Cond.code yX1_getUp cX1_getUp 3 none, Cond.fieldLink RX1 61 "HotBeds$Sailors" "bed" "[I", Cond.fieldLink RX1 22 "HotBeds$House" "beds" "LHotBeds$Beds;", Cond.fieldLink RX1 68 "HotBeds$Beds" "sleeper" "[I", Cond.fieldLink RX1 71 "HotBeds$Sailors" "place" "[I", Cond.methodLink RX1 64 yX0_has, Cond.instanceMethod yX0_has, Cond.selects RX0 yX0_has yX0_has, Cond.initialized RX0, Cond.code yX0_has cX0_has 2 (some .boolean), Cond.fieldLink RX0 7 "HotBeds$Beds" "size" "I", Cond.methodLink RX1 102 yX2_beLate, Cond.instanceMethod yX2_beLate, Cond.selects RX2 yX2_beLate yX2_beLate, Cond.code yX2_beLate cX2_beLate 2 none, Cond.fieldLink RX2 41 "HotBeds$Sailors" "late" "[I", Cond.fieldLink RX2 44 "HotBeds$Sailors" "lateSincePay" "[I"]
def wsX1_ringBell : List Cond := .code yX1_ringBell cX1_ringBell 3 none :: ((wsX1_ringBell_r1 ++ wsX1_ringBell_r2) ++ wsX10 ++ wsX20 ++ wsX00)
def wsX2_hasBoots : List Cond := .code yX2_hasBoots cX2_hasBoots 2 (some .boolean) :: ([.fieldLink RX2 26 "HotBeds$Sailors" "boots" "[I"] ++ wsX20)
def wsX2_earn : List Cond := .code yX2_earn cX2_earn 3 none :: ([.fieldLink RX2 23 "HotBeds$Sailors" "purse" "[I", .methodLink RX2 65 Lib.Math.min.name, .static Lib.Math.min.name, .initialized "java/lang/Math", .code Lib.Math.min.name Lib.Math.min.code 2 (some .int)] ++ wsX20)
def wsX2_payWage : List Cond := .code yX2_payWage cX2_payWage 3 none :: ([.fieldLink RX2 20 "HotBeds$Sailors" "wage" "[I", .fieldLink RX2 44 "HotBeds$Sailors" "lateSincePay" "[I", .methodLink RX2 75 Lib.Math.max.name, .static Lib.Math.max.name, .initialized "java/lang/Math", .code Lib.Math.max.name Lib.Math.max.code 2 (some .int), .methodLink RX2 71 yX2_hasBoots, .instanceMethod yX2_hasBoots, .selects RX2 yX2_hasBoots yX2_hasBoots, .initialized RX2, .code yX2_hasBoots cX2_hasBoots 2 (some .boolean), .fieldLink RX2 26 "HotBeds$Sailors" "boots" "[I", .methodLink RX2 78 yX2_earn, .instanceMethod yX2_earn, .selects RX2 yX2_earn yX2_earn, .code yX2_earn cX2_earn 3 none, .fieldLink RX2 23 "HotBeds$Sailors" "purse" "[I", .methodLink RX2 65 Lib.Math.min.name, .static Lib.Math.min.name, .code Lib.Math.min.name Lib.Math.min.code 2 (some .int)] ++ wsX20)
def wsX1_canRedeemBoots : List Cond := .code yX1_canRedeemBoots cX1_canRedeemBoots 2 (some .boolean) :: ([.fieldLink RX1 29 "HotBeds$House" "sailors" "LHotBeds$Sailors;", .fieldLink RX1 84 "HotBeds$Sailors" "purse" "[I", .fieldLink RX1 16 "HotBeds$House" "pawn" "I", .methodLink RX1 81 yX2_hasBoots, .instanceMethod yX2_hasBoots, .selects RX2 yX2_hasBoots yX2_hasBoots, .initialized RX2, .code yX2_hasBoots cX2_hasBoots 2 (some .boolean), .fieldLink RX2 26 "HotBeds$Sailors" "boots" "[I"] ++ wsX10 ++ wsX20)
def wsX1_redeemBoots : List Cond := .code yX1_redeemBoots cX1_redeemBoots 2 none :: ([.fieldLink RX1 29 "HotBeds$House" "sailors" "LHotBeds$Sailors;", .fieldLink RX1 84 "HotBeds$Sailors" "purse" "[I", .fieldLink RX1 16 "HotBeds$House" "pawn" "I", .fieldLink RX1 74 "HotBeds$Sailors" "boots" "[I"] ++ wsX10 ++ wsX20)
def wsX1_pawnBoots : List Cond := .code yX1_pawnBoots cX1_pawnBoots 2 none :: ([.fieldLink RX1 29 "HotBeds$House" "sailors" "LHotBeds$Sailors;", .fieldLink RX1 74 "HotBeds$Sailors" "boots" "[I", .fieldLink RX1 16 "HotBeds$House" "pawn" "I", .methodLink RX1 77 yX2_earn, .instanceMethod yX2_earn, .selects RX2 yX2_earn yX2_earn, .initialized RX2, .code yX2_earn cX2_earn 3 none, .fieldLink RX2 23 "HotBeds$Sailors" "purse" "[I", .methodLink RX2 65 Lib.Math.min.name, .static Lib.Math.min.name, .initialized "java/lang/Math", .code Lib.Math.min.name Lib.Math.min.code 2 (some .int)] ++ wsX10 ++ wsX20)
def wsX1_getInto : List Cond := .code yX1_getInto cX1_getInto 4 none :: ([.fieldLink RX1 22 "HotBeds$House" "beds" "LHotBeds$Beds;", .fieldLink RX1 139 "HotBeds$Beds" "price" "[I", .fieldLink RX1 29 "HotBeds$House" "sailors" "LHotBeds$Sailors;", .fieldLink RX1 84 "HotBeds$Sailors" "purse" "[I", .fieldLink RX1 71 "HotBeds$Sailors" "place" "[I", .fieldLink RX1 61 "HotBeds$Sailors" "bed" "[I", .fieldLink RX1 148 "HotBeds$Beds" "paid" "[I", .fieldLink RX1 151 "HotBeds$Beds" "entries" "[I", .fieldLink RX1 68 "HotBeds$Beds" "sleeper" "[I"] ++ wsX10 ++ wsX00 ++ wsX20)
def wsX2_lieOnFloor : List Cond := .code yX2_lieOnFloor cX2_lieOnFloor 2 none :: ([.fieldLink RX2 32 "HotBeds$Sailors" "place" "[I", .fieldLink RX2 47 "HotBeds$Sailors" "floors" "[I"] ++ wsX20)
def wsX1_tryBed_r1 : List Cond := [Cond.fieldLink RX1 22 "HotBeds$House" "beds" "LHotBeds$Beds;", Cond.fieldLink RX1 139 "HotBeds$Beds" "price" "[I", Cond.fieldLink RX1 29 "HotBeds$House" "sailors" "LHotBeds$Sailors;", Cond.fieldLink RX1 84 "HotBeds$Sailors" "purse" "[I", Cond.fieldLink RX1 16 "HotBeds$House" "pawn" "I", Cond.methodLink RX1 81 yX2_hasBoots, Cond.instanceMethod yX2_hasBoots, Cond.selects RX2 yX2_hasBoots yX2_hasBoots, Cond.initialized RX2, Cond.code yX2_hasBoots cX2_hasBoots 2 (some .boolean), Cond.fieldLink RX2 26 "HotBeds$Sailors" "boots" "[I", Cond.methodLink RX1 142 yX1_pawnBoots, Cond.instanceMethod yX1_pawnBoots, Cond.selects RX1 yX1_pawnBoots yX1_pawnBoots, Cond.initialized RX1, Cond.code yX1_pawnBoots cX1_pawnBoots 2 none, Cond.fieldLink RX1 74 "HotBeds$Sailors" "boots" "[I", Cond.methodLink RX1 77 yX2_earn, Cond.instanceMethod yX2_earn, Cond.selects RX2 yX2_earn yX2_earn, Cond.code yX2_earn cX2_earn 3 none, Cond.fieldLink RX2 23 "HotBeds$Sailors" "purse" "[I", Cond.methodLink RX2 65 Lib.Math.min.name, Cond.static Lib.Math.min.name]
def wsX1_tryBed_r2 : List Cond := [Cond.initialized "java/lang/Math", Cond.code Lib.Math.min.name Lib.Math.min.code 2 (some .int), Cond.methodLink RX1 145 yX1_getInto, Cond.instanceMethod yX1_getInto, Cond.selects RX1 yX1_getInto yX1_getInto, Cond.code yX1_getInto cX1_getInto 4 none, Cond.fieldLink RX1 71 "HotBeds$Sailors" "place" "[I", Cond.fieldLink RX1 61 "HotBeds$Sailors" "bed" "[I", Cond.fieldLink RX1 148 "HotBeds$Beds" "paid" "[I", Cond.fieldLink RX1 151 "HotBeds$Beds" "entries" "[I", Cond.fieldLink RX1 68 "HotBeds$Beds" "sleeper" "[I", Cond.methodLink RX1 136 yX2_lieOnFloor, Cond.instanceMethod yX2_lieOnFloor, Cond.selects RX2 yX2_lieOnFloor yX2_lieOnFloor, Cond.code yX2_lieOnFloor cX2_lieOnFloor 2 none, Cond.fieldLink RX2 32 "HotBeds$Sailors" "place" "[I", Cond.fieldLink RX2 47 "HotBeds$Sailors" "floors" "[I"]
def wsX1_tryBed : List Cond := .code yX1_tryBed cX1_tryBed 5 none :: ((wsX1_tryBed_r1 ++ wsX1_tryBed_r2) ++ wsX10 ++ wsX00 ++ wsX20)
def wsX1_lookForBed_r1 : List Cond := [Cond.fieldLink RX1 29 "HotBeds$House" "sailors" "LHotBeds$Sailors;", Cond.fieldLink RX1 124 "HotBeds$Sailors" "kept" "[I", Cond.fieldLink RX1 22 "HotBeds$House" "beds" "LHotBeds$Beds;", Cond.fieldLink RX1 7 "HotBeds$House" "hour" "I", Cond.methodLink RX1 127 yX0_isFree, Cond.instanceMethod yX0_isFree, Cond.selects RX0 yX0_isFree yX0_isFree, Cond.initialized RX0, Cond.code yX0_isFree cX0_isFree 2 (some .boolean), Cond.fieldLink RX0 26 "HotBeds$Beds" "sleeper" "[I", Cond.methodLink RX0 42 yX0_has, Cond.instanceMethod yX0_has, Cond.selects RX0 yX0_has yX0_has, Cond.code yX0_has cX0_has 2 (some .boolean), Cond.fieldLink RX0 7 "HotBeds$Beds" "size" "I", Cond.methodLink RX1 130 yX0_cheapestFree, Cond.instanceMethod yX0_cheapestFree, Cond.selects RX0 yX0_cheapestFree yX0_cheapestFree, Cond.code yX0_cheapestFree cX0_cheapestFree 3 (some .int), Cond.fieldLink RX0 13 "HotBeds$Beds" "price" "[I", Cond.methodLink RX0 46 yX0_isFree, Cond.methodLink RX1 64 yX0_has, Cond.methodLink RX1 133 yX1_tryBed, Cond.instanceMethod yX1_tryBed]
def wsX1_lookForBed_r2 : List Cond := [Cond.selects RX1 yX1_tryBed yX1_tryBed, Cond.initialized RX1, Cond.code yX1_tryBed cX1_tryBed 5 none, Cond.fieldLink RX1 139 "HotBeds$Beds" "price" "[I", Cond.fieldLink RX1 84 "HotBeds$Sailors" "purse" "[I", Cond.fieldLink RX1 16 "HotBeds$House" "pawn" "I", Cond.methodLink RX1 81 yX2_hasBoots, Cond.instanceMethod yX2_hasBoots, Cond.selects RX2 yX2_hasBoots yX2_hasBoots, Cond.initialized RX2, Cond.code yX2_hasBoots cX2_hasBoots 2 (some .boolean), Cond.fieldLink RX2 26 "HotBeds$Sailors" "boots" "[I", Cond.methodLink RX1 142 yX1_pawnBoots, Cond.instanceMethod yX1_pawnBoots, Cond.selects RX1 yX1_pawnBoots yX1_pawnBoots, Cond.code yX1_pawnBoots cX1_pawnBoots 2 none, Cond.fieldLink RX1 74 "HotBeds$Sailors" "boots" "[I", Cond.methodLink RX1 77 yX2_earn, Cond.instanceMethod yX2_earn, Cond.selects RX2 yX2_earn yX2_earn, Cond.code yX2_earn cX2_earn 3 none, Cond.fieldLink RX2 23 "HotBeds$Sailors" "purse" "[I", Cond.methodLink RX2 65 Lib.Math.min.name, Cond.static Lib.Math.min.name]
def wsX1_lookForBed_r3 : List Cond := [Cond.initialized "java/lang/Math", Cond.code Lib.Math.min.name Lib.Math.min.code 2 (some .int), Cond.methodLink RX1 145 yX1_getInto, Cond.instanceMethod yX1_getInto, Cond.selects RX1 yX1_getInto yX1_getInto, Cond.code yX1_getInto cX1_getInto 4 none, Cond.fieldLink RX1 71 "HotBeds$Sailors" "place" "[I", Cond.fieldLink RX1 61 "HotBeds$Sailors" "bed" "[I", Cond.fieldLink RX1 148 "HotBeds$Beds" "paid" "[I", Cond.fieldLink RX1 151 "HotBeds$Beds" "entries" "[I", Cond.fieldLink RX1 68 "HotBeds$Beds" "sleeper" "[I", Cond.methodLink RX1 136 yX2_lieOnFloor, Cond.instanceMethod yX2_lieOnFloor, Cond.selects RX2 yX2_lieOnFloor yX2_lieOnFloor, Cond.code yX2_lieOnFloor cX2_lieOnFloor 2 none, Cond.fieldLink RX2 32 "HotBeds$Sailors" "place" "[I", Cond.fieldLink RX2 47 "HotBeds$Sailors" "floors" "[I"]
def wsX1_lookForBed : List Cond := .code yX1_lookForBed cX1_lookForBed 4 none :: ((wsX1_lookForBed_r1 ++ (wsX1_lookForBed_r2 ++ wsX1_lookForBed_r3)) ++ wsX10 ++ wsX20 ++ wsX00)
def wsX1_serve_r1 : List Cond := [Cond.fieldLink RX1 7 "HotBeds$House" "hour" "I", Cond.fieldLink RX1 29 "HotBeds$House" "sailors" "LHotBeds$Sailors;", Cond.methodLink RX1 90 yX1_isInWatch, Cond.instanceMethod yX1_isInWatch, Cond.selects RX1 yX1_isInWatch yX1_isInWatch, Cond.initialized RX1, Cond.code yX1_isInWatch cX1_isInWatch 2 (some .boolean), Cond.fieldLink RX1 105 "HotBeds$Sailors" "watch" "[I", Cond.methodLink RX1 108 yX1_watchNow, Cond.instanceMethod yX1_watchNow, Cond.selects RX1 yX1_watchNow yX1_watchNow, Cond.code yX1_watchNow cX1_watchNow 1 (some .int), Cond.methodLink RX1 112 yX2_payWage, Cond.instanceMethod yX2_payWage, Cond.selects RX2 yX2_payWage yX2_payWage, Cond.initialized RX2, Cond.code yX2_payWage cX2_payWage 3 none, Cond.fieldLink RX2 20 "HotBeds$Sailors" "wage" "[I", Cond.fieldLink RX2 44 "HotBeds$Sailors" "lateSincePay" "[I", Cond.methodLink RX2 75 Lib.Math.max.name, Cond.static Lib.Math.max.name, Cond.initialized "java/lang/Math", Cond.code Lib.Math.max.name Lib.Math.max.code 2 (some .int), Cond.methodLink RX2 71 yX2_hasBoots]
def wsX1_serve_r2 : List Cond := [Cond.instanceMethod yX2_hasBoots, Cond.selects RX2 yX2_hasBoots yX2_hasBoots, Cond.code yX2_hasBoots cX2_hasBoots 2 (some .boolean), Cond.fieldLink RX2 26 "HotBeds$Sailors" "boots" "[I", Cond.methodLink RX2 78 yX2_earn, Cond.instanceMethod yX2_earn, Cond.selects RX2 yX2_earn yX2_earn, Cond.code yX2_earn cX2_earn 3 none, Cond.fieldLink RX2 23 "HotBeds$Sailors" "purse" "[I", Cond.methodLink RX2 65 Lib.Math.min.name, Cond.static Lib.Math.min.name, Cond.code Lib.Math.min.name Lib.Math.min.code 2 (some .int), Cond.methodLink RX1 115 yX1_canRedeemBoots, Cond.instanceMethod yX1_canRedeemBoots, Cond.selects RX1 yX1_canRedeemBoots yX1_canRedeemBoots, Cond.code yX1_canRedeemBoots cX1_canRedeemBoots 2 (some .boolean), Cond.fieldLink RX1 84 "HotBeds$Sailors" "purse" "[I", Cond.fieldLink RX1 16 "HotBeds$House" "pawn" "I", Cond.methodLink RX1 81 yX2_hasBoots, Cond.methodLink RX1 118 yX1_redeemBoots, Cond.instanceMethod yX1_redeemBoots, Cond.selects RX1 yX1_redeemBoots yX1_redeemBoots, Cond.code yX1_redeemBoots cX1_redeemBoots 2 none, Cond.fieldLink RX1 74 "HotBeds$Sailors" "boots" "[I"]
def wsX1_serve_r3 : List Cond := [Cond.methodLink RX1 87 yX2_isUp, Cond.instanceMethod yX2_isUp, Cond.selects RX2 yX2_isUp yX2_isUp, Cond.code yX2_isUp cX2_isUp 2 (some .boolean), Cond.fieldLink RX2 32 "HotBeds$Sailors" "place" "[I", Cond.methodLink RX1 121 yX1_lookForBed, Cond.instanceMethod yX1_lookForBed, Cond.selects RX1 yX1_lookForBed yX1_lookForBed, Cond.code yX1_lookForBed cX1_lookForBed 4 none, Cond.fieldLink RX1 124 "HotBeds$Sailors" "kept" "[I", Cond.fieldLink RX1 22 "HotBeds$House" "beds" "LHotBeds$Beds;", Cond.methodLink RX1 127 yX0_isFree, Cond.instanceMethod yX0_isFree, Cond.selects RX0 yX0_isFree yX0_isFree, Cond.initialized RX0, Cond.code yX0_isFree cX0_isFree 2 (some .boolean), Cond.fieldLink RX0 26 "HotBeds$Beds" "sleeper" "[I", Cond.methodLink RX0 42 yX0_has, Cond.instanceMethod yX0_has, Cond.selects RX0 yX0_has yX0_has, Cond.code yX0_has cX0_has 2 (some .boolean), Cond.fieldLink RX0 7 "HotBeds$Beds" "size" "I", Cond.methodLink RX1 130 yX0_cheapestFree, Cond.instanceMethod yX0_cheapestFree]
def wsX1_serve_r4 : List Cond := [Cond.selects RX0 yX0_cheapestFree yX0_cheapestFree, Cond.code yX0_cheapestFree cX0_cheapestFree 3 (some .int), Cond.fieldLink RX0 13 "HotBeds$Beds" "price" "[I", Cond.methodLink RX0 46 yX0_isFree, Cond.methodLink RX1 64 yX0_has, Cond.methodLink RX1 133 yX1_tryBed, Cond.instanceMethod yX1_tryBed, Cond.selects RX1 yX1_tryBed yX1_tryBed, Cond.code yX1_tryBed cX1_tryBed 5 none, Cond.fieldLink RX1 139 "HotBeds$Beds" "price" "[I", Cond.methodLink RX1 142 yX1_pawnBoots, Cond.instanceMethod yX1_pawnBoots, Cond.selects RX1 yX1_pawnBoots yX1_pawnBoots, Cond.code yX1_pawnBoots cX1_pawnBoots 2 none, Cond.methodLink RX1 77 yX2_earn, Cond.methodLink RX1 145 yX1_getInto, Cond.instanceMethod yX1_getInto, Cond.selects RX1 yX1_getInto yX1_getInto, Cond.code yX1_getInto cX1_getInto 4 none, Cond.fieldLink RX1 71 "HotBeds$Sailors" "place" "[I", Cond.fieldLink RX1 61 "HotBeds$Sailors" "bed" "[I", Cond.fieldLink RX1 148 "HotBeds$Beds" "paid" "[I", Cond.fieldLink RX1 151 "HotBeds$Beds" "entries" "[I", Cond.fieldLink RX1 68 "HotBeds$Beds" "sleeper" "[I"]
def wsX1_serve_r5 : List Cond := [Cond.methodLink RX1 136 yX2_lieOnFloor, Cond.instanceMethod yX2_lieOnFloor, Cond.selects RX2 yX2_lieOnFloor yX2_lieOnFloor, Cond.code yX2_lieOnFloor cX2_lieOnFloor 2 none, Cond.fieldLink RX2 47 "HotBeds$Sailors" "floors" "[I"]
def wsX1_serve : List Cond := .code yX1_serve cX1_serve 2 none :: ((wsX1_serve_r1 ++ (wsX1_serve_r2 ++ (wsX1_serve_r3 ++ (wsX1_serve_r4 ++ wsX1_serve_r5)))) ++ wsX10 ++ wsX20 ++ wsX00)
def wsX1_restOfHour : List Cond := .code yX1_restOfHour cX1_restOfHour 2 (some .int) :: ([.fieldLink RX1 29 "HotBeds$House" "sailors" "LHotBeds$Sailors;", .fieldLink RX1 71 "HotBeds$Sailors" "place" "[I", .fieldLink RX1 22 "HotBeds$House" "beds" "LHotBeds$Beds;", .fieldLink RX1 61 "HotBeds$Sailors" "bed" "[I", .fieldLink RX1 7 "HotBeds$House" "hour" "I", .methodLink RX1 154 yX0_isWarm, .instanceMethod yX0_isWarm, .selects RX0 yX0_isWarm yX0_isWarm, .initialized RX0, .code yX0_isWarm cX0_isWarm 2 (some .boolean), .fieldLink RX0 17 "HotBeds$Beds" "warmth" "[I", .methodLink RX0 42 yX0_has, .instanceMethod yX0_has, .selects RX0 yX0_has yX0_has, .code yX0_has cX0_has 2 (some .boolean), .fieldLink RX0 7 "HotBeds$Beds" "size" "I"] ++ wsX10 ++ wsX20 ++ wsX00)
def wsX1_goOn_r1 : List Cond := [Cond.fieldLink RX1 29 "HotBeds$House" "sailors" "LHotBeds$Sailors;", Cond.fieldLink RX1 40 "HotBeds$Sailors" "size" "I", Cond.fieldLink RX1 50 "HotBeds$Sailors" "rest" "[I", Cond.fieldLink RX1 22 "HotBeds$House" "beds" "LHotBeds$Beds;", Cond.fieldLink RX1 7 "HotBeds$House" "hour" "I", Cond.methodLink RX1 43 yX1_ringBell, Cond.instanceMethod yX1_ringBell, Cond.selects RX1 yX1_ringBell yX1_ringBell, Cond.initialized RX1, Cond.code yX1_ringBell cX1_ringBell 3 none, Cond.fieldLink RX1 13 "HotBeds$House" "bell" "I", Cond.fieldLink RX1 96 "HotBeds$Sailors" "heavy" "[I", Cond.methodLink RX1 87 yX2_isUp, Cond.instanceMethod yX2_isUp, Cond.selects RX2 yX2_isUp yX2_isUp, Cond.initialized RX2, Cond.code yX2_isUp cX2_isUp 2 (some .boolean), Cond.fieldLink RX2 32 "HotBeds$Sailors" "place" "[I", Cond.methodLink RX1 90 yX1_isInWatch, Cond.instanceMethod yX1_isInWatch, Cond.selects RX1 yX1_isInWatch yX1_isInWatch, Cond.code yX1_isInWatch cX1_isInWatch 2 (some .boolean), Cond.fieldLink RX1 105 "HotBeds$Sailors" "watch" "[I", Cond.methodLink RX1 108 yX1_watchNow]
def wsX1_goOn_r2 : List Cond := [Cond.instanceMethod yX1_watchNow, Cond.selects RX1 yX1_watchNow yX1_watchNow, Cond.code yX1_watchNow cX1_watchNow 1 (some .int), Cond.methodLink RX1 93 yX1_hoursSinceWatch, Cond.instanceMethod yX1_hoursSinceWatch, Cond.selects RX1 yX1_hoursSinceWatch yX1_hoursSinceWatch, Cond.code yX1_hoursSinceWatch cX1_hoursSinceWatch 3 (some .int), Cond.methodLink RX1 99 yX1_getUp, Cond.instanceMethod yX1_getUp, Cond.selects RX1 yX1_getUp yX1_getUp, Cond.code yX1_getUp cX1_getUp 3 none, Cond.fieldLink RX1 61 "HotBeds$Sailors" "bed" "[I", Cond.fieldLink RX1 68 "HotBeds$Beds" "sleeper" "[I", Cond.fieldLink RX1 71 "HotBeds$Sailors" "place" "[I", Cond.methodLink RX1 64 yX0_has, Cond.instanceMethod yX0_has, Cond.selects RX0 yX0_has yX0_has, Cond.initialized RX0, Cond.code yX0_has cX0_has 2 (some .boolean), Cond.fieldLink RX0 7 "HotBeds$Beds" "size" "I", Cond.methodLink RX1 102 yX2_beLate, Cond.instanceMethod yX2_beLate, Cond.selects RX2 yX2_beLate yX2_beLate, Cond.code yX2_beLate cX2_beLate 2 none]
def wsX1_goOn_r3 : List Cond := [Cond.fieldLink RX2 41 "HotBeds$Sailors" "late" "[I", Cond.fieldLink RX2 44 "HotBeds$Sailors" "lateSincePay" "[I", Cond.methodLink RX1 47 yX1_serve, Cond.instanceMethod yX1_serve, Cond.selects RX1 yX1_serve yX1_serve, Cond.code yX1_serve cX1_serve 2 none, Cond.methodLink RX1 112 yX2_payWage, Cond.instanceMethod yX2_payWage, Cond.selects RX2 yX2_payWage yX2_payWage, Cond.code yX2_payWage cX2_payWage 3 none, Cond.fieldLink RX2 20 "HotBeds$Sailors" "wage" "[I", Cond.methodLink RX2 75 Lib.Math.max.name, Cond.static Lib.Math.max.name, Cond.initialized "java/lang/Math", Cond.code Lib.Math.max.name Lib.Math.max.code 2 (some .int), Cond.methodLink RX2 71 yX2_hasBoots, Cond.instanceMethod yX2_hasBoots, Cond.selects RX2 yX2_hasBoots yX2_hasBoots, Cond.code yX2_hasBoots cX2_hasBoots 2 (some .boolean), Cond.fieldLink RX2 26 "HotBeds$Sailors" "boots" "[I", Cond.methodLink RX2 78 yX2_earn, Cond.instanceMethod yX2_earn, Cond.selects RX2 yX2_earn yX2_earn, Cond.code yX2_earn cX2_earn 3 none]
def wsX1_goOn_r4 : List Cond := [Cond.fieldLink RX2 23 "HotBeds$Sailors" "purse" "[I", Cond.methodLink RX2 65 Lib.Math.min.name, Cond.static Lib.Math.min.name, Cond.code Lib.Math.min.name Lib.Math.min.code 2 (some .int), Cond.methodLink RX1 115 yX1_canRedeemBoots, Cond.instanceMethod yX1_canRedeemBoots, Cond.selects RX1 yX1_canRedeemBoots yX1_canRedeemBoots, Cond.code yX1_canRedeemBoots cX1_canRedeemBoots 2 (some .boolean), Cond.fieldLink RX1 84 "HotBeds$Sailors" "purse" "[I", Cond.fieldLink RX1 16 "HotBeds$House" "pawn" "I", Cond.methodLink RX1 81 yX2_hasBoots, Cond.methodLink RX1 118 yX1_redeemBoots, Cond.instanceMethod yX1_redeemBoots, Cond.selects RX1 yX1_redeemBoots yX1_redeemBoots, Cond.code yX1_redeemBoots cX1_redeemBoots 2 none, Cond.fieldLink RX1 74 "HotBeds$Sailors" "boots" "[I", Cond.methodLink RX1 121 yX1_lookForBed, Cond.instanceMethod yX1_lookForBed, Cond.selects RX1 yX1_lookForBed yX1_lookForBed, Cond.code yX1_lookForBed cX1_lookForBed 4 none, Cond.fieldLink RX1 124 "HotBeds$Sailors" "kept" "[I", Cond.methodLink RX1 127 yX0_isFree, Cond.instanceMethod yX0_isFree, Cond.selects RX0 yX0_isFree yX0_isFree]
def wsX1_goOn_r5 : List Cond := [Cond.code yX0_isFree cX0_isFree 2 (some .boolean), Cond.fieldLink RX0 26 "HotBeds$Beds" "sleeper" "[I", Cond.methodLink RX0 42 yX0_has, Cond.methodLink RX1 130 yX0_cheapestFree, Cond.instanceMethod yX0_cheapestFree, Cond.selects RX0 yX0_cheapestFree yX0_cheapestFree, Cond.code yX0_cheapestFree cX0_cheapestFree 3 (some .int), Cond.fieldLink RX0 13 "HotBeds$Beds" "price" "[I", Cond.methodLink RX0 46 yX0_isFree, Cond.methodLink RX1 133 yX1_tryBed, Cond.instanceMethod yX1_tryBed, Cond.selects RX1 yX1_tryBed yX1_tryBed, Cond.code yX1_tryBed cX1_tryBed 5 none, Cond.fieldLink RX1 139 "HotBeds$Beds" "price" "[I", Cond.methodLink RX1 142 yX1_pawnBoots, Cond.instanceMethod yX1_pawnBoots, Cond.selects RX1 yX1_pawnBoots yX1_pawnBoots, Cond.code yX1_pawnBoots cX1_pawnBoots 2 none, Cond.methodLink RX1 77 yX2_earn, Cond.methodLink RX1 145 yX1_getInto, Cond.instanceMethod yX1_getInto, Cond.selects RX1 yX1_getInto yX1_getInto, Cond.code yX1_getInto cX1_getInto 4 none, Cond.fieldLink RX1 148 "HotBeds$Beds" "paid" "[I"]
def wsX1_goOn_r6 : List Cond := [Cond.fieldLink RX1 151 "HotBeds$Beds" "entries" "[I", Cond.methodLink RX1 136 yX2_lieOnFloor, Cond.instanceMethod yX2_lieOnFloor, Cond.selects RX2 yX2_lieOnFloor yX2_lieOnFloor, Cond.code yX2_lieOnFloor cX2_lieOnFloor 2 none, Cond.fieldLink RX2 47 "HotBeds$Sailors" "floors" "[I", Cond.methodLink RX1 54 yX1_restOfHour, Cond.instanceMethod yX1_restOfHour, Cond.selects RX1 yX1_restOfHour yX1_restOfHour, Cond.code yX1_restOfHour cX1_restOfHour 2 (some .int), Cond.methodLink RX1 154 yX0_isWarm, Cond.instanceMethod yX0_isWarm, Cond.selects RX0 yX0_isWarm yX0_isWarm, Cond.code yX0_isWarm cX0_isWarm 2 (some .boolean), Cond.fieldLink RX0 17 "HotBeds$Beds" "warmth" "[I", Cond.methodLink RX1 58 yX0_changeWarmth, Cond.instanceMethod yX0_changeWarmth, Cond.selects RX0 yX0_changeWarmth yX0_changeWarmth, Cond.code yX0_changeWarmth cX0_changeWarmth 2 none, Cond.methodLink RX0 49 Lib.Math.max.name, Cond.methodLink RX0 55 Lib.Math.min.name]
def wsX1_goOn : List Cond := .code yX1_goOn cX1_goOn 4 none :: ((wsX1_goOn_r1 ++ (wsX1_goOn_r2 ++ (wsX1_goOn_r3 ++ (wsX1_goOn_r4 ++ (wsX1_goOn_r5 ++ wsX1_goOn_r6))))) ++ wsX10 ++ wsX20 ++ wsX00)
def wsX2_add : List Cond := .code yX2_add cX2_add 6 (some .int) :: ([.classLink RX2 50 "java/lang/IllegalStateException", .initialized "java/lang/IllegalStateException", .fieldLink RX2 7 "HotBeds$Sailors" "size" "I", .fieldLink RX2 13 "HotBeds$Sailors" "watch" "[I", .fieldLink RX2 17 "HotBeds$Sailors" "heavy" "[I", .fieldLink RX2 20 "HotBeds$Sailors" "wage" "[I", .fieldLink RX2 23 "HotBeds$Sailors" "purse" "[I", .fieldLink RX2 26 "HotBeds$Sailors" "boots" "[I", .fieldLink RX2 29 "HotBeds$Sailors" "kept" "[I", .fieldLink RX2 32 "HotBeds$Sailors" "place" "[I", .fieldLink RX2 35 "HotBeds$Sailors" "bed" "[I"] ++ wsX20 ++ (vx_atS RX2 54 "java/lang/IllegalStateException" ["java/lang/RuntimeException", "java/lang/Exception"]).filter goodWord)
def wsX2_howManyAt : List Cond := .code yX2_howManyAt cX2_howManyAt 4 (some .int) :: ([.fieldLink RX2 7 "HotBeds$Sailors" "size" "I", .fieldLink RX2 32 "HotBeds$Sailors" "place" "[I"] ++ wsX20)
def wsX2_sum : List Cond := .code yX2_sum cX2_sum 4 (some .int) :: ([.fieldLink RX2 7 "HotBeds$Sailors" "size" "I"] ++ wsX20)
def wsX2_allRest : List Cond := .code yX2_allRest cX2_allRest 1 (some .int) :: ([.fieldLink RX2 38 "HotBeds$Sailors" "rest" "[I", .methodLink RX2 82 yX2_sum, .instanceMethod yX2_sum, .selects RX2 yX2_sum yX2_sum, .initialized RX2, .code yX2_sum cX2_sum 4 (some .int), .fieldLink RX2 7 "HotBeds$Sailors" "size" "I"] ++ wsX20)
def wsX2_allLate : List Cond := .code yX2_allLate cX2_allLate 1 (some .int) :: ([.fieldLink RX2 41 "HotBeds$Sailors" "late" "[I", .methodLink RX2 82 yX2_sum, .instanceMethod yX2_sum, .selects RX2 yX2_sum yX2_sum, .initialized RX2, .code yX2_sum cX2_sum 4 (some .int), .fieldLink RX2 7 "HotBeds$Sailors" "size" "I"] ++ wsX20)
def wsX2_allFloors : List Cond := .code yX2_allFloors cX2_allFloors 1 (some .int) :: ([.fieldLink RX2 47 "HotBeds$Sailors" "floors" "[I", .methodLink RX2 82 yX2_sum, .instanceMethod yX2_sum, .selects RX2 yX2_sum yX2_sum, .initialized RX2, .code yX2_sum cX2_sum 4 (some .int), .fieldLink RX2 7 "HotBeds$Sailors" "size" "I"] ++ wsX20)
def wsX3_init_r1 : List Cond := [Cond.methodLink RX3 1 objectInit, Cond.instanceMethod objectInit, Cond.code objectInit ⟨#[0xb1]⟩ 1 none, Cond.classLink RX3 7 RX1, Cond.instantiable RX1 5, Cond.initialized RX1, Cond.fieldLink RX3 10 "HotBeds" "house" "LHotBeds$House;", Cond.fieldLink RX3 16 "HotBeds" "trial" "LHotBeds$House;", Cond.instanceMethod yX1_init, Cond.code yX1_init cX1_init 1 none, Cond.methodLink RX1 1 objectInit, Cond.fieldLink RX1 7 "HotBeds$House" "hour" "I", Cond.fieldLink RX1 13 "HotBeds$House" "bell" "I", Cond.fieldLink RX1 16 "HotBeds$House" "pawn" "I", Cond.classLink RX1 19 RX0, Cond.instantiable RX0 6, Cond.initialized RX0, Cond.fieldLink RX1 22 "HotBeds$House" "beds" "LHotBeds$Beds;", Cond.classLink RX1 26 RX2, Cond.instantiable RX2 13, Cond.initialized RX2, Cond.fieldLink RX1 29 "HotBeds$House" "sailors" "LHotBeds$Sailors;", Cond.instanceMethod yX0_init, Cond.code yX0_init cX0_init 1 none]
def wsX3_init_r2 : List Cond := [Cond.methodLink RX0 1 objectInit, Cond.fieldLink RX0 7 "HotBeds$Beds" "size" "I", Cond.arrayClass .int, Cond.fieldLink RX0 13 "HotBeds$Beds" "price" "[I", Cond.fieldLink RX0 17 "HotBeds$Beds" "warmth" "[I", Cond.fieldLink RX0 20 "HotBeds$Beds" "entries" "[I", Cond.fieldLink RX0 23 "HotBeds$Beds" "paid" "[I", Cond.fieldLink RX0 26 "HotBeds$Beds" "sleeper" "[I", Cond.instanceMethod yX2_init, Cond.code yX2_init cX2_init 1 none, Cond.methodLink RX2 1 objectInit, Cond.fieldLink RX2 7 "HotBeds$Sailors" "size" "I", Cond.fieldLink RX2 13 "HotBeds$Sailors" "watch" "[I", Cond.fieldLink RX2 17 "HotBeds$Sailors" "heavy" "[I", Cond.fieldLink RX2 20 "HotBeds$Sailors" "wage" "[I", Cond.fieldLink RX2 23 "HotBeds$Sailors" "purse" "[I", Cond.fieldLink RX2 26 "HotBeds$Sailors" "boots" "[I", Cond.fieldLink RX2 29 "HotBeds$Sailors" "kept" "[I", Cond.fieldLink RX2 32 "HotBeds$Sailors" "place" "[I", Cond.fieldLink RX2 35 "HotBeds$Sailors" "bed" "[I", Cond.fieldLink RX2 38 "HotBeds$Sailors" "rest" "[I", Cond.fieldLink RX2 41 "HotBeds$Sailors" "late" "[I", Cond.fieldLink RX2 44 "HotBeds$Sailors" "lateSincePay" "[I", Cond.fieldLink RX2 47 "HotBeds$Sailors" "floors" "[I"]
def wsX3_init : List Cond := .code yX3_init cX3_init 1 none :: ((wsX3_init_r1 ++ wsX3_init_r2) ++ wsX10 ++ wsX30 ++ wsX00 ++ wsX20)
def wsX3_bed : List Cond := .code yX3_bed cX3_bed 2 (some .int) :: ([.classLink RX3 19 "java/lang/IllegalArgumentException", .initialized "java/lang/IllegalArgumentException", .fieldLink RX3 10 "HotBeds" "house" "LHotBeds$House;", .fieldLink RX3 26 "HotBeds$House" "beds" "LHotBeds$Beds;", .methodLink RX3 30 yX0_add, .instanceMethod yX0_add, .selects RX0 yX0_add yX0_add, .initialized RX0, .code yX0_add cX0_add 3 (some .int), .classLink RX0 29 "java/lang/IllegalStateException", .initialized "java/lang/IllegalStateException", .fieldLink RX0 7 "HotBeds$Beds" "size" "I", .fieldLink RX0 13 "HotBeds$Beds" "price" "[I", .fieldLink RX0 26 "HotBeds$Beds" "sleeper" "[I"] ++ wsX30 ++ wsX10 ++ wsX00 ++ (vx_atS RX3 23 "java/lang/IllegalArgumentException" ["java/lang/RuntimeException", "java/lang/Exception"]).filter goodWord ++ (vx_atS RX0 33 "java/lang/IllegalStateException" ["java/lang/RuntimeException", "java/lang/Exception"]).filter goodWord)
def wsX3_requireWatch : List Cond := .code yX3_requireWatch cX3_requireWatch 1 none :: ([.classLink RX3 153 "java/lang/IndexOutOfBoundsException", .initialized "java/lang/IndexOutOfBoundsException"] ++ (vx_atS RX3 157 "java/lang/IndexOutOfBoundsException" ["java/lang/RuntimeException", "java/lang/Exception"]).filter goodWord)
def wsX3_sailor_r1 : List Cond := [Cond.classLink RX3 19 "java/lang/IllegalArgumentException", Cond.initialized "java/lang/IllegalArgumentException", Cond.fieldLink RX3 10 "HotBeds" "house" "LHotBeds$House;", Cond.fieldLink RX3 48 "HotBeds$House" "sailors" "LHotBeds$Sailors;", Cond.methodLink RX3 36 yX3_requireWatch, Cond.static yX3_requireWatch, Cond.initialized RX3, Cond.code yX3_requireWatch cX3_requireWatch 1 none, Cond.classLink RX3 153 "java/lang/IndexOutOfBoundsException", Cond.initialized "java/lang/IndexOutOfBoundsException", Cond.methodLink RX3 52 yX2_add, Cond.instanceMethod yX2_add, Cond.selects RX2 yX2_add yX2_add, Cond.initialized RX2, Cond.code yX2_add cX2_add 6 (some .int), Cond.classLink RX2 50 "java/lang/IllegalStateException", Cond.initialized "java/lang/IllegalStateException", Cond.fieldLink RX2 7 "HotBeds$Sailors" "size" "I", Cond.fieldLink RX2 13 "HotBeds$Sailors" "watch" "[I", Cond.fieldLink RX2 17 "HotBeds$Sailors" "heavy" "[I", Cond.fieldLink RX2 20 "HotBeds$Sailors" "wage" "[I", Cond.fieldLink RX2 23 "HotBeds$Sailors" "purse" "[I", Cond.fieldLink RX2 26 "HotBeds$Sailors" "boots" "[I", Cond.fieldLink RX2 29 "HotBeds$Sailors" "kept" "[I"]
def wsX3_sailor_r2 : List Cond := [Cond.fieldLink RX2 32 "HotBeds$Sailors" "place" "[I", Cond.fieldLink RX2 35 "HotBeds$Sailors" "bed" "[I"]
def wsX3_sailor : List Cond := .code yX3_sailor cX3_sailor 5 (some .int) :: ((wsX3_sailor_r1 ++ wsX3_sailor_r2) ++ wsX30 ++ wsX10 ++ wsX20 ++ (vx_atS RX3 23 "java/lang/IllegalArgumentException" ["java/lang/RuntimeException", "java/lang/Exception"]).filter goodWord ++ (vx_atS RX3 157 "java/lang/IndexOutOfBoundsException" ["java/lang/RuntimeException", "java/lang/Exception"]).filter goodWord ++ (vx_atS RX2 54 "java/lang/IllegalStateException" ["java/lang/RuntimeException", "java/lang/Exception"]).filter goodWord)
def wsX3_requireSailor : List Cond := .code yX3_requireSailor cX3_requireSailor 2 none :: ([.classLink RX3 153 "java/lang/IndexOutOfBoundsException", .initialized "java/lang/IndexOutOfBoundsException", .fieldLink RX3 10 "HotBeds" "house" "LHotBeds$House;", .fieldLink RX3 48 "HotBeds$House" "sailors" "LHotBeds$Sailors;", .fieldLink RX3 181 "HotBeds$Sailors" "size" "I"] ++ wsX30 ++ wsX10 ++ wsX20 ++ (vx_atS RX3 157 "java/lang/IndexOutOfBoundsException" ["java/lang/RuntimeException", "java/lang/Exception"]).filter goodWord)
def wsX3_requireBed : List Cond := .code yX3_requireBed cX3_requireBed 2 none :: ([.classLink RX3 153 "java/lang/IndexOutOfBoundsException", .initialized "java/lang/IndexOutOfBoundsException", .fieldLink RX3 10 "HotBeds" "house" "LHotBeds$House;", .fieldLink RX3 26 "HotBeds$House" "beds" "LHotBeds$Beds;", .methodLink RX3 216 yX0_has, .instanceMethod yX0_has, .selects RX0 yX0_has yX0_has, .initialized RX0, .code yX0_has cX0_has 2 (some .boolean), .fieldLink RX0 7 "HotBeds$Beds" "size" "I"] ++ wsX30 ++ wsX10 ++ wsX00 ++ (vx_atS RX3 157 "java/lang/IndexOutOfBoundsException" ["java/lang/RuntimeException", "java/lang/Exception"]).filter goodWord)
def wsX3_keep : List Cond := .code yX3_keep cX3_keep 4 (some .int) :: ([.fieldLink RX3 10 "HotBeds" "house" "LHotBeds$House;", .fieldLink RX3 48 "HotBeds$House" "sailors" "LHotBeds$Sailors;", .fieldLink RX3 61 "HotBeds$Sailors" "kept" "[I", .methodLink RX3 55 yX3_requireSailor, .instanceMethod yX3_requireSailor, .selects RX3 yX3_requireSailor yX3_requireSailor, .initialized RX3, .code yX3_requireSailor cX3_requireSailor 2 none, .classLink RX3 153 "java/lang/IndexOutOfBoundsException", .initialized "java/lang/IndexOutOfBoundsException", .fieldLink RX3 181 "HotBeds$Sailors" "size" "I", .methodLink RX3 58 yX3_requireBed, .instanceMethod yX3_requireBed, .selects RX3 yX3_requireBed yX3_requireBed, .code yX3_requireBed cX3_requireBed 2 none, .fieldLink RX3 26 "HotBeds$House" "beds" "LHotBeds$Beds;", .methodLink RX3 216 yX0_has, .instanceMethod yX0_has, .selects RX0 yX0_has yX0_has, .initialized RX0, .code yX0_has cX0_has 2 (some .boolean), .fieldLink RX0 7 "HotBeds$Beds" "size" "I"] ++ wsX30 ++ wsX10 ++ wsX20 ++ wsX00 ++ (vx_atS RX3 157 "java/lang/IndexOutOfBoundsException" ["java/lang/RuntimeException", "java/lang/Exception"]).filter goodWord)
def wsX3_setBell : List Cond := .code yX3_setBell cX3_setBell 3 (some .int) :: ([.classLink RX3 19 "java/lang/IllegalArgumentException", .initialized "java/lang/IllegalArgumentException", .fieldLink RX3 10 "HotBeds" "house" "LHotBeds$House;", .fieldLink RX3 67 "HotBeds$House" "bell" "I"] ++ wsX30 ++ wsX10 ++ (vx_atS RX3 23 "java/lang/IllegalArgumentException" ["java/lang/RuntimeException", "java/lang/Exception"]).filter goodWord)
def wsX3_setPawn : List Cond := .code yX3_setPawn cX3_setPawn 3 (some .int) :: ([.classLink RX3 19 "java/lang/IllegalArgumentException", .initialized "java/lang/IllegalArgumentException", .fieldLink RX3 10 "HotBeds" "house" "LHotBeds$House;", .fieldLink RX3 73 "HotBeds$House" "pawn" "I"] ++ wsX30 ++ wsX10 ++ (vx_atS RX3 23 "java/lang/IllegalArgumentException" ["java/lang/RuntimeException", "java/lang/Exception"]).filter goodWord)
def wsX3_give : List Cond := .code yX3_give cX3_give 3 (some .int) :: ([.classLink RX3 19 "java/lang/IllegalArgumentException", .initialized "java/lang/IllegalArgumentException", .fieldLink RX3 10 "HotBeds" "house" "LHotBeds$House;", .fieldLink RX3 48 "HotBeds$House" "sailors" "LHotBeds$Sailors;", .fieldLink RX3 82 "HotBeds$Sailors" "purse" "[I", .methodLink RX3 55 yX3_requireSailor, .instanceMethod yX3_requireSailor, .selects RX3 yX3_requireSailor yX3_requireSailor, .initialized RX3, .code yX3_requireSailor cX3_requireSailor 2 none, .classLink RX3 153 "java/lang/IndexOutOfBoundsException", .initialized "java/lang/IndexOutOfBoundsException", .fieldLink RX3 181 "HotBeds$Sailors" "size" "I", .methodLink RX3 78 yX2_earn, .instanceMethod yX2_earn, .selects RX2 yX2_earn yX2_earn, .initialized RX2, .code yX2_earn cX2_earn 3 none, .fieldLink RX2 23 "HotBeds$Sailors" "purse" "[I", .methodLink RX2 65 Lib.Math.min.name, .static Lib.Math.min.name, .initialized "java/lang/Math", .code Lib.Math.min.name Lib.Math.min.code 2 (some .int)] ++ wsX30 ++ wsX10 ++ wsX20 ++ (vx_atS RX3 23 "java/lang/IllegalArgumentException" ["java/lang/RuntimeException", "java/lang/Exception"]).filter goodWord ++ (vx_atS RX3 157 "java/lang/IndexOutOfBoundsException" ["java/lang/RuntimeException", "java/lang/Exception"]).filter goodWord)
def wsX3_pawn_r1 : List Cond := [Cond.classLink RX3 89 "java/lang/IllegalStateException", Cond.initialized "java/lang/IllegalStateException", Cond.fieldLink RX3 10 "HotBeds" "house" "LHotBeds$House;", Cond.fieldLink RX3 48 "HotBeds$House" "sailors" "LHotBeds$Sailors;", Cond.fieldLink RX3 82 "HotBeds$Sailors" "purse" "[I", Cond.methodLink RX3 55 yX3_requireSailor, Cond.instanceMethod yX3_requireSailor, Cond.selects RX3 yX3_requireSailor yX3_requireSailor, Cond.initialized RX3, Cond.code yX3_requireSailor cX3_requireSailor 2 none, Cond.classLink RX3 153 "java/lang/IndexOutOfBoundsException", Cond.initialized "java/lang/IndexOutOfBoundsException", Cond.fieldLink RX3 181 "HotBeds$Sailors" "size" "I", Cond.methodLink RX3 85 yX2_hasBoots, Cond.instanceMethod yX2_hasBoots, Cond.selects RX2 yX2_hasBoots yX2_hasBoots, Cond.initialized RX2, Cond.code yX2_hasBoots cX2_hasBoots 2 (some .boolean), Cond.fieldLink RX2 26 "HotBeds$Sailors" "boots" "[I", Cond.methodLink RX3 94 yX1_pawnBoots, Cond.instanceMethod yX1_pawnBoots, Cond.selects RX1 yX1_pawnBoots yX1_pawnBoots, Cond.initialized RX1, Cond.code yX1_pawnBoots cX1_pawnBoots 2 none]
def wsX3_pawn_r2 : List Cond := [Cond.fieldLink RX1 29 "HotBeds$House" "sailors" "LHotBeds$Sailors;", Cond.fieldLink RX1 74 "HotBeds$Sailors" "boots" "[I", Cond.fieldLink RX1 16 "HotBeds$House" "pawn" "I", Cond.methodLink RX1 77 yX2_earn, Cond.instanceMethod yX2_earn, Cond.selects RX2 yX2_earn yX2_earn, Cond.code yX2_earn cX2_earn 3 none, Cond.fieldLink RX2 23 "HotBeds$Sailors" "purse" "[I", Cond.methodLink RX2 65 Lib.Math.min.name, Cond.static Lib.Math.min.name, Cond.initialized "java/lang/Math", Cond.code Lib.Math.min.name Lib.Math.min.code 2 (some .int)]
def wsX3_pawn : List Cond := .code yX3_pawn cX3_pawn 2 (some .int) :: ((wsX3_pawn_r1 ++ wsX3_pawn_r2) ++ wsX30 ++ wsX10 ++ wsX20 ++ (vx_atS RX3 93 "java/lang/IllegalStateException" ["java/lang/RuntimeException", "java/lang/Exception"]).filter goodWord ++ (vx_atS RX3 157 "java/lang/IndexOutOfBoundsException" ["java/lang/RuntimeException", "java/lang/Exception"]).filter goodWord)
def wsX3_redeem_r1 : List Cond := [Cond.classLink RX3 89 "java/lang/IllegalStateException", Cond.initialized "java/lang/IllegalStateException", Cond.fieldLink RX3 10 "HotBeds" "house" "LHotBeds$House;", Cond.fieldLink RX3 48 "HotBeds$House" "sailors" "LHotBeds$Sailors;", Cond.fieldLink RX3 82 "HotBeds$Sailors" "purse" "[I", Cond.methodLink RX3 55 yX3_requireSailor, Cond.instanceMethod yX3_requireSailor, Cond.selects RX3 yX3_requireSailor yX3_requireSailor, Cond.initialized RX3, Cond.code yX3_requireSailor cX3_requireSailor 2 none, Cond.classLink RX3 153 "java/lang/IndexOutOfBoundsException", Cond.initialized "java/lang/IndexOutOfBoundsException", Cond.fieldLink RX3 181 "HotBeds$Sailors" "size" "I", Cond.methodLink RX3 97 yX1_canRedeemBoots, Cond.instanceMethod yX1_canRedeemBoots, Cond.selects RX1 yX1_canRedeemBoots yX1_canRedeemBoots, Cond.initialized RX1, Cond.code yX1_canRedeemBoots cX1_canRedeemBoots 2 (some .boolean), Cond.fieldLink RX1 29 "HotBeds$House" "sailors" "LHotBeds$Sailors;", Cond.fieldLink RX1 84 "HotBeds$Sailors" "purse" "[I", Cond.fieldLink RX1 16 "HotBeds$House" "pawn" "I", Cond.methodLink RX1 81 yX2_hasBoots, Cond.instanceMethod yX2_hasBoots, Cond.selects RX2 yX2_hasBoots yX2_hasBoots]
def wsX3_redeem_r2 : List Cond := [Cond.initialized RX2, Cond.code yX2_hasBoots cX2_hasBoots 2 (some .boolean), Cond.fieldLink RX2 26 "HotBeds$Sailors" "boots" "[I", Cond.methodLink RX3 102 yX1_redeemBoots, Cond.instanceMethod yX1_redeemBoots, Cond.selects RX1 yX1_redeemBoots yX1_redeemBoots, Cond.code yX1_redeemBoots cX1_redeemBoots 2 none, Cond.fieldLink RX1 74 "HotBeds$Sailors" "boots" "[I"]
def wsX3_redeem : List Cond := .code yX3_redeem cX3_redeem 2 (some .int) :: ((wsX3_redeem_r1 ++ wsX3_redeem_r2) ++ wsX30 ++ wsX10 ++ wsX20 ++ (vx_atS RX3 93 "java/lang/IllegalStateException" ["java/lang/RuntimeException", "java/lang/Exception"]).filter goodWord ++ (vx_atS RX3 157 "java/lang/IndexOutOfBoundsException" ["java/lang/RuntimeException", "java/lang/Exception"]).filter goodWord)
def wsX3_call_r1 : List Cond := [Cond.classLink RX3 89 "java/lang/IllegalStateException", Cond.initialized "java/lang/IllegalStateException", Cond.fieldLink RX3 10 "HotBeds" "house" "LHotBeds$House;", Cond.fieldLink RX3 48 "HotBeds$House" "sailors" "LHotBeds$Sailors;", Cond.fieldLink RX3 110 "HotBeds$Sailors" "bed" "[I", Cond.methodLink RX3 55 yX3_requireSailor, Cond.instanceMethod yX3_requireSailor, Cond.selects RX3 yX3_requireSailor yX3_requireSailor, Cond.initialized RX3, Cond.code yX3_requireSailor cX3_requireSailor 2 none, Cond.classLink RX3 153 "java/lang/IndexOutOfBoundsException", Cond.initialized "java/lang/IndexOutOfBoundsException", Cond.fieldLink RX3 181 "HotBeds$Sailors" "size" "I", Cond.methodLink RX3 105 yX2_isUp, Cond.instanceMethod yX2_isUp, Cond.selects RX2 yX2_isUp yX2_isUp, Cond.initialized RX2, Cond.code yX2_isUp cX2_isUp 2 (some .boolean), Cond.fieldLink RX2 32 "HotBeds$Sailors" "place" "[I", Cond.methodLink RX3 113 yX1_getUp, Cond.instanceMethod yX1_getUp, Cond.selects RX1 yX1_getUp yX1_getUp, Cond.initialized RX1, Cond.code yX1_getUp cX1_getUp 3 none]
def wsX3_call_r2 : List Cond := [Cond.fieldLink RX1 29 "HotBeds$House" "sailors" "LHotBeds$Sailors;", Cond.fieldLink RX1 61 "HotBeds$Sailors" "bed" "[I", Cond.fieldLink RX1 22 "HotBeds$House" "beds" "LHotBeds$Beds;", Cond.fieldLink RX1 68 "HotBeds$Beds" "sleeper" "[I", Cond.fieldLink RX1 71 "HotBeds$Sailors" "place" "[I", Cond.methodLink RX1 64 yX0_has, Cond.instanceMethod yX0_has, Cond.selects RX0 yX0_has yX0_has, Cond.initialized RX0, Cond.code yX0_has cX0_has 2 (some .boolean), Cond.fieldLink RX0 7 "HotBeds$Beds" "size" "I"]
def wsX3_call : List Cond := .code yX3_call cX3_call 3 (some .int) :: ((wsX3_call_r1 ++ wsX3_call_r2) ++ wsX30 ++ wsX10 ++ wsX20 ++ wsX00 ++ (vx_atS RX3 93 "java/lang/IllegalStateException" ["java/lang/RuntimeException", "java/lang/Exception"]).filter goodWord ++ (vx_atS RX3 157 "java/lang/IndexOutOfBoundsException" ["java/lang/RuntimeException", "java/lang/Exception"]).filter goodWord)
def wsX3_requireUp : List Cond := .code yX3_requireUp cX3_requireUp 2 none :: ([.classLink RX3 89 "java/lang/IllegalStateException", .initialized "java/lang/IllegalStateException", .fieldLink RX3 10 "HotBeds" "house" "LHotBeds$House;", .fieldLink RX3 48 "HotBeds$House" "sailors" "LHotBeds$Sailors;", .methodLink RX3 105 yX2_isUp, .instanceMethod yX2_isUp, .selects RX2 yX2_isUp yX2_isUp, .initialized RX2, .code yX2_isUp cX2_isUp 2 (some .boolean), .fieldLink RX2 32 "HotBeds$Sailors" "place" "[I"] ++ wsX30 ++ wsX10 ++ wsX20 ++ (vx_atS RX3 93 "java/lang/IllegalStateException" ["java/lang/RuntimeException", "java/lang/Exception"]).filter goodWord)
def wsX3_shift_r1 : List Cond := [Cond.fieldLink RX3 10 "HotBeds" "house" "LHotBeds$House;", Cond.fieldLink RX3 48 "HotBeds$House" "sailors" "LHotBeds$Sailors;", Cond.fieldLink RX3 119 "HotBeds$Sailors" "watch" "[I", Cond.methodLink RX3 55 yX3_requireSailor, Cond.instanceMethod yX3_requireSailor, Cond.selects RX3 yX3_requireSailor yX3_requireSailor, Cond.initialized RX3, Cond.code yX3_requireSailor cX3_requireSailor 2 none, Cond.classLink RX3 153 "java/lang/IndexOutOfBoundsException", Cond.initialized "java/lang/IndexOutOfBoundsException", Cond.fieldLink RX3 181 "HotBeds$Sailors" "size" "I", Cond.methodLink RX3 36 yX3_requireWatch, Cond.static yX3_requireWatch, Cond.code yX3_requireWatch cX3_requireWatch 1 none, Cond.methodLink RX3 116 yX3_requireUp, Cond.instanceMethod yX3_requireUp, Cond.selects RX3 yX3_requireUp yX3_requireUp, Cond.code yX3_requireUp cX3_requireUp 2 none, Cond.classLink RX3 89 "java/lang/IllegalStateException", Cond.initialized "java/lang/IllegalStateException", Cond.methodLink RX3 105 yX2_isUp, Cond.instanceMethod yX2_isUp, Cond.selects RX2 yX2_isUp yX2_isUp, Cond.initialized RX2]
def wsX3_shift_r2 : List Cond := [Cond.code yX2_isUp cX2_isUp 2 (some .boolean), Cond.fieldLink RX2 32 "HotBeds$Sailors" "place" "[I"]
def wsX3_shift : List Cond := .code yX3_shift cX3_shift 4 (some .int) :: ((wsX3_shift_r1 ++ wsX3_shift_r2) ++ wsX30 ++ wsX10 ++ wsX20 ++ (vx_atS RX3 157 "java/lang/IndexOutOfBoundsException" ["java/lang/RuntimeException", "java/lang/Exception"]).filter goodWord ++ (vx_atS RX3 93 "java/lang/IllegalStateException" ["java/lang/RuntimeException", "java/lang/Exception"]).filter goodWord)
def wsX3_requireHours : List Cond := .code yX3_requireHours cX3_requireHours 1 none :: ([.classLink RX3 19 "java/lang/IllegalArgumentException", .initialized "java/lang/IllegalArgumentException"] ++ (vx_atS RX3 23 "java/lang/IllegalArgumentException" ["java/lang/RuntimeException", "java/lang/Exception"]).filter goodWord)
def wsX3_pass_r1 : List Cond := [Cond.fieldLink RX3 10 "HotBeds" "house" "LHotBeds$House;", Cond.fieldLink RX3 48 "HotBeds$House" "sailors" "LHotBeds$Sailors;", Cond.methodLink RX3 122 yX3_requireHours, Cond.static yX3_requireHours, Cond.initialized RX3, Cond.code yX3_requireHours cX3_requireHours 1 none, Cond.classLink RX3 19 "java/lang/IllegalArgumentException", Cond.initialized "java/lang/IllegalArgumentException", Cond.methodLink RX3 125 yX2_allFloors, Cond.instanceMethod yX2_allFloors, Cond.selects RX2 yX2_allFloors yX2_allFloors, Cond.initialized RX2, Cond.code yX2_allFloors cX2_allFloors 1 (some .int), Cond.fieldLink RX2 47 "HotBeds$Sailors" "floors" "[I", Cond.methodLink RX2 82 yX2_sum, Cond.instanceMethod yX2_sum, Cond.selects RX2 yX2_sum yX2_sum, Cond.code yX2_sum cX2_sum 4 (some .int), Cond.fieldLink RX2 7 "HotBeds$Sailors" "size" "I", Cond.methodLink RX3 129 yX1_goOn, Cond.instanceMethod yX1_goOn, Cond.selects RX1 yX1_goOn yX1_goOn, Cond.initialized RX1, Cond.code yX1_goOn cX1_goOn 4 none]
def wsX3_pass_r2 : List Cond := [Cond.fieldLink RX1 29 "HotBeds$House" "sailors" "LHotBeds$Sailors;", Cond.fieldLink RX1 40 "HotBeds$Sailors" "size" "I", Cond.fieldLink RX1 50 "HotBeds$Sailors" "rest" "[I", Cond.fieldLink RX1 22 "HotBeds$House" "beds" "LHotBeds$Beds;", Cond.fieldLink RX1 7 "HotBeds$House" "hour" "I", Cond.methodLink RX1 43 yX1_ringBell, Cond.instanceMethod yX1_ringBell, Cond.selects RX1 yX1_ringBell yX1_ringBell, Cond.code yX1_ringBell cX1_ringBell 3 none, Cond.fieldLink RX1 13 "HotBeds$House" "bell" "I", Cond.fieldLink RX1 96 "HotBeds$Sailors" "heavy" "[I", Cond.methodLink RX1 87 yX2_isUp, Cond.instanceMethod yX2_isUp, Cond.selects RX2 yX2_isUp yX2_isUp, Cond.code yX2_isUp cX2_isUp 2 (some .boolean), Cond.fieldLink RX2 32 "HotBeds$Sailors" "place" "[I", Cond.methodLink RX1 90 yX1_isInWatch, Cond.instanceMethod yX1_isInWatch, Cond.selects RX1 yX1_isInWatch yX1_isInWatch, Cond.code yX1_isInWatch cX1_isInWatch 2 (some .boolean), Cond.fieldLink RX1 105 "HotBeds$Sailors" "watch" "[I", Cond.methodLink RX1 108 yX1_watchNow, Cond.instanceMethod yX1_watchNow, Cond.selects RX1 yX1_watchNow yX1_watchNow]
def wsX3_pass_r3 : List Cond := [Cond.code yX1_watchNow cX1_watchNow 1 (some .int), Cond.methodLink RX1 93 yX1_hoursSinceWatch, Cond.instanceMethod yX1_hoursSinceWatch, Cond.selects RX1 yX1_hoursSinceWatch yX1_hoursSinceWatch, Cond.code yX1_hoursSinceWatch cX1_hoursSinceWatch 3 (some .int), Cond.methodLink RX1 99 yX1_getUp, Cond.instanceMethod yX1_getUp, Cond.selects RX1 yX1_getUp yX1_getUp, Cond.code yX1_getUp cX1_getUp 3 none, Cond.fieldLink RX1 61 "HotBeds$Sailors" "bed" "[I", Cond.fieldLink RX1 68 "HotBeds$Beds" "sleeper" "[I", Cond.fieldLink RX1 71 "HotBeds$Sailors" "place" "[I", Cond.methodLink RX1 64 yX0_has, Cond.instanceMethod yX0_has, Cond.selects RX0 yX0_has yX0_has, Cond.initialized RX0, Cond.code yX0_has cX0_has 2 (some .boolean), Cond.fieldLink RX0 7 "HotBeds$Beds" "size" "I", Cond.methodLink RX1 102 yX2_beLate, Cond.instanceMethod yX2_beLate, Cond.selects RX2 yX2_beLate yX2_beLate, Cond.code yX2_beLate cX2_beLate 2 none, Cond.fieldLink RX2 41 "HotBeds$Sailors" "late" "[I", Cond.fieldLink RX2 44 "HotBeds$Sailors" "lateSincePay" "[I"]
def wsX3_pass_r4 : List Cond := [Cond.methodLink RX1 47 yX1_serve, Cond.instanceMethod yX1_serve, Cond.selects RX1 yX1_serve yX1_serve, Cond.code yX1_serve cX1_serve 2 none, Cond.methodLink RX1 112 yX2_payWage, Cond.instanceMethod yX2_payWage, Cond.selects RX2 yX2_payWage yX2_payWage, Cond.code yX2_payWage cX2_payWage 3 none, Cond.fieldLink RX2 20 "HotBeds$Sailors" "wage" "[I", Cond.methodLink RX2 75 Lib.Math.max.name, Cond.static Lib.Math.max.name, Cond.initialized "java/lang/Math", Cond.code Lib.Math.max.name Lib.Math.max.code 2 (some .int), Cond.methodLink RX2 71 yX2_hasBoots, Cond.instanceMethod yX2_hasBoots, Cond.selects RX2 yX2_hasBoots yX2_hasBoots, Cond.code yX2_hasBoots cX2_hasBoots 2 (some .boolean), Cond.fieldLink RX2 26 "HotBeds$Sailors" "boots" "[I", Cond.methodLink RX2 78 yX2_earn, Cond.instanceMethod yX2_earn, Cond.selects RX2 yX2_earn yX2_earn, Cond.code yX2_earn cX2_earn 3 none, Cond.fieldLink RX2 23 "HotBeds$Sailors" "purse" "[I", Cond.methodLink RX2 65 Lib.Math.min.name]
def wsX3_pass_r5 : List Cond := [Cond.static Lib.Math.min.name, Cond.code Lib.Math.min.name Lib.Math.min.code 2 (some .int), Cond.methodLink RX1 115 yX1_canRedeemBoots, Cond.instanceMethod yX1_canRedeemBoots, Cond.selects RX1 yX1_canRedeemBoots yX1_canRedeemBoots, Cond.code yX1_canRedeemBoots cX1_canRedeemBoots 2 (some .boolean), Cond.fieldLink RX1 84 "HotBeds$Sailors" "purse" "[I", Cond.fieldLink RX1 16 "HotBeds$House" "pawn" "I", Cond.methodLink RX1 81 yX2_hasBoots, Cond.methodLink RX1 118 yX1_redeemBoots, Cond.instanceMethod yX1_redeemBoots, Cond.selects RX1 yX1_redeemBoots yX1_redeemBoots, Cond.code yX1_redeemBoots cX1_redeemBoots 2 none, Cond.fieldLink RX1 74 "HotBeds$Sailors" "boots" "[I", Cond.methodLink RX1 121 yX1_lookForBed, Cond.instanceMethod yX1_lookForBed, Cond.selects RX1 yX1_lookForBed yX1_lookForBed, Cond.code yX1_lookForBed cX1_lookForBed 4 none, Cond.fieldLink RX1 124 "HotBeds$Sailors" "kept" "[I", Cond.methodLink RX1 127 yX0_isFree, Cond.instanceMethod yX0_isFree, Cond.selects RX0 yX0_isFree yX0_isFree, Cond.code yX0_isFree cX0_isFree 2 (some .boolean), Cond.fieldLink RX0 26 "HotBeds$Beds" "sleeper" "[I"]
def wsX3_pass_r6 : List Cond := [Cond.methodLink RX0 42 yX0_has, Cond.methodLink RX1 130 yX0_cheapestFree, Cond.instanceMethod yX0_cheapestFree, Cond.selects RX0 yX0_cheapestFree yX0_cheapestFree, Cond.code yX0_cheapestFree cX0_cheapestFree 3 (some .int), Cond.fieldLink RX0 13 "HotBeds$Beds" "price" "[I", Cond.methodLink RX0 46 yX0_isFree, Cond.methodLink RX1 133 yX1_tryBed, Cond.instanceMethod yX1_tryBed, Cond.selects RX1 yX1_tryBed yX1_tryBed, Cond.code yX1_tryBed cX1_tryBed 5 none, Cond.fieldLink RX1 139 "HotBeds$Beds" "price" "[I", Cond.methodLink RX1 142 yX1_pawnBoots, Cond.instanceMethod yX1_pawnBoots, Cond.selects RX1 yX1_pawnBoots yX1_pawnBoots, Cond.code yX1_pawnBoots cX1_pawnBoots 2 none, Cond.methodLink RX1 77 yX2_earn, Cond.methodLink RX1 145 yX1_getInto, Cond.instanceMethod yX1_getInto, Cond.selects RX1 yX1_getInto yX1_getInto, Cond.code yX1_getInto cX1_getInto 4 none, Cond.fieldLink RX1 148 "HotBeds$Beds" "paid" "[I", Cond.fieldLink RX1 151 "HotBeds$Beds" "entries" "[I", Cond.methodLink RX1 136 yX2_lieOnFloor]
def wsX3_pass_r7 : List Cond := [Cond.instanceMethod yX2_lieOnFloor, Cond.selects RX2 yX2_lieOnFloor yX2_lieOnFloor, Cond.code yX2_lieOnFloor cX2_lieOnFloor 2 none, Cond.methodLink RX1 54 yX1_restOfHour, Cond.instanceMethod yX1_restOfHour, Cond.selects RX1 yX1_restOfHour yX1_restOfHour, Cond.code yX1_restOfHour cX1_restOfHour 2 (some .int), Cond.methodLink RX1 154 yX0_isWarm, Cond.instanceMethod yX0_isWarm, Cond.selects RX0 yX0_isWarm yX0_isWarm, Cond.code yX0_isWarm cX0_isWarm 2 (some .boolean), Cond.fieldLink RX0 17 "HotBeds$Beds" "warmth" "[I", Cond.methodLink RX1 58 yX0_changeWarmth, Cond.instanceMethod yX0_changeWarmth, Cond.selects RX0 yX0_changeWarmth yX0_changeWarmth, Cond.code yX0_changeWarmth cX0_changeWarmth 2 none, Cond.methodLink RX0 49 Lib.Math.max.name, Cond.methodLink RX0 55 Lib.Math.min.name]
def wsX3_pass : List Cond := .code yX3_pass cX3_pass 3 (some .int) :: ((wsX3_pass_r1 ++ (wsX3_pass_r2 ++ (wsX3_pass_r3 ++ (wsX3_pass_r4 ++ (wsX3_pass_r5 ++ (wsX3_pass_r6 ++ wsX3_pass_r7)))))) ++ wsX30 ++ wsX10 ++ wsX20 ++ wsX00 ++ (vx_atS RX3 23 "java/lang/IllegalArgumentException" ["java/lang/RuntimeException", "java/lang/Exception"]).filter goodWord)
def wsX3_told : List Cond := .code yX3_told cX3_told 4 (some .int) :: ([.classLink RX3 153 "java/lang/IndexOutOfBoundsException", .initialized "java/lang/IndexOutOfBoundsException", .fieldLink RX3 10 "HotBeds" "house" "LHotBeds$House;", .fieldLink RX3 48 "HotBeds$House" "sailors" "LHotBeds$Sailors;", .fieldLink RX3 119 "HotBeds$Sailors" "watch" "[I", .fieldLink RX3 132 "HotBeds$Sailors" "heavy" "[I", .fieldLink RX3 135 "HotBeds$Sailors" "wage" "[I", .fieldLink RX3 82 "HotBeds$Sailors" "purse" "[I", .fieldLink RX3 138 "HotBeds$Sailors" "boots" "[I", .fieldLink RX3 61 "HotBeds$Sailors" "kept" "[I", .fieldLink RX3 141 "HotBeds$Sailors" "place" "[I", .fieldLink RX3 110 "HotBeds$Sailors" "bed" "[I", .fieldLink RX3 144 "HotBeds$Sailors" "rest" "[I", .fieldLink RX3 147 "HotBeds$Sailors" "late" "[I", .fieldLink RX3 150 "HotBeds$Sailors" "floors" "[I", .methodLink RX3 55 yX3_requireSailor, .instanceMethod yX3_requireSailor, .selects RX3 yX3_requireSailor yX3_requireSailor, .initialized RX3, .code yX3_requireSailor cX3_requireSailor 2 none, .fieldLink RX3 181 "HotBeds$Sailors" "size" "I"] ++ wsX30 ++ wsX10 ++ wsX20 ++ (vx_atS RX3 157 "java/lang/IndexOutOfBoundsException" ["java/lang/RuntimeException", "java/lang/Exception"]).filter goodWord)
def wsX3_about : List Cond := .code yX3_about cX3_about 4 (some .int) :: ([.classLink RX3 153 "java/lang/IndexOutOfBoundsException", .initialized "java/lang/IndexOutOfBoundsException", .fieldLink RX3 10 "HotBeds" "house" "LHotBeds$House;", .fieldLink RX3 26 "HotBeds$House" "beds" "LHotBeds$Beds;", .fieldLink RX3 158 "HotBeds$Beds" "price" "[I", .fieldLink RX3 161 "HotBeds$Beds" "warmth" "[I", .fieldLink RX3 164 "HotBeds$Beds" "entries" "[I", .fieldLink RX3 167 "HotBeds$Beds" "paid" "[I", .fieldLink RX3 170 "HotBeds$Beds" "sleeper" "[I", .methodLink RX3 58 yX3_requireBed, .instanceMethod yX3_requireBed, .selects RX3 yX3_requireBed yX3_requireBed, .initialized RX3, .code yX3_requireBed cX3_requireBed 2 none, .methodLink RX3 216 yX0_has, .instanceMethod yX0_has, .selects RX0 yX0_has yX0_has, .initialized RX0, .code yX0_has cX0_has 2 (some .boolean), .fieldLink RX0 7 "HotBeds$Beds" "size" "I"] ++ wsX30 ++ wsX10 ++ wsX00 ++ (vx_atS RX3 157 "java/lang/IndexOutOfBoundsException" ["java/lang/RuntimeException", "java/lang/Exception"]).filter goodWord)
def wsX3_count_r1 : List Cond := [Cond.classLink RX3 153 "java/lang/IndexOutOfBoundsException", Cond.initialized "java/lang/IndexOutOfBoundsException", Cond.fieldLink RX3 10 "HotBeds" "house" "LHotBeds$House;", Cond.fieldLink RX3 175 "HotBeds$House" "hour" "I", Cond.fieldLink RX3 26 "HotBeds$House" "beds" "LHotBeds$Beds;", Cond.fieldLink RX3 178 "HotBeds$Beds" "size" "I", Cond.fieldLink RX3 48 "HotBeds$House" "sailors" "LHotBeds$Sailors;", Cond.fieldLink RX3 181 "HotBeds$Sailors" "size" "I", Cond.fieldLink RX3 67 "HotBeds$House" "bell" "I", Cond.fieldLink RX3 73 "HotBeds$House" "pawn" "I", Cond.methodLink RX3 182 yX1_watchNow, Cond.instanceMethod yX1_watchNow, Cond.selects RX1 yX1_watchNow yX1_watchNow, Cond.initialized RX1, Cond.code yX1_watchNow cX1_watchNow 1 (some .int), Cond.fieldLink RX1 7 "HotBeds$House" "hour" "I", Cond.methodLink RX3 185 yX2_howManyAt, Cond.instanceMethod yX2_howManyAt, Cond.selects RX2 yX2_howManyAt yX2_howManyAt, Cond.initialized RX2, Cond.code yX2_howManyAt cX2_howManyAt 4 (some .int), Cond.fieldLink RX2 7 "HotBeds$Sailors" "size" "I", Cond.fieldLink RX2 32 "HotBeds$Sailors" "place" "[I", Cond.methodLink RX3 188 yX2_allLate]
def wsX3_count_r2 : List Cond := [Cond.instanceMethod yX2_allLate, Cond.selects RX2 yX2_allLate yX2_allLate, Cond.code yX2_allLate cX2_allLate 1 (some .int), Cond.fieldLink RX2 41 "HotBeds$Sailors" "late" "[I", Cond.methodLink RX2 82 yX2_sum, Cond.instanceMethod yX2_sum, Cond.selects RX2 yX2_sum yX2_sum, Cond.code yX2_sum cX2_sum 4 (some .int), Cond.methodLink RX3 125 yX2_allFloors, Cond.instanceMethod yX2_allFloors, Cond.selects RX2 yX2_allFloors yX2_allFloors, Cond.code yX2_allFloors cX2_allFloors 1 (some .int), Cond.fieldLink RX2 47 "HotBeds$Sailors" "floors" "[I"]
def wsX3_count : List Cond := .code yX3_count cX3_count 2 (some .int) :: ((wsX3_count_r1 ++ wsX3_count_r2) ++ wsX30 ++ wsX10 ++ wsX00 ++ wsX20 ++ (vx_atS RX3 157 "java/lang/IndexOutOfBoundsException" ["java/lang/RuntimeException", "java/lang/Exception"]).filter goodWord)
def wsX3_mean : List Cond := .code yX3_mean cX3_mean 2 (some .double) :: ([.fieldLink RX3 10 "HotBeds" "house" "LHotBeds$House;", .fieldLink RX3 48 "HotBeds$House" "sailors" "LHotBeds$Sailors;", .fieldLink RX3 181 "HotBeds$Sailors" "size" "I", .methodLink RX3 197 yX2_allRest, .instanceMethod yX2_allRest, .selects RX2 yX2_allRest yX2_allRest, .initialized RX2, .code yX2_allRest cX2_allRest 1 (some .int), .fieldLink RX2 38 "HotBeds$Sailors" "rest" "[I", .methodLink RX2 82 yX2_sum, .instanceMethod yX2_sum, .selects RX2 yX2_sum yX2_sum, .code yX2_sum cX2_sum 4 (some .int), .fieldLink RX2 7 "HotBeds$Sailors" "size" "I"] ++ wsX30 ++ wsX10 ++ wsX20)
def wsX4_init : List Cond := .code yX4_init cX4_init 1 none :: ([.methodLink RX4 1 objectInit, .instanceMethod objectInit, .code objectInit ⟨#[0xb1]⟩ 1 none])
def wsX5_init : List Cond := .code yX5_init cX5_init 1 none :: ([.methodLink RX5 1 objectInit, .instanceMethod objectInit, .code objectInit ⟨#[0xb1]⟩ 1 none, .fieldLink RX5 7 "HotBedsLaw$Sailor" "hasBoots" "Z"] ++ wsX50)
def wsX5_up : List Cond := .code yX5_up cX5_up 1 none :: ([.fieldLink RX5 13 "HotBedsLaw$Sailor" "in" "LHotBedsLaw$Bed;", .fieldLink RX5 17 "HotBedsLaw$Bed" "who" "LHotBedsLaw$Sailor;", .fieldLink RX5 23 "HotBedsLaw$Sailor" "onFloor" "Z"] ++ wsX50 ++ wsX40)
def wsX5_gets : List Cond := .code yX5_gets cX5_gets 2 none :: ([.fieldLink RX5 26 "HotBedsLaw$Sailor" "purse" "I"] ++ wsX50)
def wsX6_init : List Cond := .code yX6_init cX6_init 1 none :: ([.methodLink RX6 1 objectInit, .instanceMethod objectInit, .code objectInit ⟨#[0xb1]⟩ 1 none, .fieldLink RX6 7 "HotBedsLaw$Sim" "bell" "I", .fieldLink RX6 13 "HotBedsLaw$Sim" "pawn" "I", .classLink RX6 16 RX4, .fieldLink RX6 18 "HotBedsLaw$Sim" "beds" "[LHotBedsLaw$Bed;", .classLink RX6 22 RX5, .fieldLink RX6 24 "HotBedsLaw$Sim" "sailors" "[LHotBedsLaw$Sailor;"] ++ wsX60)
def wsX6_free : List Cond := .code yX6_free cX6_free 7 (some (.object "HotBedsLaw$Bed")) :: ([.fieldLink RX6 66 "HotBedsLaw$Sailor" "kept" "LHotBedsLaw$Bed;", .fieldLink RX6 73 "HotBedsLaw$Bed" "who" "LHotBedsLaw$Sailor;", .fieldLink RX6 18 "HotBedsLaw$Sim" "beds" "[LHotBedsLaw$Bed;", .fieldLink RX6 36 "HotBedsLaw$Bed" "price" "I"] ++ wsX50 ++ wsX40 ++ wsX60)
def wsX6_pass_r1 : List Cond := [Cond.fieldLink RX6 29 "HotBedsLaw$Sim" "hour" "I", Cond.fieldLink RX6 24 "HotBedsLaw$Sim" "sailors" "[LHotBedsLaw$Sailor;", Cond.fieldLink RX6 70 "HotBedsLaw$Sailor" "in" "LHotBedsLaw$Bed;", Cond.fieldLink RX6 77 "HotBedsLaw$Sailor" "onFloor" "Z", Cond.fieldLink RX6 50 "HotBedsLaw$Sailor" "watch" "I", Cond.fieldLink RX6 7 "HotBedsLaw$Sim" "bell" "I", Cond.fieldLink RX6 53 "HotBedsLaw$Sailor" "heavy" "I", Cond.fieldLink RX6 83 "HotBedsLaw$Sailor" "late" "I", Cond.fieldLink RX6 86 "HotBedsLaw$Sailor" "since" "I", Cond.fieldLink RX6 62 "HotBedsLaw$Sailor" "hasBoots" "Z", Cond.fieldLink RX6 56 "HotBedsLaw$Sailor" "wage" "I", Cond.fieldLink RX6 59 "HotBedsLaw$Sailor" "purse" "I", Cond.fieldLink RX6 13 "HotBedsLaw$Sim" "pawn" "I", Cond.fieldLink RX6 36 "HotBedsLaw$Bed" "price" "I", Cond.fieldLink RX6 89 "HotBedsLaw$Sailor" "floors" "I", Cond.fieldLink RX6 45 "HotBedsLaw$Bed" "coins" "I", Cond.fieldLink RX6 42 "HotBedsLaw$Bed" "times" "I", Cond.fieldLink RX6 73 "HotBedsLaw$Bed" "who" "LHotBedsLaw$Sailor;", Cond.fieldLink RX6 80 "HotBedsLaw$Sailor" "rest" "I", Cond.fieldLink RX6 39 "HotBedsLaw$Bed" "warmth" "I", Cond.fieldLink RX6 18 "HotBedsLaw$Sim" "beds" "[LHotBedsLaw$Bed;", Cond.methodLink RX6 92 yX5_up, Cond.instanceMethod yX5_up, Cond.selects RX5 yX5_up yX5_up]
def wsX6_pass_r2 : List Cond := [Cond.initialized RX5, Cond.code yX5_up cX5_up 1 none, Cond.fieldLink RX5 13 "HotBedsLaw$Sailor" "in" "LHotBedsLaw$Bed;", Cond.fieldLink RX5 17 "HotBedsLaw$Bed" "who" "LHotBedsLaw$Sailor;", Cond.fieldLink RX5 23 "HotBedsLaw$Sailor" "onFloor" "Z", Cond.methodLink RX6 95 yX5_gets, Cond.instanceMethod yX5_gets, Cond.selects RX5 yX5_gets yX5_gets, Cond.code yX5_gets cX5_gets 2 none, Cond.fieldLink RX5 26 "HotBedsLaw$Sailor" "purse" "I", Cond.methodLink RX6 99 yX6_free, Cond.instanceMethod yX6_free, Cond.selects RX6 yX6_free yX6_free, Cond.initialized RX6, Cond.code yX6_free cX6_free 7 (some (.object "HotBedsLaw$Bed")), Cond.fieldLink RX6 66 "HotBedsLaw$Sailor" "kept" "LHotBedsLaw$Bed;"]
def wsX6_pass : List Cond := .code yX6_pass cX6_pass 9 none :: ((wsX6_pass_r1 ++ wsX6_pass_r2) ++ wsX60 ++ wsX50 ++ wsX40)
def wsX6_behind_r1 : List Cond := [Cond.methodLink RX6 103 yX6_pass, Cond.instanceMethod yX6_pass, Cond.selects RX6 yX6_pass yX6_pass, Cond.initialized RX6, Cond.code yX6_pass cX6_pass 9 none, Cond.fieldLink RX6 29 "HotBedsLaw$Sim" "hour" "I", Cond.fieldLink RX6 24 "HotBedsLaw$Sim" "sailors" "[LHotBedsLaw$Sailor;", Cond.fieldLink RX6 70 "HotBedsLaw$Sailor" "in" "LHotBedsLaw$Bed;", Cond.fieldLink RX6 77 "HotBedsLaw$Sailor" "onFloor" "Z", Cond.fieldLink RX6 50 "HotBedsLaw$Sailor" "watch" "I", Cond.fieldLink RX6 7 "HotBedsLaw$Sim" "bell" "I", Cond.fieldLink RX6 53 "HotBedsLaw$Sailor" "heavy" "I", Cond.fieldLink RX6 83 "HotBedsLaw$Sailor" "late" "I", Cond.fieldLink RX6 86 "HotBedsLaw$Sailor" "since" "I", Cond.fieldLink RX6 62 "HotBedsLaw$Sailor" "hasBoots" "Z", Cond.fieldLink RX6 56 "HotBedsLaw$Sailor" "wage" "I", Cond.fieldLink RX6 59 "HotBedsLaw$Sailor" "purse" "I", Cond.fieldLink RX6 13 "HotBedsLaw$Sim" "pawn" "I", Cond.fieldLink RX6 36 "HotBedsLaw$Bed" "price" "I", Cond.fieldLink RX6 89 "HotBedsLaw$Sailor" "floors" "I", Cond.fieldLink RX6 45 "HotBedsLaw$Bed" "coins" "I", Cond.fieldLink RX6 42 "HotBedsLaw$Bed" "times" "I", Cond.fieldLink RX6 73 "HotBedsLaw$Bed" "who" "LHotBedsLaw$Sailor;", Cond.fieldLink RX6 80 "HotBedsLaw$Sailor" "rest" "I"]
def wsX6_behind_r2 : List Cond := [Cond.fieldLink RX6 39 "HotBedsLaw$Bed" "warmth" "I", Cond.fieldLink RX6 18 "HotBedsLaw$Sim" "beds" "[LHotBedsLaw$Bed;", Cond.methodLink RX6 92 yX5_up, Cond.instanceMethod yX5_up, Cond.selects RX5 yX5_up yX5_up, Cond.initialized RX5, Cond.code yX5_up cX5_up 1 none, Cond.fieldLink RX5 13 "HotBedsLaw$Sailor" "in" "LHotBedsLaw$Bed;", Cond.fieldLink RX5 17 "HotBedsLaw$Bed" "who" "LHotBedsLaw$Sailor;", Cond.fieldLink RX5 23 "HotBedsLaw$Sailor" "onFloor" "Z", Cond.methodLink RX6 95 yX5_gets, Cond.instanceMethod yX5_gets, Cond.selects RX5 yX5_gets yX5_gets, Cond.code yX5_gets cX5_gets 2 none, Cond.fieldLink RX5 26 "HotBedsLaw$Sailor" "purse" "I", Cond.methodLink RX6 99 yX6_free, Cond.instanceMethod yX6_free, Cond.selects RX6 yX6_free yX6_free, Cond.code yX6_free cX6_free 7 (some (.object "HotBedsLaw$Bed")), Cond.fieldLink RX6 66 "HotBedsLaw$Sailor" "kept" "LHotBedsLaw$Bed;"]
def wsX6_behind : List Cond := .code yX6_behind cX6_behind 3 (some (.object "HotBedsLaw$Sim")) :: ((wsX6_behind_r1 ++ wsX6_behind_r2) ++ wsX60 ++ wsX50 ++ wsX40)
def wsX6_sums : List Cond := .code yX6_sums cX6_sums 6 (some (.array .int)) :: ([.arrayClass .int, .fieldLink RX6 24 "HotBedsLaw$Sim" "sailors" "[LHotBedsLaw$Sailor;", .fieldLink RX6 70 "HotBedsLaw$Sailor" "in" "LHotBedsLaw$Bed;", .fieldLink RX6 77 "HotBedsLaw$Sailor" "onFloor" "Z", .fieldLink RX6 83 "HotBedsLaw$Sailor" "late" "I", .fieldLink RX6 89 "HotBedsLaw$Sailor" "floors" "I"] ++ wsX60 ++ wsX50)
def wsX6_isSame_r1 : List Cond := [Cond.arrayClass .int, Cond.fieldLink RX6 29 "HotBedsLaw$Sim" "hour" "I", Cond.fieldLink RX6 18 "HotBedsLaw$Sim" "beds" "[LHotBedsLaw$Bed;", Cond.fieldLink RX6 24 "HotBedsLaw$Sim" "sailors" "[LHotBedsLaw$Sailor;", Cond.fieldLink RX6 7 "HotBedsLaw$Sim" "bell" "I", Cond.fieldLink RX6 13 "HotBedsLaw$Sim" "pawn" "I", Cond.fieldLink RX6 36 "HotBedsLaw$Bed" "price" "I", Cond.fieldLink RX6 39 "HotBedsLaw$Bed" "warmth" "I", Cond.fieldLink RX6 42 "HotBedsLaw$Bed" "times" "I", Cond.fieldLink RX6 45 "HotBedsLaw$Bed" "coins" "I", Cond.fieldLink RX6 73 "HotBedsLaw$Bed" "who" "LHotBedsLaw$Sailor;", Cond.fieldLink RX6 49 "HotBedsLaw$Sailor" "number" "I", Cond.fieldLink RX6 50 "HotBedsLaw$Sailor" "watch" "I", Cond.fieldLink RX6 53 "HotBedsLaw$Sailor" "heavy" "I", Cond.fieldLink RX6 56 "HotBedsLaw$Sailor" "wage" "I", Cond.fieldLink RX6 59 "HotBedsLaw$Sailor" "purse" "I", Cond.fieldLink RX6 62 "HotBedsLaw$Sailor" "hasBoots" "Z", Cond.fieldLink RX6 66 "HotBedsLaw$Sailor" "kept" "LHotBedsLaw$Bed;", Cond.fieldLink RX6 33 "HotBedsLaw$Bed" "number" "I", Cond.fieldLink RX6 70 "HotBedsLaw$Sailor" "in" "LHotBedsLaw$Bed;", Cond.fieldLink RX6 77 "HotBedsLaw$Sailor" "onFloor" "Z", Cond.fieldLink RX6 80 "HotBedsLaw$Sailor" "rest" "I", Cond.fieldLink RX6 83 "HotBedsLaw$Sailor" "late" "I", Cond.fieldLink RX6 89 "HotBedsLaw$Sailor" "floors" "I"]
def wsX6_isSame_r2 : List Cond := [Cond.methodLink RX6 106 yX6_sums, Cond.instanceMethod yX6_sums, Cond.selects RX6 yX6_sums yX6_sums, Cond.initialized RX6, Cond.code yX6_sums cX6_sums 6 (some (.array .int)), Cond.methodLink RX6 110 yX3_count, Cond.instanceMethod yX3_count, Cond.selects RX3 yX3_count yX3_count, Cond.initialized RX3, Cond.code yX3_count cX3_count 2 (some .int), Cond.classLink RX3 153 "java/lang/IndexOutOfBoundsException", Cond.initialized "java/lang/IndexOutOfBoundsException", Cond.fieldLink RX3 10 "HotBeds" "house" "LHotBeds$House;", Cond.fieldLink RX3 175 "HotBeds$House" "hour" "I", Cond.fieldLink RX3 26 "HotBeds$House" "beds" "LHotBeds$Beds;", Cond.fieldLink RX3 178 "HotBeds$Beds" "size" "I", Cond.fieldLink RX3 48 "HotBeds$House" "sailors" "LHotBeds$Sailors;", Cond.fieldLink RX3 181 "HotBeds$Sailors" "size" "I", Cond.fieldLink RX3 67 "HotBeds$House" "bell" "I", Cond.fieldLink RX3 73 "HotBeds$House" "pawn" "I", Cond.methodLink RX3 182 yX1_watchNow, Cond.instanceMethod yX1_watchNow, Cond.selects RX1 yX1_watchNow yX1_watchNow, Cond.initialized RX1]
def wsX6_isSame_r3 : List Cond := [Cond.code yX1_watchNow cX1_watchNow 1 (some .int), Cond.fieldLink RX1 7 "HotBeds$House" "hour" "I", Cond.methodLink RX3 185 yX2_howManyAt, Cond.instanceMethod yX2_howManyAt, Cond.selects RX2 yX2_howManyAt yX2_howManyAt, Cond.initialized RX2, Cond.code yX2_howManyAt cX2_howManyAt 4 (some .int), Cond.fieldLink RX2 7 "HotBeds$Sailors" "size" "I", Cond.fieldLink RX2 32 "HotBeds$Sailors" "place" "[I", Cond.methodLink RX3 188 yX2_allLate, Cond.instanceMethod yX2_allLate, Cond.selects RX2 yX2_allLate yX2_allLate, Cond.code yX2_allLate cX2_allLate 1 (some .int), Cond.fieldLink RX2 41 "HotBeds$Sailors" "late" "[I", Cond.methodLink RX2 82 yX2_sum, Cond.instanceMethod yX2_sum, Cond.selects RX2 yX2_sum yX2_sum, Cond.code yX2_sum cX2_sum 4 (some .int), Cond.methodLink RX3 125 yX2_allFloors, Cond.instanceMethod yX2_allFloors, Cond.selects RX2 yX2_allFloors yX2_allFloors, Cond.code yX2_allFloors cX2_allFloors 1 (some .int), Cond.fieldLink RX2 47 "HotBeds$Sailors" "floors" "[I", Cond.methodLink RX6 116 yX3_about]
def wsX6_isSame_r4 : List Cond := [Cond.instanceMethod yX3_about, Cond.selects RX3 yX3_about yX3_about, Cond.code yX3_about cX3_about 4 (some .int), Cond.fieldLink RX3 158 "HotBeds$Beds" "price" "[I", Cond.fieldLink RX3 161 "HotBeds$Beds" "warmth" "[I", Cond.fieldLink RX3 164 "HotBeds$Beds" "entries" "[I", Cond.fieldLink RX3 167 "HotBeds$Beds" "paid" "[I", Cond.fieldLink RX3 170 "HotBeds$Beds" "sleeper" "[I", Cond.methodLink RX3 58 yX3_requireBed, Cond.instanceMethod yX3_requireBed, Cond.selects RX3 yX3_requireBed yX3_requireBed, Cond.code yX3_requireBed cX3_requireBed 2 none, Cond.methodLink RX3 216 yX0_has, Cond.instanceMethod yX0_has, Cond.selects RX0 yX0_has yX0_has, Cond.initialized RX0, Cond.code yX0_has cX0_has 2 (some .boolean), Cond.fieldLink RX0 7 "HotBeds$Beds" "size" "I", Cond.methodLink RX6 120 yX3_told, Cond.instanceMethod yX3_told, Cond.selects RX3 yX3_told yX3_told, Cond.code yX3_told cX3_told 4 (some .int), Cond.fieldLink RX3 119 "HotBeds$Sailors" "watch" "[I", Cond.fieldLink RX3 132 "HotBeds$Sailors" "heavy" "[I"]
def wsX6_isSame_r5 : List Cond := [Cond.fieldLink RX3 135 "HotBeds$Sailors" "wage" "[I", Cond.fieldLink RX3 82 "HotBeds$Sailors" "purse" "[I", Cond.fieldLink RX3 138 "HotBeds$Sailors" "boots" "[I", Cond.fieldLink RX3 61 "HotBeds$Sailors" "kept" "[I", Cond.fieldLink RX3 141 "HotBeds$Sailors" "place" "[I", Cond.fieldLink RX3 110 "HotBeds$Sailors" "bed" "[I", Cond.fieldLink RX3 144 "HotBeds$Sailors" "rest" "[I", Cond.fieldLink RX3 147 "HotBeds$Sailors" "late" "[I", Cond.fieldLink RX3 150 "HotBeds$Sailors" "floors" "[I", Cond.methodLink RX3 55 yX3_requireSailor, Cond.instanceMethod yX3_requireSailor, Cond.selects RX3 yX3_requireSailor yX3_requireSailor, Cond.code yX3_requireSailor cX3_requireSailor 2 none, Cond.methodLink RX6 123 yX3_mean, Cond.instanceMethod yX3_mean, Cond.selects RX3 yX3_mean yX3_mean, Cond.code yX3_mean cX3_mean 2 (some .double), Cond.methodLink RX3 197 yX2_allRest, Cond.instanceMethod yX2_allRest, Cond.selects RX2 yX2_allRest yX2_allRest, Cond.code yX2_allRest cX2_allRest 1 (some .int), Cond.fieldLink RX2 38 "HotBeds$Sailors" "rest" "[I"]
def wsX6_isSame : List Cond := .code yX6_isSame cX6_isSame 9 (some .boolean) :: ((wsX6_isSame_r1 ++ (wsX6_isSame_r2 ++ (wsX6_isSame_r3 ++ (wsX6_isSame_r4 ++ wsX6_isSame_r5)))) ++ wsX60 ++ wsX40 ++ wsX50 ++ wsX30 ++ wsX10 ++ wsX00 ++ wsX20 ++ (vx_atS RX3 157 "java/lang/IndexOutOfBoundsException" ["java/lang/RuntimeException", "java/lang/Exception"]).filter goodWord)
def wsJ9_max_7cf53 : List Cond := .code yJ9_max_7cf53 cJ9_max_7cf53 2 (some .int) :: ([])
def wsJ9_min_7cf53 : List Cond := .code yJ9_min_7cf53 cJ9_min_7cf53 2 (some .int) :: ([])
def wsL_below : List Cond := .code yL_below cL_below 2 (some .int) :: ([.constant RL 7 (2147483647)])
def wsL_cell : List Cond := .code yL_cell cL_cell 2 (some .int) :: ([.constant RL 8 (790386105)])
def wsL_act_r1 : List Cond := [Cond.fieldLink RL 9 "HotBedsLaw$Sim" "beds" "[LHotBedsLaw$Bed;", Cond.fieldLink RL 15 "HotBedsLaw$Sim" "sailors" "[LHotBedsLaw$Sailor;", Cond.classLink RL 25 RX4, Cond.instantiable RX4 6, Cond.initialized RX4, Cond.fieldLink RL 28 "HotBedsLaw$Bed" "number" "I", Cond.fieldLink RL 32 "HotBedsLaw$Bed" "price" "I", Cond.classLink RL 41 RX5, Cond.instantiable RX5 13, Cond.initialized RX5, Cond.fieldLink RL 44 "HotBedsLaw$Sailor" "number" "I", Cond.fieldLink RL 45 "HotBedsLaw$Sailor" "watch" "I", Cond.fieldLink RL 48 "HotBedsLaw$Sailor" "heavy" "I", Cond.fieldLink RL 51 "HotBedsLaw$Sailor" "wage" "I", Cond.fieldLink RL 54 "HotBedsLaw$Sailor" "purse" "I", Cond.fieldLink RL 61 "HotBedsLaw$Sailor" "kept" "LHotBedsLaw$Bed;", Cond.fieldLink RL 68 "HotBedsLaw$Sim" "bell" "I", Cond.fieldLink RL 74 "HotBedsLaw$Sim" "pawn" "I", Cond.fieldLink RL 87 "HotBedsLaw$Sailor" "hasBoots" "Z", Cond.fieldLink RL 96 "HotBedsLaw$Sailor" "in" "LHotBedsLaw$Bed;", Cond.fieldLink RL 99 "HotBedsLaw$Sailor" "onFloor" "Z", Cond.methodLink RL 19 yL_below, Cond.static yL_below, Cond.initialized RL]
def wsL_act_r2 : List Cond := [Cond.code yL_below cL_below 2 (some .int), Cond.constant RL 7 (2147483647), Cond.instanceMethod yX4_init, Cond.code yX4_init cX4_init 1 none, Cond.methodLink RX4 1 objectInit, Cond.instanceMethod objectInit, Cond.code objectInit ⟨#[0xb1]⟩ 1 none, Cond.methodLink RL 35 yX3_bed, Cond.instanceMethod yX3_bed, Cond.selects RX3 yX3_bed yX3_bed, Cond.initialized RX3, Cond.code yX3_bed cX3_bed 2 (some .int), Cond.classLink RX3 19 "java/lang/IllegalArgumentException", Cond.initialized "java/lang/IllegalArgumentException", Cond.fieldLink RX3 10 "HotBeds" "house" "LHotBeds$House;", Cond.fieldLink RX3 26 "HotBeds$House" "beds" "LHotBeds$Beds;", Cond.methodLink RX3 30 yX0_add, Cond.instanceMethod yX0_add, Cond.selects RX0 yX0_add yX0_add, Cond.initialized RX0, Cond.code yX0_add cX0_add 3 (some .int), Cond.classLink RX0 29 "java/lang/IllegalStateException", Cond.initialized "java/lang/IllegalStateException", Cond.fieldLink RX0 7 "HotBeds$Beds" "size" "I"]
def wsL_act_r3 : List Cond := [Cond.fieldLink RX0 13 "HotBeds$Beds" "price" "[I", Cond.fieldLink RX0 26 "HotBeds$Beds" "sleeper" "[I", Cond.instanceMethod yX5_init, Cond.code yX5_init cX5_init 1 none, Cond.methodLink RX5 1 objectInit, Cond.fieldLink RX5 7 "HotBedsLaw$Sailor" "hasBoots" "Z", Cond.methodLink RL 57 yX3_sailor, Cond.instanceMethod yX3_sailor, Cond.selects RX3 yX3_sailor yX3_sailor, Cond.code yX3_sailor cX3_sailor 5 (some .int), Cond.fieldLink RX3 48 "HotBeds$House" "sailors" "LHotBeds$Sailors;", Cond.methodLink RX3 36 yX3_requireWatch, Cond.static yX3_requireWatch, Cond.code yX3_requireWatch cX3_requireWatch 1 none, Cond.classLink RX3 153 "java/lang/IndexOutOfBoundsException", Cond.initialized "java/lang/IndexOutOfBoundsException", Cond.methodLink RX3 52 yX2_add, Cond.instanceMethod yX2_add, Cond.selects RX2 yX2_add yX2_add, Cond.initialized RX2, Cond.code yX2_add cX2_add 6 (some .int), Cond.classLink RX2 50 "java/lang/IllegalStateException", Cond.fieldLink RX2 7 "HotBeds$Sailors" "size" "I", Cond.fieldLink RX2 13 "HotBeds$Sailors" "watch" "[I"]
def wsL_act_r4 : List Cond := [Cond.fieldLink RX2 17 "HotBeds$Sailors" "heavy" "[I", Cond.fieldLink RX2 20 "HotBeds$Sailors" "wage" "[I", Cond.fieldLink RX2 23 "HotBeds$Sailors" "purse" "[I", Cond.fieldLink RX2 26 "HotBeds$Sailors" "boots" "[I", Cond.fieldLink RX2 29 "HotBeds$Sailors" "kept" "[I", Cond.fieldLink RX2 32 "HotBeds$Sailors" "place" "[I", Cond.fieldLink RX2 35 "HotBeds$Sailors" "bed" "[I", Cond.methodLink RL 65 yX3_keep, Cond.instanceMethod yX3_keep, Cond.selects RX3 yX3_keep yX3_keep, Cond.code yX3_keep cX3_keep 4 (some .int), Cond.fieldLink RX3 61 "HotBeds$Sailors" "kept" "[I", Cond.methodLink RX3 55 yX3_requireSailor, Cond.instanceMethod yX3_requireSailor, Cond.selects RX3 yX3_requireSailor yX3_requireSailor, Cond.code yX3_requireSailor cX3_requireSailor 2 none, Cond.fieldLink RX3 181 "HotBeds$Sailors" "size" "I", Cond.methodLink RX3 58 yX3_requireBed, Cond.instanceMethod yX3_requireBed, Cond.selects RX3 yX3_requireBed yX3_requireBed, Cond.code yX3_requireBed cX3_requireBed 2 none, Cond.methodLink RX3 216 yX0_has, Cond.instanceMethod yX0_has, Cond.selects RX0 yX0_has yX0_has]
def wsL_act_r5 : List Cond := [Cond.code yX0_has cX0_has 2 (some .boolean), Cond.methodLink RL 71 yX3_setBell, Cond.instanceMethod yX3_setBell, Cond.selects RX3 yX3_setBell yX3_setBell, Cond.code yX3_setBell cX3_setBell 3 (some .int), Cond.fieldLink RX3 67 "HotBeds$House" "bell" "I", Cond.methodLink RL 77 yX3_setPawn, Cond.instanceMethod yX3_setPawn, Cond.selects RX3 yX3_setPawn yX3_setPawn, Cond.code yX3_setPawn cX3_setPawn 3 (some .int), Cond.fieldLink RX3 73 "HotBeds$House" "pawn" "I", Cond.methodLink RL 80 yX5_gets, Cond.instanceMethod yX5_gets, Cond.selects RX5 yX5_gets yX5_gets, Cond.code yX5_gets cX5_gets 2 none, Cond.fieldLink RX5 26 "HotBedsLaw$Sailor" "purse" "I", Cond.methodLink RL 84 yX3_give, Cond.instanceMethod yX3_give, Cond.selects RX3 yX3_give yX3_give, Cond.code yX3_give cX3_give 3 (some .int), Cond.fieldLink RX3 82 "HotBeds$Sailors" "purse" "[I", Cond.methodLink RX3 78 yX2_earn, Cond.instanceMethod yX2_earn, Cond.selects RX2 yX2_earn yX2_earn]
def wsL_act_r6 : List Cond := [Cond.code yX2_earn cX2_earn 3 none, Cond.methodLink RX2 65 Lib.Math.min.name, Cond.static Lib.Math.min.name, Cond.initialized "java/lang/Math", Cond.code Lib.Math.min.name Lib.Math.min.code 2 (some .int), Cond.methodLink RL 91 yX3_pawn, Cond.instanceMethod yX3_pawn, Cond.selects RX3 yX3_pawn yX3_pawn, Cond.code yX3_pawn cX3_pawn 2 (some .int), Cond.classLink RX3 89 "java/lang/IllegalStateException", Cond.methodLink RX3 85 yX2_hasBoots, Cond.instanceMethod yX2_hasBoots, Cond.selects RX2 yX2_hasBoots yX2_hasBoots, Cond.code yX2_hasBoots cX2_hasBoots 2 (some .boolean), Cond.methodLink RX3 94 yX1_pawnBoots, Cond.instanceMethod yX1_pawnBoots, Cond.selects RX1 yX1_pawnBoots yX1_pawnBoots, Cond.initialized RX1, Cond.code yX1_pawnBoots cX1_pawnBoots 2 none, Cond.fieldLink RX1 29 "HotBeds$House" "sailors" "LHotBeds$Sailors;", Cond.fieldLink RX1 74 "HotBeds$Sailors" "boots" "[I", Cond.fieldLink RX1 16 "HotBeds$House" "pawn" "I", Cond.methodLink RX1 77 yX2_earn, Cond.methodLink RL 93 yX3_redeem]
def wsL_act_r7 : List Cond := [Cond.instanceMethod yX3_redeem, Cond.selects RX3 yX3_redeem yX3_redeem, Cond.code yX3_redeem cX3_redeem 2 (some .int), Cond.methodLink RX3 97 yX1_canRedeemBoots, Cond.instanceMethod yX1_canRedeemBoots, Cond.selects RX1 yX1_canRedeemBoots yX1_canRedeemBoots, Cond.code yX1_canRedeemBoots cX1_canRedeemBoots 2 (some .boolean), Cond.fieldLink RX1 84 "HotBeds$Sailors" "purse" "[I", Cond.methodLink RX1 81 yX2_hasBoots, Cond.methodLink RX3 102 yX1_redeemBoots, Cond.instanceMethod yX1_redeemBoots, Cond.selects RX1 yX1_redeemBoots yX1_redeemBoots, Cond.code yX1_redeemBoots cX1_redeemBoots 2 none, Cond.methodLink RL 102 yX5_up, Cond.instanceMethod yX5_up, Cond.selects RX5 yX5_up yX5_up, Cond.code yX5_up cX5_up 1 none, Cond.fieldLink RX5 13 "HotBedsLaw$Sailor" "in" "LHotBedsLaw$Bed;", Cond.fieldLink RX5 17 "HotBedsLaw$Bed" "who" "LHotBedsLaw$Sailor;", Cond.fieldLink RX5 23 "HotBedsLaw$Sailor" "onFloor" "Z", Cond.methodLink RL 105 yX3_call, Cond.instanceMethod yX3_call, Cond.selects RX3 yX3_call yX3_call, Cond.code yX3_call cX3_call 3 (some .int)]
def wsL_act_r8 : List Cond := [Cond.fieldLink RX3 110 "HotBeds$Sailors" "bed" "[I", Cond.methodLink RX3 105 yX2_isUp, Cond.instanceMethod yX2_isUp, Cond.selects RX2 yX2_isUp yX2_isUp, Cond.code yX2_isUp cX2_isUp 2 (some .boolean), Cond.methodLink RX3 113 yX1_getUp, Cond.instanceMethod yX1_getUp, Cond.selects RX1 yX1_getUp yX1_getUp, Cond.code yX1_getUp cX1_getUp 3 none, Cond.fieldLink RX1 61 "HotBeds$Sailors" "bed" "[I", Cond.fieldLink RX1 22 "HotBeds$House" "beds" "LHotBeds$Beds;", Cond.fieldLink RX1 68 "HotBeds$Beds" "sleeper" "[I", Cond.fieldLink RX1 71 "HotBeds$Sailors" "place" "[I", Cond.methodLink RX1 64 yX0_has, Cond.methodLink RL 108 yX3_shift, Cond.instanceMethod yX3_shift, Cond.selects RX3 yX3_shift yX3_shift, Cond.code yX3_shift cX3_shift 4 (some .int), Cond.fieldLink RX3 119 "HotBeds$Sailors" "watch" "[I", Cond.methodLink RX3 116 yX3_requireUp, Cond.instanceMethod yX3_requireUp, Cond.selects RX3 yX3_requireUp yX3_requireUp, Cond.code yX3_requireUp cX3_requireUp 2 none, Cond.methodLink RL 111 yX6_sums]
def wsL_act_r9 : List Cond := [Cond.instanceMethod yX6_sums, Cond.selects RX6 yX6_sums yX6_sums, Cond.initialized RX6, Cond.code yX6_sums cX6_sums 6 (some (.array .int)), Cond.arrayClass .int, Cond.fieldLink RX6 24 "HotBedsLaw$Sim" "sailors" "[LHotBedsLaw$Sailor;", Cond.fieldLink RX6 70 "HotBedsLaw$Sailor" "in" "LHotBedsLaw$Bed;", Cond.fieldLink RX6 77 "HotBedsLaw$Sailor" "onFloor" "Z", Cond.fieldLink RX6 83 "HotBedsLaw$Sailor" "late" "I", Cond.fieldLink RX6 89 "HotBedsLaw$Sailor" "floors" "I", Cond.methodLink RL 115 yX6_behind, Cond.instanceMethod yX6_behind, Cond.selects RX6 yX6_behind yX6_behind, Cond.code yX6_behind cX6_behind 3 (some (.object "HotBedsLaw$Sim")), Cond.methodLink RX6 103 yX6_pass, Cond.instanceMethod yX6_pass, Cond.selects RX6 yX6_pass yX6_pass, Cond.code yX6_pass cX6_pass 9 none, Cond.fieldLink RX6 29 "HotBedsLaw$Sim" "hour" "I", Cond.fieldLink RX6 50 "HotBedsLaw$Sailor" "watch" "I", Cond.fieldLink RX6 7 "HotBedsLaw$Sim" "bell" "I", Cond.fieldLink RX6 53 "HotBedsLaw$Sailor" "heavy" "I", Cond.fieldLink RX6 86 "HotBedsLaw$Sailor" "since" "I", Cond.fieldLink RX6 62 "HotBedsLaw$Sailor" "hasBoots" "Z"]
def wsL_act_r10 : List Cond := [Cond.fieldLink RX6 56 "HotBedsLaw$Sailor" "wage" "I", Cond.fieldLink RX6 59 "HotBedsLaw$Sailor" "purse" "I", Cond.fieldLink RX6 13 "HotBedsLaw$Sim" "pawn" "I", Cond.fieldLink RX6 36 "HotBedsLaw$Bed" "price" "I", Cond.fieldLink RX6 45 "HotBedsLaw$Bed" "coins" "I", Cond.fieldLink RX6 42 "HotBedsLaw$Bed" "times" "I", Cond.fieldLink RX6 73 "HotBedsLaw$Bed" "who" "LHotBedsLaw$Sailor;", Cond.fieldLink RX6 80 "HotBedsLaw$Sailor" "rest" "I", Cond.fieldLink RX6 39 "HotBedsLaw$Bed" "warmth" "I", Cond.fieldLink RX6 18 "HotBedsLaw$Sim" "beds" "[LHotBedsLaw$Bed;", Cond.methodLink RX6 92 yX5_up, Cond.methodLink RX6 95 yX5_gets, Cond.methodLink RX6 99 yX6_free, Cond.instanceMethod yX6_free, Cond.selects RX6 yX6_free yX6_free, Cond.code yX6_free cX6_free 7 (some (.object "HotBedsLaw$Bed")), Cond.fieldLink RX6 66 "HotBedsLaw$Sailor" "kept" "LHotBedsLaw$Bed;", Cond.methodLink RL 119 yX3_pass, Cond.instanceMethod yX3_pass, Cond.selects RX3 yX3_pass yX3_pass, Cond.code yX3_pass cX3_pass 3 (some .int), Cond.methodLink RX3 122 yX3_requireHours, Cond.static yX3_requireHours, Cond.code yX3_requireHours cX3_requireHours 1 none]
def wsL_act_r11 : List Cond := [Cond.methodLink RX3 125 yX2_allFloors, Cond.instanceMethod yX2_allFloors, Cond.selects RX2 yX2_allFloors yX2_allFloors, Cond.code yX2_allFloors cX2_allFloors 1 (some .int), Cond.fieldLink RX2 47 "HotBeds$Sailors" "floors" "[I", Cond.methodLink RX2 82 yX2_sum, Cond.instanceMethod yX2_sum, Cond.selects RX2 yX2_sum yX2_sum, Cond.code yX2_sum cX2_sum 4 (some .int), Cond.methodLink RX3 129 yX1_goOn, Cond.instanceMethod yX1_goOn, Cond.selects RX1 yX1_goOn yX1_goOn, Cond.code yX1_goOn cX1_goOn 4 none, Cond.fieldLink RX1 40 "HotBeds$Sailors" "size" "I", Cond.fieldLink RX1 50 "HotBeds$Sailors" "rest" "[I", Cond.fieldLink RX1 7 "HotBeds$House" "hour" "I", Cond.methodLink RX1 43 yX1_ringBell, Cond.instanceMethod yX1_ringBell, Cond.selects RX1 yX1_ringBell yX1_ringBell, Cond.code yX1_ringBell cX1_ringBell 3 none, Cond.fieldLink RX1 13 "HotBeds$House" "bell" "I", Cond.fieldLink RX1 96 "HotBeds$Sailors" "heavy" "[I", Cond.methodLink RX1 87 yX2_isUp, Cond.methodLink RX1 90 yX1_isInWatch]
def wsL_act_r12 : List Cond := [Cond.instanceMethod yX1_isInWatch, Cond.selects RX1 yX1_isInWatch yX1_isInWatch, Cond.code yX1_isInWatch cX1_isInWatch 2 (some .boolean), Cond.fieldLink RX1 105 "HotBeds$Sailors" "watch" "[I", Cond.methodLink RX1 108 yX1_watchNow, Cond.instanceMethod yX1_watchNow, Cond.selects RX1 yX1_watchNow yX1_watchNow, Cond.code yX1_watchNow cX1_watchNow 1 (some .int), Cond.methodLink RX1 93 yX1_hoursSinceWatch, Cond.instanceMethod yX1_hoursSinceWatch, Cond.selects RX1 yX1_hoursSinceWatch yX1_hoursSinceWatch, Cond.code yX1_hoursSinceWatch cX1_hoursSinceWatch 3 (some .int), Cond.methodLink RX1 99 yX1_getUp, Cond.methodLink RX1 102 yX2_beLate, Cond.instanceMethod yX2_beLate, Cond.selects RX2 yX2_beLate yX2_beLate, Cond.code yX2_beLate cX2_beLate 2 none, Cond.fieldLink RX2 41 "HotBeds$Sailors" "late" "[I", Cond.fieldLink RX2 44 "HotBeds$Sailors" "lateSincePay" "[I", Cond.methodLink RX1 47 yX1_serve, Cond.instanceMethod yX1_serve, Cond.selects RX1 yX1_serve yX1_serve, Cond.code yX1_serve cX1_serve 2 none, Cond.methodLink RX1 112 yX2_payWage]
def wsL_act_r13 : List Cond := [Cond.instanceMethod yX2_payWage, Cond.selects RX2 yX2_payWage yX2_payWage, Cond.code yX2_payWage cX2_payWage 3 none, Cond.methodLink RX2 75 Lib.Math.max.name, Cond.static Lib.Math.max.name, Cond.code Lib.Math.max.name Lib.Math.max.code 2 (some .int), Cond.methodLink RX2 71 yX2_hasBoots, Cond.methodLink RX2 78 yX2_earn, Cond.methodLink RX1 115 yX1_canRedeemBoots, Cond.methodLink RX1 118 yX1_redeemBoots, Cond.methodLink RX1 121 yX1_lookForBed, Cond.instanceMethod yX1_lookForBed, Cond.selects RX1 yX1_lookForBed yX1_lookForBed, Cond.code yX1_lookForBed cX1_lookForBed 4 none, Cond.fieldLink RX1 124 "HotBeds$Sailors" "kept" "[I", Cond.methodLink RX1 127 yX0_isFree, Cond.instanceMethod yX0_isFree, Cond.selects RX0 yX0_isFree yX0_isFree, Cond.code yX0_isFree cX0_isFree 2 (some .boolean), Cond.methodLink RX0 42 yX0_has, Cond.methodLink RX1 130 yX0_cheapestFree, Cond.instanceMethod yX0_cheapestFree, Cond.selects RX0 yX0_cheapestFree yX0_cheapestFree, Cond.code yX0_cheapestFree cX0_cheapestFree 3 (some .int)]
def wsL_act_r14 : List Cond := [Cond.methodLink RX0 46 yX0_isFree, Cond.methodLink RX1 133 yX1_tryBed, Cond.instanceMethod yX1_tryBed, Cond.selects RX1 yX1_tryBed yX1_tryBed, Cond.code yX1_tryBed cX1_tryBed 5 none, Cond.fieldLink RX1 139 "HotBeds$Beds" "price" "[I", Cond.methodLink RX1 142 yX1_pawnBoots, Cond.methodLink RX1 145 yX1_getInto, Cond.instanceMethod yX1_getInto, Cond.selects RX1 yX1_getInto yX1_getInto, Cond.code yX1_getInto cX1_getInto 4 none, Cond.fieldLink RX1 148 "HotBeds$Beds" "paid" "[I", Cond.fieldLink RX1 151 "HotBeds$Beds" "entries" "[I", Cond.methodLink RX1 136 yX2_lieOnFloor, Cond.instanceMethod yX2_lieOnFloor, Cond.selects RX2 yX2_lieOnFloor yX2_lieOnFloor, Cond.code yX2_lieOnFloor cX2_lieOnFloor 2 none, Cond.methodLink RX1 54 yX1_restOfHour, Cond.instanceMethod yX1_restOfHour, Cond.selects RX1 yX1_restOfHour yX1_restOfHour, Cond.code yX1_restOfHour cX1_restOfHour 2 (some .int), Cond.methodLink RX1 154 yX0_isWarm, Cond.instanceMethod yX0_isWarm, Cond.selects RX0 yX0_isWarm yX0_isWarm]
def wsL_act_r15 : List Cond := [Cond.code yX0_isWarm cX0_isWarm 2 (some .boolean), Cond.fieldLink RX0 17 "HotBeds$Beds" "warmth" "[I", Cond.methodLink RX1 58 yX0_changeWarmth, Cond.instanceMethod yX0_changeWarmth, Cond.selects RX0 yX0_changeWarmth yX0_changeWarmth, Cond.code yX0_changeWarmth cX0_changeWarmth 2 none, Cond.methodLink RX0 49 Lib.Math.max.name, Cond.methodLink RX0 55 Lib.Math.min.name]
def wsL_act : List Cond := .code yL_act cL_act 16 (some .boolean) :: ((wsL_act_r1 ++ (wsL_act_r2 ++ (wsL_act_r3 ++ (wsL_act_r4 ++ (wsL_act_r5 ++ (wsL_act_r6 ++ (wsL_act_r7 ++ (wsL_act_r8 ++ (wsL_act_r9 ++ (wsL_act_r10 ++ (wsL_act_r11 ++ (wsL_act_r12 ++ (wsL_act_r13 ++ (wsL_act_r14 ++ wsL_act_r15)))))))))))))) ++ wsX60 ++ wsX40 ++ wsX50 ++ wsX30 ++ wsX10 ++ wsX00 ++ wsX20 ++ (vx_atS RX3 23 "java/lang/IllegalArgumentException" ["java/lang/RuntimeException", "java/lang/Exception"]).filter goodWord ++ (vx_atS RX0 33 "java/lang/IllegalStateException" ["java/lang/RuntimeException", "java/lang/Exception"]).filter goodWord ++ (vx_atS RX3 157 "java/lang/IndexOutOfBoundsException" ["java/lang/RuntimeException", "java/lang/Exception"]).filter goodWord ++ (vx_atS RX2 54 "java/lang/IllegalStateException" ["java/lang/RuntimeException", "java/lang/Exception"]).filter goodWord ++ (vx_atS RX3 93 "java/lang/IllegalStateException" ["java/lang/RuntimeException", "java/lang/Exception"]).filter goodWord)
def wsL_build_r1 : List Cond := [Cond.classLink RL 10 RX6, Cond.instantiable RX6 5, Cond.initialized RX6, Cond.instanceMethod yX6_init, Cond.code yX6_init cX6_init 1 none, Cond.methodLink RX6 1 objectInit, Cond.instanceMethod objectInit, Cond.code objectInit ⟨#[0xb1]⟩ 1 none, Cond.fieldLink RX6 7 "HotBedsLaw$Sim" "bell" "I", Cond.fieldLink RX6 13 "HotBedsLaw$Sim" "pawn" "I", Cond.classLink RX6 16 RX4, Cond.fieldLink RX6 18 "HotBedsLaw$Sim" "beds" "[LHotBedsLaw$Bed;", Cond.classLink RX6 22 RX5, Cond.fieldLink RX6 24 "HotBedsLaw$Sim" "sailors" "[LHotBedsLaw$Sailor;", Cond.methodLink RL 123 yL_cell, Cond.static yL_cell, Cond.initialized RL, Cond.code yL_cell cL_cell 2 (some .int), Cond.constant RL 8 (790386105), Cond.methodLink RL 19 yL_below, Cond.static yL_below, Cond.code yL_below cL_below 2 (some .int), Cond.constant RL 7 (2147483647), Cond.methodLink RL 127 yL_act]
def wsL_build_r2 : List Cond := [Cond.static yL_act, Cond.code yL_act cL_act 16 (some .boolean), Cond.fieldLink RL 9 "HotBedsLaw$Sim" "beds" "[LHotBedsLaw$Bed;", Cond.fieldLink RL 15 "HotBedsLaw$Sim" "sailors" "[LHotBedsLaw$Sailor;", Cond.classLink RL 25 RX4, Cond.instantiable RX4 6, Cond.initialized RX4, Cond.fieldLink RL 28 "HotBedsLaw$Bed" "number" "I", Cond.fieldLink RL 32 "HotBedsLaw$Bed" "price" "I", Cond.classLink RL 41 RX5, Cond.instantiable RX5 13, Cond.initialized RX5, Cond.fieldLink RL 44 "HotBedsLaw$Sailor" "number" "I", Cond.fieldLink RL 45 "HotBedsLaw$Sailor" "watch" "I", Cond.fieldLink RL 48 "HotBedsLaw$Sailor" "heavy" "I", Cond.fieldLink RL 51 "HotBedsLaw$Sailor" "wage" "I", Cond.fieldLink RL 54 "HotBedsLaw$Sailor" "purse" "I", Cond.fieldLink RL 61 "HotBedsLaw$Sailor" "kept" "LHotBedsLaw$Bed;", Cond.fieldLink RL 68 "HotBedsLaw$Sim" "bell" "I", Cond.fieldLink RL 74 "HotBedsLaw$Sim" "pawn" "I", Cond.fieldLink RL 87 "HotBedsLaw$Sailor" "hasBoots" "Z", Cond.fieldLink RL 96 "HotBedsLaw$Sailor" "in" "LHotBedsLaw$Bed;", Cond.fieldLink RL 99 "HotBedsLaw$Sailor" "onFloor" "Z", Cond.instanceMethod yX4_init]
def wsL_build_r3 : List Cond := [Cond.code yX4_init cX4_init 1 none, Cond.methodLink RX4 1 objectInit, Cond.methodLink RL 35 yX3_bed, Cond.instanceMethod yX3_bed, Cond.selects RX3 yX3_bed yX3_bed, Cond.initialized RX3, Cond.code yX3_bed cX3_bed 2 (some .int), Cond.classLink RX3 19 "java/lang/IllegalArgumentException", Cond.initialized "java/lang/IllegalArgumentException", Cond.fieldLink RX3 10 "HotBeds" "house" "LHotBeds$House;", Cond.fieldLink RX3 26 "HotBeds$House" "beds" "LHotBeds$Beds;", Cond.methodLink RX3 30 yX0_add, Cond.instanceMethod yX0_add, Cond.selects RX0 yX0_add yX0_add, Cond.initialized RX0, Cond.code yX0_add cX0_add 3 (some .int), Cond.classLink RX0 29 "java/lang/IllegalStateException", Cond.initialized "java/lang/IllegalStateException", Cond.fieldLink RX0 7 "HotBeds$Beds" "size" "I", Cond.fieldLink RX0 13 "HotBeds$Beds" "price" "[I", Cond.fieldLink RX0 26 "HotBeds$Beds" "sleeper" "[I", Cond.instanceMethod yX5_init, Cond.code yX5_init cX5_init 1 none, Cond.methodLink RX5 1 objectInit]
def wsL_build_r4 : List Cond := [Cond.fieldLink RX5 7 "HotBedsLaw$Sailor" "hasBoots" "Z", Cond.methodLink RL 57 yX3_sailor, Cond.instanceMethod yX3_sailor, Cond.selects RX3 yX3_sailor yX3_sailor, Cond.code yX3_sailor cX3_sailor 5 (some .int), Cond.fieldLink RX3 48 "HotBeds$House" "sailors" "LHotBeds$Sailors;", Cond.methodLink RX3 36 yX3_requireWatch, Cond.static yX3_requireWatch, Cond.code yX3_requireWatch cX3_requireWatch 1 none, Cond.classLink RX3 153 "java/lang/IndexOutOfBoundsException", Cond.initialized "java/lang/IndexOutOfBoundsException", Cond.methodLink RX3 52 yX2_add, Cond.instanceMethod yX2_add, Cond.selects RX2 yX2_add yX2_add, Cond.initialized RX2, Cond.code yX2_add cX2_add 6 (some .int), Cond.classLink RX2 50 "java/lang/IllegalStateException", Cond.fieldLink RX2 7 "HotBeds$Sailors" "size" "I", Cond.fieldLink RX2 13 "HotBeds$Sailors" "watch" "[I", Cond.fieldLink RX2 17 "HotBeds$Sailors" "heavy" "[I", Cond.fieldLink RX2 20 "HotBeds$Sailors" "wage" "[I", Cond.fieldLink RX2 23 "HotBeds$Sailors" "purse" "[I", Cond.fieldLink RX2 26 "HotBeds$Sailors" "boots" "[I", Cond.fieldLink RX2 29 "HotBeds$Sailors" "kept" "[I"]
def wsL_build_r5 : List Cond := [Cond.fieldLink RX2 32 "HotBeds$Sailors" "place" "[I", Cond.fieldLink RX2 35 "HotBeds$Sailors" "bed" "[I", Cond.methodLink RL 65 yX3_keep, Cond.instanceMethod yX3_keep, Cond.selects RX3 yX3_keep yX3_keep, Cond.code yX3_keep cX3_keep 4 (some .int), Cond.fieldLink RX3 61 "HotBeds$Sailors" "kept" "[I", Cond.methodLink RX3 55 yX3_requireSailor, Cond.instanceMethod yX3_requireSailor, Cond.selects RX3 yX3_requireSailor yX3_requireSailor, Cond.code yX3_requireSailor cX3_requireSailor 2 none, Cond.fieldLink RX3 181 "HotBeds$Sailors" "size" "I", Cond.methodLink RX3 58 yX3_requireBed, Cond.instanceMethod yX3_requireBed, Cond.selects RX3 yX3_requireBed yX3_requireBed, Cond.code yX3_requireBed cX3_requireBed 2 none, Cond.methodLink RX3 216 yX0_has, Cond.instanceMethod yX0_has, Cond.selects RX0 yX0_has yX0_has, Cond.code yX0_has cX0_has 2 (some .boolean), Cond.methodLink RL 71 yX3_setBell, Cond.instanceMethod yX3_setBell, Cond.selects RX3 yX3_setBell yX3_setBell, Cond.code yX3_setBell cX3_setBell 3 (some .int)]
def wsL_build_r6 : List Cond := [Cond.fieldLink RX3 67 "HotBeds$House" "bell" "I", Cond.methodLink RL 77 yX3_setPawn, Cond.instanceMethod yX3_setPawn, Cond.selects RX3 yX3_setPawn yX3_setPawn, Cond.code yX3_setPawn cX3_setPawn 3 (some .int), Cond.fieldLink RX3 73 "HotBeds$House" "pawn" "I", Cond.methodLink RL 80 yX5_gets, Cond.instanceMethod yX5_gets, Cond.selects RX5 yX5_gets yX5_gets, Cond.code yX5_gets cX5_gets 2 none, Cond.fieldLink RX5 26 "HotBedsLaw$Sailor" "purse" "I", Cond.methodLink RL 84 yX3_give, Cond.instanceMethod yX3_give, Cond.selects RX3 yX3_give yX3_give, Cond.code yX3_give cX3_give 3 (some .int), Cond.fieldLink RX3 82 "HotBeds$Sailors" "purse" "[I", Cond.methodLink RX3 78 yX2_earn, Cond.instanceMethod yX2_earn, Cond.selects RX2 yX2_earn yX2_earn, Cond.code yX2_earn cX2_earn 3 none, Cond.methodLink RX2 65 Lib.Math.min.name, Cond.static Lib.Math.min.name, Cond.initialized "java/lang/Math", Cond.code Lib.Math.min.name Lib.Math.min.code 2 (some .int)]
def wsL_build_r7 : List Cond := [Cond.methodLink RL 91 yX3_pawn, Cond.instanceMethod yX3_pawn, Cond.selects RX3 yX3_pawn yX3_pawn, Cond.code yX3_pawn cX3_pawn 2 (some .int), Cond.classLink RX3 89 "java/lang/IllegalStateException", Cond.methodLink RX3 85 yX2_hasBoots, Cond.instanceMethod yX2_hasBoots, Cond.selects RX2 yX2_hasBoots yX2_hasBoots, Cond.code yX2_hasBoots cX2_hasBoots 2 (some .boolean), Cond.methodLink RX3 94 yX1_pawnBoots, Cond.instanceMethod yX1_pawnBoots, Cond.selects RX1 yX1_pawnBoots yX1_pawnBoots, Cond.initialized RX1, Cond.code yX1_pawnBoots cX1_pawnBoots 2 none, Cond.fieldLink RX1 29 "HotBeds$House" "sailors" "LHotBeds$Sailors;", Cond.fieldLink RX1 74 "HotBeds$Sailors" "boots" "[I", Cond.fieldLink RX1 16 "HotBeds$House" "pawn" "I", Cond.methodLink RX1 77 yX2_earn, Cond.methodLink RL 93 yX3_redeem, Cond.instanceMethod yX3_redeem, Cond.selects RX3 yX3_redeem yX3_redeem, Cond.code yX3_redeem cX3_redeem 2 (some .int), Cond.methodLink RX3 97 yX1_canRedeemBoots, Cond.instanceMethod yX1_canRedeemBoots]
def wsL_build_r8 : List Cond := [Cond.selects RX1 yX1_canRedeemBoots yX1_canRedeemBoots, Cond.code yX1_canRedeemBoots cX1_canRedeemBoots 2 (some .boolean), Cond.fieldLink RX1 84 "HotBeds$Sailors" "purse" "[I", Cond.methodLink RX1 81 yX2_hasBoots, Cond.methodLink RX3 102 yX1_redeemBoots, Cond.instanceMethod yX1_redeemBoots, Cond.selects RX1 yX1_redeemBoots yX1_redeemBoots, Cond.code yX1_redeemBoots cX1_redeemBoots 2 none, Cond.methodLink RL 102 yX5_up, Cond.instanceMethod yX5_up, Cond.selects RX5 yX5_up yX5_up, Cond.code yX5_up cX5_up 1 none, Cond.fieldLink RX5 13 "HotBedsLaw$Sailor" "in" "LHotBedsLaw$Bed;", Cond.fieldLink RX5 17 "HotBedsLaw$Bed" "who" "LHotBedsLaw$Sailor;", Cond.fieldLink RX5 23 "HotBedsLaw$Sailor" "onFloor" "Z", Cond.methodLink RL 105 yX3_call, Cond.instanceMethod yX3_call, Cond.selects RX3 yX3_call yX3_call, Cond.code yX3_call cX3_call 3 (some .int), Cond.fieldLink RX3 110 "HotBeds$Sailors" "bed" "[I", Cond.methodLink RX3 105 yX2_isUp, Cond.instanceMethod yX2_isUp, Cond.selects RX2 yX2_isUp yX2_isUp, Cond.code yX2_isUp cX2_isUp 2 (some .boolean)]
def wsL_build_r9 : List Cond := [Cond.methodLink RX3 113 yX1_getUp, Cond.instanceMethod yX1_getUp, Cond.selects RX1 yX1_getUp yX1_getUp, Cond.code yX1_getUp cX1_getUp 3 none, Cond.fieldLink RX1 61 "HotBeds$Sailors" "bed" "[I", Cond.fieldLink RX1 22 "HotBeds$House" "beds" "LHotBeds$Beds;", Cond.fieldLink RX1 68 "HotBeds$Beds" "sleeper" "[I", Cond.fieldLink RX1 71 "HotBeds$Sailors" "place" "[I", Cond.methodLink RX1 64 yX0_has, Cond.methodLink RL 108 yX3_shift, Cond.instanceMethod yX3_shift, Cond.selects RX3 yX3_shift yX3_shift, Cond.code yX3_shift cX3_shift 4 (some .int), Cond.fieldLink RX3 119 "HotBeds$Sailors" "watch" "[I", Cond.methodLink RX3 116 yX3_requireUp, Cond.instanceMethod yX3_requireUp, Cond.selects RX3 yX3_requireUp yX3_requireUp, Cond.code yX3_requireUp cX3_requireUp 2 none, Cond.methodLink RL 111 yX6_sums, Cond.instanceMethod yX6_sums, Cond.selects RX6 yX6_sums yX6_sums, Cond.code yX6_sums cX6_sums 6 (some (.array .int)), Cond.arrayClass .int, Cond.fieldLink RX6 70 "HotBedsLaw$Sailor" "in" "LHotBedsLaw$Bed;"]
def wsL_build_r10 : List Cond := [Cond.fieldLink RX6 77 "HotBedsLaw$Sailor" "onFloor" "Z", Cond.fieldLink RX6 83 "HotBedsLaw$Sailor" "late" "I", Cond.fieldLink RX6 89 "HotBedsLaw$Sailor" "floors" "I", Cond.methodLink RL 115 yX6_behind, Cond.instanceMethod yX6_behind, Cond.selects RX6 yX6_behind yX6_behind, Cond.code yX6_behind cX6_behind 3 (some (.object "HotBedsLaw$Sim")), Cond.methodLink RX6 103 yX6_pass, Cond.instanceMethod yX6_pass, Cond.selects RX6 yX6_pass yX6_pass, Cond.code yX6_pass cX6_pass 9 none, Cond.fieldLink RX6 29 "HotBedsLaw$Sim" "hour" "I", Cond.fieldLink RX6 50 "HotBedsLaw$Sailor" "watch" "I", Cond.fieldLink RX6 53 "HotBedsLaw$Sailor" "heavy" "I", Cond.fieldLink RX6 86 "HotBedsLaw$Sailor" "since" "I", Cond.fieldLink RX6 62 "HotBedsLaw$Sailor" "hasBoots" "Z", Cond.fieldLink RX6 56 "HotBedsLaw$Sailor" "wage" "I", Cond.fieldLink RX6 59 "HotBedsLaw$Sailor" "purse" "I", Cond.fieldLink RX6 36 "HotBedsLaw$Bed" "price" "I", Cond.fieldLink RX6 45 "HotBedsLaw$Bed" "coins" "I", Cond.fieldLink RX6 42 "HotBedsLaw$Bed" "times" "I", Cond.fieldLink RX6 73 "HotBedsLaw$Bed" "who" "LHotBedsLaw$Sailor;", Cond.fieldLink RX6 80 "HotBedsLaw$Sailor" "rest" "I", Cond.fieldLink RX6 39 "HotBedsLaw$Bed" "warmth" "I"]
def wsL_build_r11 : List Cond := [Cond.methodLink RX6 92 yX5_up, Cond.methodLink RX6 95 yX5_gets, Cond.methodLink RX6 99 yX6_free, Cond.instanceMethod yX6_free, Cond.selects RX6 yX6_free yX6_free, Cond.code yX6_free cX6_free 7 (some (.object "HotBedsLaw$Bed")), Cond.fieldLink RX6 66 "HotBedsLaw$Sailor" "kept" "LHotBedsLaw$Bed;", Cond.methodLink RL 119 yX3_pass, Cond.instanceMethod yX3_pass, Cond.selects RX3 yX3_pass yX3_pass, Cond.code yX3_pass cX3_pass 3 (some .int), Cond.methodLink RX3 122 yX3_requireHours, Cond.static yX3_requireHours, Cond.code yX3_requireHours cX3_requireHours 1 none, Cond.methodLink RX3 125 yX2_allFloors, Cond.instanceMethod yX2_allFloors, Cond.selects RX2 yX2_allFloors yX2_allFloors, Cond.code yX2_allFloors cX2_allFloors 1 (some .int), Cond.fieldLink RX2 47 "HotBeds$Sailors" "floors" "[I", Cond.methodLink RX2 82 yX2_sum, Cond.instanceMethod yX2_sum, Cond.selects RX2 yX2_sum yX2_sum, Cond.code yX2_sum cX2_sum 4 (some .int), Cond.methodLink RX3 129 yX1_goOn]
def wsL_build_r12 : List Cond := [Cond.instanceMethod yX1_goOn, Cond.selects RX1 yX1_goOn yX1_goOn, Cond.code yX1_goOn cX1_goOn 4 none, Cond.fieldLink RX1 40 "HotBeds$Sailors" "size" "I", Cond.fieldLink RX1 50 "HotBeds$Sailors" "rest" "[I", Cond.fieldLink RX1 7 "HotBeds$House" "hour" "I", Cond.methodLink RX1 43 yX1_ringBell, Cond.instanceMethod yX1_ringBell, Cond.selects RX1 yX1_ringBell yX1_ringBell, Cond.code yX1_ringBell cX1_ringBell 3 none, Cond.fieldLink RX1 13 "HotBeds$House" "bell" "I", Cond.fieldLink RX1 96 "HotBeds$Sailors" "heavy" "[I", Cond.methodLink RX1 87 yX2_isUp, Cond.methodLink RX1 90 yX1_isInWatch, Cond.instanceMethod yX1_isInWatch, Cond.selects RX1 yX1_isInWatch yX1_isInWatch, Cond.code yX1_isInWatch cX1_isInWatch 2 (some .boolean), Cond.fieldLink RX1 105 "HotBeds$Sailors" "watch" "[I", Cond.methodLink RX1 108 yX1_watchNow, Cond.instanceMethod yX1_watchNow, Cond.selects RX1 yX1_watchNow yX1_watchNow, Cond.code yX1_watchNow cX1_watchNow 1 (some .int), Cond.methodLink RX1 93 yX1_hoursSinceWatch, Cond.instanceMethod yX1_hoursSinceWatch]
def wsL_build_r13 : List Cond := [Cond.selects RX1 yX1_hoursSinceWatch yX1_hoursSinceWatch, Cond.code yX1_hoursSinceWatch cX1_hoursSinceWatch 3 (some .int), Cond.methodLink RX1 99 yX1_getUp, Cond.methodLink RX1 102 yX2_beLate, Cond.instanceMethod yX2_beLate, Cond.selects RX2 yX2_beLate yX2_beLate, Cond.code yX2_beLate cX2_beLate 2 none, Cond.fieldLink RX2 41 "HotBeds$Sailors" "late" "[I", Cond.fieldLink RX2 44 "HotBeds$Sailors" "lateSincePay" "[I", Cond.methodLink RX1 47 yX1_serve, Cond.instanceMethod yX1_serve, Cond.selects RX1 yX1_serve yX1_serve, Cond.code yX1_serve cX1_serve 2 none, Cond.methodLink RX1 112 yX2_payWage, Cond.instanceMethod yX2_payWage, Cond.selects RX2 yX2_payWage yX2_payWage, Cond.code yX2_payWage cX2_payWage 3 none, Cond.methodLink RX2 75 Lib.Math.max.name, Cond.static Lib.Math.max.name, Cond.code Lib.Math.max.name Lib.Math.max.code 2 (some .int), Cond.methodLink RX2 71 yX2_hasBoots, Cond.methodLink RX2 78 yX2_earn, Cond.methodLink RX1 115 yX1_canRedeemBoots, Cond.methodLink RX1 118 yX1_redeemBoots]
def wsL_build_r14 : List Cond := [Cond.methodLink RX1 121 yX1_lookForBed, Cond.instanceMethod yX1_lookForBed, Cond.selects RX1 yX1_lookForBed yX1_lookForBed, Cond.code yX1_lookForBed cX1_lookForBed 4 none, Cond.fieldLink RX1 124 "HotBeds$Sailors" "kept" "[I", Cond.methodLink RX1 127 yX0_isFree, Cond.instanceMethod yX0_isFree, Cond.selects RX0 yX0_isFree yX0_isFree, Cond.code yX0_isFree cX0_isFree 2 (some .boolean), Cond.methodLink RX0 42 yX0_has, Cond.methodLink RX1 130 yX0_cheapestFree, Cond.instanceMethod yX0_cheapestFree, Cond.selects RX0 yX0_cheapestFree yX0_cheapestFree, Cond.code yX0_cheapestFree cX0_cheapestFree 3 (some .int), Cond.methodLink RX0 46 yX0_isFree, Cond.methodLink RX1 133 yX1_tryBed, Cond.instanceMethod yX1_tryBed, Cond.selects RX1 yX1_tryBed yX1_tryBed, Cond.code yX1_tryBed cX1_tryBed 5 none, Cond.fieldLink RX1 139 "HotBeds$Beds" "price" "[I", Cond.methodLink RX1 142 yX1_pawnBoots, Cond.methodLink RX1 145 yX1_getInto, Cond.instanceMethod yX1_getInto, Cond.selects RX1 yX1_getInto yX1_getInto]
def wsL_build_r15 : List Cond := [Cond.code yX1_getInto cX1_getInto 4 none, Cond.fieldLink RX1 148 "HotBeds$Beds" "paid" "[I", Cond.fieldLink RX1 151 "HotBeds$Beds" "entries" "[I", Cond.methodLink RX1 136 yX2_lieOnFloor, Cond.instanceMethod yX2_lieOnFloor, Cond.selects RX2 yX2_lieOnFloor yX2_lieOnFloor, Cond.code yX2_lieOnFloor cX2_lieOnFloor 2 none, Cond.methodLink RX1 54 yX1_restOfHour, Cond.instanceMethod yX1_restOfHour, Cond.selects RX1 yX1_restOfHour yX1_restOfHour, Cond.code yX1_restOfHour cX1_restOfHour 2 (some .int), Cond.methodLink RX1 154 yX0_isWarm, Cond.instanceMethod yX0_isWarm, Cond.selects RX0 yX0_isWarm yX0_isWarm, Cond.code yX0_isWarm cX0_isWarm 2 (some .boolean), Cond.fieldLink RX0 17 "HotBeds$Beds" "warmth" "[I", Cond.methodLink RX1 58 yX0_changeWarmth, Cond.instanceMethod yX0_changeWarmth, Cond.selects RX0 yX0_changeWarmth yX0_changeWarmth, Cond.code yX0_changeWarmth cX0_changeWarmth 2 none, Cond.methodLink RX0 49 Lib.Math.max.name, Cond.methodLink RX0 55 Lib.Math.min.name]
def wsL_build : List Cond := .code yL_build cL_build 5 (some (.object "HotBedsLaw$Sim")) :: ((wsL_build_r1 ++ (wsL_build_r2 ++ (wsL_build_r3 ++ (wsL_build_r4 ++ (wsL_build_r5 ++ (wsL_build_r6 ++ (wsL_build_r7 ++ (wsL_build_r8 ++ (wsL_build_r9 ++ (wsL_build_r10 ++ (wsL_build_r11 ++ (wsL_build_r12 ++ (wsL_build_r13 ++ (wsL_build_r14 ++ wsL_build_r15)))))))))))))) ++ wsX60 ++ wsX40 ++ wsX50 ++ wsX30 ++ wsX10 ++ wsX00 ++ wsX20 ++ (vx_atS RX3 23 "java/lang/IllegalArgumentException" ["java/lang/RuntimeException", "java/lang/Exception"]).filter goodWord ++ (vx_atS RX0 33 "java/lang/IllegalStateException" ["java/lang/RuntimeException", "java/lang/Exception"]).filter goodWord ++ (vx_atS RX3 157 "java/lang/IndexOutOfBoundsException" ["java/lang/RuntimeException", "java/lang/Exception"]).filter goodWord ++ (vx_atS RX2 54 "java/lang/IllegalStateException" ["java/lang/RuntimeException", "java/lang/Exception"]).filter goodWord ++ (vx_atS RX3 93 "java/lang/IllegalStateException" ["java/lang/RuntimeException", "java/lang/Exception"]).filter goodWord)
def wsL_law0_r1 : List Cond := [Cond.classLink RL 36 RX3, Cond.instantiable RX3 2, Cond.initialized RX3, Cond.arrayClass .int, Cond.methodLink RL 131 yX3_init, Cond.instanceMethod yX3_init, Cond.code yX3_init cX3_init 1 none, Cond.methodLink RX3 1 objectInit, Cond.instanceMethod objectInit, Cond.code objectInit ⟨#[0xb1]⟩ 1 none, Cond.classLink RX3 7 RX1, Cond.instantiable RX1 5, Cond.initialized RX1, Cond.fieldLink RX3 10 "HotBeds" "house" "LHotBeds$House;", Cond.fieldLink RX3 16 "HotBeds" "trial" "LHotBeds$House;", Cond.instanceMethod yX1_init, Cond.code yX1_init cX1_init 1 none, Cond.methodLink RX1 1 objectInit, Cond.fieldLink RX1 7 "HotBeds$House" "hour" "I", Cond.fieldLink RX1 13 "HotBeds$House" "bell" "I", Cond.fieldLink RX1 16 "HotBeds$House" "pawn" "I", Cond.classLink RX1 19 RX0, Cond.instantiable RX0 6, Cond.initialized RX0]
def wsL_law0_r2 : List Cond := [Cond.fieldLink RX1 22 "HotBeds$House" "beds" "LHotBeds$Beds;", Cond.classLink RX1 26 RX2, Cond.instantiable RX2 13, Cond.initialized RX2, Cond.fieldLink RX1 29 "HotBeds$House" "sailors" "LHotBeds$Sailors;", Cond.instanceMethod yX0_init, Cond.code yX0_init cX0_init 1 none, Cond.methodLink RX0 1 objectInit, Cond.fieldLink RX0 7 "HotBeds$Beds" "size" "I", Cond.fieldLink RX0 13 "HotBeds$Beds" "price" "[I", Cond.fieldLink RX0 17 "HotBeds$Beds" "warmth" "[I", Cond.fieldLink RX0 20 "HotBeds$Beds" "entries" "[I", Cond.fieldLink RX0 23 "HotBeds$Beds" "paid" "[I", Cond.fieldLink RX0 26 "HotBeds$Beds" "sleeper" "[I", Cond.instanceMethod yX2_init, Cond.code yX2_init cX2_init 1 none, Cond.methodLink RX2 1 objectInit, Cond.fieldLink RX2 7 "HotBeds$Sailors" "size" "I", Cond.fieldLink RX2 13 "HotBeds$Sailors" "watch" "[I", Cond.fieldLink RX2 17 "HotBeds$Sailors" "heavy" "[I", Cond.fieldLink RX2 20 "HotBeds$Sailors" "wage" "[I", Cond.fieldLink RX2 23 "HotBeds$Sailors" "purse" "[I", Cond.fieldLink RX2 26 "HotBeds$Sailors" "boots" "[I", Cond.fieldLink RX2 29 "HotBeds$Sailors" "kept" "[I"]
def wsL_law0_r3 : List Cond := [Cond.fieldLink RX2 32 "HotBeds$Sailors" "place" "[I", Cond.fieldLink RX2 35 "HotBeds$Sailors" "bed" "[I", Cond.fieldLink RX2 38 "HotBeds$Sailors" "rest" "[I", Cond.fieldLink RX2 41 "HotBeds$Sailors" "late" "[I", Cond.fieldLink RX2 44 "HotBeds$Sailors" "lateSincePay" "[I", Cond.fieldLink RX2 47 "HotBeds$Sailors" "floors" "[I", Cond.methodLink RL 132 yL_build, Cond.static yL_build, Cond.initialized RL, Cond.code yL_build cL_build 5 (some (.object "HotBedsLaw$Sim")), Cond.classLink RL 10 RX6, Cond.instantiable RX6 5, Cond.initialized RX6, Cond.instanceMethod yX6_init, Cond.code yX6_init cX6_init 1 none, Cond.methodLink RX6 1 objectInit, Cond.fieldLink RX6 7 "HotBedsLaw$Sim" "bell" "I", Cond.fieldLink RX6 13 "HotBedsLaw$Sim" "pawn" "I", Cond.classLink RX6 16 RX4, Cond.fieldLink RX6 18 "HotBedsLaw$Sim" "beds" "[LHotBedsLaw$Bed;", Cond.classLink RX6 22 RX5, Cond.fieldLink RX6 24 "HotBedsLaw$Sim" "sailors" "[LHotBedsLaw$Sailor;", Cond.methodLink RL 123 yL_cell, Cond.static yL_cell]
def wsL_law0_r4 : List Cond := [Cond.code yL_cell cL_cell 2 (some .int), Cond.constant RL 8 (790386105), Cond.methodLink RL 19 yL_below, Cond.static yL_below, Cond.code yL_below cL_below 2 (some .int), Cond.constant RL 7 (2147483647), Cond.methodLink RL 127 yL_act, Cond.static yL_act, Cond.code yL_act cL_act 16 (some .boolean), Cond.fieldLink RL 9 "HotBedsLaw$Sim" "beds" "[LHotBedsLaw$Bed;", Cond.fieldLink RL 15 "HotBedsLaw$Sim" "sailors" "[LHotBedsLaw$Sailor;", Cond.classLink RL 25 RX4, Cond.instantiable RX4 6, Cond.initialized RX4, Cond.fieldLink RL 28 "HotBedsLaw$Bed" "number" "I", Cond.fieldLink RL 32 "HotBedsLaw$Bed" "price" "I", Cond.classLink RL 41 RX5, Cond.instantiable RX5 13, Cond.initialized RX5, Cond.fieldLink RL 44 "HotBedsLaw$Sailor" "number" "I", Cond.fieldLink RL 45 "HotBedsLaw$Sailor" "watch" "I", Cond.fieldLink RL 48 "HotBedsLaw$Sailor" "heavy" "I", Cond.fieldLink RL 51 "HotBedsLaw$Sailor" "wage" "I", Cond.fieldLink RL 54 "HotBedsLaw$Sailor" "purse" "I"]
def wsL_law0_r5 : List Cond := [Cond.fieldLink RL 61 "HotBedsLaw$Sailor" "kept" "LHotBedsLaw$Bed;", Cond.fieldLink RL 68 "HotBedsLaw$Sim" "bell" "I", Cond.fieldLink RL 74 "HotBedsLaw$Sim" "pawn" "I", Cond.fieldLink RL 87 "HotBedsLaw$Sailor" "hasBoots" "Z", Cond.fieldLink RL 96 "HotBedsLaw$Sailor" "in" "LHotBedsLaw$Bed;", Cond.fieldLink RL 99 "HotBedsLaw$Sailor" "onFloor" "Z", Cond.instanceMethod yX4_init, Cond.code yX4_init cX4_init 1 none, Cond.methodLink RX4 1 objectInit, Cond.methodLink RL 35 yX3_bed, Cond.instanceMethod yX3_bed, Cond.selects RX3 yX3_bed yX3_bed, Cond.code yX3_bed cX3_bed 2 (some .int), Cond.classLink RX3 19 "java/lang/IllegalArgumentException", Cond.initialized "java/lang/IllegalArgumentException", Cond.fieldLink RX3 26 "HotBeds$House" "beds" "LHotBeds$Beds;", Cond.methodLink RX3 30 yX0_add, Cond.instanceMethod yX0_add, Cond.selects RX0 yX0_add yX0_add, Cond.code yX0_add cX0_add 3 (some .int), Cond.classLink RX0 29 "java/lang/IllegalStateException", Cond.initialized "java/lang/IllegalStateException", Cond.instanceMethod yX5_init, Cond.code yX5_init cX5_init 1 none]
def wsL_law0_r6 : List Cond := [Cond.methodLink RX5 1 objectInit, Cond.fieldLink RX5 7 "HotBedsLaw$Sailor" "hasBoots" "Z", Cond.methodLink RL 57 yX3_sailor, Cond.instanceMethod yX3_sailor, Cond.selects RX3 yX3_sailor yX3_sailor, Cond.code yX3_sailor cX3_sailor 5 (some .int), Cond.fieldLink RX3 48 "HotBeds$House" "sailors" "LHotBeds$Sailors;", Cond.methodLink RX3 36 yX3_requireWatch, Cond.static yX3_requireWatch, Cond.code yX3_requireWatch cX3_requireWatch 1 none, Cond.classLink RX3 153 "java/lang/IndexOutOfBoundsException", Cond.initialized "java/lang/IndexOutOfBoundsException", Cond.methodLink RX3 52 yX2_add, Cond.instanceMethod yX2_add, Cond.selects RX2 yX2_add yX2_add, Cond.code yX2_add cX2_add 6 (some .int), Cond.classLink RX2 50 "java/lang/IllegalStateException", Cond.methodLink RL 65 yX3_keep, Cond.instanceMethod yX3_keep, Cond.selects RX3 yX3_keep yX3_keep, Cond.code yX3_keep cX3_keep 4 (some .int), Cond.fieldLink RX3 61 "HotBeds$Sailors" "kept" "[I", Cond.methodLink RX3 55 yX3_requireSailor, Cond.instanceMethod yX3_requireSailor]
def wsL_law0_r7 : List Cond := [Cond.selects RX3 yX3_requireSailor yX3_requireSailor, Cond.code yX3_requireSailor cX3_requireSailor 2 none, Cond.fieldLink RX3 181 "HotBeds$Sailors" "size" "I", Cond.methodLink RX3 58 yX3_requireBed, Cond.instanceMethod yX3_requireBed, Cond.selects RX3 yX3_requireBed yX3_requireBed, Cond.code yX3_requireBed cX3_requireBed 2 none, Cond.methodLink RX3 216 yX0_has, Cond.instanceMethod yX0_has, Cond.selects RX0 yX0_has yX0_has, Cond.code yX0_has cX0_has 2 (some .boolean), Cond.methodLink RL 71 yX3_setBell, Cond.instanceMethod yX3_setBell, Cond.selects RX3 yX3_setBell yX3_setBell, Cond.code yX3_setBell cX3_setBell 3 (some .int), Cond.fieldLink RX3 67 "HotBeds$House" "bell" "I", Cond.methodLink RL 77 yX3_setPawn, Cond.instanceMethod yX3_setPawn, Cond.selects RX3 yX3_setPawn yX3_setPawn, Cond.code yX3_setPawn cX3_setPawn 3 (some .int), Cond.fieldLink RX3 73 "HotBeds$House" "pawn" "I", Cond.methodLink RL 80 yX5_gets, Cond.instanceMethod yX5_gets, Cond.selects RX5 yX5_gets yX5_gets]
def wsL_law0_r8 : List Cond := [Cond.code yX5_gets cX5_gets 2 none, Cond.fieldLink RX5 26 "HotBedsLaw$Sailor" "purse" "I", Cond.methodLink RL 84 yX3_give, Cond.instanceMethod yX3_give, Cond.selects RX3 yX3_give yX3_give, Cond.code yX3_give cX3_give 3 (some .int), Cond.fieldLink RX3 82 "HotBeds$Sailors" "purse" "[I", Cond.methodLink RX3 78 yX2_earn, Cond.instanceMethod yX2_earn, Cond.selects RX2 yX2_earn yX2_earn, Cond.code yX2_earn cX2_earn 3 none, Cond.methodLink RX2 65 Lib.Math.min.name, Cond.static Lib.Math.min.name, Cond.initialized "java/lang/Math", Cond.code Lib.Math.min.name Lib.Math.min.code 2 (some .int), Cond.methodLink RL 91 yX3_pawn, Cond.instanceMethod yX3_pawn, Cond.selects RX3 yX3_pawn yX3_pawn, Cond.code yX3_pawn cX3_pawn 2 (some .int), Cond.classLink RX3 89 "java/lang/IllegalStateException", Cond.methodLink RX3 85 yX2_hasBoots, Cond.instanceMethod yX2_hasBoots, Cond.selects RX2 yX2_hasBoots yX2_hasBoots, Cond.code yX2_hasBoots cX2_hasBoots 2 (some .boolean)]
def wsL_law0_r9 : List Cond := [Cond.methodLink RX3 94 yX1_pawnBoots, Cond.instanceMethod yX1_pawnBoots, Cond.selects RX1 yX1_pawnBoots yX1_pawnBoots, Cond.code yX1_pawnBoots cX1_pawnBoots 2 none, Cond.fieldLink RX1 74 "HotBeds$Sailors" "boots" "[I", Cond.methodLink RX1 77 yX2_earn, Cond.methodLink RL 93 yX3_redeem, Cond.instanceMethod yX3_redeem, Cond.selects RX3 yX3_redeem yX3_redeem, Cond.code yX3_redeem cX3_redeem 2 (some .int), Cond.methodLink RX3 97 yX1_canRedeemBoots, Cond.instanceMethod yX1_canRedeemBoots, Cond.selects RX1 yX1_canRedeemBoots yX1_canRedeemBoots, Cond.code yX1_canRedeemBoots cX1_canRedeemBoots 2 (some .boolean), Cond.fieldLink RX1 84 "HotBeds$Sailors" "purse" "[I", Cond.methodLink RX1 81 yX2_hasBoots, Cond.methodLink RX3 102 yX1_redeemBoots, Cond.instanceMethod yX1_redeemBoots, Cond.selects RX1 yX1_redeemBoots yX1_redeemBoots, Cond.code yX1_redeemBoots cX1_redeemBoots 2 none, Cond.methodLink RL 102 yX5_up, Cond.instanceMethod yX5_up, Cond.selects RX5 yX5_up yX5_up, Cond.code yX5_up cX5_up 1 none]
def wsL_law0_r10 : List Cond := [Cond.fieldLink RX5 13 "HotBedsLaw$Sailor" "in" "LHotBedsLaw$Bed;", Cond.fieldLink RX5 17 "HotBedsLaw$Bed" "who" "LHotBedsLaw$Sailor;", Cond.fieldLink RX5 23 "HotBedsLaw$Sailor" "onFloor" "Z", Cond.methodLink RL 105 yX3_call, Cond.instanceMethod yX3_call, Cond.selects RX3 yX3_call yX3_call, Cond.code yX3_call cX3_call 3 (some .int), Cond.fieldLink RX3 110 "HotBeds$Sailors" "bed" "[I", Cond.methodLink RX3 105 yX2_isUp, Cond.instanceMethod yX2_isUp, Cond.selects RX2 yX2_isUp yX2_isUp, Cond.code yX2_isUp cX2_isUp 2 (some .boolean), Cond.methodLink RX3 113 yX1_getUp, Cond.instanceMethod yX1_getUp, Cond.selects RX1 yX1_getUp yX1_getUp, Cond.code yX1_getUp cX1_getUp 3 none, Cond.fieldLink RX1 61 "HotBeds$Sailors" "bed" "[I", Cond.fieldLink RX1 68 "HotBeds$Beds" "sleeper" "[I", Cond.fieldLink RX1 71 "HotBeds$Sailors" "place" "[I", Cond.methodLink RX1 64 yX0_has, Cond.methodLink RL 108 yX3_shift, Cond.instanceMethod yX3_shift, Cond.selects RX3 yX3_shift yX3_shift, Cond.code yX3_shift cX3_shift 4 (some .int)]
def wsL_law0_r11 : List Cond := [Cond.fieldLink RX3 119 "HotBeds$Sailors" "watch" "[I", Cond.methodLink RX3 116 yX3_requireUp, Cond.instanceMethod yX3_requireUp, Cond.selects RX3 yX3_requireUp yX3_requireUp, Cond.code yX3_requireUp cX3_requireUp 2 none, Cond.methodLink RL 111 yX6_sums, Cond.instanceMethod yX6_sums, Cond.selects RX6 yX6_sums yX6_sums, Cond.code yX6_sums cX6_sums 6 (some (.array .int)), Cond.fieldLink RX6 70 "HotBedsLaw$Sailor" "in" "LHotBedsLaw$Bed;", Cond.fieldLink RX6 77 "HotBedsLaw$Sailor" "onFloor" "Z", Cond.fieldLink RX6 83 "HotBedsLaw$Sailor" "late" "I", Cond.fieldLink RX6 89 "HotBedsLaw$Sailor" "floors" "I", Cond.methodLink RL 115 yX6_behind, Cond.instanceMethod yX6_behind, Cond.selects RX6 yX6_behind yX6_behind, Cond.code yX6_behind cX6_behind 3 (some (.object "HotBedsLaw$Sim")), Cond.methodLink RX6 103 yX6_pass, Cond.instanceMethod yX6_pass, Cond.selects RX6 yX6_pass yX6_pass, Cond.code yX6_pass cX6_pass 9 none, Cond.fieldLink RX6 29 "HotBedsLaw$Sim" "hour" "I", Cond.fieldLink RX6 50 "HotBedsLaw$Sailor" "watch" "I", Cond.fieldLink RX6 53 "HotBedsLaw$Sailor" "heavy" "I"]
def wsL_law0_r12 : List Cond := [Cond.fieldLink RX6 86 "HotBedsLaw$Sailor" "since" "I", Cond.fieldLink RX6 62 "HotBedsLaw$Sailor" "hasBoots" "Z", Cond.fieldLink RX6 56 "HotBedsLaw$Sailor" "wage" "I", Cond.fieldLink RX6 59 "HotBedsLaw$Sailor" "purse" "I", Cond.fieldLink RX6 36 "HotBedsLaw$Bed" "price" "I", Cond.fieldLink RX6 45 "HotBedsLaw$Bed" "coins" "I", Cond.fieldLink RX6 42 "HotBedsLaw$Bed" "times" "I", Cond.fieldLink RX6 73 "HotBedsLaw$Bed" "who" "LHotBedsLaw$Sailor;", Cond.fieldLink RX6 80 "HotBedsLaw$Sailor" "rest" "I", Cond.fieldLink RX6 39 "HotBedsLaw$Bed" "warmth" "I", Cond.methodLink RX6 92 yX5_up, Cond.methodLink RX6 95 yX5_gets, Cond.methodLink RX6 99 yX6_free, Cond.instanceMethod yX6_free, Cond.selects RX6 yX6_free yX6_free, Cond.code yX6_free cX6_free 7 (some (.object "HotBedsLaw$Bed")), Cond.fieldLink RX6 66 "HotBedsLaw$Sailor" "kept" "LHotBedsLaw$Bed;", Cond.methodLink RL 119 yX3_pass, Cond.instanceMethod yX3_pass, Cond.selects RX3 yX3_pass yX3_pass, Cond.code yX3_pass cX3_pass 3 (some .int), Cond.methodLink RX3 122 yX3_requireHours, Cond.static yX3_requireHours, Cond.code yX3_requireHours cX3_requireHours 1 none]
def wsL_law0_r13 : List Cond := [Cond.methodLink RX3 125 yX2_allFloors, Cond.instanceMethod yX2_allFloors, Cond.selects RX2 yX2_allFloors yX2_allFloors, Cond.code yX2_allFloors cX2_allFloors 1 (some .int), Cond.methodLink RX2 82 yX2_sum, Cond.instanceMethod yX2_sum, Cond.selects RX2 yX2_sum yX2_sum, Cond.code yX2_sum cX2_sum 4 (some .int), Cond.methodLink RX3 129 yX1_goOn, Cond.instanceMethod yX1_goOn, Cond.selects RX1 yX1_goOn yX1_goOn, Cond.code yX1_goOn cX1_goOn 4 none, Cond.fieldLink RX1 40 "HotBeds$Sailors" "size" "I", Cond.fieldLink RX1 50 "HotBeds$Sailors" "rest" "[I", Cond.methodLink RX1 43 yX1_ringBell, Cond.instanceMethod yX1_ringBell, Cond.selects RX1 yX1_ringBell yX1_ringBell, Cond.code yX1_ringBell cX1_ringBell 3 none, Cond.fieldLink RX1 96 "HotBeds$Sailors" "heavy" "[I", Cond.methodLink RX1 87 yX2_isUp, Cond.methodLink RX1 90 yX1_isInWatch, Cond.instanceMethod yX1_isInWatch, Cond.selects RX1 yX1_isInWatch yX1_isInWatch, Cond.code yX1_isInWatch cX1_isInWatch 2 (some .boolean)]
def wsL_law0_r14 : List Cond := [Cond.fieldLink RX1 105 "HotBeds$Sailors" "watch" "[I", Cond.methodLink RX1 108 yX1_watchNow, Cond.instanceMethod yX1_watchNow, Cond.selects RX1 yX1_watchNow yX1_watchNow, Cond.code yX1_watchNow cX1_watchNow 1 (some .int), Cond.methodLink RX1 93 yX1_hoursSinceWatch, Cond.instanceMethod yX1_hoursSinceWatch, Cond.selects RX1 yX1_hoursSinceWatch yX1_hoursSinceWatch, Cond.code yX1_hoursSinceWatch cX1_hoursSinceWatch 3 (some .int), Cond.methodLink RX1 99 yX1_getUp, Cond.methodLink RX1 102 yX2_beLate, Cond.instanceMethod yX2_beLate, Cond.selects RX2 yX2_beLate yX2_beLate, Cond.code yX2_beLate cX2_beLate 2 none, Cond.methodLink RX1 47 yX1_serve, Cond.instanceMethod yX1_serve, Cond.selects RX1 yX1_serve yX1_serve, Cond.code yX1_serve cX1_serve 2 none, Cond.methodLink RX1 112 yX2_payWage, Cond.instanceMethod yX2_payWage, Cond.selects RX2 yX2_payWage yX2_payWage, Cond.code yX2_payWage cX2_payWage 3 none, Cond.methodLink RX2 75 Lib.Math.max.name, Cond.static Lib.Math.max.name]
def wsL_law0_r15 : List Cond := [Cond.code Lib.Math.max.name Lib.Math.max.code 2 (some .int), Cond.methodLink RX2 71 yX2_hasBoots, Cond.methodLink RX2 78 yX2_earn, Cond.methodLink RX1 115 yX1_canRedeemBoots, Cond.methodLink RX1 118 yX1_redeemBoots, Cond.methodLink RX1 121 yX1_lookForBed, Cond.instanceMethod yX1_lookForBed, Cond.selects RX1 yX1_lookForBed yX1_lookForBed, Cond.code yX1_lookForBed cX1_lookForBed 4 none, Cond.fieldLink RX1 124 "HotBeds$Sailors" "kept" "[I", Cond.methodLink RX1 127 yX0_isFree, Cond.instanceMethod yX0_isFree, Cond.selects RX0 yX0_isFree yX0_isFree, Cond.code yX0_isFree cX0_isFree 2 (some .boolean), Cond.methodLink RX0 42 yX0_has, Cond.methodLink RX1 130 yX0_cheapestFree, Cond.instanceMethod yX0_cheapestFree, Cond.selects RX0 yX0_cheapestFree yX0_cheapestFree, Cond.code yX0_cheapestFree cX0_cheapestFree 3 (some .int), Cond.methodLink RX0 46 yX0_isFree, Cond.methodLink RX1 133 yX1_tryBed, Cond.instanceMethod yX1_tryBed, Cond.selects RX1 yX1_tryBed yX1_tryBed, Cond.code yX1_tryBed cX1_tryBed 5 none]
def wsL_law0_r16 : List Cond := [Cond.fieldLink RX1 139 "HotBeds$Beds" "price" "[I", Cond.methodLink RX1 142 yX1_pawnBoots, Cond.methodLink RX1 145 yX1_getInto, Cond.instanceMethod yX1_getInto, Cond.selects RX1 yX1_getInto yX1_getInto, Cond.code yX1_getInto cX1_getInto 4 none, Cond.fieldLink RX1 148 "HotBeds$Beds" "paid" "[I", Cond.fieldLink RX1 151 "HotBeds$Beds" "entries" "[I", Cond.methodLink RX1 136 yX2_lieOnFloor, Cond.instanceMethod yX2_lieOnFloor, Cond.selects RX2 yX2_lieOnFloor yX2_lieOnFloor, Cond.code yX2_lieOnFloor cX2_lieOnFloor 2 none, Cond.methodLink RX1 54 yX1_restOfHour, Cond.instanceMethod yX1_restOfHour, Cond.selects RX1 yX1_restOfHour yX1_restOfHour, Cond.code yX1_restOfHour cX1_restOfHour 2 (some .int), Cond.methodLink RX1 154 yX0_isWarm, Cond.instanceMethod yX0_isWarm, Cond.selects RX0 yX0_isWarm yX0_isWarm, Cond.code yX0_isWarm cX0_isWarm 2 (some .boolean), Cond.methodLink RX1 58 yX0_changeWarmth, Cond.instanceMethod yX0_changeWarmth, Cond.selects RX0 yX0_changeWarmth yX0_changeWarmth, Cond.code yX0_changeWarmth cX0_changeWarmth 2 none]
def wsL_law0_r17 : List Cond := [Cond.methodLink RX0 49 Lib.Math.max.name, Cond.methodLink RX0 55 Lib.Math.min.name, Cond.methodLink RL 136 yX6_pass, Cond.methodLink RL 138 yX3_count, Cond.instanceMethod yX3_count, Cond.selects RX3 yX3_count yX3_count, Cond.code yX3_count cX3_count 2 (some .int), Cond.fieldLink RX3 175 "HotBeds$House" "hour" "I", Cond.fieldLink RX3 178 "HotBeds$Beds" "size" "I", Cond.methodLink RX3 182 yX1_watchNow, Cond.methodLink RX3 185 yX2_howManyAt, Cond.instanceMethod yX2_howManyAt, Cond.selects RX2 yX2_howManyAt yX2_howManyAt, Cond.code yX2_howManyAt cX2_howManyAt 4 (some .int), Cond.methodLink RX3 188 yX2_allLate, Cond.instanceMethod yX2_allLate, Cond.selects RX2 yX2_allLate yX2_allLate, Cond.code yX2_allLate cX2_allLate 1 (some .int), Cond.methodLink RL 141 yX3_about, Cond.instanceMethod yX3_about, Cond.selects RX3 yX3_about yX3_about, Cond.code yX3_about cX3_about 4 (some .int), Cond.fieldLink RX3 158 "HotBeds$Beds" "price" "[I", Cond.fieldLink RX3 161 "HotBeds$Beds" "warmth" "[I"]
def wsL_law0_r18 : List Cond := [Cond.fieldLink RX3 164 "HotBeds$Beds" "entries" "[I", Cond.fieldLink RX3 167 "HotBeds$Beds" "paid" "[I", Cond.fieldLink RX3 170 "HotBeds$Beds" "sleeper" "[I", Cond.methodLink RL 144 yX3_told, Cond.instanceMethod yX3_told, Cond.selects RX3 yX3_told yX3_told, Cond.code yX3_told cX3_told 4 (some .int), Cond.fieldLink RX3 132 "HotBeds$Sailors" "heavy" "[I", Cond.fieldLink RX3 135 "HotBeds$Sailors" "wage" "[I", Cond.fieldLink RX3 138 "HotBeds$Sailors" "boots" "[I", Cond.fieldLink RX3 141 "HotBeds$Sailors" "place" "[I", Cond.fieldLink RX3 144 "HotBeds$Sailors" "rest" "[I", Cond.fieldLink RX3 147 "HotBeds$Sailors" "late" "[I", Cond.fieldLink RX3 150 "HotBeds$Sailors" "floors" "[I", Cond.methodLink RL 147 yX6_isSame, Cond.instanceMethod yX6_isSame, Cond.selects RX6 yX6_isSame yX6_isSame, Cond.code yX6_isSame cX6_isSame 9 (some .boolean), Cond.fieldLink RX6 49 "HotBedsLaw$Sailor" "number" "I", Cond.fieldLink RX6 33 "HotBedsLaw$Bed" "number" "I", Cond.methodLink RX6 106 yX6_sums, Cond.methodLink RX6 110 yX3_count, Cond.methodLink RX6 116 yX3_about, Cond.methodLink RX6 120 yX3_told]
def wsL_law0_r19 : List Cond := [Cond.methodLink RX6 123 yX3_mean, Cond.instanceMethod yX3_mean, Cond.selects RX3 yX3_mean yX3_mean, Cond.code yX3_mean cX3_mean 2 (some .double), Cond.methodLink RX3 197 yX2_allRest, Cond.instanceMethod yX2_allRest, Cond.selects RX2 yX2_allRest yX2_allRest, Cond.code yX2_allRest cX2_allRest 1 (some .int)]
def wsL_law0 : List Cond := (wsL_law0_r1 ++ (wsL_law0_r2 ++ (wsL_law0_r3 ++ (wsL_law0_r4 ++ (wsL_law0_r5 ++ (wsL_law0_r6 ++ (wsL_law0_r7 ++ (wsL_law0_r8 ++ (wsL_law0_r9 ++ (wsL_law0_r10 ++ (wsL_law0_r11 ++ (wsL_law0_r12 ++ (wsL_law0_r13 ++ (wsL_law0_r14 ++ (wsL_law0_r15 ++ (wsL_law0_r16 ++ (wsL_law0_r17 ++ (wsL_law0_r18 ++ wsL_law0_r19)))))))))))))))))) ++ wsX30 ++ wsX10 ++ wsX00 ++ wsX20 ++ wsX60 ++ wsX40 ++ wsX50 ++ ([] : List Cond)
def wsL_law : List Cond := wsL_law0 ++ (vx_atS RX3 23 "java/lang/IllegalArgumentException" ["java/lang/RuntimeException", "java/lang/Exception"]).filter goodWord ++ (vx_atS RX0 33 "java/lang/IllegalStateException" ["java/lang/RuntimeException", "java/lang/Exception"]).filter goodWord ++ (vx_atS RX3 157 "java/lang/IndexOutOfBoundsException" ["java/lang/RuntimeException", "java/lang/Exception"]).filter goodWord ++ (vx_atS RX2 54 "java/lang/IllegalStateException" ["java/lang/RuntimeException", "java/lang/Exception"]).filter goodWord ++ (vx_atS RX3 93 "java/lang/IllegalStateException" ["java/lang/RuntimeException", "java/lang/Exception"]).filter goodWord
abbrev vwCl : List vw_C := [(RX0, TX0, 6), (RX1, TX1, 5), (RX2, TX2, 13), (RX3, TX3, 2), (RX4, TX4, 6), (RX5, TX5, 13), (RX6, TX6, 5)]
end
section
theorem dX0_init_0 : decode cX0_init 0 = .ok (.aload_n 0, 1) := by decide +kernel
theorem dX0_init_1 : decode cX0_init 1 = .ok (.invokespecial 1, 3) := by decide +kernel
theorem dX0_init_4 : decode cX0_init 4 = .ok (.aload_n 0, 1) := by decide +kernel
theorem dX0_init_5 : decode cX0_init 5 = .ok (.iconst 0, 1) := by decide +kernel
theorem dX0_init_6 : decode cX0_init 6 = .ok (.putfield 7, 3) := by decide +kernel
theorem dX0_init_9 : decode cX0_init 9 = .ok (.aload_n 0, 1) := by decide +kernel
theorem dX0_init_10 : decode cX0_init 10 = .ok (.bipush 6, 2) := by decide +kernel
theorem dX0_init_12 : decode cX0_init 12 = .ok (.newarray .int, 2) := by decide +kernel
theorem dX0_init_14 : decode cX0_init 14 = .ok (.putfield 13, 3) := by decide +kernel
theorem dX0_init_17 : decode cX0_init 17 = .ok (.aload_n 0, 1) := by decide +kernel
theorem dX0_init_18 : decode cX0_init 18 = .ok (.bipush 6, 2) := by decide +kernel
theorem dX0_init_20 : decode cX0_init 20 = .ok (.newarray .int, 2) := by decide +kernel
theorem dX0_init_22 : decode cX0_init 22 = .ok (.putfield 17, 3) := by decide +kernel
theorem dX0_init_25 : decode cX0_init 25 = .ok (.aload_n 0, 1) := by decide +kernel
theorem dX0_init_26 : decode cX0_init 26 = .ok (.bipush 6, 2) := by decide +kernel
theorem dX0_init_28 : decode cX0_init 28 = .ok (.newarray .int, 2) := by decide +kernel
theorem dX0_init_30 : decode cX0_init 30 = .ok (.putfield 20, 3) := by decide +kernel
theorem dX0_init_33 : decode cX0_init 33 = .ok (.aload_n 0, 1) := by decide +kernel
theorem dX0_init_34 : decode cX0_init 34 = .ok (.bipush 6, 2) := by decide +kernel
theorem dX0_init_36 : decode cX0_init 36 = .ok (.newarray .int, 2) := by decide +kernel
theorem dX0_init_38 : decode cX0_init 38 = .ok (.putfield 23, 3) := by decide +kernel
theorem dX0_init_41 : decode cX0_init 41 = .ok (.aload_n 0, 1) := by decide +kernel
theorem dX0_init_42 : decode cX0_init 42 = .ok (.bipush 6, 2) := by decide +kernel
theorem dX0_init_44 : decode cX0_init 44 = .ok (.newarray .int, 2) := by decide +kernel
theorem dX0_init_46 : decode cX0_init 46 = .ok (.putfield 26, 3) := by decide +kernel
theorem dX0_init_49 : decode cX0_init 49 = .ok (.return_, 1) := by decide +kernel
theorem dX0_add_0 : decode cX0_add 0 = .ok (.aload_n 0, 1) := by decide +kernel
theorem dX0_add_1 : decode cX0_add 1 = .ok (.getfield 7, 3) := by decide +kernel
theorem dX0_add_4 : decode cX0_add 4 = .ok (.bipush 6, 2) := by decide +kernel
theorem dX0_add_6 : decode cX0_add 6 = .ok (.if_icmp .lt 13, 3) := by decide +kernel
theorem dX0_add_9 : decode cX0_add 9 = .ok (.new 29, 3) := by decide +kernel
theorem dX0_add_12 : decode cX0_add 12 = .ok (.dup, 1) := by decide +kernel
theorem dX0_add_13 : decode cX0_add 13 = .ok (.ldc 31, 2) := by decide +kernel
theorem dX0_add_15 : decode cX0_add 15 = .ok (.invokespecial 33, 3) := by decide +kernel
theorem dX0_add_18 : decode cX0_add 18 = .ok (.athrow, 1) := by decide +kernel
theorem dX0_add_19 : decode cX0_add 19 = .ok (.aload_n 0, 1) := by decide +kernel
theorem dX0_add_20 : decode cX0_add 20 = .ok (.getfield 7, 3) := by decide +kernel
theorem dX0_add_23 : decode cX0_add 23 = .ok (.istore_n 2, 1) := by decide +kernel
theorem dX0_add_24 : decode cX0_add 24 = .ok (.aload_n 0, 1) := by decide +kernel
theorem dX0_add_25 : decode cX0_add 25 = .ok (.getfield 13, 3) := by decide +kernel
theorem dX0_add_28 : decode cX0_add 28 = .ok (.iload_n 2, 1) := by decide +kernel
theorem dX0_add_29 : decode cX0_add 29 = .ok (.iload_n 1, 1) := by decide +kernel
theorem dX0_add_30 : decode cX0_add 30 = .ok (.iastore, 1) := by decide +kernel
theorem dX0_add_31 : decode cX0_add 31 = .ok (.aload_n 0, 1) := by decide +kernel
theorem dX0_add_32 : decode cX0_add 32 = .ok (.getfield 26, 3) := by decide +kernel
theorem dX0_add_35 : decode cX0_add 35 = .ok (.iload_n 2, 1) := by decide +kernel
theorem dX0_add_36 : decode cX0_add 36 = .ok (.iconst (-1), 1) := by decide +kernel
theorem dX0_add_37 : decode cX0_add 37 = .ok (.iastore, 1) := by decide +kernel
theorem dX0_add_38 : decode cX0_add 38 = .ok (.aload_n 0, 1) := by decide +kernel
theorem dX0_add_39 : decode cX0_add 39 = .ok (.iload_n 2, 1) := by decide +kernel
theorem dX0_add_40 : decode cX0_add 40 = .ok (.iconst 1, 1) := by decide +kernel
theorem dX0_add_41 : decode cX0_add 41 = .ok (.iadd, 1) := by decide +kernel
theorem dX0_add_42 : decode cX0_add 42 = .ok (.putfield 7, 3) := by decide +kernel
theorem dX0_add_45 : decode cX0_add 45 = .ok (.iload_n 2, 1) := by decide +kernel
theorem dX0_add_46 : decode cX0_add 46 = .ok (.ireturn, 1) := by decide +kernel
theorem dX0_has_0 : decode cX0_has 0 = .ok (.iload_n 1, 1) := by decide +kernel
theorem dX0_has_1 : decode cX0_has 1 = .ok (.ifCond .lt 15, 3) := by decide +kernel
theorem dX0_has_4 : decode cX0_has 4 = .ok (.iload_n 1, 1) := by decide +kernel
theorem dX0_has_5 : decode cX0_has 5 = .ok (.aload_n 0, 1) := by decide +kernel
theorem dX0_has_6 : decode cX0_has 6 = .ok (.getfield 7, 3) := by decide +kernel
theorem dX0_has_9 : decode cX0_has 9 = .ok (.if_icmp .ge 7, 3) := by decide +kernel
theorem dX0_has_12 : decode cX0_has 12 = .ok (.iconst 1, 1) := by decide +kernel
theorem dX0_has_13 : decode cX0_has 13 = .ok (.goto 4, 3) := by decide +kernel
theorem dX0_has_16 : decode cX0_has 16 = .ok (.iconst 0, 1) := by decide +kernel
theorem dX0_has_17 : decode cX0_has 17 = .ok (.ireturn, 1) := by decide +kernel
set_option maxRecDepth 20000 in
theorem ggX0_isFree_X0_has : GoodIn wsX0_isFree wsX0_has := goodIn_r _ [6, 7, 8, 9, 10, 11, 12, 13] (by decide +kernel) (by decide +kernel)
set_option maxRecDepth 20000 in
theorem gX0_isFree_X0_has : GoodIn wsX0_isFree (wsV RX0 42 RX0 yX0_has wsX0_has) := goodIn_app (goodIn_of _ (by decide +kernel)) ggX0_isFree_X0_has
theorem dX0_isFree_0 : decode cX0_isFree 0 = .ok (.aload_n 0, 1) := by decide +kernel
theorem dX0_isFree_1 : decode cX0_isFree 1 = .ok (.iload_n 1, 1) := by decide +kernel
theorem dX0_isFree_2 : decode cX0_isFree 2 = .ok (.invokevirtual 42, 3) := by decide +kernel
theorem dX0_isFree_5 : decode cX0_isFree 5 = .ok (.ifCond .eq 17, 3) := by decide +kernel
theorem dX0_isFree_8 : decode cX0_isFree 8 = .ok (.aload_n 0, 1) := by decide +kernel
theorem dX0_isFree_9 : decode cX0_isFree 9 = .ok (.getfield 26, 3) := by decide +kernel
theorem dX0_isFree_12 : decode cX0_isFree 12 = .ok (.iload_n 1, 1) := by decide +kernel
theorem dX0_isFree_13 : decode cX0_isFree 13 = .ok (.iaload, 1) := by decide +kernel
theorem dX0_isFree_14 : decode cX0_isFree 14 = .ok (.iconst (-1), 1) := by decide +kernel
theorem dX0_isFree_15 : decode cX0_isFree 15 = .ok (.if_icmp .ne 7, 3) := by decide +kernel
theorem dX0_isFree_18 : decode cX0_isFree 18 = .ok (.iconst 1, 1) := by decide +kernel
theorem dX0_isFree_19 : decode cX0_isFree 19 = .ok (.goto 4, 3) := by decide +kernel
theorem dX0_isFree_22 : decode cX0_isFree 22 = .ok (.iconst 0, 1) := by decide +kernel
theorem dX0_isFree_23 : decode cX0_isFree 23 = .ok (.ireturn, 1) := by decide +kernel
set_option maxRecDepth 20000 in
theorem ggX0_isWarm_X0_has : GoodIn wsX0_isWarm wsX0_has := goodIn_r _ [6, 7, 8, 9, 10, 11, 12, 13] (by decide +kernel) (by decide +kernel)
set_option maxRecDepth 20000 in
theorem gX0_isWarm_X0_has : GoodIn wsX0_isWarm (wsV RX0 42 RX0 yX0_has wsX0_has) := goodIn_app (goodIn_of _ (by decide +kernel)) ggX0_isWarm_X0_has
theorem dX0_isWarm_0 : decode cX0_isWarm 0 = .ok (.aload_n 0, 1) := by decide +kernel
theorem dX0_isWarm_1 : decode cX0_isWarm 1 = .ok (.iload_n 1, 1) := by decide +kernel
theorem dX0_isWarm_2 : decode cX0_isWarm 2 = .ok (.invokevirtual 42, 3) := by decide +kernel
theorem dX0_isWarm_5 : decode cX0_isWarm 5 = .ok (.ifCond .eq 17, 3) := by decide +kernel
theorem dX0_isWarm_8 : decode cX0_isWarm 8 = .ok (.aload_n 0, 1) := by decide +kernel
theorem dX0_isWarm_9 : decode cX0_isWarm 9 = .ok (.getfield 17, 3) := by decide +kernel
theorem dX0_isWarm_12 : decode cX0_isWarm 12 = .ok (.iload_n 1, 1) := by decide +kernel
theorem dX0_isWarm_13 : decode cX0_isWarm 13 = .ok (.iaload, 1) := by decide +kernel
theorem dX0_isWarm_14 : decode cX0_isWarm 14 = .ok (.iconst 4, 1) := by decide +kernel
theorem dX0_isWarm_15 : decode cX0_isWarm 15 = .ok (.if_icmp .lt 7, 3) := by decide +kernel
theorem dX0_isWarm_18 : decode cX0_isWarm 18 = .ok (.iconst 1, 1) := by decide +kernel
theorem dX0_isWarm_19 : decode cX0_isWarm 19 = .ok (.goto 4, 3) := by decide +kernel
theorem dX0_isWarm_22 : decode cX0_isWarm 22 = .ok (.iconst 0, 1) := by decide +kernel
theorem dX0_isWarm_23 : decode cX0_isWarm 23 = .ok (.ireturn, 1) := by decide +kernel
set_option maxRecDepth 20000 in
theorem ggX0_cheapestFree_X0_isFree : GoodIn wsX0_cheapestFree wsX0_isFree := goodIn_r _ [7, 8, 9, 10, 11, 6, 12, 1, 13, 14, 15, 16, 17, 18] (by decide +kernel) (by decide +kernel)
set_option maxRecDepth 20000 in
theorem gX0_cheapestFree_X0_isFree : GoodIn wsX0_cheapestFree (wsV RX0 46 RX0 yX0_isFree wsX0_isFree) := goodIn_app (goodIn_of _ (by decide +kernel)) ggX0_cheapestFree_X0_isFree
theorem dX0_cheapestFree_0 : decode cX0_cheapestFree 0 = .ok (.iconst (-1), 1) := by decide +kernel
theorem dX0_cheapestFree_1 : decode cX0_cheapestFree 1 = .ok (.istore_n 1, 1) := by decide +kernel
theorem dX0_cheapestFree_2 : decode cX0_cheapestFree 2 = .ok (.iconst 0, 1) := by decide +kernel
theorem dX0_cheapestFree_3 : decode cX0_cheapestFree 3 = .ok (.istore_n 2, 1) := by decide +kernel
theorem dX0_cheapestFree_4 : decode cX0_cheapestFree 4 = .ok (.iload_n 2, 1) := by decide +kernel
theorem dX0_cheapestFree_5 : decode cX0_cheapestFree 5 = .ok (.aload_n 0, 1) := by decide +kernel
theorem dX0_cheapestFree_6 : decode cX0_cheapestFree 6 = .ok (.getfield 7, 3) := by decide +kernel
theorem dX0_cheapestFree_9 : decode cX0_cheapestFree 9 = .ok (.if_icmp .ge 39, 3) := by decide +kernel
theorem dX0_cheapestFree_12 : decode cX0_cheapestFree 12 = .ok (.aload_n 0, 1) := by decide +kernel
theorem dX0_cheapestFree_13 : decode cX0_cheapestFree 13 = .ok (.iload_n 2, 1) := by decide +kernel
theorem dX0_cheapestFree_14 : decode cX0_cheapestFree 14 = .ok (.invokevirtual 46, 3) := by decide +kernel
theorem dX0_cheapestFree_17 : decode cX0_cheapestFree 17 = .ok (.ifCond .eq 25, 3) := by decide +kernel
theorem dX0_cheapestFree_20 : decode cX0_cheapestFree 20 = .ok (.iload_n 1, 1) := by decide +kernel
theorem dX0_cheapestFree_21 : decode cX0_cheapestFree 21 = .ok (.iconst (-1), 1) := by decide +kernel
theorem dX0_cheapestFree_22 : decode cX0_cheapestFree 22 = .ok (.if_icmp .eq 18, 3) := by decide +kernel
theorem dX0_cheapestFree_25 : decode cX0_cheapestFree 25 = .ok (.aload_n 0, 1) := by decide +kernel
theorem dX0_cheapestFree_26 : decode cX0_cheapestFree 26 = .ok (.getfield 13, 3) := by decide +kernel
theorem dX0_cheapestFree_29 : decode cX0_cheapestFree 29 = .ok (.iload_n 2, 1) := by decide +kernel
theorem dX0_cheapestFree_30 : decode cX0_cheapestFree 30 = .ok (.iaload, 1) := by decide +kernel
theorem dX0_cheapestFree_31 : decode cX0_cheapestFree 31 = .ok (.aload_n 0, 1) := by decide +kernel
theorem dX0_cheapestFree_32 : decode cX0_cheapestFree 32 = .ok (.getfield 13, 3) := by decide +kernel
theorem dX0_cheapestFree_35 : decode cX0_cheapestFree 35 = .ok (.iload_n 1, 1) := by decide +kernel
theorem dX0_cheapestFree_36 : decode cX0_cheapestFree 36 = .ok (.iaload, 1) := by decide +kernel
theorem dX0_cheapestFree_37 : decode cX0_cheapestFree 37 = .ok (.if_icmp .ge 5, 3) := by decide +kernel
theorem dX0_cheapestFree_40 : decode cX0_cheapestFree 40 = .ok (.iload_n 2, 1) := by decide +kernel
theorem dX0_cheapestFree_41 : decode cX0_cheapestFree 41 = .ok (.istore_n 1, 1) := by decide +kernel
theorem dX0_cheapestFree_42 : decode cX0_cheapestFree 42 = .ok (.iinc 2 1, 3) := by decide +kernel
theorem dX0_cheapestFree_45 : decode cX0_cheapestFree 45 = .ok (.goto (-41), 3) := by decide +kernel
theorem dX0_cheapestFree_48 : decode cX0_cheapestFree 48 = .ok (.iload_n 1, 1) := by decide +kernel
theorem dX0_cheapestFree_49 : decode cX0_cheapestFree 49 = .ok (.ireturn, 1) := by decide +kernel
theorem dX0_changeWarmth_0 : decode cX0_changeWarmth 0 = .ok (.iconst 0, 1) := by decide +kernel
theorem dX0_changeWarmth_1 : decode cX0_changeWarmth 1 = .ok (.istore_n 1, 1) := by decide +kernel
theorem dX0_changeWarmth_2 : decode cX0_changeWarmth 2 = .ok (.iload_n 1, 1) := by decide +kernel
theorem dX0_changeWarmth_3 : decode cX0_changeWarmth 3 = .ok (.aload_n 0, 1) := by decide +kernel
theorem dX0_changeWarmth_4 : decode cX0_changeWarmth 4 = .ok (.getfield 7, 3) := by decide +kernel
theorem dX0_changeWarmth_7 : decode cX0_changeWarmth 7 = .ok (.if_icmp .ge 59, 3) := by decide +kernel
theorem dX0_changeWarmth_10 : decode cX0_changeWarmth 10 = .ok (.aload_n 0, 1) := by decide +kernel
theorem dX0_changeWarmth_11 : decode cX0_changeWarmth 11 = .ok (.getfield 26, 3) := by decide +kernel
theorem dX0_changeWarmth_14 : decode cX0_changeWarmth 14 = .ok (.iload_n 1, 1) := by decide +kernel
theorem dX0_changeWarmth_15 : decode cX0_changeWarmth 15 = .ok (.iaload, 1) := by decide +kernel
theorem dX0_changeWarmth_16 : decode cX0_changeWarmth 16 = .ok (.iconst (-1), 1) := by decide +kernel
theorem dX0_changeWarmth_17 : decode cX0_changeWarmth 17 = .ok (.if_icmp .ne 24, 3) := by decide +kernel
theorem dX0_changeWarmth_20 : decode cX0_changeWarmth 20 = .ok (.aload_n 0, 1) := by decide +kernel
theorem dX0_changeWarmth_21 : decode cX0_changeWarmth 21 = .ok (.getfield 17, 3) := by decide +kernel
theorem dX0_changeWarmth_24 : decode cX0_changeWarmth 24 = .ok (.iload_n 1, 1) := by decide +kernel
theorem dX0_changeWarmth_25 : decode cX0_changeWarmth 25 = .ok (.iconst 0, 1) := by decide +kernel
theorem dX0_changeWarmth_26 : decode cX0_changeWarmth 26 = .ok (.aload_n 0, 1) := by decide +kernel
theorem dX0_changeWarmth_27 : decode cX0_changeWarmth 27 = .ok (.getfield 17, 3) := by decide +kernel
theorem dX0_changeWarmth_30 : decode cX0_changeWarmth 30 = .ok (.iload_n 1, 1) := by decide +kernel
theorem dX0_changeWarmth_31 : decode cX0_changeWarmth 31 = .ok (.iaload, 1) := by decide +kernel
theorem dX0_changeWarmth_32 : decode cX0_changeWarmth 32 = .ok (.iconst 1, 1) := by decide +kernel
theorem dX0_changeWarmth_33 : decode cX0_changeWarmth 33 = .ok (.isub, 1) := by decide +kernel
theorem dX0_changeWarmth_34 : decode cX0_changeWarmth 34 = .ok (.invokestatic 49, 3) := by decide +kernel
theorem dX0_changeWarmth_37 : decode cX0_changeWarmth 37 = .ok (.iastore, 1) := by decide +kernel
theorem dX0_changeWarmth_38 : decode cX0_changeWarmth 38 = .ok (.goto 22, 3) := by decide +kernel
theorem dX0_changeWarmth_41 : decode cX0_changeWarmth 41 = .ok (.aload_n 0, 1) := by decide +kernel
theorem dX0_changeWarmth_42 : decode cX0_changeWarmth 42 = .ok (.getfield 17, 3) := by decide +kernel
theorem dX0_changeWarmth_45 : decode cX0_changeWarmth 45 = .ok (.iload_n 1, 1) := by decide +kernel
theorem dX0_changeWarmth_46 : decode cX0_changeWarmth 46 = .ok (.bipush 8, 2) := by decide +kernel
theorem dX0_changeWarmth_48 : decode cX0_changeWarmth 48 = .ok (.aload_n 0, 1) := by decide +kernel
theorem dX0_changeWarmth_49 : decode cX0_changeWarmth 49 = .ok (.getfield 17, 3) := by decide +kernel
theorem dX0_changeWarmth_52 : decode cX0_changeWarmth 52 = .ok (.iload_n 1, 1) := by decide +kernel
theorem dX0_changeWarmth_53 : decode cX0_changeWarmth 53 = .ok (.iaload, 1) := by decide +kernel
theorem dX0_changeWarmth_54 : decode cX0_changeWarmth 54 = .ok (.iconst 2, 1) := by decide +kernel
theorem dX0_changeWarmth_55 : decode cX0_changeWarmth 55 = .ok (.iadd, 1) := by decide +kernel
theorem dX0_changeWarmth_56 : decode cX0_changeWarmth 56 = .ok (.invokestatic 55, 3) := by decide +kernel
theorem dX0_changeWarmth_59 : decode cX0_changeWarmth 59 = .ok (.iastore, 1) := by decide +kernel
theorem dX0_changeWarmth_60 : decode cX0_changeWarmth 60 = .ok (.iinc 1 1, 3) := by decide +kernel
theorem dX0_changeWarmth_63 : decode cX0_changeWarmth 63 = .ok (.goto (-61), 3) := by decide +kernel
theorem dX0_changeWarmth_66 : decode cX0_changeWarmth 66 = .ok (.return_, 1) := by decide +kernel
set_option maxRecDepth 20000 in
theorem ggX1_init_X0_init : GoodIn wsX1_init wsX0_init := goodIn_r _ [16, 17, 2, 3, 18, 19, 20, 21, 22, 23, 24, 46, 47, 48, 49, 50, 51] (by decide +kernel) (by decide +kernel)
set_option maxRecDepth 20000 in
theorem gX1_init_X0_init_n21 : GoodIn wsX1_init (wsX0_init) := ggX1_init_X0_init
set_option maxRecDepth 20000 in
theorem ggX1_init_X2_init : GoodIn wsX1_init wsX2_init := goodIn_r _ [26, 27, 2, 3, 28, 19, 29, 30, 31, 32, 33, 34, 35, 36, 37, 38, 39, 40, 52, 53, 54, 55, 56, 57, 58, 59, 60, 61, 62, 63, 64] (by decide +kernel) (by decide +kernel)
set_option maxRecDepth 20000 in
theorem gX1_init_X2_init_n28 : GoodIn wsX1_init (wsX2_init) := ggX1_init_X2_init
theorem dX1_init_0 : decode cX1_init 0 = .ok (.aload_n 0, 1) := by decide +kernel
theorem dX1_init_1 : decode cX1_init 1 = .ok (.invokespecial 1, 3) := by decide +kernel
theorem dX1_init_4 : decode cX1_init 4 = .ok (.aload_n 0, 1) := by decide +kernel
theorem dX1_init_5 : decode cX1_init 5 = .ok (.iconst 0, 1) := by decide +kernel
theorem dX1_init_6 : decode cX1_init 6 = .ok (.putfield 7, 3) := by decide +kernel
theorem dX1_init_9 : decode cX1_init 9 = .ok (.aload_n 0, 1) := by decide +kernel
theorem dX1_init_10 : decode cX1_init 10 = .ok (.iconst 5, 1) := by decide +kernel
theorem dX1_init_11 : decode cX1_init 11 = .ok (.putfield 13, 3) := by decide +kernel
theorem dX1_init_14 : decode cX1_init 14 = .ok (.aload_n 0, 1) := by decide +kernel
theorem dX1_init_15 : decode cX1_init 15 = .ok (.bipush 6, 2) := by decide +kernel
theorem dX1_init_17 : decode cX1_init 17 = .ok (.putfield 16, 3) := by decide +kernel
theorem dX1_init_20 : decode cX1_init 20 = .ok (.aload_n 0, 1) := by decide +kernel
theorem dX1_init_21 : decode cX1_init 21 = .ok (.new 19, 3) := by decide +kernel
theorem dX1_init_24 : decode cX1_init 24 = .ok (.dup, 1) := by decide +kernel
theorem dX1_init_25 : decode cX1_init 25 = .ok (.invokespecial 21, 3) := by decide +kernel
theorem dX1_init_28 : decode cX1_init 28 = .ok (.putfield 22, 3) := by decide +kernel
theorem dX1_init_31 : decode cX1_init 31 = .ok (.aload_n 0, 1) := by decide +kernel
theorem dX1_init_32 : decode cX1_init 32 = .ok (.new 26, 3) := by decide +kernel
theorem dX1_init_35 : decode cX1_init 35 = .ok (.dup, 1) := by decide +kernel
theorem dX1_init_36 : decode cX1_init 36 = .ok (.invokespecial 28, 3) := by decide +kernel
theorem dX1_init_39 : decode cX1_init 39 = .ok (.putfield 29, 3) := by decide +kernel
theorem dX1_init_42 : decode cX1_init 42 = .ok (.return_, 1) := by decide +kernel
theorem dX1_watchNow_0 : decode cX1_watchNow 0 = .ok (.aload_n 0, 1) := by decide +kernel
theorem dX1_watchNow_1 : decode cX1_watchNow 1 = .ok (.getfield 7, 3) := by decide +kernel
theorem dX1_watchNow_4 : decode cX1_watchNow 4 = .ok (.bipush 24, 2) := by decide +kernel
theorem dX1_watchNow_6 : decode cX1_watchNow 6 = .ok (.irem, 1) := by decide +kernel
theorem dX1_watchNow_7 : decode cX1_watchNow 7 = .ok (.bipush 8, 2) := by decide +kernel
theorem dX1_watchNow_9 : decode cX1_watchNow 9 = .ok (.idiv, 1) := by decide +kernel
theorem dX1_watchNow_10 : decode cX1_watchNow 10 = .ok (.ireturn, 1) := by decide +kernel
set_option maxRecDepth 20000 in
theorem ggX1_goOn_X1_ringBell : GoodIn wsX1_goOn wsX1_ringBell := goodIn_r _ [10, 1, 11, 12, 13, 14, 15, 16, 17, 18, 19, 20, 21, 9, 22, 23, 24, 25, 26, 27, 5, 28, 29, 30, 31, 32, 33, 34, 35, 36, 4, 37, 38, 39, 40, 41, 42, 43, 44, 45, 46, 47, 48, 49, 50, 142, 143, 144, 145, 146, 147, 148, 149, 150, 151, 152, 153, 154, 155, 156, 157, 158, 159, 160, 161, 162, 163, 164, 165] (by decide +kernel) (by decide +kernel)
set_option maxRecDepth 20000 in
theorem gX1_goOn_X1_ringBell : GoodIn wsX1_goOn (wsV RX1 43 RX1 yX1_ringBell wsX1_ringBell) := goodIn_app (goodIn_of _ (by decide +kernel)) ggX1_goOn_X1_ringBell
set_option maxRecDepth 20000 in
theorem ggX1_goOn_X1_serve : GoodIn wsX1_goOn wsX1_serve := goodIn_r _ [54, 5, 1, 19, 20, 21, 9, 22, 23, 24, 25, 26, 27, 55, 56, 57, 16, 58, 59, 50, 60, 61, 62, 63, 64, 65, 66, 67, 68, 69, 70, 71, 72, 73, 74, 75, 76, 77, 78, 79, 80, 81, 82, 83, 84, 85, 86, 87, 88, 13, 14, 15, 17, 18, 89, 90, 91, 92, 93, 4, 94, 95, 96, 42, 97, 98, 99, 40, 41, 43, 44, 100, 101, 102, 103, 104, 105, 39, 106, 107, 108, 109, 110, 111, 112, 113, 114, 115, 116, 117, 118, 119, 38, 36, 120, 121, 37, 122, 123, 124, 125, 126, 142, 143, 144, 145, 146, 147, 148, 149, 150, 151, 152, 153, 154, 155, 156, 157, 158, 159, 160, 161, 162, 163, 164, 165] (by decide +kernel) (by decide +kernel)
set_option maxRecDepth 20000 in
theorem gX1_goOn_X1_serve : GoodIn wsX1_goOn (wsV RX1 47 RX1 yX1_serve wsX1_serve) := goodIn_app (goodIn_of _ (by decide +kernel)) ggX1_goOn_X1_serve
set_option maxRecDepth 20000 in
theorem ggX1_goOn_X1_restOfHour : GoodIn wsX1_goOn wsX1_restOfHour := goodIn_r _ [130, 1, 38, 4, 36, 5, 131, 132, 133, 42, 134, 135, 99, 40, 41, 43, 44, 142, 143, 144, 145, 146, 147, 148, 149, 150, 151, 152, 153, 154, 155, 156, 157, 158, 159, 160, 161, 162, 163, 164, 165] (by decide +kernel) (by decide +kernel)
set_option maxRecDepth 20000 in
theorem gX1_goOn_X1_restOfHour : GoodIn wsX1_goOn (wsV RX1 54 RX1 yX1_restOfHour wsX1_restOfHour) := goodIn_app (goodIn_of _ (by decide +kernel)) ggX1_goOn_X1_restOfHour
set_option maxRecDepth 20000 in
theorem ggX1_goOn_X0_changeWarmth : GoodIn wsX1_goOn wsX0_changeWarmth := goodIn_r _ [139, 44, 98, 135, 140, 61, 62, 63, 141, 75, 76, 160, 161, 162, 163, 164, 165] (by decide +kernel) (by decide +kernel)
set_option maxRecDepth 20000 in
theorem gX1_goOn_X0_changeWarmth : GoodIn wsX1_goOn (wsV RX1 58 RX0 yX0_changeWarmth wsX0_changeWarmth) := goodIn_app (goodIn_of _ (by decide +kernel)) ggX1_goOn_X0_changeWarmth
theorem dX1_goOn_0 : decode cX1_goOn 0 = .ok (.iconst 0, 1) := by decide +kernel
theorem dX1_goOn_1 : decode cX1_goOn 1 = .ok (.istore_n 2, 1) := by decide +kernel
theorem dX1_goOn_2 : decode cX1_goOn 2 = .ok (.iload_n 2, 1) := by decide +kernel
theorem dX1_goOn_3 : decode cX1_goOn 3 = .ok (.iload_n 1, 1) := by decide +kernel
theorem dX1_goOn_4 : decode cX1_goOn 4 = .ok (.if_icmp .ge 110, 3) := by decide +kernel
theorem dX1_goOn_7 : decode cX1_goOn 7 = .ok (.iconst 0, 1) := by decide +kernel
theorem dX1_goOn_8 : decode cX1_goOn 8 = .ok (.istore_n 3, 1) := by decide +kernel
theorem dX1_goOn_9 : decode cX1_goOn 9 = .ok (.iload_n 3, 1) := by decide +kernel
theorem dX1_goOn_10 : decode cX1_goOn 10 = .ok (.aload_n 0, 1) := by decide +kernel
theorem dX1_goOn_11 : decode cX1_goOn 11 = .ok (.getfield 29, 3) := by decide +kernel
theorem dX1_goOn_14 : decode cX1_goOn 14 = .ok (.getfield 40, 3) := by decide +kernel
theorem dX1_goOn_17 : decode cX1_goOn 17 = .ok (.if_icmp .ge 14, 3) := by decide +kernel
theorem dX1_goOn_20 : decode cX1_goOn 20 = .ok (.aload_n 0, 1) := by decide +kernel
theorem dX1_goOn_21 : decode cX1_goOn 21 = .ok (.iload_n 3, 1) := by decide +kernel
theorem dX1_goOn_22 : decode cX1_goOn 22 = .ok (.invokevirtual 43, 3) := by decide +kernel
theorem dX1_goOn_25 : decode cX1_goOn 25 = .ok (.iinc 3 1, 3) := by decide +kernel
theorem dX1_goOn_28 : decode cX1_goOn 28 = .ok (.goto (-19), 3) := by decide +kernel
theorem dX1_goOn_31 : decode cX1_goOn 31 = .ok (.iconst 0, 1) := by decide +kernel
theorem dX1_goOn_32 : decode cX1_goOn 32 = .ok (.istore_n 3, 1) := by decide +kernel
theorem dX1_goOn_33 : decode cX1_goOn 33 = .ok (.iload_n 3, 1) := by decide +kernel
theorem dX1_goOn_34 : decode cX1_goOn 34 = .ok (.aload_n 0, 1) := by decide +kernel
theorem dX1_goOn_35 : decode cX1_goOn 35 = .ok (.getfield 29, 3) := by decide +kernel
theorem dX1_goOn_38 : decode cX1_goOn 38 = .ok (.getfield 40, 3) := by decide +kernel
theorem dX1_goOn_41 : decode cX1_goOn 41 = .ok (.if_icmp .ge 14, 3) := by decide +kernel
theorem dX1_goOn_44 : decode cX1_goOn 44 = .ok (.aload_n 0, 1) := by decide +kernel
theorem dX1_goOn_45 : decode cX1_goOn 45 = .ok (.iload_n 3, 1) := by decide +kernel
theorem dX1_goOn_46 : decode cX1_goOn 46 = .ok (.invokevirtual 47, 3) := by decide +kernel
theorem dX1_goOn_49 : decode cX1_goOn 49 = .ok (.iinc 3 1, 3) := by decide +kernel
theorem dX1_goOn_52 : decode cX1_goOn 52 = .ok (.goto (-19), 3) := by decide +kernel
theorem dX1_goOn_55 : decode cX1_goOn 55 = .ok (.iconst 0, 1) := by decide +kernel
theorem dX1_goOn_56 : decode cX1_goOn 56 = .ok (.istore_n 3, 1) := by decide +kernel
theorem dX1_goOn_57 : decode cX1_goOn 57 = .ok (.iload_n 3, 1) := by decide +kernel
theorem dX1_goOn_58 : decode cX1_goOn 58 = .ok (.aload_n 0, 1) := by decide +kernel
theorem dX1_goOn_59 : decode cX1_goOn 59 = .ok (.getfield 29, 3) := by decide +kernel
theorem dX1_goOn_62 : decode cX1_goOn 62 = .ok (.getfield 40, 3) := by decide +kernel
theorem dX1_goOn_65 : decode cX1_goOn 65 = .ok (.if_icmp .ge 26, 3) := by decide +kernel
theorem dX1_goOn_68 : decode cX1_goOn 68 = .ok (.aload_n 0, 1) := by decide +kernel
theorem dX1_goOn_69 : decode cX1_goOn 69 = .ok (.getfield 29, 3) := by decide +kernel
theorem dX1_goOn_72 : decode cX1_goOn 72 = .ok (.getfield 50, 3) := by decide +kernel
theorem dX1_goOn_75 : decode cX1_goOn 75 = .ok (.iload_n 3, 1) := by decide +kernel
theorem dX1_goOn_76 : decode cX1_goOn 76 = .ok (.dup2, 1) := by decide +kernel
theorem dX1_goOn_77 : decode cX1_goOn 77 = .ok (.iaload, 1) := by decide +kernel
theorem dX1_goOn_78 : decode cX1_goOn 78 = .ok (.aload_n 0, 1) := by decide +kernel
theorem dX1_goOn_79 : decode cX1_goOn 79 = .ok (.iload_n 3, 1) := by decide +kernel
theorem dX1_goOn_80 : decode cX1_goOn 80 = .ok (.invokevirtual 54, 3) := by decide +kernel
theorem dX1_goOn_83 : decode cX1_goOn 83 = .ok (.iadd, 1) := by decide +kernel
theorem dX1_goOn_84 : decode cX1_goOn 84 = .ok (.iastore, 1) := by decide +kernel
theorem dX1_goOn_85 : decode cX1_goOn 85 = .ok (.iinc 3 1, 3) := by decide +kernel
theorem dX1_goOn_88 : decode cX1_goOn 88 = .ok (.goto (-31), 3) := by decide +kernel
theorem dX1_goOn_91 : decode cX1_goOn 91 = .ok (.aload_n 0, 1) := by decide +kernel
theorem dX1_goOn_92 : decode cX1_goOn 92 = .ok (.getfield 22, 3) := by decide +kernel
theorem dX1_goOn_95 : decode cX1_goOn 95 = .ok (.invokevirtual 58, 3) := by decide +kernel
theorem dX1_goOn_98 : decode cX1_goOn 98 = .ok (.aload_n 0, 1) := by decide +kernel
theorem dX1_goOn_99 : decode cX1_goOn 99 = .ok (.dup, 1) := by decide +kernel
theorem dX1_goOn_100 : decode cX1_goOn 100 = .ok (.getfield 7, 3) := by decide +kernel
theorem dX1_goOn_103 : decode cX1_goOn 103 = .ok (.iconst 1, 1) := by decide +kernel
theorem dX1_goOn_104 : decode cX1_goOn 104 = .ok (.iadd, 1) := by decide +kernel
theorem dX1_goOn_105 : decode cX1_goOn 105 = .ok (.putfield 7, 3) := by decide +kernel
theorem dX1_goOn_108 : decode cX1_goOn 108 = .ok (.iinc 2 1, 3) := by decide +kernel
theorem dX1_goOn_111 : decode cX1_goOn 111 = .ok (.goto (-109), 3) := by decide +kernel
theorem dX1_goOn_114 : decode cX1_goOn 114 = .ok (.return_, 1) := by decide +kernel
set_option maxRecDepth 20000 in
theorem ggX1_getUp_X0_has : GoodIn wsX1_getUp wsX0_has := goodIn_r _ [10, 11, 30, 31, 32, 33, 34, 35] (by decide +kernel) (by decide +kernel)
set_option maxRecDepth 20000 in
theorem gX1_getUp_X0_has : GoodIn wsX1_getUp (wsV RX1 64 RX0 yX0_has wsX0_has) := goodIn_app (goodIn_of _ (by decide +kernel)) ggX1_getUp_X0_has
theorem dX1_getUp_0 : decode cX1_getUp 0 = .ok (.aload_n 0, 1) := by decide +kernel
theorem dX1_getUp_1 : decode cX1_getUp 1 = .ok (.getfield 29, 3) := by decide +kernel
theorem dX1_getUp_4 : decode cX1_getUp 4 = .ok (.getfield 61, 3) := by decide +kernel
theorem dX1_getUp_7 : decode cX1_getUp 7 = .ok (.iload_n 1, 1) := by decide +kernel
theorem dX1_getUp_8 : decode cX1_getUp 8 = .ok (.iaload, 1) := by decide +kernel
theorem dX1_getUp_9 : decode cX1_getUp 9 = .ok (.istore_n 2, 1) := by decide +kernel
theorem dX1_getUp_10 : decode cX1_getUp 10 = .ok (.aload_n 0, 1) := by decide +kernel
theorem dX1_getUp_11 : decode cX1_getUp 11 = .ok (.getfield 22, 3) := by decide +kernel
theorem dX1_getUp_14 : decode cX1_getUp 14 = .ok (.iload_n 2, 1) := by decide +kernel
theorem dX1_getUp_15 : decode cX1_getUp 15 = .ok (.invokevirtual 64, 3) := by decide +kernel
theorem dX1_getUp_18 : decode cX1_getUp 18 = .ok (.ifCond .eq 13, 3) := by decide +kernel
theorem dX1_getUp_21 : decode cX1_getUp 21 = .ok (.aload_n 0, 1) := by decide +kernel
theorem dX1_getUp_22 : decode cX1_getUp 22 = .ok (.getfield 22, 3) := by decide +kernel
theorem dX1_getUp_25 : decode cX1_getUp 25 = .ok (.getfield 68, 3) := by decide +kernel
theorem dX1_getUp_28 : decode cX1_getUp 28 = .ok (.iload_n 2, 1) := by decide +kernel
theorem dX1_getUp_29 : decode cX1_getUp 29 = .ok (.iconst (-1), 1) := by decide +kernel
theorem dX1_getUp_30 : decode cX1_getUp 30 = .ok (.iastore, 1) := by decide +kernel
theorem dX1_getUp_31 : decode cX1_getUp 31 = .ok (.aload_n 0, 1) := by decide +kernel
theorem dX1_getUp_32 : decode cX1_getUp 32 = .ok (.getfield 29, 3) := by decide +kernel
theorem dX1_getUp_35 : decode cX1_getUp 35 = .ok (.getfield 61, 3) := by decide +kernel
theorem dX1_getUp_38 : decode cX1_getUp 38 = .ok (.iload_n 1, 1) := by decide +kernel
theorem dX1_getUp_39 : decode cX1_getUp 39 = .ok (.iconst (-1), 1) := by decide +kernel
theorem dX1_getUp_40 : decode cX1_getUp 40 = .ok (.iastore, 1) := by decide +kernel
theorem dX1_getUp_41 : decode cX1_getUp 41 = .ok (.aload_n 0, 1) := by decide +kernel
theorem dX1_getUp_42 : decode cX1_getUp 42 = .ok (.getfield 29, 3) := by decide +kernel
theorem dX1_getUp_45 : decode cX1_getUp 45 = .ok (.getfield 71, 3) := by decide +kernel
theorem dX1_getUp_48 : decode cX1_getUp 48 = .ok (.iload_n 1, 1) := by decide +kernel
theorem dX1_getUp_49 : decode cX1_getUp 49 = .ok (.iconst 0, 1) := by decide +kernel
theorem dX1_getUp_50 : decode cX1_getUp 50 = .ok (.iastore, 1) := by decide +kernel
theorem dX1_getUp_51 : decode cX1_getUp 51 = .ok (.return_, 1) := by decide +kernel
set_option maxRecDepth 20000 in
theorem ggX1_pawnBoots_X2_earn : GoodIn wsX1_pawnBoots wsX2_earn := goodIn_r _ [8, 9, 10, 11, 12, 13, 19, 20, 21, 22, 23, 24, 25, 26, 27, 28, 29, 30, 31] (by decide +kernel) (by decide +kernel)
set_option maxRecDepth 20000 in
theorem gX1_pawnBoots_X2_earn : GoodIn wsX1_pawnBoots (wsV RX1 77 RX2 yX2_earn wsX2_earn) := goodIn_app (goodIn_of _ (by decide +kernel)) ggX1_pawnBoots_X2_earn
theorem dX1_pawnBoots_0 : decode cX1_pawnBoots 0 = .ok (.aload_n 0, 1) := by decide +kernel
theorem dX1_pawnBoots_1 : decode cX1_pawnBoots 1 = .ok (.getfield 29, 3) := by decide +kernel
theorem dX1_pawnBoots_4 : decode cX1_pawnBoots 4 = .ok (.getfield 74, 3) := by decide +kernel
theorem dX1_pawnBoots_7 : decode cX1_pawnBoots 7 = .ok (.iload_n 1, 1) := by decide +kernel
theorem dX1_pawnBoots_8 : decode cX1_pawnBoots 8 = .ok (.iconst 0, 1) := by decide +kernel
theorem dX1_pawnBoots_9 : decode cX1_pawnBoots 9 = .ok (.iastore, 1) := by decide +kernel
theorem dX1_pawnBoots_10 : decode cX1_pawnBoots 10 = .ok (.aload_n 0, 1) := by decide +kernel
theorem dX1_pawnBoots_11 : decode cX1_pawnBoots 11 = .ok (.getfield 29, 3) := by decide +kernel
theorem dX1_pawnBoots_14 : decode cX1_pawnBoots 14 = .ok (.iload_n 1, 1) := by decide +kernel
theorem dX1_pawnBoots_15 : decode cX1_pawnBoots 15 = .ok (.aload_n 0, 1) := by decide +kernel
theorem dX1_pawnBoots_16 : decode cX1_pawnBoots 16 = .ok (.getfield 16, 3) := by decide +kernel
theorem dX1_pawnBoots_19 : decode cX1_pawnBoots 19 = .ok (.invokevirtual 77, 3) := by decide +kernel
theorem dX1_pawnBoots_22 : decode cX1_pawnBoots 22 = .ok (.return_, 1) := by decide +kernel
set_option maxRecDepth 20000 in
theorem ggX1_canRedeemBoots_X2_hasBoots : GoodIn wsX1_canRedeemBoots wsX2_hasBoots := goodIn_r _ [8, 9, 15, 16, 17, 18, 19, 20, 21, 22, 23, 24, 25, 26, 27] (by decide +kernel) (by decide +kernel)
set_option maxRecDepth 20000 in
theorem gX1_canRedeemBoots_X2_hasBoots : GoodIn wsX1_canRedeemBoots (wsV RX1 81 RX2 yX2_hasBoots wsX2_hasBoots) := goodIn_app (goodIn_of _ (by decide +kernel)) ggX1_canRedeemBoots_X2_hasBoots
theorem dX1_canRedeemBoots_0 : decode cX1_canRedeemBoots 0 = .ok (.aload_n 0, 1) := by decide +kernel
theorem dX1_canRedeemBoots_1 : decode cX1_canRedeemBoots 1 = .ok (.getfield 29, 3) := by decide +kernel
theorem dX1_canRedeemBoots_4 : decode cX1_canRedeemBoots 4 = .ok (.iload_n 1, 1) := by decide +kernel
theorem dX1_canRedeemBoots_5 : decode cX1_canRedeemBoots 5 = .ok (.invokevirtual 81, 3) := by decide +kernel
theorem dX1_canRedeemBoots_8 : decode cX1_canRedeemBoots 8 = .ok (.ifCond .ne 25, 3) := by decide +kernel
theorem dX1_canRedeemBoots_11 : decode cX1_canRedeemBoots 11 = .ok (.aload_n 0, 1) := by decide +kernel
theorem dX1_canRedeemBoots_12 : decode cX1_canRedeemBoots 12 = .ok (.getfield 29, 3) := by decide +kernel
theorem dX1_canRedeemBoots_15 : decode cX1_canRedeemBoots 15 = .ok (.getfield 84, 3) := by decide +kernel
theorem dX1_canRedeemBoots_18 : decode cX1_canRedeemBoots 18 = .ok (.iload_n 1, 1) := by decide +kernel
theorem dX1_canRedeemBoots_19 : decode cX1_canRedeemBoots 19 = .ok (.iaload, 1) := by decide +kernel
theorem dX1_canRedeemBoots_20 : decode cX1_canRedeemBoots 20 = .ok (.aload_n 0, 1) := by decide +kernel
theorem dX1_canRedeemBoots_21 : decode cX1_canRedeemBoots 21 = .ok (.getfield 16, 3) := by decide +kernel
theorem dX1_canRedeemBoots_24 : decode cX1_canRedeemBoots 24 = .ok (.iconst 2, 1) := by decide +kernel
theorem dX1_canRedeemBoots_25 : decode cX1_canRedeemBoots 25 = .ok (.iadd, 1) := by decide +kernel
theorem dX1_canRedeemBoots_26 : decode cX1_canRedeemBoots 26 = .ok (.if_icmp .lt 7, 3) := by decide +kernel
theorem dX1_canRedeemBoots_29 : decode cX1_canRedeemBoots 29 = .ok (.iconst 1, 1) := by decide +kernel
theorem dX1_canRedeemBoots_30 : decode cX1_canRedeemBoots 30 = .ok (.goto 4, 3) := by decide +kernel
theorem dX1_canRedeemBoots_33 : decode cX1_canRedeemBoots 33 = .ok (.iconst 0, 1) := by decide +kernel
theorem dX1_canRedeemBoots_34 : decode cX1_canRedeemBoots 34 = .ok (.ireturn, 1) := by decide +kernel
theorem dX1_redeemBoots_0 : decode cX1_redeemBoots 0 = .ok (.aload_n 0, 1) := by decide +kernel
theorem dX1_redeemBoots_1 : decode cX1_redeemBoots 1 = .ok (.getfield 29, 3) := by decide +kernel
theorem dX1_redeemBoots_4 : decode cX1_redeemBoots 4 = .ok (.getfield 84, 3) := by decide +kernel
theorem dX1_redeemBoots_7 : decode cX1_redeemBoots 7 = .ok (.iload_n 1, 1) := by decide +kernel
theorem dX1_redeemBoots_8 : decode cX1_redeemBoots 8 = .ok (.dup2, 1) := by decide +kernel
theorem dX1_redeemBoots_9 : decode cX1_redeemBoots 9 = .ok (.iaload, 1) := by decide +kernel
theorem dX1_redeemBoots_10 : decode cX1_redeemBoots 10 = .ok (.aload_n 0, 1) := by decide +kernel
theorem dX1_redeemBoots_11 : decode cX1_redeemBoots 11 = .ok (.getfield 16, 3) := by decide +kernel
theorem dX1_redeemBoots_14 : decode cX1_redeemBoots 14 = .ok (.iconst 2, 1) := by decide +kernel
theorem dX1_redeemBoots_15 : decode cX1_redeemBoots 15 = .ok (.iadd, 1) := by decide +kernel
theorem dX1_redeemBoots_16 : decode cX1_redeemBoots 16 = .ok (.isub, 1) := by decide +kernel
theorem dX1_redeemBoots_17 : decode cX1_redeemBoots 17 = .ok (.iastore, 1) := by decide +kernel
theorem dX1_redeemBoots_18 : decode cX1_redeemBoots 18 = .ok (.aload_n 0, 1) := by decide +kernel
theorem dX1_redeemBoots_19 : decode cX1_redeemBoots 19 = .ok (.getfield 29, 3) := by decide +kernel
theorem dX1_redeemBoots_22 : decode cX1_redeemBoots 22 = .ok (.getfield 74, 3) := by decide +kernel
theorem dX1_redeemBoots_25 : decode cX1_redeemBoots 25 = .ok (.iload_n 1, 1) := by decide +kernel
theorem dX1_redeemBoots_26 : decode cX1_redeemBoots 26 = .ok (.iconst 1, 1) := by decide +kernel
theorem dX1_redeemBoots_27 : decode cX1_redeemBoots 27 = .ok (.iastore, 1) := by decide +kernel
theorem dX1_redeemBoots_28 : decode cX1_redeemBoots 28 = .ok (.return_, 1) := by decide +kernel
set_option maxRecDepth 20000 in
theorem ggX1_ringBell_X2_isUp : GoodIn wsX1_ringBell wsX2_isUp := goodIn_r _ [8, 9, 50, 51, 52, 53, 54, 55, 56, 57, 58, 59, 60, 61, 62] (by decide +kernel) (by decide +kernel)
set_option maxRecDepth 20000 in
theorem gX1_ringBell_X2_isUp : GoodIn wsX1_ringBell (wsV RX1 87 RX2 yX2_isUp wsX2_isUp) := goodIn_app (goodIn_of _ (by decide +kernel)) ggX1_ringBell_X2_isUp
set_option maxRecDepth 20000 in
theorem ggX1_ringBell_X1_isInWatch : GoodIn wsX1_ringBell wsX1_isInWatch := goodIn_r _ [14, 1, 15, 16, 17, 18, 13, 19, 20, 45, 46, 47, 48, 49, 50, 51, 52, 53, 54, 55, 56, 57, 58, 59, 60, 61, 62] (by decide +kernel) (by decide +kernel)
set_option maxRecDepth 20000 in
theorem gX1_ringBell_X1_isInWatch : GoodIn wsX1_ringBell (wsV RX1 90 RX1 yX1_isInWatch wsX1_isInWatch) := goodIn_app (goodIn_of _ (by decide +kernel)) ggX1_ringBell_X1_isInWatch
set_option maxRecDepth 20000 in
theorem ggX1_ringBell_X1_hoursSinceWatch : GoodIn wsX1_ringBell wsX1_hoursSinceWatch := goodIn_r _ [24, 1, 15, 20, 45, 46, 47, 48, 49, 50, 51, 52, 53, 54, 55, 56, 57, 58, 59, 60, 61, 62] (by decide +kernel) (by decide +kernel)
set_option maxRecDepth 20000 in
theorem gX1_ringBell_X1_hoursSinceWatch : GoodIn wsX1_ringBell (wsV RX1 93 RX1 yX1_hoursSinceWatch wsX1_hoursSinceWatch) := goodIn_app (goodIn_of _ (by decide +kernel)) ggX1_ringBell_X1_hoursSinceWatch
set_option maxRecDepth 20000 in
theorem ggX1_ringBell_X1_getUp : GoodIn wsX1_ringBell wsX1_getUp := goodIn_r _ [28, 1, 29, 30, 31, 32, 33, 34, 35, 36, 37, 38, 45, 46, 47, 48, 49, 50, 51, 52, 53, 54, 55, 56, 57, 58, 59, 60, 61, 62, 63, 64, 65, 66, 67, 68] (by decide +kernel) (by decide +kernel)
set_option maxRecDepth 20000 in
theorem gX1_ringBell_X1_getUp : GoodIn wsX1_ringBell (wsV RX1 99 RX1 yX1_getUp wsX1_getUp) := goodIn_app (goodIn_of _ (by decide +kernel)) ggX1_ringBell_X1_getUp
set_option maxRecDepth 20000 in
theorem ggX1_ringBell_X2_beLate : GoodIn wsX1_ringBell wsX2_beLate := goodIn_r _ [42, 43, 44, 50, 51, 52, 53, 54, 55, 56, 57, 58, 59, 60, 61, 62] (by decide +kernel) (by decide +kernel)
set_option maxRecDepth 20000 in
theorem gX1_ringBell_X2_beLate : GoodIn wsX1_ringBell (wsV RX1 102 RX2 yX2_beLate wsX2_beLate) := goodIn_app (goodIn_of _ (by decide +kernel)) ggX1_ringBell_X2_beLate
theorem dX1_ringBell_0 : decode cX1_ringBell 0 = .ok (.aload_n 0, 1) := by decide +kernel
theorem dX1_ringBell_1 : decode cX1_ringBell 1 = .ok (.getfield 29, 3) := by decide +kernel
theorem dX1_ringBell_4 : decode cX1_ringBell 4 = .ok (.iload_n 1, 1) := by decide +kernel
theorem dX1_ringBell_5 : decode cX1_ringBell 5 = .ok (.invokevirtual 87, 3) := by decide +kernel
theorem dX1_ringBell_8 : decode cX1_ringBell 8 = .ok (.ifCond .ne 11, 3) := by decide +kernel
theorem dX1_ringBell_11 : decode cX1_ringBell 11 = .ok (.aload_n 0, 1) := by decide +kernel
theorem dX1_ringBell_12 : decode cX1_ringBell 12 = .ok (.iload_n 1, 1) := by decide +kernel
theorem dX1_ringBell_13 : decode cX1_ringBell 13 = .ok (.invokevirtual 90, 3) := by decide +kernel
theorem dX1_ringBell_16 : decode cX1_ringBell 16 = .ok (.ifCond .eq 4, 3) := by decide +kernel
theorem dX1_ringBell_19 : decode cX1_ringBell 19 = .ok (.return_, 1) := by decide +kernel
theorem dX1_ringBell_20 : decode cX1_ringBell 20 = .ok (.aload_n 0, 1) := by decide +kernel
theorem dX1_ringBell_21 : decode cX1_ringBell 21 = .ok (.getfield 13, 3) := by decide +kernel
theorem dX1_ringBell_24 : decode cX1_ringBell 24 = .ok (.iconst 2, 1) := by decide +kernel
theorem dX1_ringBell_25 : decode cX1_ringBell 25 = .ok (.aload_n 0, 1) := by decide +kernel
theorem dX1_ringBell_26 : decode cX1_ringBell 26 = .ok (.iload_n 1, 1) := by decide +kernel
theorem dX1_ringBell_27 : decode cX1_ringBell 27 = .ok (.invokevirtual 93, 3) := by decide +kernel
theorem dX1_ringBell_30 : decode cX1_ringBell 30 = .ok (.imul, 1) := by decide +kernel
theorem dX1_ringBell_31 : decode cX1_ringBell 31 = .ok (.iadd, 1) := by decide +kernel
theorem dX1_ringBell_32 : decode cX1_ringBell 32 = .ok (.istore_n 2, 1) := by decide +kernel
theorem dX1_ringBell_33 : decode cX1_ringBell 33 = .ok (.iload_n 2, 1) := by decide +kernel
theorem dX1_ringBell_34 : decode cX1_ringBell 34 = .ok (.aload_n 0, 1) := by decide +kernel
theorem dX1_ringBell_35 : decode cX1_ringBell 35 = .ok (.getfield 29, 3) := by decide +kernel
theorem dX1_ringBell_38 : decode cX1_ringBell 38 = .ok (.getfield 96, 3) := by decide +kernel
theorem dX1_ringBell_41 : decode cX1_ringBell 41 = .ok (.iload_n 1, 1) := by decide +kernel
theorem dX1_ringBell_42 : decode cX1_ringBell 42 = .ok (.iaload, 1) := by decide +kernel
theorem dX1_ringBell_43 : decode cX1_ringBell 43 = .ok (.if_icmp .lt 11, 3) := by decide +kernel
theorem dX1_ringBell_46 : decode cX1_ringBell 46 = .ok (.aload_n 0, 1) := by decide +kernel
theorem dX1_ringBell_47 : decode cX1_ringBell 47 = .ok (.iload_n 1, 1) := by decide +kernel
theorem dX1_ringBell_48 : decode cX1_ringBell 48 = .ok (.invokevirtual 99, 3) := by decide +kernel
theorem dX1_ringBell_51 : decode cX1_ringBell 51 = .ok (.goto 11, 3) := by decide +kernel
theorem dX1_ringBell_54 : decode cX1_ringBell 54 = .ok (.aload_n 0, 1) := by decide +kernel
theorem dX1_ringBell_55 : decode cX1_ringBell 55 = .ok (.getfield 29, 3) := by decide +kernel
theorem dX1_ringBell_58 : decode cX1_ringBell 58 = .ok (.iload_n 1, 1) := by decide +kernel
theorem dX1_ringBell_59 : decode cX1_ringBell 59 = .ok (.invokevirtual 102, 3) := by decide +kernel
theorem dX1_ringBell_62 : decode cX1_ringBell 62 = .ok (.return_, 1) := by decide +kernel
set_option maxRecDepth 20000 in
theorem ggX1_isInWatch_X1_watchNow : GoodIn wsX1_isInWatch wsX1_watchNow := goodIn_r _ [7, 8, 9, 10, 11, 12, 13] (by decide +kernel) (by decide +kernel)
set_option maxRecDepth 20000 in
theorem gX1_isInWatch_X1_watchNow : GoodIn wsX1_isInWatch (wsV RX1 108 RX1 yX1_watchNow wsX1_watchNow) := goodIn_app (goodIn_of _ (by decide +kernel)) ggX1_isInWatch_X1_watchNow
theorem dX1_isInWatch_0 : decode cX1_isInWatch 0 = .ok (.aload_n 0, 1) := by decide +kernel
theorem dX1_isInWatch_1 : decode cX1_isInWatch 1 = .ok (.getfield 29, 3) := by decide +kernel
theorem dX1_isInWatch_4 : decode cX1_isInWatch 4 = .ok (.getfield 105, 3) := by decide +kernel
theorem dX1_isInWatch_7 : decode cX1_isInWatch 7 = .ok (.iload_n 1, 1) := by decide +kernel
theorem dX1_isInWatch_8 : decode cX1_isInWatch 8 = .ok (.iaload, 1) := by decide +kernel
theorem dX1_isInWatch_9 : decode cX1_isInWatch 9 = .ok (.aload_n 0, 1) := by decide +kernel
theorem dX1_isInWatch_10 : decode cX1_isInWatch 10 = .ok (.invokevirtual 108, 3) := by decide +kernel
theorem dX1_isInWatch_13 : decode cX1_isInWatch 13 = .ok (.if_icmp .ne 7, 3) := by decide +kernel
theorem dX1_isInWatch_16 : decode cX1_isInWatch 16 = .ok (.iconst 1, 1) := by decide +kernel
theorem dX1_isInWatch_17 : decode cX1_isInWatch 17 = .ok (.goto 4, 3) := by decide +kernel
theorem dX1_isInWatch_20 : decode cX1_isInWatch 20 = .ok (.iconst 0, 1) := by decide +kernel
theorem dX1_isInWatch_21 : decode cX1_isInWatch 21 = .ok (.ireturn, 1) := by decide +kernel
theorem dX1_hoursSinceWatch_0 : decode cX1_hoursSinceWatch 0 = .ok (.aload_n 0, 1) := by decide +kernel
theorem dX1_hoursSinceWatch_1 : decode cX1_hoursSinceWatch 1 = .ok (.getfield 29, 3) := by decide +kernel
theorem dX1_hoursSinceWatch_4 : decode cX1_hoursSinceWatch 4 = .ok (.getfield 105, 3) := by decide +kernel
theorem dX1_hoursSinceWatch_7 : decode cX1_hoursSinceWatch 7 = .ok (.iload_n 1, 1) := by decide +kernel
theorem dX1_hoursSinceWatch_8 : decode cX1_hoursSinceWatch 8 = .ok (.iaload, 1) := by decide +kernel
theorem dX1_hoursSinceWatch_9 : decode cX1_hoursSinceWatch 9 = .ok (.iconst 1, 1) := by decide +kernel
theorem dX1_hoursSinceWatch_10 : decode cX1_hoursSinceWatch 10 = .ok (.iadd, 1) := by decide +kernel
theorem dX1_hoursSinceWatch_11 : decode cX1_hoursSinceWatch 11 = .ok (.bipush 8, 2) := by decide +kernel
theorem dX1_hoursSinceWatch_13 : decode cX1_hoursSinceWatch 13 = .ok (.imul, 1) := by decide +kernel
theorem dX1_hoursSinceWatch_14 : decode cX1_hoursSinceWatch 14 = .ok (.istore_n 2, 1) := by decide +kernel
theorem dX1_hoursSinceWatch_15 : decode cX1_hoursSinceWatch 15 = .ok (.aload_n 0, 1) := by decide +kernel
theorem dX1_hoursSinceWatch_16 : decode cX1_hoursSinceWatch 16 = .ok (.getfield 7, 3) := by decide +kernel
theorem dX1_hoursSinceWatch_19 : decode cX1_hoursSinceWatch 19 = .ok (.bipush 24, 2) := by decide +kernel
theorem dX1_hoursSinceWatch_21 : decode cX1_hoursSinceWatch 21 = .ok (.irem, 1) := by decide +kernel
theorem dX1_hoursSinceWatch_22 : decode cX1_hoursSinceWatch 22 = .ok (.bipush 24, 2) := by decide +kernel
theorem dX1_hoursSinceWatch_24 : decode cX1_hoursSinceWatch 24 = .ok (.iadd, 1) := by decide +kernel
theorem dX1_hoursSinceWatch_25 : decode cX1_hoursSinceWatch 25 = .ok (.iload_n 2, 1) := by decide +kernel
theorem dX1_hoursSinceWatch_26 : decode cX1_hoursSinceWatch 26 = .ok (.isub, 1) := by decide +kernel
theorem dX1_hoursSinceWatch_27 : decode cX1_hoursSinceWatch 27 = .ok (.bipush 24, 2) := by decide +kernel
theorem dX1_hoursSinceWatch_29 : decode cX1_hoursSinceWatch 29 = .ok (.irem, 1) := by decide +kernel
theorem dX1_hoursSinceWatch_30 : decode cX1_hoursSinceWatch 30 = .ok (.ireturn, 1) := by decide +kernel
set_option maxRecDepth 20000 in
theorem ggX1_serve_X1_isInWatch : GoodIn wsX1_serve wsX1_isInWatch := goodIn_r _ [7, 2, 8, 9, 10, 11, 6, 12, 1, 102, 103, 104, 105, 106, 107, 108, 109, 110, 111, 112, 113, 114, 115, 116, 117, 118, 119] (by decide +kernel) (by decide +kernel)
set_option maxRecDepth 20000 in
theorem gX1_serve_X1_isInWatch : GoodIn wsX1_serve (wsV RX1 90 RX1 yX1_isInWatch wsX1_isInWatch) := goodIn_app (goodIn_of _ (by decide +kernel)) ggX1_serve_X1_isInWatch
set_option maxRecDepth 20000 in
theorem ggX1_serve_X2_payWage : GoodIn wsX1_serve wsX2_payWage := goodIn_r _ [17, 18, 19, 20, 21, 22, 23, 24, 25, 26, 16, 27, 28, 29, 30, 31, 32, 33, 34, 35, 36, 107, 108, 109, 110, 111, 112, 113, 114, 115, 116, 117, 118, 119] (by decide +kernel) (by decide +kernel)
set_option maxRecDepth 20000 in
theorem gX1_serve_X2_payWage : GoodIn wsX1_serve (wsV RX1 112 RX2 yX2_payWage wsX2_payWage) := goodIn_app (goodIn_of _ (by decide +kernel)) ggX1_serve_X2_payWage
set_option maxRecDepth 20000 in
theorem ggX1_serve_X1_canRedeemBoots : GoodIn wsX1_serve wsX1_canRedeemBoots := goodIn_r _ [40, 2, 41, 42, 43, 25, 26, 16, 27, 28, 102, 103, 104, 105, 106, 107, 108, 109, 110, 111, 112, 113, 114, 115, 116, 117, 118, 119] (by decide +kernel) (by decide +kernel)
set_option maxRecDepth 20000 in
theorem gX1_serve_X1_canRedeemBoots : GoodIn wsX1_serve (wsV RX1 115 RX1 yX1_canRedeemBoots wsX1_canRedeemBoots) := goodIn_app (goodIn_of _ (by decide +kernel)) ggX1_serve_X1_canRedeemBoots
set_option maxRecDepth 20000 in
theorem ggX1_serve_X1_redeemBoots : GoodIn wsX1_serve wsX1_redeemBoots := goodIn_r _ [47, 2, 41, 42, 48, 102, 103, 104, 105, 106, 107, 108, 109, 110, 111, 112, 113, 114, 115, 116, 117, 118, 119] (by decide +kernel) (by decide +kernel)
set_option maxRecDepth 20000 in
theorem gX1_serve_X1_redeemBoots : GoodIn wsX1_serve (wsV RX1 118 RX1 yX1_redeemBoots wsX1_redeemBoots) := goodIn_app (goodIn_of _ (by decide +kernel)) ggX1_serve_X1_redeemBoots
set_option maxRecDepth 20000 in
theorem ggX1_serve_X2_isUp : GoodIn wsX1_serve wsX2_isUp := goodIn_r _ [52, 53, 107, 108, 109, 110, 111, 112, 113, 114, 115, 116, 117, 118, 119] (by decide +kernel) (by decide +kernel)
set_option maxRecDepth 20000 in
theorem gX1_serve_X2_isUp : GoodIn wsX1_serve (wsV RX1 87 RX2 yX2_isUp wsX2_isUp) := goodIn_app (goodIn_of _ (by decide +kernel)) ggX1_serve_X2_isUp
set_option maxRecDepth 20000 in
theorem ggX1_serve_X1_lookForBed : GoodIn wsX1_serve wsX1_lookForBed := goodIn_r _ [57, 2, 58, 59, 1, 60, 61, 62, 63, 64, 65, 66, 67, 68, 69, 70, 71, 72, 73, 74, 75, 76, 77, 78, 79, 80, 6, 81, 82, 41, 42, 43, 25, 26, 16, 27, 28, 83, 84, 85, 86, 48, 87, 30, 31, 32, 33, 34, 35, 22, 36, 88, 89, 90, 91, 92, 93, 94, 95, 96, 97, 98, 99, 100, 53, 101, 102, 103, 104, 105, 106, 107, 108, 109, 110, 111, 112, 113, 114, 115, 116, 117, 118, 119, 120, 121, 122, 123, 124, 125] (by decide +kernel) (by decide +kernel)
set_option maxRecDepth 20000 in
theorem gX1_serve_X1_lookForBed : GoodIn wsX1_serve (wsV RX1 121 RX1 yX1_lookForBed wsX1_lookForBed) := goodIn_app (goodIn_of _ (by decide +kernel)) ggX1_serve_X1_lookForBed
theorem dX1_serve_0 : decode cX1_serve 0 = .ok (.aload_n 0, 1) := by decide +kernel
theorem dX1_serve_1 : decode cX1_serve 1 = .ok (.iload_n 1, 1) := by decide +kernel
theorem dX1_serve_2 : decode cX1_serve 2 = .ok (.invokevirtual 90, 3) := by decide +kernel
theorem dX1_serve_5 : decode cX1_serve 5 = .ok (.ifCond .ne 4, 3) := by decide +kernel
theorem dX1_serve_8 : decode cX1_serve 8 = .ok (.return_, 1) := by decide +kernel
theorem dX1_serve_9 : decode cX1_serve 9 = .ok (.aload_n 0, 1) := by decide +kernel
theorem dX1_serve_10 : decode cX1_serve 10 = .ok (.getfield 7, 3) := by decide +kernel
theorem dX1_serve_13 : decode cX1_serve 13 = .ok (.bipush 8, 2) := by decide +kernel
theorem dX1_serve_15 : decode cX1_serve 15 = .ok (.irem, 1) := by decide +kernel
theorem dX1_serve_16 : decode cX1_serve 16 = .ok (.ifCond .ne 24, 3) := by decide +kernel
theorem dX1_serve_19 : decode cX1_serve 19 = .ok (.aload_n 0, 1) := by decide +kernel
theorem dX1_serve_20 : decode cX1_serve 20 = .ok (.getfield 29, 3) := by decide +kernel
theorem dX1_serve_23 : decode cX1_serve 23 = .ok (.iload_n 1, 1) := by decide +kernel
theorem dX1_serve_24 : decode cX1_serve 24 = .ok (.invokevirtual 112, 3) := by decide +kernel
theorem dX1_serve_27 : decode cX1_serve 27 = .ok (.aload_n 0, 1) := by decide +kernel
theorem dX1_serve_28 : decode cX1_serve 28 = .ok (.iload_n 1, 1) := by decide +kernel
theorem dX1_serve_29 : decode cX1_serve 29 = .ok (.invokevirtual 115, 3) := by decide +kernel
theorem dX1_serve_32 : decode cX1_serve 32 = .ok (.ifCond .eq 8, 3) := by decide +kernel
theorem dX1_serve_35 : decode cX1_serve 35 = .ok (.aload_n 0, 1) := by decide +kernel
theorem dX1_serve_36 : decode cX1_serve 36 = .ok (.iload_n 1, 1) := by decide +kernel
theorem dX1_serve_37 : decode cX1_serve 37 = .ok (.invokevirtual 118, 3) := by decide +kernel
theorem dX1_serve_40 : decode cX1_serve 40 = .ok (.aload_n 0, 1) := by decide +kernel
theorem dX1_serve_41 : decode cX1_serve 41 = .ok (.getfield 29, 3) := by decide +kernel
theorem dX1_serve_44 : decode cX1_serve 44 = .ok (.iload_n 1, 1) := by decide +kernel
theorem dX1_serve_45 : decode cX1_serve 45 = .ok (.invokevirtual 87, 3) := by decide +kernel
theorem dX1_serve_48 : decode cX1_serve 48 = .ok (.ifCond .eq 8, 3) := by decide +kernel
theorem dX1_serve_51 : decode cX1_serve 51 = .ok (.aload_n 0, 1) := by decide +kernel
theorem dX1_serve_52 : decode cX1_serve 52 = .ok (.iload_n 1, 1) := by decide +kernel
theorem dX1_serve_53 : decode cX1_serve 53 = .ok (.invokevirtual 121, 3) := by decide +kernel
theorem dX1_serve_56 : decode cX1_serve 56 = .ok (.return_, 1) := by decide +kernel
set_option maxRecDepth 20000 in
theorem ggX1_lookForBed_X0_isFree : GoodIn wsX1_lookForBed wsX0_isFree := goodIn_r _ [9, 10, 11, 12, 13, 8, 14, 15, 84, 85, 86, 87, 88, 89] (by decide +kernel) (by decide +kernel)
set_option maxRecDepth 20000 in
theorem gX1_lookForBed_X0_isFree : GoodIn wsX1_lookForBed (wsV RX1 127 RX0 yX0_isFree wsX0_isFree) := goodIn_app (goodIn_of _ (by decide +kernel)) ggX1_lookForBed_X0_isFree
set_option maxRecDepth 20000 in
theorem ggX1_lookForBed_X0_cheapestFree : GoodIn wsX1_lookForBed wsX0_cheapestFree := goodIn_r _ [19, 15, 20, 21, 6, 7, 8, 9, 10, 11, 12, 13, 14, 84, 85, 86, 87, 88, 89] (by decide +kernel) (by decide +kernel)
set_option maxRecDepth 20000 in
theorem gX1_lookForBed_X0_cheapestFree : GoodIn wsX1_lookForBed (wsV RX1 130 RX0 yX0_cheapestFree wsX0_cheapestFree) := goodIn_app (goodIn_of _ (by decide +kernel)) ggX1_lookForBed_X0_cheapestFree
set_option maxRecDepth 20000 in
theorem ggX1_lookForBed_X0_has : GoodIn wsX1_lookForBed wsX0_has := goodIn_r _ [14, 15, 84, 85, 86, 87, 88, 89] (by decide +kernel) (by decide +kernel)
set_option maxRecDepth 20000 in
theorem gX1_lookForBed_X0_has : GoodIn wsX1_lookForBed (wsV RX1 64 RX0 yX0_has wsX0_has) := goodIn_app (goodIn_of _ (by decide +kernel)) ggX1_lookForBed_X0_has
set_option maxRecDepth 20000 in
theorem ggX1_lookForBed_X1_tryBed : GoodIn wsX1_lookForBed wsX1_tryBed := goodIn_r _ [27, 3, 28, 1, 29, 30, 31, 32, 33, 34, 35, 36, 37, 38, 39, 26, 40, 41, 42, 43, 44, 45, 46, 47, 48, 49, 50, 51, 52, 53, 54, 55, 56, 57, 58, 59, 60, 61, 62, 63, 64, 65, 66, 67, 68, 69, 70, 84, 85, 86, 87, 88, 89, 71, 72, 73, 74, 75, 76, 77, 78, 79, 80, 81, 82, 83] (by decide +kernel) (by decide +kernel)
set_option maxRecDepth 20000 in
theorem gX1_lookForBed_X1_tryBed : GoodIn wsX1_lookForBed (wsV RX1 133 RX1 yX1_tryBed wsX1_tryBed) := goodIn_app (goodIn_of _ (by decide +kernel)) ggX1_lookForBed_X1_tryBed
set_option maxRecDepth 20000 in
theorem ggX1_lookForBed_X2_lieOnFloor : GoodIn wsX1_lookForBed wsX2_lieOnFloor := goodIn_r _ [63, 64, 65, 71, 72, 73, 74, 75, 76, 77, 78, 79, 80, 81, 82, 83] (by decide +kernel) (by decide +kernel)
set_option maxRecDepth 20000 in
theorem gX1_lookForBed_X2_lieOnFloor : GoodIn wsX1_lookForBed (wsV RX1 136 RX2 yX2_lieOnFloor wsX2_lieOnFloor) := goodIn_app (goodIn_of _ (by decide +kernel)) ggX1_lookForBed_X2_lieOnFloor
theorem dX1_lookForBed_0 : decode cX1_lookForBed 0 = .ok (.aload_n 0, 1) := by decide +kernel
theorem dX1_lookForBed_1 : decode cX1_lookForBed 1 = .ok (.getfield 29, 3) := by decide +kernel
theorem dX1_lookForBed_4 : decode cX1_lookForBed 4 = .ok (.getfield 124, 3) := by decide +kernel
theorem dX1_lookForBed_7 : decode cX1_lookForBed 7 = .ok (.iload_n 1, 1) := by decide +kernel
theorem dX1_lookForBed_8 : decode cX1_lookForBed 8 = .ok (.iaload, 1) := by decide +kernel
theorem dX1_lookForBed_9 : decode cX1_lookForBed 9 = .ok (.istore_n 2, 1) := by decide +kernel
theorem dX1_lookForBed_10 : decode cX1_lookForBed 10 = .ok (.aload_n 0, 1) := by decide +kernel
theorem dX1_lookForBed_11 : decode cX1_lookForBed 11 = .ok (.getfield 22, 3) := by decide +kernel
theorem dX1_lookForBed_14 : decode cX1_lookForBed 14 = .ok (.iload_n 2, 1) := by decide +kernel
theorem dX1_lookForBed_15 : decode cX1_lookForBed 15 = .ok (.invokevirtual 127, 3) := by decide +kernel
theorem dX1_lookForBed_18 : decode cX1_lookForBed 18 = .ok (.ifCond .eq 7, 3) := by decide +kernel
theorem dX1_lookForBed_21 : decode cX1_lookForBed 21 = .ok (.iload_n 2, 1) := by decide +kernel
theorem dX1_lookForBed_22 : decode cX1_lookForBed 22 = .ok (.goto 10, 3) := by decide +kernel
theorem dX1_lookForBed_25 : decode cX1_lookForBed 25 = .ok (.aload_n 0, 1) := by decide +kernel
theorem dX1_lookForBed_26 : decode cX1_lookForBed 26 = .ok (.getfield 22, 3) := by decide +kernel
theorem dX1_lookForBed_29 : decode cX1_lookForBed 29 = .ok (.invokevirtual 130, 3) := by decide +kernel
theorem dX1_lookForBed_32 : decode cX1_lookForBed 32 = .ok (.istore_n 3, 1) := by decide +kernel
theorem dX1_lookForBed_33 : decode cX1_lookForBed 33 = .ok (.aload_n 0, 1) := by decide +kernel
theorem dX1_lookForBed_34 : decode cX1_lookForBed 34 = .ok (.getfield 22, 3) := by decide +kernel
theorem dX1_lookForBed_37 : decode cX1_lookForBed 37 = .ok (.iload_n 3, 1) := by decide +kernel
theorem dX1_lookForBed_38 : decode cX1_lookForBed 38 = .ok (.invokevirtual 64, 3) := by decide +kernel
theorem dX1_lookForBed_41 : decode cX1_lookForBed 41 = .ok (.ifCond .eq 12, 3) := by decide +kernel
theorem dX1_lookForBed_44 : decode cX1_lookForBed 44 = .ok (.aload_n 0, 1) := by decide +kernel
theorem dX1_lookForBed_45 : decode cX1_lookForBed 45 = .ok (.iload_n 1, 1) := by decide +kernel
theorem dX1_lookForBed_46 : decode cX1_lookForBed 46 = .ok (.iload_n 3, 1) := by decide +kernel
theorem dX1_lookForBed_47 : decode cX1_lookForBed 47 = .ok (.invokevirtual 133, 3) := by decide +kernel
theorem dX1_lookForBed_50 : decode cX1_lookForBed 50 = .ok (.goto 22, 3) := by decide +kernel
theorem dX1_lookForBed_53 : decode cX1_lookForBed 53 = .ok (.aload_n 0, 1) := by decide +kernel
theorem dX1_lookForBed_54 : decode cX1_lookForBed 54 = .ok (.getfield 7, 3) := by decide +kernel
theorem dX1_lookForBed_57 : decode cX1_lookForBed 57 = .ok (.bipush 8, 2) := by decide +kernel
theorem dX1_lookForBed_59 : decode cX1_lookForBed 59 = .ok (.irem, 1) := by decide +kernel
theorem dX1_lookForBed_60 : decode cX1_lookForBed 60 = .ok (.iconst 4, 1) := by decide +kernel
theorem dX1_lookForBed_61 : decode cX1_lookForBed 61 = .ok (.if_icmp .lt 11, 3) := by decide +kernel
theorem dX1_lookForBed_64 : decode cX1_lookForBed 64 = .ok (.aload_n 0, 1) := by decide +kernel
theorem dX1_lookForBed_65 : decode cX1_lookForBed 65 = .ok (.getfield 29, 3) := by decide +kernel
theorem dX1_lookForBed_68 : decode cX1_lookForBed 68 = .ok (.iload_n 1, 1) := by decide +kernel
theorem dX1_lookForBed_69 : decode cX1_lookForBed 69 = .ok (.invokevirtual 136, 3) := by decide +kernel
theorem dX1_lookForBed_72 : decode cX1_lookForBed 72 = .ok (.return_, 1) := by decide +kernel
set_option maxRecDepth 20000 in
theorem ggX1_tryBed_X2_hasBoots : GoodIn wsX1_tryBed wsX2_hasBoots := goodIn_r _ [10, 11, 53, 54, 55, 56, 57, 58, 59, 60, 61, 62, 63, 64, 65] (by decide +kernel) (by decide +kernel)
set_option maxRecDepth 20000 in
theorem gX1_tryBed_X2_hasBoots : GoodIn wsX1_tryBed (wsV RX1 81 RX2 yX2_hasBoots wsX2_hasBoots) := goodIn_app (goodIn_of _ (by decide +kernel)) ggX1_tryBed_X2_hasBoots
set_option maxRecDepth 20000 in
theorem ggX1_tryBed_X1_pawnBoots : GoodIn wsX1_tryBed wsX1_pawnBoots := goodIn_r _ [16, 3, 17, 5, 18, 19, 20, 9, 21, 22, 23, 24, 25, 26, 42, 43, 44, 45, 46, 53, 54, 55, 56, 57, 58, 59, 60, 61, 62, 63, 64, 65] (by decide +kernel) (by decide +kernel)
set_option maxRecDepth 20000 in
theorem gX1_tryBed_X1_pawnBoots : GoodIn wsX1_tryBed (wsV RX1 142 RX1 yX1_pawnBoots wsX1_pawnBoots) := goodIn_app (goodIn_of _ (by decide +kernel)) ggX1_tryBed_X1_pawnBoots
set_option maxRecDepth 20000 in
theorem ggX1_tryBed_X1_getInto : GoodIn wsX1_tryBed wsX1_getInto := goodIn_r _ [30, 1, 2, 3, 4, 31, 32, 33, 34, 35, 42, 43, 44, 45, 46, 47, 48, 49, 50, 51, 52, 53, 54, 55, 56, 57, 58, 59, 60, 61, 62, 63, 64, 65] (by decide +kernel) (by decide +kernel)
set_option maxRecDepth 20000 in
theorem gX1_tryBed_X1_getInto : GoodIn wsX1_tryBed (wsV RX1 145 RX1 yX1_getInto wsX1_getInto) := goodIn_app (goodIn_of _ (by decide +kernel)) ggX1_tryBed_X1_getInto
set_option maxRecDepth 20000 in
theorem ggX1_tryBed_X2_lieOnFloor : GoodIn wsX1_tryBed wsX2_lieOnFloor := goodIn_r _ [39, 40, 41, 53, 54, 55, 56, 57, 58, 59, 60, 61, 62, 63, 64, 65] (by decide +kernel) (by decide +kernel)
set_option maxRecDepth 20000 in
theorem gX1_tryBed_X2_lieOnFloor : GoodIn wsX1_tryBed (wsV RX1 136 RX2 yX2_lieOnFloor wsX2_lieOnFloor) := goodIn_app (goodIn_of _ (by decide +kernel)) ggX1_tryBed_X2_lieOnFloor
theorem dX1_tryBed_0 : decode cX1_tryBed 0 = .ok (.aload_n 0, 1) := by decide +kernel
theorem dX1_tryBed_1 : decode cX1_tryBed 1 = .ok (.getfield 22, 3) := by decide +kernel
theorem dX1_tryBed_4 : decode cX1_tryBed 4 = .ok (.getfield 139, 3) := by decide +kernel
theorem dX1_tryBed_7 : decode cX1_tryBed 7 = .ok (.iload_n 2, 1) := by decide +kernel
theorem dX1_tryBed_8 : decode cX1_tryBed 8 = .ok (.iaload, 1) := by decide +kernel
theorem dX1_tryBed_9 : decode cX1_tryBed 9 = .ok (.istore_n 3, 1) := by decide +kernel
theorem dX1_tryBed_10 : decode cX1_tryBed 10 = .ok (.aload_n 0, 1) := by decide +kernel
theorem dX1_tryBed_11 : decode cX1_tryBed 11 = .ok (.getfield 29, 3) := by decide +kernel
theorem dX1_tryBed_14 : decode cX1_tryBed 14 = .ok (.getfield 84, 3) := by decide +kernel
theorem dX1_tryBed_17 : decode cX1_tryBed 17 = .ok (.iload_n 1, 1) := by decide +kernel
theorem dX1_tryBed_18 : decode cX1_tryBed 18 = .ok (.iaload, 1) := by decide +kernel
theorem dX1_tryBed_19 : decode cX1_tryBed 19 = .ok (.istore 4, 2) := by decide +kernel
theorem dX1_tryBed_21 : decode cX1_tryBed 21 = .ok (.iload 4, 2) := by decide +kernel
theorem dX1_tryBed_23 : decode cX1_tryBed 23 = .ok (.iload_n 3, 1) := by decide +kernel
theorem dX1_tryBed_24 : decode cX1_tryBed 24 = .ok (.if_icmp .ge 30, 3) := by decide +kernel
theorem dX1_tryBed_27 : decode cX1_tryBed 27 = .ok (.iload 4, 2) := by decide +kernel
theorem dX1_tryBed_29 : decode cX1_tryBed 29 = .ok (.aload_n 0, 1) := by decide +kernel
theorem dX1_tryBed_30 : decode cX1_tryBed 30 = .ok (.getfield 16, 3) := by decide +kernel
theorem dX1_tryBed_33 : decode cX1_tryBed 33 = .ok (.iadd, 1) := by decide +kernel
theorem dX1_tryBed_34 : decode cX1_tryBed 34 = .ok (.iload_n 3, 1) := by decide +kernel
theorem dX1_tryBed_35 : decode cX1_tryBed 35 = .ok (.if_icmp .lt 19, 3) := by decide +kernel
theorem dX1_tryBed_38 : decode cX1_tryBed 38 = .ok (.aload_n 0, 1) := by decide +kernel
theorem dX1_tryBed_39 : decode cX1_tryBed 39 = .ok (.getfield 29, 3) := by decide +kernel
theorem dX1_tryBed_42 : decode cX1_tryBed 42 = .ok (.iload_n 1, 1) := by decide +kernel
theorem dX1_tryBed_43 : decode cX1_tryBed 43 = .ok (.invokevirtual 81, 3) := by decide +kernel
theorem dX1_tryBed_46 : decode cX1_tryBed 46 = .ok (.ifCond .eq 8, 3) := by decide +kernel
theorem dX1_tryBed_49 : decode cX1_tryBed 49 = .ok (.aload_n 0, 1) := by decide +kernel
theorem dX1_tryBed_50 : decode cX1_tryBed 50 = .ok (.iload_n 1, 1) := by decide +kernel
theorem dX1_tryBed_51 : decode cX1_tryBed 51 = .ok (.invokevirtual 142, 3) := by decide +kernel
theorem dX1_tryBed_54 : decode cX1_tryBed 54 = .ok (.aload_n 0, 1) := by decide +kernel
theorem dX1_tryBed_55 : decode cX1_tryBed 55 = .ok (.getfield 29, 3) := by decide +kernel
theorem dX1_tryBed_58 : decode cX1_tryBed 58 = .ok (.getfield 84, 3) := by decide +kernel
theorem dX1_tryBed_61 : decode cX1_tryBed 61 = .ok (.iload_n 1, 1) := by decide +kernel
theorem dX1_tryBed_62 : decode cX1_tryBed 62 = .ok (.iaload, 1) := by decide +kernel
theorem dX1_tryBed_63 : decode cX1_tryBed 63 = .ok (.iload_n 3, 1) := by decide +kernel
theorem dX1_tryBed_64 : decode cX1_tryBed 64 = .ok (.if_icmp .lt 12, 3) := by decide +kernel
theorem dX1_tryBed_67 : decode cX1_tryBed 67 = .ok (.aload_n 0, 1) := by decide +kernel
theorem dX1_tryBed_68 : decode cX1_tryBed 68 = .ok (.iload_n 1, 1) := by decide +kernel
theorem dX1_tryBed_69 : decode cX1_tryBed 69 = .ok (.iload_n 2, 1) := by decide +kernel
theorem dX1_tryBed_70 : decode cX1_tryBed 70 = .ok (.invokevirtual 145, 3) := by decide +kernel
theorem dX1_tryBed_73 : decode cX1_tryBed 73 = .ok (.goto 11, 3) := by decide +kernel
theorem dX1_tryBed_76 : decode cX1_tryBed 76 = .ok (.aload_n 0, 1) := by decide +kernel
theorem dX1_tryBed_77 : decode cX1_tryBed 77 = .ok (.getfield 29, 3) := by decide +kernel
theorem dX1_tryBed_80 : decode cX1_tryBed 80 = .ok (.iload_n 1, 1) := by decide +kernel
theorem dX1_tryBed_81 : decode cX1_tryBed 81 = .ok (.invokevirtual 136, 3) := by decide +kernel
theorem dX1_tryBed_84 : decode cX1_tryBed 84 = .ok (.return_, 1) := by decide +kernel
theorem dX1_getInto_0 : decode cX1_getInto 0 = .ok (.aload_n 0, 1) := by decide +kernel
theorem dX1_getInto_1 : decode cX1_getInto 1 = .ok (.getfield 22, 3) := by decide +kernel
theorem dX1_getInto_4 : decode cX1_getInto 4 = .ok (.getfield 139, 3) := by decide +kernel
theorem dX1_getInto_7 : decode cX1_getInto 7 = .ok (.iload_n 2, 1) := by decide +kernel
theorem dX1_getInto_8 : decode cX1_getInto 8 = .ok (.iaload, 1) := by decide +kernel
theorem dX1_getInto_9 : decode cX1_getInto 9 = .ok (.istore_n 3, 1) := by decide +kernel
theorem dX1_getInto_10 : decode cX1_getInto 10 = .ok (.aload_n 0, 1) := by decide +kernel
theorem dX1_getInto_11 : decode cX1_getInto 11 = .ok (.getfield 29, 3) := by decide +kernel
theorem dX1_getInto_14 : decode cX1_getInto 14 = .ok (.getfield 84, 3) := by decide +kernel
theorem dX1_getInto_17 : decode cX1_getInto 17 = .ok (.iload_n 1, 1) := by decide +kernel
theorem dX1_getInto_18 : decode cX1_getInto 18 = .ok (.dup2, 1) := by decide +kernel
theorem dX1_getInto_19 : decode cX1_getInto 19 = .ok (.iaload, 1) := by decide +kernel
theorem dX1_getInto_20 : decode cX1_getInto 20 = .ok (.iload_n 3, 1) := by decide +kernel
theorem dX1_getInto_21 : decode cX1_getInto 21 = .ok (.isub, 1) := by decide +kernel
theorem dX1_getInto_22 : decode cX1_getInto 22 = .ok (.iastore, 1) := by decide +kernel
theorem dX1_getInto_23 : decode cX1_getInto 23 = .ok (.aload_n 0, 1) := by decide +kernel
theorem dX1_getInto_24 : decode cX1_getInto 24 = .ok (.getfield 29, 3) := by decide +kernel
theorem dX1_getInto_27 : decode cX1_getInto 27 = .ok (.getfield 71, 3) := by decide +kernel
theorem dX1_getInto_30 : decode cX1_getInto 30 = .ok (.iload_n 1, 1) := by decide +kernel
theorem dX1_getInto_31 : decode cX1_getInto 31 = .ok (.iconst 1, 1) := by decide +kernel
theorem dX1_getInto_32 : decode cX1_getInto 32 = .ok (.iastore, 1) := by decide +kernel
theorem dX1_getInto_33 : decode cX1_getInto 33 = .ok (.aload_n 0, 1) := by decide +kernel
theorem dX1_getInto_34 : decode cX1_getInto 34 = .ok (.getfield 29, 3) := by decide +kernel
theorem dX1_getInto_37 : decode cX1_getInto 37 = .ok (.getfield 61, 3) := by decide +kernel
theorem dX1_getInto_40 : decode cX1_getInto 40 = .ok (.iload_n 1, 1) := by decide +kernel
theorem dX1_getInto_41 : decode cX1_getInto 41 = .ok (.iload_n 2, 1) := by decide +kernel
theorem dX1_getInto_42 : decode cX1_getInto 42 = .ok (.iastore, 1) := by decide +kernel
theorem dX1_getInto_43 : decode cX1_getInto 43 = .ok (.aload_n 0, 1) := by decide +kernel
theorem dX1_getInto_44 : decode cX1_getInto 44 = .ok (.getfield 22, 3) := by decide +kernel
theorem dX1_getInto_47 : decode cX1_getInto 47 = .ok (.getfield 148, 3) := by decide +kernel
theorem dX1_getInto_50 : decode cX1_getInto 50 = .ok (.iload_n 2, 1) := by decide +kernel
theorem dX1_getInto_51 : decode cX1_getInto 51 = .ok (.dup2, 1) := by decide +kernel
theorem dX1_getInto_52 : decode cX1_getInto 52 = .ok (.iaload, 1) := by decide +kernel
theorem dX1_getInto_53 : decode cX1_getInto 53 = .ok (.iload_n 3, 1) := by decide +kernel
theorem dX1_getInto_54 : decode cX1_getInto 54 = .ok (.iadd, 1) := by decide +kernel
theorem dX1_getInto_55 : decode cX1_getInto 55 = .ok (.iastore, 1) := by decide +kernel
theorem dX1_getInto_56 : decode cX1_getInto 56 = .ok (.aload_n 0, 1) := by decide +kernel
theorem dX1_getInto_57 : decode cX1_getInto 57 = .ok (.getfield 22, 3) := by decide +kernel
theorem dX1_getInto_60 : decode cX1_getInto 60 = .ok (.getfield 151, 3) := by decide +kernel
theorem dX1_getInto_63 : decode cX1_getInto 63 = .ok (.iload_n 2, 1) := by decide +kernel
theorem dX1_getInto_64 : decode cX1_getInto 64 = .ok (.dup2, 1) := by decide +kernel
theorem dX1_getInto_65 : decode cX1_getInto 65 = .ok (.iaload, 1) := by decide +kernel
theorem dX1_getInto_66 : decode cX1_getInto 66 = .ok (.iconst 1, 1) := by decide +kernel
theorem dX1_getInto_67 : decode cX1_getInto 67 = .ok (.iadd, 1) := by decide +kernel
theorem dX1_getInto_68 : decode cX1_getInto 68 = .ok (.iastore, 1) := by decide +kernel
theorem dX1_getInto_69 : decode cX1_getInto 69 = .ok (.aload_n 0, 1) := by decide +kernel
theorem dX1_getInto_70 : decode cX1_getInto 70 = .ok (.getfield 22, 3) := by decide +kernel
theorem dX1_getInto_73 : decode cX1_getInto 73 = .ok (.getfield 68, 3) := by decide +kernel
theorem dX1_getInto_76 : decode cX1_getInto 76 = .ok (.iload_n 2, 1) := by decide +kernel
theorem dX1_getInto_77 : decode cX1_getInto 77 = .ok (.iload_n 1, 1) := by decide +kernel
theorem dX1_getInto_78 : decode cX1_getInto 78 = .ok (.iastore, 1) := by decide +kernel
theorem dX1_getInto_79 : decode cX1_getInto 79 = .ok (.return_, 1) := by decide +kernel
set_option maxRecDepth 20000 in
theorem ggX1_restOfHour_X0_isWarm : GoodIn wsX1_restOfHour wsX0_isWarm := goodIn_r _ [10, 11, 12, 13, 14, 9, 15, 16, 35, 36, 37, 38, 39, 40] (by decide +kernel) (by decide +kernel)
set_option maxRecDepth 20000 in
theorem gX1_restOfHour_X0_isWarm : GoodIn wsX1_restOfHour (wsV RX1 154 RX0 yX0_isWarm wsX0_isWarm) := goodIn_app (goodIn_of _ (by decide +kernel)) ggX1_restOfHour_X0_isWarm
theorem dX1_restOfHour_0 : decode cX1_restOfHour 0 = .ok (.aload_n 0, 1) := by decide +kernel
theorem dX1_restOfHour_1 : decode cX1_restOfHour 1 = .ok (.getfield 29, 3) := by decide +kernel
theorem dX1_restOfHour_4 : decode cX1_restOfHour 4 = .ok (.getfield 71, 3) := by decide +kernel
theorem dX1_restOfHour_7 : decode cX1_restOfHour 7 = .ok (.iload_n 1, 1) := by decide +kernel
theorem dX1_restOfHour_8 : decode cX1_restOfHour 8 = .ok (.iaload, 1) := by decide +kernel
theorem dX1_restOfHour_9 : decode cX1_restOfHour 9 = .ok (.lookupswitch 67 #[(1, 27), (2, 52)], 27) := by decide +kernel
theorem dX1_restOfHour_36 : decode cX1_restOfHour 36 = .ok (.aload_n 0, 1) := by decide +kernel
theorem dX1_restOfHour_37 : decode cX1_restOfHour 37 = .ok (.getfield 22, 3) := by decide +kernel
theorem dX1_restOfHour_40 : decode cX1_restOfHour 40 = .ok (.aload_n 0, 1) := by decide +kernel
theorem dX1_restOfHour_41 : decode cX1_restOfHour 41 = .ok (.getfield 29, 3) := by decide +kernel
theorem dX1_restOfHour_44 : decode cX1_restOfHour 44 = .ok (.getfield 61, 3) := by decide +kernel
theorem dX1_restOfHour_47 : decode cX1_restOfHour 47 = .ok (.iload_n 1, 1) := by decide +kernel
theorem dX1_restOfHour_48 : decode cX1_restOfHour 48 = .ok (.iaload, 1) := by decide +kernel
theorem dX1_restOfHour_49 : decode cX1_restOfHour 49 = .ok (.invokevirtual 154, 3) := by decide +kernel
theorem dX1_restOfHour_52 : decode cX1_restOfHour 52 = .ok (.ifCond .eq 7, 3) := by decide +kernel
theorem dX1_restOfHour_55 : decode cX1_restOfHour 55 = .ok (.iconst 2, 1) := by decide +kernel
theorem dX1_restOfHour_56 : decode cX1_restOfHour 56 = .ok (.goto 4, 3) := by decide +kernel
theorem dX1_restOfHour_59 : decode cX1_restOfHour 59 = .ok (.iconst 1, 1) := by decide +kernel
theorem dX1_restOfHour_60 : decode cX1_restOfHour 60 = .ok (.ireturn, 1) := by decide +kernel
theorem dX1_restOfHour_61 : decode cX1_restOfHour 61 = .ok (.aload_n 0, 1) := by decide +kernel
theorem dX1_restOfHour_62 : decode cX1_restOfHour 62 = .ok (.getfield 7, 3) := by decide +kernel
theorem dX1_restOfHour_65 : decode cX1_restOfHour 65 = .ok (.iconst 2, 1) := by decide +kernel
theorem dX1_restOfHour_66 : decode cX1_restOfHour 66 = .ok (.irem, 1) := by decide +kernel
theorem dX1_restOfHour_67 : decode cX1_restOfHour 67 = .ok (.ifCond .ne 7, 3) := by decide +kernel
theorem dX1_restOfHour_70 : decode cX1_restOfHour 70 = .ok (.iconst 0, 1) := by decide +kernel
theorem dX1_restOfHour_71 : decode cX1_restOfHour 71 = .ok (.goto 4, 3) := by decide +kernel
theorem dX1_restOfHour_74 : decode cX1_restOfHour 74 = .ok (.iconst 1, 1) := by decide +kernel
theorem dX1_restOfHour_75 : decode cX1_restOfHour 75 = .ok (.ireturn, 1) := by decide +kernel
theorem dX1_restOfHour_76 : decode cX1_restOfHour 76 = .ok (.iconst 0, 1) := by decide +kernel
theorem dX1_restOfHour_77 : decode cX1_restOfHour 77 = .ok (.ireturn, 1) := by decide +kernel
theorem dX2_init_0 : decode cX2_init 0 = .ok (.aload_n 0, 1) := by decide +kernel
theorem dX2_init_1 : decode cX2_init 1 = .ok (.invokespecial 1, 3) := by decide +kernel
theorem dX2_init_4 : decode cX2_init 4 = .ok (.aload_n 0, 1) := by decide +kernel
theorem dX2_init_5 : decode cX2_init 5 = .ok (.iconst 0, 1) := by decide +kernel
theorem dX2_init_6 : decode cX2_init 6 = .ok (.putfield 7, 3) := by decide +kernel
theorem dX2_init_9 : decode cX2_init 9 = .ok (.aload_n 0, 1) := by decide +kernel
theorem dX2_init_10 : decode cX2_init 10 = .ok (.bipush 10, 2) := by decide +kernel
theorem dX2_init_12 : decode cX2_init 12 = .ok (.newarray .int, 2) := by decide +kernel
theorem dX2_init_14 : decode cX2_init 14 = .ok (.putfield 13, 3) := by decide +kernel
theorem dX2_init_17 : decode cX2_init 17 = .ok (.aload_n 0, 1) := by decide +kernel
theorem dX2_init_18 : decode cX2_init 18 = .ok (.bipush 10, 2) := by decide +kernel
theorem dX2_init_20 : decode cX2_init 20 = .ok (.newarray .int, 2) := by decide +kernel
theorem dX2_init_22 : decode cX2_init 22 = .ok (.putfield 17, 3) := by decide +kernel
theorem dX2_init_25 : decode cX2_init 25 = .ok (.aload_n 0, 1) := by decide +kernel
theorem dX2_init_26 : decode cX2_init 26 = .ok (.bipush 10, 2) := by decide +kernel
theorem dX2_init_28 : decode cX2_init 28 = .ok (.newarray .int, 2) := by decide +kernel
theorem dX2_init_30 : decode cX2_init 30 = .ok (.putfield 20, 3) := by decide +kernel
theorem dX2_init_33 : decode cX2_init 33 = .ok (.aload_n 0, 1) := by decide +kernel
theorem dX2_init_34 : decode cX2_init 34 = .ok (.bipush 10, 2) := by decide +kernel
theorem dX2_init_36 : decode cX2_init 36 = .ok (.newarray .int, 2) := by decide +kernel
theorem dX2_init_38 : decode cX2_init 38 = .ok (.putfield 23, 3) := by decide +kernel
theorem dX2_init_41 : decode cX2_init 41 = .ok (.aload_n 0, 1) := by decide +kernel
theorem dX2_init_42 : decode cX2_init 42 = .ok (.bipush 10, 2) := by decide +kernel
theorem dX2_init_44 : decode cX2_init 44 = .ok (.newarray .int, 2) := by decide +kernel
theorem dX2_init_46 : decode cX2_init 46 = .ok (.putfield 26, 3) := by decide +kernel
theorem dX2_init_49 : decode cX2_init 49 = .ok (.aload_n 0, 1) := by decide +kernel
theorem dX2_init_50 : decode cX2_init 50 = .ok (.bipush 10, 2) := by decide +kernel
theorem dX2_init_52 : decode cX2_init 52 = .ok (.newarray .int, 2) := by decide +kernel
theorem dX2_init_54 : decode cX2_init 54 = .ok (.putfield 29, 3) := by decide +kernel
theorem dX2_init_57 : decode cX2_init 57 = .ok (.aload_n 0, 1) := by decide +kernel
theorem dX2_init_58 : decode cX2_init 58 = .ok (.bipush 10, 2) := by decide +kernel
theorem dX2_init_60 : decode cX2_init 60 = .ok (.newarray .int, 2) := by decide +kernel
theorem dX2_init_62 : decode cX2_init 62 = .ok (.putfield 32, 3) := by decide +kernel
theorem dX2_init_65 : decode cX2_init 65 = .ok (.aload_n 0, 1) := by decide +kernel
theorem dX2_init_66 : decode cX2_init 66 = .ok (.bipush 10, 2) := by decide +kernel
theorem dX2_init_68 : decode cX2_init 68 = .ok (.newarray .int, 2) := by decide +kernel
theorem dX2_init_70 : decode cX2_init 70 = .ok (.putfield 35, 3) := by decide +kernel
theorem dX2_init_73 : decode cX2_init 73 = .ok (.aload_n 0, 1) := by decide +kernel
theorem dX2_init_74 : decode cX2_init 74 = .ok (.bipush 10, 2) := by decide +kernel
theorem dX2_init_76 : decode cX2_init 76 = .ok (.newarray .int, 2) := by decide +kernel
theorem dX2_init_78 : decode cX2_init 78 = .ok (.putfield 38, 3) := by decide +kernel
theorem dX2_init_81 : decode cX2_init 81 = .ok (.aload_n 0, 1) := by decide +kernel
theorem dX2_init_82 : decode cX2_init 82 = .ok (.bipush 10, 2) := by decide +kernel
theorem dX2_init_84 : decode cX2_init 84 = .ok (.newarray .int, 2) := by decide +kernel
theorem dX2_init_86 : decode cX2_init 86 = .ok (.putfield 41, 3) := by decide +kernel
theorem dX2_init_89 : decode cX2_init 89 = .ok (.aload_n 0, 1) := by decide +kernel
theorem dX2_init_90 : decode cX2_init 90 = .ok (.bipush 10, 2) := by decide +kernel
theorem dX2_init_92 : decode cX2_init 92 = .ok (.newarray .int, 2) := by decide +kernel
theorem dX2_init_94 : decode cX2_init 94 = .ok (.putfield 44, 3) := by decide +kernel
theorem dX2_init_97 : decode cX2_init 97 = .ok (.aload_n 0, 1) := by decide +kernel
theorem dX2_init_98 : decode cX2_init 98 = .ok (.bipush 10, 2) := by decide +kernel
theorem dX2_init_100 : decode cX2_init 100 = .ok (.newarray .int, 2) := by decide +kernel
theorem dX2_init_102 : decode cX2_init 102 = .ok (.putfield 47, 3) := by decide +kernel
theorem dX2_init_105 : decode cX2_init 105 = .ok (.return_, 1) := by decide +kernel
theorem dX2_add_0 : decode cX2_add 0 = .ok (.aload_n 0, 1) := by decide +kernel
theorem dX2_add_1 : decode cX2_add 1 = .ok (.getfield 7, 3) := by decide +kernel
theorem dX2_add_4 : decode cX2_add 4 = .ok (.bipush 10, 2) := by decide +kernel
theorem dX2_add_6 : decode cX2_add 6 = .ok (.if_icmp .lt 13, 3) := by decide +kernel
theorem dX2_add_9 : decode cX2_add 9 = .ok (.new 50, 3) := by decide +kernel
theorem dX2_add_12 : decode cX2_add 12 = .ok (.dup, 1) := by decide +kernel
theorem dX2_add_13 : decode cX2_add 13 = .ok (.ldc 52, 2) := by decide +kernel
theorem dX2_add_15 : decode cX2_add 15 = .ok (.invokespecial 54, 3) := by decide +kernel
theorem dX2_add_18 : decode cX2_add 18 = .ok (.athrow, 1) := by decide +kernel
theorem dX2_add_19 : decode cX2_add 19 = .ok (.aload_n 0, 1) := by decide +kernel
theorem dX2_add_20 : decode cX2_add 20 = .ok (.getfield 7, 3) := by decide +kernel
theorem dX2_add_23 : decode cX2_add 23 = .ok (.istore 5, 2) := by decide +kernel
theorem dX2_add_25 : decode cX2_add 25 = .ok (.aload_n 0, 1) := by decide +kernel
theorem dX2_add_26 : decode cX2_add 26 = .ok (.getfield 13, 3) := by decide +kernel
theorem dX2_add_29 : decode cX2_add 29 = .ok (.iload 5, 2) := by decide +kernel
theorem dX2_add_31 : decode cX2_add 31 = .ok (.iload_n 1, 1) := by decide +kernel
theorem dX2_add_32 : decode cX2_add 32 = .ok (.iastore, 1) := by decide +kernel
theorem dX2_add_33 : decode cX2_add 33 = .ok (.aload_n 0, 1) := by decide +kernel
theorem dX2_add_34 : decode cX2_add 34 = .ok (.getfield 17, 3) := by decide +kernel
theorem dX2_add_37 : decode cX2_add 37 = .ok (.iload 5, 2) := by decide +kernel
theorem dX2_add_39 : decode cX2_add 39 = .ok (.iload_n 2, 1) := by decide +kernel
theorem dX2_add_40 : decode cX2_add 40 = .ok (.iastore, 1) := by decide +kernel
theorem dX2_add_41 : decode cX2_add 41 = .ok (.aload_n 0, 1) := by decide +kernel
theorem dX2_add_42 : decode cX2_add 42 = .ok (.getfield 20, 3) := by decide +kernel
theorem dX2_add_45 : decode cX2_add 45 = .ok (.iload 5, 2) := by decide +kernel
theorem dX2_add_47 : decode cX2_add 47 = .ok (.iload_n 3, 1) := by decide +kernel
theorem dX2_add_48 : decode cX2_add 48 = .ok (.iastore, 1) := by decide +kernel
theorem dX2_add_49 : decode cX2_add 49 = .ok (.aload_n 0, 1) := by decide +kernel
theorem dX2_add_50 : decode cX2_add 50 = .ok (.getfield 23, 3) := by decide +kernel
theorem dX2_add_53 : decode cX2_add 53 = .ok (.iload 5, 2) := by decide +kernel
theorem dX2_add_55 : decode cX2_add 55 = .ok (.iload 4, 2) := by decide +kernel
theorem dX2_add_57 : decode cX2_add 57 = .ok (.iastore, 1) := by decide +kernel
theorem dX2_add_58 : decode cX2_add 58 = .ok (.aload_n 0, 1) := by decide +kernel
theorem dX2_add_59 : decode cX2_add 59 = .ok (.getfield 26, 3) := by decide +kernel
theorem dX2_add_62 : decode cX2_add 62 = .ok (.iload 5, 2) := by decide +kernel
theorem dX2_add_64 : decode cX2_add 64 = .ok (.iconst 1, 1) := by decide +kernel
theorem dX2_add_65 : decode cX2_add 65 = .ok (.iastore, 1) := by decide +kernel
theorem dX2_add_66 : decode cX2_add 66 = .ok (.aload_n 0, 1) := by decide +kernel
theorem dX2_add_67 : decode cX2_add 67 = .ok (.getfield 29, 3) := by decide +kernel
theorem dX2_add_70 : decode cX2_add 70 = .ok (.iload 5, 2) := by decide +kernel
theorem dX2_add_72 : decode cX2_add 72 = .ok (.iconst (-1), 1) := by decide +kernel
theorem dX2_add_73 : decode cX2_add 73 = .ok (.iastore, 1) := by decide +kernel
theorem dX2_add_74 : decode cX2_add 74 = .ok (.aload_n 0, 1) := by decide +kernel
theorem dX2_add_75 : decode cX2_add 75 = .ok (.getfield 32, 3) := by decide +kernel
theorem dX2_add_78 : decode cX2_add 78 = .ok (.iload 5, 2) := by decide +kernel
theorem dX2_add_80 : decode cX2_add 80 = .ok (.iconst 0, 1) := by decide +kernel
theorem dX2_add_81 : decode cX2_add 81 = .ok (.iastore, 1) := by decide +kernel
theorem dX2_add_82 : decode cX2_add 82 = .ok (.aload_n 0, 1) := by decide +kernel
theorem dX2_add_83 : decode cX2_add 83 = .ok (.getfield 35, 3) := by decide +kernel
theorem dX2_add_86 : decode cX2_add 86 = .ok (.iload 5, 2) := by decide +kernel
theorem dX2_add_88 : decode cX2_add 88 = .ok (.iconst (-1), 1) := by decide +kernel
theorem dX2_add_89 : decode cX2_add 89 = .ok (.iastore, 1) := by decide +kernel
theorem dX2_add_90 : decode cX2_add 90 = .ok (.aload_n 0, 1) := by decide +kernel
theorem dX2_add_91 : decode cX2_add 91 = .ok (.iload 5, 2) := by decide +kernel
theorem dX2_add_93 : decode cX2_add 93 = .ok (.iconst 1, 1) := by decide +kernel
theorem dX2_add_94 : decode cX2_add 94 = .ok (.iadd, 1) := by decide +kernel
theorem dX2_add_95 : decode cX2_add 95 = .ok (.putfield 7, 3) := by decide +kernel
theorem dX2_add_98 : decode cX2_add 98 = .ok (.iload 5, 2) := by decide +kernel
theorem dX2_add_100 : decode cX2_add 100 = .ok (.ireturn, 1) := by decide +kernel
theorem dX2_isUp_0 : decode cX2_isUp 0 = .ok (.aload_n 0, 1) := by decide +kernel
theorem dX2_isUp_1 : decode cX2_isUp 1 = .ok (.getfield 32, 3) := by decide +kernel
theorem dX2_isUp_4 : decode cX2_isUp 4 = .ok (.iload_n 1, 1) := by decide +kernel
theorem dX2_isUp_5 : decode cX2_isUp 5 = .ok (.iaload, 1) := by decide +kernel
theorem dX2_isUp_6 : decode cX2_isUp 6 = .ok (.ifCond .ne 7, 3) := by decide +kernel
theorem dX2_isUp_9 : decode cX2_isUp 9 = .ok (.iconst 1, 1) := by decide +kernel
theorem dX2_isUp_10 : decode cX2_isUp 10 = .ok (.goto 4, 3) := by decide +kernel
theorem dX2_isUp_13 : decode cX2_isUp 13 = .ok (.iconst 0, 1) := by decide +kernel
theorem dX2_isUp_14 : decode cX2_isUp 14 = .ok (.ireturn, 1) := by decide +kernel
theorem dX2_hasBoots_0 : decode cX2_hasBoots 0 = .ok (.aload_n 0, 1) := by decide +kernel
theorem dX2_hasBoots_1 : decode cX2_hasBoots 1 = .ok (.getfield 26, 3) := by decide +kernel
theorem dX2_hasBoots_4 : decode cX2_hasBoots 4 = .ok (.iload_n 1, 1) := by decide +kernel
theorem dX2_hasBoots_5 : decode cX2_hasBoots 5 = .ok (.iaload, 1) := by decide +kernel
theorem dX2_hasBoots_6 : decode cX2_hasBoots 6 = .ok (.iconst 1, 1) := by decide +kernel
theorem dX2_hasBoots_7 : decode cX2_hasBoots 7 = .ok (.if_icmp .ne 7, 3) := by decide +kernel
theorem dX2_hasBoots_10 : decode cX2_hasBoots 10 = .ok (.iconst 1, 1) := by decide +kernel
theorem dX2_hasBoots_11 : decode cX2_hasBoots 11 = .ok (.goto 4, 3) := by decide +kernel
theorem dX2_hasBoots_14 : decode cX2_hasBoots 14 = .ok (.iconst 0, 1) := by decide +kernel
theorem dX2_hasBoots_15 : decode cX2_hasBoots 15 = .ok (.ireturn, 1) := by decide +kernel
theorem dX2_earn_0 : decode cX2_earn 0 = .ok (.aload_n 0, 1) := by decide +kernel
theorem dX2_earn_1 : decode cX2_earn 1 = .ok (.getfield 23, 3) := by decide +kernel
theorem dX2_earn_4 : decode cX2_earn 4 = .ok (.iload_n 1, 1) := by decide +kernel
theorem dX2_earn_5 : decode cX2_earn 5 = .ok (.bipush 99, 2) := by decide +kernel
theorem dX2_earn_7 : decode cX2_earn 7 = .ok (.aload_n 0, 1) := by decide +kernel
theorem dX2_earn_8 : decode cX2_earn 8 = .ok (.getfield 23, 3) := by decide +kernel
theorem dX2_earn_11 : decode cX2_earn 11 = .ok (.iload_n 1, 1) := by decide +kernel
theorem dX2_earn_12 : decode cX2_earn 12 = .ok (.iaload, 1) := by decide +kernel
theorem dX2_earn_13 : decode cX2_earn 13 = .ok (.iload_n 2, 1) := by decide +kernel
theorem dX2_earn_14 : decode cX2_earn 14 = .ok (.iadd, 1) := by decide +kernel
theorem dX2_earn_15 : decode cX2_earn 15 = .ok (.invokestatic 65, 3) := by decide +kernel
theorem dX2_earn_18 : decode cX2_earn 18 = .ok (.iastore, 1) := by decide +kernel
theorem dX2_earn_19 : decode cX2_earn 19 = .ok (.return_, 1) := by decide +kernel
theorem dX2_beLate_0 : decode cX2_beLate 0 = .ok (.aload_n 0, 1) := by decide +kernel
theorem dX2_beLate_1 : decode cX2_beLate 1 = .ok (.getfield 41, 3) := by decide +kernel
theorem dX2_beLate_4 : decode cX2_beLate 4 = .ok (.iload_n 1, 1) := by decide +kernel
theorem dX2_beLate_5 : decode cX2_beLate 5 = .ok (.dup2, 1) := by decide +kernel
theorem dX2_beLate_6 : decode cX2_beLate 6 = .ok (.iaload, 1) := by decide +kernel
theorem dX2_beLate_7 : decode cX2_beLate 7 = .ok (.iconst 1, 1) := by decide +kernel
theorem dX2_beLate_8 : decode cX2_beLate 8 = .ok (.iadd, 1) := by decide +kernel
theorem dX2_beLate_9 : decode cX2_beLate 9 = .ok (.iastore, 1) := by decide +kernel
theorem dX2_beLate_10 : decode cX2_beLate 10 = .ok (.aload_n 0, 1) := by decide +kernel
theorem dX2_beLate_11 : decode cX2_beLate 11 = .ok (.getfield 44, 3) := by decide +kernel
theorem dX2_beLate_14 : decode cX2_beLate 14 = .ok (.iload_n 1, 1) := by decide +kernel
theorem dX2_beLate_15 : decode cX2_beLate 15 = .ok (.dup2, 1) := by decide +kernel
theorem dX2_beLate_16 : decode cX2_beLate 16 = .ok (.iaload, 1) := by decide +kernel
theorem dX2_beLate_17 : decode cX2_beLate 17 = .ok (.iconst 1, 1) := by decide +kernel
theorem dX2_beLate_18 : decode cX2_beLate 18 = .ok (.iadd, 1) := by decide +kernel
theorem dX2_beLate_19 : decode cX2_beLate 19 = .ok (.iastore, 1) := by decide +kernel
theorem dX2_beLate_20 : decode cX2_beLate 20 = .ok (.return_, 1) := by decide +kernel
theorem dX2_lieOnFloor_0 : decode cX2_lieOnFloor 0 = .ok (.aload_n 0, 1) := by decide +kernel
theorem dX2_lieOnFloor_1 : decode cX2_lieOnFloor 1 = .ok (.getfield 32, 3) := by decide +kernel
theorem dX2_lieOnFloor_4 : decode cX2_lieOnFloor 4 = .ok (.iload_n 1, 1) := by decide +kernel
theorem dX2_lieOnFloor_5 : decode cX2_lieOnFloor 5 = .ok (.iconst 2, 1) := by decide +kernel
theorem dX2_lieOnFloor_6 : decode cX2_lieOnFloor 6 = .ok (.iastore, 1) := by decide +kernel
theorem dX2_lieOnFloor_7 : decode cX2_lieOnFloor 7 = .ok (.aload_n 0, 1) := by decide +kernel
theorem dX2_lieOnFloor_8 : decode cX2_lieOnFloor 8 = .ok (.getfield 47, 3) := by decide +kernel
theorem dX2_lieOnFloor_11 : decode cX2_lieOnFloor 11 = .ok (.iload_n 1, 1) := by decide +kernel
theorem dX2_lieOnFloor_12 : decode cX2_lieOnFloor 12 = .ok (.dup2, 1) := by decide +kernel
theorem dX2_lieOnFloor_13 : decode cX2_lieOnFloor 13 = .ok (.iaload, 1) := by decide +kernel
theorem dX2_lieOnFloor_14 : decode cX2_lieOnFloor 14 = .ok (.iconst 1, 1) := by decide +kernel
theorem dX2_lieOnFloor_15 : decode cX2_lieOnFloor 15 = .ok (.iadd, 1) := by decide +kernel
theorem dX2_lieOnFloor_16 : decode cX2_lieOnFloor 16 = .ok (.iastore, 1) := by decide +kernel
theorem dX2_lieOnFloor_17 : decode cX2_lieOnFloor 17 = .ok (.return_, 1) := by decide +kernel
set_option maxRecDepth 20000 in
theorem ggX2_payWage_X2_hasBoots : GoodIn wsX2_payWage wsX2_hasBoots := goodIn_r _ [11, 12, 21, 22, 23, 24, 25, 26, 27, 28, 29, 30, 31, 32, 33] (by decide +kernel) (by decide +kernel)
set_option maxRecDepth 20000 in
theorem gX2_payWage_X2_hasBoots : GoodIn wsX2_payWage (wsV RX2 71 RX2 yX2_hasBoots wsX2_hasBoots) := goodIn_app (goodIn_of _ (by decide +kernel)) ggX2_payWage_X2_hasBoots
set_option maxRecDepth 20000 in
theorem ggX2_payWage_X2_earn : GoodIn wsX2_payWage wsX2_earn := goodIn_r _ [16, 17, 18, 19, 5, 20, 21, 22, 23, 24, 25, 26, 27, 28, 29, 30, 31, 32, 33] (by decide +kernel) (by decide +kernel)
set_option maxRecDepth 20000 in
theorem gX2_payWage_X2_earn : GoodIn wsX2_payWage (wsV RX2 78 RX2 yX2_earn wsX2_earn) := goodIn_app (goodIn_of _ (by decide +kernel)) ggX2_payWage_X2_earn
theorem dX2_payWage_0 : decode cX2_payWage 0 = .ok (.aload_n 0, 1) := by decide +kernel
theorem dX2_payWage_1 : decode cX2_payWage 1 = .ok (.iload_n 1, 1) := by decide +kernel
theorem dX2_payWage_2 : decode cX2_payWage 2 = .ok (.invokevirtual 71, 3) := by decide +kernel
theorem dX2_payWage_5 : decode cX2_payWage 5 = .ok (.ifCond .eq 12, 3) := by decide +kernel
theorem dX2_payWage_8 : decode cX2_payWage 8 = .ok (.aload_n 0, 1) := by decide +kernel
theorem dX2_payWage_9 : decode cX2_payWage 9 = .ok (.getfield 20, 3) := by decide +kernel
theorem dX2_payWage_12 : decode cX2_payWage 12 = .ok (.iload_n 1, 1) := by decide +kernel
theorem dX2_payWage_13 : decode cX2_payWage 13 = .ok (.iaload, 1) := by decide +kernel
theorem dX2_payWage_14 : decode cX2_payWage 14 = .ok (.goto 11, 3) := by decide +kernel
theorem dX2_payWage_17 : decode cX2_payWage 17 = .ok (.aload_n 0, 1) := by decide +kernel
theorem dX2_payWage_18 : decode cX2_payWage 18 = .ok (.getfield 20, 3) := by decide +kernel
theorem dX2_payWage_21 : decode cX2_payWage 21 = .ok (.iload_n 1, 1) := by decide +kernel
theorem dX2_payWage_22 : decode cX2_payWage 22 = .ok (.iaload, 1) := by decide +kernel
theorem dX2_payWage_23 : decode cX2_payWage 23 = .ok (.iconst 2, 1) := by decide +kernel
theorem dX2_payWage_24 : decode cX2_payWage 24 = .ok (.idiv, 1) := by decide +kernel
theorem dX2_payWage_25 : decode cX2_payWage 25 = .ok (.istore_n 2, 1) := by decide +kernel
theorem dX2_payWage_26 : decode cX2_payWage 26 = .ok (.aload_n 0, 1) := by decide +kernel
theorem dX2_payWage_27 : decode cX2_payWage 27 = .ok (.iload_n 1, 1) := by decide +kernel
theorem dX2_payWage_28 : decode cX2_payWage 28 = .ok (.iconst 0, 1) := by decide +kernel
theorem dX2_payWage_29 : decode cX2_payWage 29 = .ok (.iload_n 2, 1) := by decide +kernel
theorem dX2_payWage_30 : decode cX2_payWage 30 = .ok (.aload_n 0, 1) := by decide +kernel
theorem dX2_payWage_31 : decode cX2_payWage 31 = .ok (.getfield 44, 3) := by decide +kernel
theorem dX2_payWage_34 : decode cX2_payWage 34 = .ok (.iload_n 1, 1) := by decide +kernel
theorem dX2_payWage_35 : decode cX2_payWage 35 = .ok (.iaload, 1) := by decide +kernel
theorem dX2_payWage_36 : decode cX2_payWage 36 = .ok (.isub, 1) := by decide +kernel
theorem dX2_payWage_37 : decode cX2_payWage 37 = .ok (.invokestatic 75, 3) := by decide +kernel
theorem dX2_payWage_40 : decode cX2_payWage 40 = .ok (.invokevirtual 78, 3) := by decide +kernel
theorem dX2_payWage_43 : decode cX2_payWage 43 = .ok (.aload_n 0, 1) := by decide +kernel
theorem dX2_payWage_44 : decode cX2_payWage 44 = .ok (.getfield 44, 3) := by decide +kernel
theorem dX2_payWage_47 : decode cX2_payWage 47 = .ok (.iload_n 1, 1) := by decide +kernel
theorem dX2_payWage_48 : decode cX2_payWage 48 = .ok (.iconst 0, 1) := by decide +kernel
theorem dX2_payWage_49 : decode cX2_payWage 49 = .ok (.iastore, 1) := by decide +kernel
theorem dX2_payWage_50 : decode cX2_payWage 50 = .ok (.return_, 1) := by decide +kernel
theorem dX2_howManyAt_0 : decode cX2_howManyAt 0 = .ok (.iconst 0, 1) := by decide +kernel
theorem dX2_howManyAt_1 : decode cX2_howManyAt 1 = .ok (.istore_n 2, 1) := by decide +kernel
theorem dX2_howManyAt_2 : decode cX2_howManyAt 2 = .ok (.iconst 0, 1) := by decide +kernel
theorem dX2_howManyAt_3 : decode cX2_howManyAt 3 = .ok (.istore_n 3, 1) := by decide +kernel
theorem dX2_howManyAt_4 : decode cX2_howManyAt 4 = .ok (.iload_n 3, 1) := by decide +kernel
theorem dX2_howManyAt_5 : decode cX2_howManyAt 5 = .ok (.aload_n 0, 1) := by decide +kernel
theorem dX2_howManyAt_6 : decode cX2_howManyAt 6 = .ok (.getfield 7, 3) := by decide +kernel
theorem dX2_howManyAt_9 : decode cX2_howManyAt 9 = .ok (.if_icmp .ge 22, 3) := by decide +kernel
theorem dX2_howManyAt_12 : decode cX2_howManyAt 12 = .ok (.aload_n 0, 1) := by decide +kernel
theorem dX2_howManyAt_13 : decode cX2_howManyAt 13 = .ok (.getfield 32, 3) := by decide +kernel
theorem dX2_howManyAt_16 : decode cX2_howManyAt 16 = .ok (.iload_n 3, 1) := by decide +kernel
theorem dX2_howManyAt_17 : decode cX2_howManyAt 17 = .ok (.iaload, 1) := by decide +kernel
theorem dX2_howManyAt_18 : decode cX2_howManyAt 18 = .ok (.iload_n 1, 1) := by decide +kernel
theorem dX2_howManyAt_19 : decode cX2_howManyAt 19 = .ok (.if_icmp .ne 6, 3) := by decide +kernel
theorem dX2_howManyAt_22 : decode cX2_howManyAt 22 = .ok (.iinc 2 1, 3) := by decide +kernel
theorem dX2_howManyAt_25 : decode cX2_howManyAt 25 = .ok (.iinc 3 1, 3) := by decide +kernel
theorem dX2_howManyAt_28 : decode cX2_howManyAt 28 = .ok (.goto (-24), 3) := by decide +kernel
theorem dX2_howManyAt_31 : decode cX2_howManyAt 31 = .ok (.iload_n 2, 1) := by decide +kernel
theorem dX2_howManyAt_32 : decode cX2_howManyAt 32 = .ok (.ireturn, 1) := by decide +kernel
set_option maxRecDepth 20000 in
theorem ggX2_allRest_X2_sum : GoodIn wsX2_allRest wsX2_sum := goodIn_r _ [6, 7, 8, 9, 10, 11, 12, 13, 14, 15, 16, 17, 18, 19, 20] (by decide +kernel) (by decide +kernel)
set_option maxRecDepth 20000 in
theorem gX2_allRest_X2_sum : GoodIn wsX2_allRest (wsV RX2 82 RX2 yX2_sum wsX2_sum) := goodIn_app (goodIn_of _ (by decide +kernel)) ggX2_allRest_X2_sum
theorem dX2_allRest_0 : decode cX2_allRest 0 = .ok (.aload_n 0, 1) := by decide +kernel
theorem dX2_allRest_1 : decode cX2_allRest 1 = .ok (.aload_n 0, 1) := by decide +kernel
theorem dX2_allRest_2 : decode cX2_allRest 2 = .ok (.getfield 38, 3) := by decide +kernel
theorem dX2_allRest_5 : decode cX2_allRest 5 = .ok (.invokevirtual 82, 3) := by decide +kernel
theorem dX2_allRest_8 : decode cX2_allRest 8 = .ok (.ireturn, 1) := by decide +kernel
set_option maxRecDepth 20000 in
theorem ggX2_allLate_X2_sum : GoodIn wsX2_allLate wsX2_sum := goodIn_r _ [6, 7, 8, 9, 10, 11, 12, 13, 14, 15, 16, 17, 18, 19, 20] (by decide +kernel) (by decide +kernel)
set_option maxRecDepth 20000 in
theorem gX2_allLate_X2_sum : GoodIn wsX2_allLate (wsV RX2 82 RX2 yX2_sum wsX2_sum) := goodIn_app (goodIn_of _ (by decide +kernel)) ggX2_allLate_X2_sum
theorem dX2_allLate_0 : decode cX2_allLate 0 = .ok (.aload_n 0, 1) := by decide +kernel
theorem dX2_allLate_1 : decode cX2_allLate 1 = .ok (.aload_n 0, 1) := by decide +kernel
theorem dX2_allLate_2 : decode cX2_allLate 2 = .ok (.getfield 41, 3) := by decide +kernel
theorem dX2_allLate_5 : decode cX2_allLate 5 = .ok (.invokevirtual 82, 3) := by decide +kernel
theorem dX2_allLate_8 : decode cX2_allLate 8 = .ok (.ireturn, 1) := by decide +kernel
set_option maxRecDepth 20000 in
theorem ggX2_allFloors_X2_sum : GoodIn wsX2_allFloors wsX2_sum := goodIn_r _ [6, 7, 8, 9, 10, 11, 12, 13, 14, 15, 16, 17, 18, 19, 20] (by decide +kernel) (by decide +kernel)
set_option maxRecDepth 20000 in
theorem gX2_allFloors_X2_sum : GoodIn wsX2_allFloors (wsV RX2 82 RX2 yX2_sum wsX2_sum) := goodIn_app (goodIn_of _ (by decide +kernel)) ggX2_allFloors_X2_sum
theorem dX2_allFloors_0 : decode cX2_allFloors 0 = .ok (.aload_n 0, 1) := by decide +kernel
theorem dX2_allFloors_1 : decode cX2_allFloors 1 = .ok (.aload_n 0, 1) := by decide +kernel
theorem dX2_allFloors_2 : decode cX2_allFloors 2 = .ok (.getfield 47, 3) := by decide +kernel
theorem dX2_allFloors_5 : decode cX2_allFloors 5 = .ok (.invokevirtual 82, 3) := by decide +kernel
theorem dX2_allFloors_8 : decode cX2_allFloors 8 = .ok (.ireturn, 1) := by decide +kernel
theorem dX2_sum_0 : decode cX2_sum 0 = .ok (.iconst 0, 1) := by decide +kernel
theorem dX2_sum_1 : decode cX2_sum 1 = .ok (.istore_n 2, 1) := by decide +kernel
theorem dX2_sum_2 : decode cX2_sum 2 = .ok (.iconst 0, 1) := by decide +kernel
theorem dX2_sum_3 : decode cX2_sum 3 = .ok (.istore_n 3, 1) := by decide +kernel
theorem dX2_sum_4 : decode cX2_sum 4 = .ok (.iload_n 3, 1) := by decide +kernel
theorem dX2_sum_5 : decode cX2_sum 5 = .ok (.aload_n 0, 1) := by decide +kernel
theorem dX2_sum_6 : decode cX2_sum 6 = .ok (.getfield 7, 3) := by decide +kernel
theorem dX2_sum_9 : decode cX2_sum 9 = .ok (.if_icmp .ge 21, 3) := by decide +kernel
theorem dX2_sum_12 : decode cX2_sum 12 = .ok (.iload_n 3, 1) := by decide +kernel
theorem dX2_sum_13 : decode cX2_sum 13 = .ok (.aload_n 1, 1) := by decide +kernel
theorem dX2_sum_14 : decode cX2_sum 14 = .ok (.arraylength, 1) := by decide +kernel
theorem dX2_sum_15 : decode cX2_sum 15 = .ok (.if_icmp .ge 15, 3) := by decide +kernel
theorem dX2_sum_18 : decode cX2_sum 18 = .ok (.iload_n 2, 1) := by decide +kernel
theorem dX2_sum_19 : decode cX2_sum 19 = .ok (.aload_n 1, 1) := by decide +kernel
theorem dX2_sum_20 : decode cX2_sum 20 = .ok (.iload_n 3, 1) := by decide +kernel
theorem dX2_sum_21 : decode cX2_sum 21 = .ok (.iaload, 1) := by decide +kernel
theorem dX2_sum_22 : decode cX2_sum 22 = .ok (.iadd, 1) := by decide +kernel
theorem dX2_sum_23 : decode cX2_sum 23 = .ok (.istore_n 2, 1) := by decide +kernel
theorem dX2_sum_24 : decode cX2_sum 24 = .ok (.iinc 3 1, 3) := by decide +kernel
theorem dX2_sum_27 : decode cX2_sum 27 = .ok (.goto (-23), 3) := by decide +kernel
theorem dX2_sum_30 : decode cX2_sum 30 = .ok (.iload_n 2, 1) := by decide +kernel
theorem dX2_sum_31 : decode cX2_sum 31 = .ok (.ireturn, 1) := by decide +kernel
theorem dJ9_max_7cf53_0 : decode cJ9_max_7cf53 0 = .ok (.iload_n 0, 1) := by decide +kernel
theorem dJ9_max_7cf53_1 : decode cJ9_max_7cf53 1 = .ok (.iload_n 1, 1) := by decide +kernel
theorem dJ9_max_7cf53_2 : decode cJ9_max_7cf53 2 = .ok (.if_icmp .lt 7, 3) := by decide +kernel
theorem dJ9_max_7cf53_5 : decode cJ9_max_7cf53 5 = .ok (.iload_n 0, 1) := by decide +kernel
theorem dJ9_max_7cf53_6 : decode cJ9_max_7cf53 6 = .ok (.goto 4, 3) := by decide +kernel
theorem dJ9_max_7cf53_9 : decode cJ9_max_7cf53 9 = .ok (.iload_n 1, 1) := by decide +kernel
theorem dJ9_max_7cf53_10 : decode cJ9_max_7cf53 10 = .ok (.ireturn, 1) := by decide +kernel
theorem dJ9_min_7cf53_0 : decode cJ9_min_7cf53 0 = .ok (.iload_n 0, 1) := by decide +kernel
theorem dJ9_min_7cf53_1 : decode cJ9_min_7cf53 1 = .ok (.iload_n 1, 1) := by decide +kernel
theorem dJ9_min_7cf53_2 : decode cJ9_min_7cf53 2 = .ok (.if_icmp .gt 7, 3) := by decide +kernel
theorem dJ9_min_7cf53_5 : decode cJ9_min_7cf53 5 = .ok (.iload_n 0, 1) := by decide +kernel
theorem dJ9_min_7cf53_6 : decode cJ9_min_7cf53 6 = .ok (.goto 4, 3) := by decide +kernel
theorem dJ9_min_7cf53_9 : decode cJ9_min_7cf53 9 = .ok (.iload_n 1, 1) := by decide +kernel
theorem dJ9_min_7cf53_10 : decode cJ9_min_7cf53 10 = .ok (.ireturn, 1) := by decide +kernel
end
section
/-! THE STATE OF A HOUSE as a table of numbers: row 0 the single numbers (0 hour, 1 bell, 2 pawn, 3 how many beds, 4 how many sailors), 1..5 the beds (price, warmth, entries, paid, sleeper), 6..17 the sailors (watch, heavy, wage, purse, boots, kept, place, bed, rest, late, since, floors) -/
abbrev zS : Type := Nat → Nat → Int32
def zs (σ : zS) (r j : Nat) (v : Int32) : zS := fun r' => if r' = r then upd (σ r) j v else σ r'
theorem zs_at (σ : zS) (r j : Nat) (v : Int32) (r' j' : Nat) : zs σ r j v r' j' = if r' = r ∧ j' = j then v else σ r' j' := by
  unfold zs upd
  by_cases h : r' = r
  · subst h
    by_cases h2 : j' = j <;> simp [h2]
  · simp [h]
theorem zs_eq (σ : zS) (r j : Nat) (v : Int32) : zs σ r j v r j = v := by rw [zs_at, if_pos ⟨rfl, rfl⟩]
theorem zs_row (σ : zS) {r r' : Nat} (h : r' ≠ r) (j : Nat) (v : Int32) : zs σ r j v r' = σ r' := by unfold zs; rw [if_neg h]
theorem zs_ne (σ : zS) (r : Nat) {j j' : Nat} (h : j' ≠ j) (v : Int32) (r' : Nat) : zs σ r j v r' j' = σ r' j' := by rw [zs_at, if_neg (fun z => h z.2)]
theorem zs_nr (σ : zS) {r r' : Nat} (h : r' ≠ r) (j : Nat) (v : Int32) (j' : Nat) : zs σ r j v r' j' = σ r' j' := by rw [zs_at, if_neg (fun z => h z.1)]
theorem zs_self (σ : zS) (r j : Nat) : zs σ r j (σ r j) = σ := by
  funext r' j'
  rw [zs_at]
  by_cases h : r' = r ∧ j' = j
  · rw [if_pos h, h.1, h.2]
  · rw [if_neg h]
theorem zs_twice (σ : zS) (r j : Nat) (v w : Int32) : zs (zs σ r j v) r j w = zs σ r j w := by
  funext r' j'
  rw [zs_at, zs_at, zs_at]
  by_cases h : r' = r ∧ j' = j
  · rw [if_pos h, if_pos h]
  · rw [if_neg h, if_neg h, if_neg h]
theorem zs_swap (σ : zS) {r1 r2 : Nat} (h : r1 ≠ r2) (j1 j2 : Nat) (v w : Int32) : zs (zs σ r1 j1 v) r2 j2 w = zs (zs σ r2 j2 w) r1 j1 v := by
  funext r' j'
  rw [zs_at, zs_at, zs_at, zs_at]
  by_cases h1 : r' = r1 ∧ j' = j1
  · have h2 : ¬ (r' = r2 ∧ j' = j2) := fun z => h (h1.1.symm.trans z.1)
    rw [if_neg h2, if_pos h1, if_pos h1]
  · rw [if_neg h1, if_neg h1]
/-- true or false, as a number -/
def zb (P : Prop) (r : Int32) : Prop := (P ∧ r = 1) ∨ (¬ P ∧ r = 0)
/-- a house's cells: the house, its beds, its sailors, the rows -/
def zw_H (cI : ClassId) (a : Nat → Nat) (σ : zS) : va_W := [
  (a 0, .inr (1, [.int (σ 0 0), .int (σ 0 1), .int (σ 0 2), .ref (a 1), .ref (a 2)])),
  (a 1, .inr (0, [.int (σ 0 3), .ref (a 3), .ref (a 4), .ref (a 5), .ref (a 6), .ref (a 7)])),
  (a 2, .inr (2, [.int (σ 0 4), .ref (a 8), .ref (a 9), .ref (a 10), .ref (a 11), .ref (a 12), .ref (a 13), .ref (a 14), .ref (a 15), .ref (a 16), .ref (a 17), .ref (a 18), .ref (a 19)])),
  (a 3, .inl (cI, 6, .inl (σ 1))), (a 4, .inl (cI, 6, .inl (σ 2))), (a 5, .inl (cI, 6, .inl (σ 3))), (a 6, .inl (cI, 6, .inl (σ 4))), (a 7, .inl (cI, 6, .inl (σ 5))),
  (a 8, .inl (cI, 10, .inl (σ 6))), (a 9, .inl (cI, 10, .inl (σ 7))), (a 10, .inl (cI, 10, .inl (σ 8))), (a 11, .inl (cI, 10, .inl (σ 9))), (a 12, .inl (cI, 10, .inl (σ 10))), (a 13, .inl (cI, 10, .inl (σ 11))),
  (a 14, .inl (cI, 10, .inl (σ 12))), (a 15, .inl (cI, 10, .inl (σ 13))), (a 16, .inl (cI, 10, .inl (σ 14))), (a 17, .inl (cI, 10, .inl (σ 15))), (a 18, .inl (cI, 10, .inl (σ 16))), (a 19, .inl (cI, 10, .inl (σ 17)))]
theorem zwq1 (cI : ClassId) (a : Nat → Nat) (σ : zS) : (zw_H cI a σ)[3]? = some (a 3, .inl (cI, 6, .inl (σ 1))) := rfl
theorem zws1 (cI : ClassId) (a : Nat → Nat) (σ : zS) (j : Nat) (v : Int32) : (zw_H cI a σ).set 3 (a 3, .inl (cI, 6, .inl (upd (σ 1) j v))) = zw_H cI a (zs σ 1 j v) := rfl
theorem zwq2 (cI : ClassId) (a : Nat → Nat) (σ : zS) : (zw_H cI a σ)[4]? = some (a 4, .inl (cI, 6, .inl (σ 2))) := rfl
theorem zws2 (cI : ClassId) (a : Nat → Nat) (σ : zS) (j : Nat) (v : Int32) : (zw_H cI a σ).set 4 (a 4, .inl (cI, 6, .inl (upd (σ 2) j v))) = zw_H cI a (zs σ 2 j v) := rfl
theorem zwq3 (cI : ClassId) (a : Nat → Nat) (σ : zS) : (zw_H cI a σ)[5]? = some (a 5, .inl (cI, 6, .inl (σ 3))) := rfl
theorem zws3 (cI : ClassId) (a : Nat → Nat) (σ : zS) (j : Nat) (v : Int32) : (zw_H cI a σ).set 5 (a 5, .inl (cI, 6, .inl (upd (σ 3) j v))) = zw_H cI a (zs σ 3 j v) := rfl
theorem zwq4 (cI : ClassId) (a : Nat → Nat) (σ : zS) : (zw_H cI a σ)[6]? = some (a 6, .inl (cI, 6, .inl (σ 4))) := rfl
theorem zws4 (cI : ClassId) (a : Nat → Nat) (σ : zS) (j : Nat) (v : Int32) : (zw_H cI a σ).set 6 (a 6, .inl (cI, 6, .inl (upd (σ 4) j v))) = zw_H cI a (zs σ 4 j v) := rfl
theorem zwq5 (cI : ClassId) (a : Nat → Nat) (σ : zS) : (zw_H cI a σ)[7]? = some (a 7, .inl (cI, 6, .inl (σ 5))) := rfl
theorem zws5 (cI : ClassId) (a : Nat → Nat) (σ : zS) (j : Nat) (v : Int32) : (zw_H cI a σ).set 7 (a 7, .inl (cI, 6, .inl (upd (σ 5) j v))) = zw_H cI a (zs σ 5 j v) := rfl
theorem zwq6 (cI : ClassId) (a : Nat → Nat) (σ : zS) : (zw_H cI a σ)[8]? = some (a 8, .inl (cI, 10, .inl (σ 6))) := rfl
theorem zws6 (cI : ClassId) (a : Nat → Nat) (σ : zS) (j : Nat) (v : Int32) : (zw_H cI a σ).set 8 (a 8, .inl (cI, 10, .inl (upd (σ 6) j v))) = zw_H cI a (zs σ 6 j v) := rfl
theorem zwq7 (cI : ClassId) (a : Nat → Nat) (σ : zS) : (zw_H cI a σ)[9]? = some (a 9, .inl (cI, 10, .inl (σ 7))) := rfl
theorem zws7 (cI : ClassId) (a : Nat → Nat) (σ : zS) (j : Nat) (v : Int32) : (zw_H cI a σ).set 9 (a 9, .inl (cI, 10, .inl (upd (σ 7) j v))) = zw_H cI a (zs σ 7 j v) := rfl
theorem zwq8 (cI : ClassId) (a : Nat → Nat) (σ : zS) : (zw_H cI a σ)[10]? = some (a 10, .inl (cI, 10, .inl (σ 8))) := rfl
theorem zws8 (cI : ClassId) (a : Nat → Nat) (σ : zS) (j : Nat) (v : Int32) : (zw_H cI a σ).set 10 (a 10, .inl (cI, 10, .inl (upd (σ 8) j v))) = zw_H cI a (zs σ 8 j v) := rfl
theorem zwq9 (cI : ClassId) (a : Nat → Nat) (σ : zS) : (zw_H cI a σ)[11]? = some (a 11, .inl (cI, 10, .inl (σ 9))) := rfl
theorem zws9 (cI : ClassId) (a : Nat → Nat) (σ : zS) (j : Nat) (v : Int32) : (zw_H cI a σ).set 11 (a 11, .inl (cI, 10, .inl (upd (σ 9) j v))) = zw_H cI a (zs σ 9 j v) := rfl
theorem zwq10 (cI : ClassId) (a : Nat → Nat) (σ : zS) : (zw_H cI a σ)[12]? = some (a 12, .inl (cI, 10, .inl (σ 10))) := rfl
theorem zws10 (cI : ClassId) (a : Nat → Nat) (σ : zS) (j : Nat) (v : Int32) : (zw_H cI a σ).set 12 (a 12, .inl (cI, 10, .inl (upd (σ 10) j v))) = zw_H cI a (zs σ 10 j v) := rfl
theorem zwq11 (cI : ClassId) (a : Nat → Nat) (σ : zS) : (zw_H cI a σ)[13]? = some (a 13, .inl (cI, 10, .inl (σ 11))) := rfl
theorem zws11 (cI : ClassId) (a : Nat → Nat) (σ : zS) (j : Nat) (v : Int32) : (zw_H cI a σ).set 13 (a 13, .inl (cI, 10, .inl (upd (σ 11) j v))) = zw_H cI a (zs σ 11 j v) := rfl
theorem zwq12 (cI : ClassId) (a : Nat → Nat) (σ : zS) : (zw_H cI a σ)[14]? = some (a 14, .inl (cI, 10, .inl (σ 12))) := rfl
theorem zws12 (cI : ClassId) (a : Nat → Nat) (σ : zS) (j : Nat) (v : Int32) : (zw_H cI a σ).set 14 (a 14, .inl (cI, 10, .inl (upd (σ 12) j v))) = zw_H cI a (zs σ 12 j v) := rfl
theorem zwq13 (cI : ClassId) (a : Nat → Nat) (σ : zS) : (zw_H cI a σ)[15]? = some (a 15, .inl (cI, 10, .inl (σ 13))) := rfl
theorem zws13 (cI : ClassId) (a : Nat → Nat) (σ : zS) (j : Nat) (v : Int32) : (zw_H cI a σ).set 15 (a 15, .inl (cI, 10, .inl (upd (σ 13) j v))) = zw_H cI a (zs σ 13 j v) := rfl
theorem zwq14 (cI : ClassId) (a : Nat → Nat) (σ : zS) : (zw_H cI a σ)[16]? = some (a 16, .inl (cI, 10, .inl (σ 14))) := rfl
theorem zws14 (cI : ClassId) (a : Nat → Nat) (σ : zS) (j : Nat) (v : Int32) : (zw_H cI a σ).set 16 (a 16, .inl (cI, 10, .inl (upd (σ 14) j v))) = zw_H cI a (zs σ 14 j v) := rfl
theorem zwq15 (cI : ClassId) (a : Nat → Nat) (σ : zS) : (zw_H cI a σ)[17]? = some (a 17, .inl (cI, 10, .inl (σ 15))) := rfl
theorem zws15 (cI : ClassId) (a : Nat → Nat) (σ : zS) (j : Nat) (v : Int32) : (zw_H cI a σ).set 17 (a 17, .inl (cI, 10, .inl (upd (σ 15) j v))) = zw_H cI a (zs σ 15 j v) := rfl
theorem zwq16 (cI : ClassId) (a : Nat → Nat) (σ : zS) : (zw_H cI a σ)[18]? = some (a 18, .inl (cI, 10, .inl (σ 16))) := rfl
theorem zws16 (cI : ClassId) (a : Nat → Nat) (σ : zS) (j : Nat) (v : Int32) : (zw_H cI a σ).set 18 (a 18, .inl (cI, 10, .inl (upd (σ 16) j v))) = zw_H cI a (zs σ 16 j v) := rfl
theorem zwq17 (cI : ClassId) (a : Nat → Nat) (σ : zS) : (zw_H cI a σ)[19]? = some (a 19, .inl (cI, 10, .inl (σ 17))) := rfl
theorem zws17 (cI : ClassId) (a : Nat → Nat) (σ : zS) (j : Nat) (v : Int32) : (zw_H cI a σ).set 19 (a 19, .inl (cI, 10, .inl (upd (σ 17) j v))) = zw_H cI a (zs σ 17 j v) := rfl
theorem zwo0 (cI : ClassId) (a : Nat → Nat) (σ : zS) (v : Int32) : (zw_H cI a σ).set 0 (a 0, .inr (1, [.int v, .int (σ 0 1), .int (σ 0 2), .ref (a 1), .ref (a 2)])) = zw_H cI a (zs σ 0 0 v) := rfl
theorem zwo1 (cI : ClassId) (a : Nat → Nat) (σ : zS) (v : Int32) : (zw_H cI a σ).set 0 (a 0, .inr (1, [.int (σ 0 0), .int v, .int (σ 0 2), .ref (a 1), .ref (a 2)])) = zw_H cI a (zs σ 0 1 v) := rfl
theorem zwo2 (cI : ClassId) (a : Nat → Nat) (σ : zS) (v : Int32) : (zw_H cI a σ).set 0 (a 0, .inr (1, [.int (σ 0 0), .int (σ 0 1), .int v, .ref (a 1), .ref (a 2)])) = zw_H cI a (zs σ 0 2 v) := rfl
theorem zwo3 (cI : ClassId) (a : Nat → Nat) (σ : zS) (v : Int32) : (zw_H cI a σ).set 1 (a 1, .inr (0, [.int v, .ref (a 3), .ref (a 4), .ref (a 5), .ref (a 6), .ref (a 7)])) = zw_H cI a (zs σ 0 3 v) := rfl
theorem zwo4 (cI : ClassId) (a : Nat → Nat) (σ : zS) (v : Int32) : (zw_H cI a σ).set 2 (a 2, .inr (2, [.int v, .ref (a 8), .ref (a 9), .ref (a 10), .ref (a 11), .ref (a 12), .ref (a 13), .ref (a 14), .ref (a 15), .ref (a 16), .ref (a 17), .ref (a 18), .ref (a 19)])) = zw_H cI a (zs σ 0 4 v) := rfl
/-- what a method finds: a world, and what the tables say of it -/
def zPW (D : va_G) (tys : List (ClassId × FieldType)) (w : va_W) (sz : Nat) (U : State) : Prop := U.heap.size = sz ∧ va_P D vwCl w U.heap ∧ va_K D vwCl tys U ∧ va_D (fun _ => True) w
def zQW (D : va_G) (tys : List (ClassId × FieldType)) (w : va_W) (A : Nat → Prop) (t : State) : Prop := va_P D vwCl w t.heap ∧ va_K D vwCl tys t ∧ va_D A w
theorem zbl {D : va_G} {tys : List (ClassId × FieldType)} {w : va_W} {sz : Nat} (av : List Value) : FrameBlind (va_Pc av (zPW D tys w sz)) := fun a U g mk q => by
  obtain ⟨q0, q1, qP, qK, qD⟩ := q
  exact ⟨q0, q1, qP, va_K.moved (u := U) (U := U.calling g mk a) (Vm.Alike.refl U.vm) qK, qD⟩
theorem zpr {D : va_G} {tys : List (ClassId × FieldType)} {w : va_W} {H : Heap} {s : State} {A : Nat → Prop} {av : List Value} (hK : va_K D vwCl tys s) (hP : va_P D vwCl w H) (hD : va_D A w) : ∀ U : State, U.heap = H → s.WarmedH U.vm → va_Pc av (zPW D tys w H.size) av.toArray U := fun U hU hW =>
  ⟨rfl, by rw [hU], by rw [hU]; exact hP, va_K.moved hW.alike hK, hD.weaken (fun _ _ _ _ => trivial)⟩
/-- a contract of a method that only reads: its answer -/
abbrev zMR (l : Launch) (y : MethodName) (ws : List Cond) (rm : Room) (av : List Value) (D : va_G) (tys : List (ClassId × FieldType)) (w : va_W) (post : Int32 → Prop) : Prop :=
  ∀ sz : Nat, Met l y ws rm (va_Pc av (zPW D tys w sz)) (va_Qi (fun (r : Int32) (_ : Unit) => post r) (fun _ _ => True) (fun _ => False)) 0 0 (fun _ => False)
/-- of one that writes and answers nothing: the world behind it -/
abbrev zMV (l : Launch) (y : MethodName) (ws : List Cond) (rm : Room) (av : List Value) (D : va_G) (tys : List (ClassId × FieldType)) (w w1 : va_W) : Prop :=
  ∀ sz : Nat, Met l y ws rm (va_Pc av (zPW D tys w sz)) (va_Qv (fun (_ : Unit) => True) (fun _ t => zQW D tys w1 (va_A w sz) t) (va_A w sz)) 0 0 (va_A w sz)
/-- of one that writes and answers a number -/
abbrev zMI (l : Launch) (y : MethodName) (ws : List Cond) (rm : Room) (av : List Value) (D : va_G) (tys : List (ClassId × FieldType)) (w w1 : va_W) (post : Int32 → Prop) : Prop :=
  ∀ sz : Nat, Met l y ws rm (va_Pc av (zPW D tys w sz)) (va_Qi (fun (r : Int32) (_ : Unit) => post r) (fun _ t => zQW D tys w1 (va_A w sz) t) (va_A w sz)) 0 0 (va_A w sz)
section ZK
variable {p : Program} {l : Launch} {e : Env} {R : Room} {s : State} {m : MethodId} {args : Array Value} {below : List Frame} {meth : Method} {c : Code} {H : Heap} {locs : List Loc} {cells slots : Nat} {Q : State → Prop}
variable {pc : Nat} {ls : Array Slot} {rest st0 : List Value} {a : Array Value} {A0 : Nat → Prop} {H0 : Heap} {D : va_G} {tys : List (ClassId × FieldType)} {w w1 : va_W} {post : Int32 → Prop}
/-- behind a call that only read -/
theorem zk_R (hr : va_Run p l e R s m args below meth c H locs cells slots 0 0 (F0 m pc ls st0) rest (va_Qi (fun (r : Int32) (_ : Unit) => post r) (fun _ _ => True) (fun _ => False) a) (fun _ => False)) (hS : va_S A0 H0 H locs)
    (kk : ∀ (r : Int32) (H1 : Heap) (locs1 : List Loc), post r → (∀ w : va_W, va_P D vwCl w H → va_P D vwCl w H1) → va_S A0 H0 H1 locs1 → W p l e R s m args below meth c H1 locs1 cells slots Q (F0 m (pc + 3) ls (.int r :: rest))) : W p l e R s m args below meth c H locs cells slots Q (F0 m pc ls st0) := by
  refine va_calli hr hS (fun q _ h => h.elim) (fun q h => h.elim) (fun r u t H1 locs1 ht hvm hw hB hz1 hk1 hS1 => ?_)
  exact kk r H1 locs1 hw (fun w hP => hP.kept (fun k q hk => hk1 q.1 (hP k q hk).lt (fun z => z))) hS1
theorem zk_V (hr : va_Run p l e R s m args below meth c H locs cells slots 0 0 (F0 m pc ls st0) rest (va_Qv (fun (_ : Unit) => True) (fun _ t => zQW D tys w1 (va_A w H.size) t) (va_A w H.size) a) (va_A w H.size)) (hS : va_S A0 H0 H locs) (hF : ∀ q, va_A w H.size q → A0 q)
    (kk : ∀ (H1 : Heap) (locs1 : List Loc), (∀ q : Nat, q < H.size → ¬ va_A w H.size q → H1[q]? = H[q]?) → va_P D vwCl w1 H1 → va_D (va_A w H.size) w1 → va_S A0 H0 H1 locs1 → W p l e R s m args below meth c H1 locs1 cells slots Q (F0 m (pc + 3) ls rest)) : W p l e R s m args below meth c H locs cells slots Q (F0 m pc ls st0) := by
  refine va_callv hr hS (fun q _ h => hF q h) hF (fun u t H1 locs1 ht hvm hw hB hz1 hk1 hS1 => ?_)
  exact kk H1 locs1 hk1 (by rw [← ht]; exact hB.1) hB.2.2 hS1
theorem zk_I (hr : va_Run p l e R s m args below meth c H locs cells slots 0 0 (F0 m pc ls st0) rest (va_Qi (fun (r : Int32) (_ : Unit) => post r) (fun _ t => zQW D tys w1 (va_A w H.size) t) (va_A w H.size) a) (va_A w H.size)) (hS : va_S A0 H0 H locs) (hF : ∀ q, va_A w H.size q → A0 q)
    (kk : ∀ (r : Int32) (H1 : Heap) (locs1 : List Loc), post r → (∀ q : Nat, q < H.size → ¬ va_A w H.size q → H1[q]? = H[q]?) → va_P D vwCl w1 H1 → va_D (va_A w H.size) w1 → va_S A0 H0 H1 locs1 → W p l e R s m args below meth c H1 locs1 cells slots Q (F0 m (pc + 3) ls (.int r :: rest))) : W p l e R s m args below meth c H locs cells slots Q (F0 m pc ls st0) := by
  refine va_calli hr hS (fun q _ h => hF q h) hF (fun r u t H1 locs1 ht hvm hw hB hz1 hk1 hS1 => ?_)
  exact kk r H1 locs1 hw hk1 (by rw [← ht]; exact hB.1) hB.2.2 hS1
variable {cc : ByteArray} {cl : List vw_C} {A : Nat → Prop} {b : Nat}
/-- int arrays at an index that is a number -/
theorem zk_ld (hexec : p.tables.exec = Jvm.exec) (hb : c.code = cc) (hK : va_K D cl tys s) (hP : va_P D cl w H) (q0 t0 : Nat) {cA : ClassId} {n k : Nat} {f : Nat → Int32} (ha : w[q0]? = some (b, .inl (cA, n, .inl f))) (ht : tys[t0]? = some (cA, .int)) (hk : k < n) (hn : n < 2 ^ 31) {v : Int32} (hv : f k = v) (hdg : decode cc pc = .ok (.iaload, 1))
    (kk : W p l e R s m args below meth c H locs cells slots Q (F0 m (pc + 1) ls (.int v :: rest))) : W p l e R s m args below meth c H locs cells slots Q (F0 m pc ls (.int (nI k) :: .ref b :: rest)) := by
  refine va_iald hexec hb hK hP q0 t0 ha ht (vp_in_nI hk hn) hdg ?_
  rw [nI_clamp (Nat.lt_trans hk hn), hv]
  exact kk
theorem zk_st (hexec : p.tables.exec = Jvm.exec) (hb : c.code = cc) (hK : va_K D cl tys s) (hP : va_P D cl w H) (hD : va_D A w) (hS : va_S A H0 H locs) (q0 t0 : Nat) {cA : ClassId} {n k : Nat} {f : Nat → Int32} (ha : w[q0]? = some (b, .inl (cA, n, .inl f))) (ht : tys[t0]? = some (cA, .int)) {x : Int32} (hk : k < n) (hn : n < 2 ^ 31) (hw : w.set q0 (b, .inl (cA, n, .inl (upd f k x))) = w1) (hdg : decode cc pc = .ok (.iastore, 1))
    (kk : ∀ (H1 : Heap) (locs1 : List Loc), va_P D cl w1 H1 → va_D A w1 → va_S A H0 H1 locs1 → W p l e R s m args below meth c H1 locs1 cells slots Q (F0 m (pc + 1) ls rest)) : W p l e R s m args below meth c H locs cells slots Q (F0 m pc ls (.int x :: .int (nI k) :: .ref b :: rest)) := by
  refine va_iast hexec hb hK hP hD hS q0 t0 ha ht (vp_in_nI hk hn) hdg (fun H1 locs1 hP hD hS => ?_)
  rw [nI_clamp (Nat.lt_trans hk hn), hw] at hP hD
  exact kk H1 locs1 hP hD hS
end ZK
theorem zfree {A0 : Nat → Prop} {w : va_W} {H0 H : Heap} {locs : List Loc} (hD : va_D A0 w) (hS : va_S A0 H0 H locs) (hA : ∀ q, H0.size ≤ q → A0 q) : ∀ q, va_A w H.size q → A0 q := by
  intro q h
  rcases h with ⟨k, e, h⟩ | h
  · exact hD.2 k (q, e) h
  · exact hA q (Nat.le_trans hS.1 h)
section ZN
variable {p : Program} {l : Launch} {e : Env} {R : Room} {s : State} {m : MethodId} {args : Array Value} {below : List Frame} {meth : Method} {c : Code} {H : Heap} {locs : List Loc} {cells slots : Nat} {Q : State → Prop}
variable {cc : ByteArray} {pc : Nat} {ls : Array Slot} {rest : List Value} {x y : Nat}
/-- arithmetic on small numbers -/
theorem zk_add (hexec : p.tables.exec = Jvm.exec) (hb : c.code = cc) (hdg : decode cc pc = .ok (.iadd, 1)) (k : W p l e R s m args below meth c H locs cells slots Q (F0 m (pc + 1) ls (.int (nI (x + y)) :: rest))) : W p l e R s m args below meth c H locs cells slots Q (F0 m pc ls (.int (nI y) :: .int (nI x) :: rest)) := by
  refine lv_iadd hexec hb hdg ?_
  rw [nI_add]
  exact k
theorem zk_mul (hexec : p.tables.exec = Jvm.exec) (hb : c.code = cc) (hdg : decode cc pc = .ok (.imul, 1)) (k : W p l e R s m args below meth c H locs cells slots Q (F0 m (pc + 1) ls (.int (nI (x * y)) :: rest))) : W p l e R s m args below meth c H locs cells slots Q (F0 m pc ls (.int (nI y) :: .int (nI x) :: rest)) := by
  refine lv_imul hexec hb hdg ?_
  rw [pk_mul]
  exact k
theorem zk_sub (hexec : p.tables.exec = Jvm.exec) (hb : c.code = cc) (hdg : decode cc pc = .ok (.isub, 1)) (h : y ≤ x) (k : W p l e R s m args below meth c H locs cells slots Q (F0 m (pc + 1) ls (.int (nI (x - y)) :: rest))) : W p l e R s m args below meth c H locs cells slots Q (F0 m pc ls (.int (nI y) :: .int (nI x) :: rest)) := by
  refine lv_isub hexec hb hdg ?_
  rw [pk_sub h]
  exact k
theorem zk_div (hexec : p.tables.exec = Jvm.exec) (hb : c.code = cc) (hdg : decode cc pc = .ok (.idiv, 1)) (hx : x < 2 ^ 31) (h0 : 0 < y) (hy : y < 2 ^ 31) (k : W p l e R s m args below meth c H locs cells slots Q (F0 m (pc + 1) ls (.int (nI (x / y)) :: rest))) : W p l e R s m args below meth c H locs cells slots Q (F0 m pc ls (.int (nI y) :: .int (nI x) :: rest)) := by
  refine lv_idiv hexec hb hdg (nI_ne0 h0 hy) ?_
  rw [pk_div hx h0 hy]
  exact k
theorem zk_rem (hexec : p.tables.exec = Jvm.exec) (hb : c.code = cc) (hdg : decode cc pc = .ok (.irem, 1)) (hx : x < 2 ^ 31) (h0 : 0 < y) (hy : y < 2 ^ 31) (k : W p l e R s m args below meth c H locs cells slots Q (F0 m (pc + 1) ls (.int (nI (x % y)) :: rest))) : W p l e R s m args below meth c H locs cells slots Q (F0 m pc ls (.int (nI y) :: .int (nI x) :: rest)) := by
  refine lv_irem hexec hb hdg (nI_ne0 h0 hy) ?_
  rw [pk_rem hx h0 hy]
  exact k
end ZN
/-! WHAT EACH METHOD DOES, as functions of the table -/
abbrev f_has (σ : zS) (x : Int32) : Prop := ¬ x < 0 ∧ ¬ σ 0 3 ≤ x
abbrev f_free (σ : zS) (x : Int32) : Prop := f_has σ x ∧ σ 5 x.toNatClampNeg = -1
abbrev f_warm (σ : zS) (x : Int32) : Prop := f_has σ x ∧ ¬ σ 2 x.toNatClampNeg < 4
def f_ch (σ : zS) : Nat → Int32
  | 0 => -1
  | k + 1 => if σ 5 k = -1 ∧ (f_ch σ k = -1 ∨ ¬ σ 1 (f_ch σ k).toNatClampNeg ≤ σ 1 k) then nI k else f_ch σ k
def f_min99 (v : Int32) : Int32 := if v < 99 then v else 99
def f_min8 (v : Int32) : Int32 := if v < 8 then v else 8
def f_max0 (v : Int32) : Int32 := if 0 < v then v else 0
def f_cw (σ : zS) (k : Nat) : Int32 := if σ 5 k = -1 then f_max0 (σ 2 k - 1) else f_min8 (σ 2 k + 2)
def f_cool (σ : zS) : Nat → zS
  | 0 => σ
  | k + 1 => zs (f_cool σ k) 2 k (f_cw (f_cool σ k) k)
def f_earn (σ : zS) (k : Nat) (c : Int32) : zS := zs σ 9 k (f_min99 (σ 9 k + c))
def f_late (σ : zS) (k : Nat) : zS := zs (zs σ 15 k (σ 15 k + 1)) 16 k (σ 16 k + 1)
def f_floor (σ : zS) (k : Nat) : zS := zs (zs σ 12 k 2) 17 k (σ 17 k + 1)
def f_pay (σ : zS) (k : Nat) : zS := zs (f_earn σ k (f_max0 ((if σ 10 k = 1 then σ 8 k else σ 8 k / 2) - σ 16 k))) 16 k 0
def f_leave (σ : zS) (k : Nat) : zS := if f_has σ (σ 13 k) then zs σ 5 (σ 13 k).toNatClampNeg (-1) else σ
def f_getUp (σ : zS) (k : Nat) : zS := zs (zs (f_leave σ k) 13 k (-1)) 12 k 0
def f_pawnB (σ : zS) (k : Nat) : zS := f_earn (zs σ 10 k 0) k (σ 0 2)
abbrev f_can (σ : zS) (k : Nat) : Prop := ¬ σ 10 k = 1 ∧ ¬ σ 9 k < σ 0 2 + 2
def f_red (σ : zS) (k : Nat) : zS := zs (zs σ 9 k (σ 9 k - (σ 0 2 + 2))) 10 k 1
def f_ring (σ : zS) (h k : Nat) : zS := if σ 12 k = 0 then σ else if σ 6 k = nI (h % 24 / 8) then σ else
  if σ 0 1 + 2 * nI ((h % 24 + 24 - ((σ 6 k).toNatClampNeg + 1) * 8) % 24) < σ 7 k then f_late σ k else f_getUp σ k
def f_into (σ : zS) (k b : Nat) : zS := zs (zs (zs (zs (zs (zs σ 9 k (σ 9 k - σ 1 b)) 12 k 1) 13 k (nI b)) 4 b (σ 4 b + σ 1 b)) 3 b (σ 3 b + 1)) 5 b (nI k)
def f_try1 (σ : zS) (k b : Nat) : zS := if ¬ σ 1 b ≤ σ 9 k ∧ ¬ σ 9 k + σ 0 2 < σ 1 b ∧ σ 10 k = 1 then f_pawnB σ k else σ
def f_try (σ : zS) (k b : Nat) : zS := if (f_try1 σ k b) 9 k < σ 1 b then f_floor (f_try1 σ k b) k else f_into (f_try1 σ k b) k b
def f_choose (σ : zS) (nb k : Nat) : Int32 := if f_free σ (σ 11 k) then σ 11 k else f_ch σ nb
def f_look (σ : zS) (nb h k : Nat) : zS := if f_has σ (f_choose σ nb k) then f_try σ k (f_choose σ nb k).toNatClampNeg else if nI (h % 8) < 4 then σ else f_floor σ k
def f_payR (σ : zS) (h k : Nat) : zS := if nI (h % 8) = 0 then (if f_can (f_pay σ k) k then f_red (f_pay σ k) k else f_pay σ k) else σ
def f_serve (σ : zS) (nb h k : Nat) : zS := if σ 6 k = nI (h % 24 / 8) then (if (f_payR σ h k) 12 k = 0 then f_look (f_payR σ h k) nb h k else f_payR σ h k) else σ
def f_roh (σ : zS) (h k : Nat) : Int32 := if σ 12 k = 1 then (if f_warm σ (σ 13 k) then 2 else 1) else if σ 12 k = 2 then (if nI (h % 2) = 0 then 0 else 1) else 0
def f_rest (σ : zS) (h k : Nat) : zS := zs σ 14 k (σ 14 k + f_roh σ h k)
def f_itr (f : zS → Nat → zS) : Nat → zS → zS
  | 0, σ => σ
  | k + 1, σ => f (f_itr f k σ) k
def f_hour1 (σ : zS) (ns h : Nat) : zS := f_itr (fun τ k => f_ring τ h k) ns σ
def f_hour2 (σ : zS) (nb ns h : Nat) : zS := f_itr (fun τ k => f_serve τ nb h k) ns (f_hour1 σ ns h)
def f_hour3 (σ : zS) (nb ns h : Nat) : zS := f_itr (fun τ k => f_rest τ h k) ns (f_hour2 σ nb ns h)
def f_hour (σ : zS) (nb ns h : Nat) : zS := zs (f_cool (f_hour3 σ nb ns h) nb) 0 0 (nI (h + 1))
def f_hours (σ : zS) (nb ns h : Nat) : Nat → zS
  | 0 => σ
  | n + 1 => f_hour (f_hours σ nb ns h n) nb ns (h + n)
def f_sum (f : Nat → Int32) : Nat → Int32
  | 0 => 0
  | k + 1 => f_sum f k + f k
def f_many (f : Nat → Int32) (v : Int32) : Nat → Int32
  | 0 => 0
  | k + 1 => if f k = v then f_many f v k + 1 else f_many f v k
/-- the sizes, the hour and the watches of a house: what an hour leaves as it is, but the hour -/
def zC (σ : zS) (nb ns h : Nat) : Prop := σ 0 3 = nI nb ∧ nb ≤ 6 ∧ σ 0 4 = nI ns ∧ ns ≤ 10 ∧ σ 0 0 = nI h ∧ h < 2 ^ 30 ∧ ∀ k, k < 10 → ∃ w, w < 3 ∧ σ 6 k = nI w
theorem zC.to {σ τ : zS} {nb ns h : Nat} (hC : zC σ nb ns h) (h0 : τ 0 = σ 0) (h6 : τ 6 = σ 6) : zC τ nb ns h := by
  unfold zC at hC ⊢
  rw [h0, h6]
  exact hC
/-- a loop with a counter: what holds at its head with k rounds behind it -/
theorem zk_loop {p : Program} {l : Launch} {e : Env} {R : Room} {s : State} {m : MethodId} {args : Array Value} {below : List Frame} {meth : Method} {c : Code} {cells slots : Nat} {Q : State → Prop} {pc : Nat}
    (I : Nat → Heap → List Loc → Array Slot → Prop) (N : Nat)
    (step : ∀ k, k < N → (∀ (H : Heap) (locs : List Loc) (ls : Array Slot), I (k + 1) H locs ls → W p l e R s m args below meth c H locs cells slots Q (F0 m pc ls [])) → ∀ (H : Heap) (locs : List Loc) (ls : Array Slot), I k H locs ls → W p l e R s m args below meth c H locs cells slots Q (F0 m pc ls []))
    (done : ∀ (H : Heap) (locs : List Loc) (ls : Array Slot), I N H locs ls → W p l e R s m args below meth c H locs cells slots Q (F0 m pc ls []))
    (H : Heap) (locs : List Loc) (ls : Array Slot) (h : I 0 H locs ls) : W p l e R s m args below meth c H locs cells slots Q (F0 m pc ls []) := by
  have key : ∀ j k, k + j = N → ∀ (H : Heap) (locs : List Loc) (ls : Array Slot), I k H locs ls → W p l e R s m args below meth c H locs cells slots Q (F0 m pc ls []) := by
    intro j
    induction j with
    | zero => intro k hk H locs ls h; rw [Nat.add_zero] at hk; subst hk; exact done H locs ls h
    | succ j ih => intro k hk H locs ls h; exact step k (by omega) (ih (k + 1) (by omega)) H locs ls h
  exact key N 0 (Nat.zero_add N) H locs ls h
end
section
/-! what a call asks of a name -/
theorem zdX0_changeWarmth : yX0_changeWarmth.cls = RX0 ∧ yX0_changeWarmth.cls ≠ "java/lang/invoke/MethodHandle" ∧ yX0_changeWarmth.cls ≠ "java/lang/invoke/VarHandle" ∧ (parseMethodDescriptor yX0_changeWarmth.desc).map (fun d => d.parameters.length) = some 0 := by decide +kernel
theorem zdX0_cheapestFree : yX0_cheapestFree.cls = RX0 ∧ yX0_cheapestFree.cls ≠ "java/lang/invoke/MethodHandle" ∧ yX0_cheapestFree.cls ≠ "java/lang/invoke/VarHandle" ∧ (parseMethodDescriptor yX0_cheapestFree.desc).map (fun d => d.parameters.length) = some 0 := by decide +kernel
theorem zdX0_has : yX0_has.cls = RX0 ∧ yX0_has.cls ≠ "java/lang/invoke/MethodHandle" ∧ yX0_has.cls ≠ "java/lang/invoke/VarHandle" ∧ (parseMethodDescriptor yX0_has.desc).map (fun d => d.parameters.length) = some 1 := by decide +kernel
theorem zdX0_init : yX0_init.cls = RX0 ∧ yX0_init.cls ≠ "java/lang/invoke/MethodHandle" ∧ yX0_init.cls ≠ "java/lang/invoke/VarHandle" ∧ (parseMethodDescriptor yX0_init.desc).map (fun d => d.parameters.length) = some 0 := by decide +kernel
theorem zdX0_isFree : yX0_isFree.cls = RX0 ∧ yX0_isFree.cls ≠ "java/lang/invoke/MethodHandle" ∧ yX0_isFree.cls ≠ "java/lang/invoke/VarHandle" ∧ (parseMethodDescriptor yX0_isFree.desc).map (fun d => d.parameters.length) = some 1 := by decide +kernel
theorem zdX0_isWarm : yX0_isWarm.cls = RX0 ∧ yX0_isWarm.cls ≠ "java/lang/invoke/MethodHandle" ∧ yX0_isWarm.cls ≠ "java/lang/invoke/VarHandle" ∧ (parseMethodDescriptor yX0_isWarm.desc).map (fun d => d.parameters.length) = some 1 := by decide +kernel
theorem zdX1_canRedeemBoots : yX1_canRedeemBoots.cls = RX1 ∧ yX1_canRedeemBoots.cls ≠ "java/lang/invoke/MethodHandle" ∧ yX1_canRedeemBoots.cls ≠ "java/lang/invoke/VarHandle" ∧ (parseMethodDescriptor yX1_canRedeemBoots.desc).map (fun d => d.parameters.length) = some 1 := by decide +kernel
theorem zdX1_getInto : yX1_getInto.cls = RX1 ∧ yX1_getInto.cls ≠ "java/lang/invoke/MethodHandle" ∧ yX1_getInto.cls ≠ "java/lang/invoke/VarHandle" ∧ (parseMethodDescriptor yX1_getInto.desc).map (fun d => d.parameters.length) = some 2 := by decide +kernel
theorem zdX1_getUp : yX1_getUp.cls = RX1 ∧ yX1_getUp.cls ≠ "java/lang/invoke/MethodHandle" ∧ yX1_getUp.cls ≠ "java/lang/invoke/VarHandle" ∧ (parseMethodDescriptor yX1_getUp.desc).map (fun d => d.parameters.length) = some 1 := by decide +kernel
theorem zdX1_hoursSinceWatch : yX1_hoursSinceWatch.cls = RX1 ∧ yX1_hoursSinceWatch.cls ≠ "java/lang/invoke/MethodHandle" ∧ yX1_hoursSinceWatch.cls ≠ "java/lang/invoke/VarHandle" ∧ (parseMethodDescriptor yX1_hoursSinceWatch.desc).map (fun d => d.parameters.length) = some 1 := by decide +kernel
theorem zdX1_init : yX1_init.cls = RX1 ∧ yX1_init.cls ≠ "java/lang/invoke/MethodHandle" ∧ yX1_init.cls ≠ "java/lang/invoke/VarHandle" ∧ (parseMethodDescriptor yX1_init.desc).map (fun d => d.parameters.length) = some 0 := by decide +kernel
theorem zdX1_isInWatch : yX1_isInWatch.cls = RX1 ∧ yX1_isInWatch.cls ≠ "java/lang/invoke/MethodHandle" ∧ yX1_isInWatch.cls ≠ "java/lang/invoke/VarHandle" ∧ (parseMethodDescriptor yX1_isInWatch.desc).map (fun d => d.parameters.length) = some 1 := by decide +kernel
theorem zdX1_lookForBed : yX1_lookForBed.cls = RX1 ∧ yX1_lookForBed.cls ≠ "java/lang/invoke/MethodHandle" ∧ yX1_lookForBed.cls ≠ "java/lang/invoke/VarHandle" ∧ (parseMethodDescriptor yX1_lookForBed.desc).map (fun d => d.parameters.length) = some 1 := by decide +kernel
theorem zdX1_pawnBoots : yX1_pawnBoots.cls = RX1 ∧ yX1_pawnBoots.cls ≠ "java/lang/invoke/MethodHandle" ∧ yX1_pawnBoots.cls ≠ "java/lang/invoke/VarHandle" ∧ (parseMethodDescriptor yX1_pawnBoots.desc).map (fun d => d.parameters.length) = some 1 := by decide +kernel
theorem zdX1_redeemBoots : yX1_redeemBoots.cls = RX1 ∧ yX1_redeemBoots.cls ≠ "java/lang/invoke/MethodHandle" ∧ yX1_redeemBoots.cls ≠ "java/lang/invoke/VarHandle" ∧ (parseMethodDescriptor yX1_redeemBoots.desc).map (fun d => d.parameters.length) = some 1 := by decide +kernel
theorem zdX1_restOfHour : yX1_restOfHour.cls = RX1 ∧ yX1_restOfHour.cls ≠ "java/lang/invoke/MethodHandle" ∧ yX1_restOfHour.cls ≠ "java/lang/invoke/VarHandle" ∧ (parseMethodDescriptor yX1_restOfHour.desc).map (fun d => d.parameters.length) = some 1 := by decide +kernel
theorem zdX1_ringBell : yX1_ringBell.cls = RX1 ∧ yX1_ringBell.cls ≠ "java/lang/invoke/MethodHandle" ∧ yX1_ringBell.cls ≠ "java/lang/invoke/VarHandle" ∧ (parseMethodDescriptor yX1_ringBell.desc).map (fun d => d.parameters.length) = some 1 := by decide +kernel
theorem zdX1_serve : yX1_serve.cls = RX1 ∧ yX1_serve.cls ≠ "java/lang/invoke/MethodHandle" ∧ yX1_serve.cls ≠ "java/lang/invoke/VarHandle" ∧ (parseMethodDescriptor yX1_serve.desc).map (fun d => d.parameters.length) = some 1 := by decide +kernel
theorem zdX1_tryBed : yX1_tryBed.cls = RX1 ∧ yX1_tryBed.cls ≠ "java/lang/invoke/MethodHandle" ∧ yX1_tryBed.cls ≠ "java/lang/invoke/VarHandle" ∧ (parseMethodDescriptor yX1_tryBed.desc).map (fun d => d.parameters.length) = some 2 := by decide +kernel
theorem zdX1_watchNow : yX1_watchNow.cls = RX1 ∧ yX1_watchNow.cls ≠ "java/lang/invoke/MethodHandle" ∧ yX1_watchNow.cls ≠ "java/lang/invoke/VarHandle" ∧ (parseMethodDescriptor yX1_watchNow.desc).map (fun d => d.parameters.length) = some 0 := by decide +kernel
theorem zdX2_beLate : yX2_beLate.cls = RX2 ∧ yX2_beLate.cls ≠ "java/lang/invoke/MethodHandle" ∧ yX2_beLate.cls ≠ "java/lang/invoke/VarHandle" ∧ (parseMethodDescriptor yX2_beLate.desc).map (fun d => d.parameters.length) = some 1 := by decide +kernel
theorem zdX2_earn : yX2_earn.cls = RX2 ∧ yX2_earn.cls ≠ "java/lang/invoke/MethodHandle" ∧ yX2_earn.cls ≠ "java/lang/invoke/VarHandle" ∧ (parseMethodDescriptor yX2_earn.desc).map (fun d => d.parameters.length) = some 2 := by decide +kernel
theorem zdX2_hasBoots : yX2_hasBoots.cls = RX2 ∧ yX2_hasBoots.cls ≠ "java/lang/invoke/MethodHandle" ∧ yX2_hasBoots.cls ≠ "java/lang/invoke/VarHandle" ∧ (parseMethodDescriptor yX2_hasBoots.desc).map (fun d => d.parameters.length) = some 1 := by decide +kernel
theorem zdX2_init : yX2_init.cls = RX2 ∧ yX2_init.cls ≠ "java/lang/invoke/MethodHandle" ∧ yX2_init.cls ≠ "java/lang/invoke/VarHandle" ∧ (parseMethodDescriptor yX2_init.desc).map (fun d => d.parameters.length) = some 0 := by decide +kernel
theorem zdX2_isUp : yX2_isUp.cls = RX2 ∧ yX2_isUp.cls ≠ "java/lang/invoke/MethodHandle" ∧ yX2_isUp.cls ≠ "java/lang/invoke/VarHandle" ∧ (parseMethodDescriptor yX2_isUp.desc).map (fun d => d.parameters.length) = some 1 := by decide +kernel
theorem zdX2_lieOnFloor : yX2_lieOnFloor.cls = RX2 ∧ yX2_lieOnFloor.cls ≠ "java/lang/invoke/MethodHandle" ∧ yX2_lieOnFloor.cls ≠ "java/lang/invoke/VarHandle" ∧ (parseMethodDescriptor yX2_lieOnFloor.desc).map (fun d => d.parameters.length) = some 1 := by decide +kernel
theorem zdX2_payWage : yX2_payWage.cls = RX2 ∧ yX2_payWage.cls ≠ "java/lang/invoke/MethodHandle" ∧ yX2_payWage.cls ≠ "java/lang/invoke/VarHandle" ∧ (parseMethodDescriptor yX2_payWage.desc).map (fun d => d.parameters.length) = some 1 := by decide +kernel
theorem zdX2_sum : yX2_sum.cls = RX2 ∧ yX2_sum.cls ≠ "java/lang/invoke/MethodHandle" ∧ yX2_sum.cls ≠ "java/lang/invoke/VarHandle" ∧ (parseMethodDescriptor yX2_sum.desc).map (fun d => d.parameters.length) = some 1 := by decide +kernel
end
section
set_option maxHeartbeats 4000000 in
set_option maxRecDepth 100000 in
theorem c_X0_has (l : Launch) (D : va_G) (cI : ClassId) (a : Nat → Nat) (σ : zS) (x : Int32) : zMR l yX0_has wsX0_has ({ frames := 0, cells := 0, slots := 0, locals := 0 }) [.ref (a 1), .int x] D [(cI, .int)] (zw_H cI a σ) (zb (f_has σ x)) := by
  intro sz
  refine Met.ofW (cc := cX0_has) (maxL := 2) (ret := (some .boolean)) (by decide) rfl ?_
  intro p e s m args below meth c s₁ B hml hv
  obtain ⟨rfl, hsz, hP, hK, hD⟩ := hv
  have hx := B.exec
  have hb := B.bytes
  have hr := B.returns
  have hts := atoms_spec (ws := wsX0_has) B.pre
  have hown : s.vm.findClass RX0 = some m.cls := findClass_of_methodNamed B.named
  have hlocks := B.notSynchronized
  have hS : va_S (fun _ => False) s.heap s.heap [] := va_S.rf
  have hP : va_P D vwCl (zw_H cI a σ) s.heap := hP
  have hl := lv_entry ([.ref (a 1), .int x]) (n := 2) (Nat.le_of_ble_eq_true rfl)
  rw [lg_entry_eq]
  generalize (lg_sl ([.ref (a 1), .int x]) ++ List.replicate (2 - (lg_sl ([.ref (a 1), .int x])).length) Slot.unset).toArray = ls at hl ⊢
  have hl : lv_has ls 2 [(0, .ref (a 1)), (1, .int x)] := hl
  have hf7 := hts (.fieldLink RX0 7 "HotBeds$Beds" "size" "I") (by decide +kernel)
  have hinX0 : ∀ w ∈ u_ws RX0 TX0 6, w ∈ wsX0_has := by decide +kernel
  refine lv_iload_n hx hb dX0_has_0 rfl (lv_at hl 1 rfl) ?_
  refine lv_if_lt (tgt := 16) hx hb dX0_has_1 (by decide) (fun c_1 => ?_) (fun c_1 => ?_)
  · refine lv_iconst (v := 0) hx hb dX0_has_16 (by decide) ?_
    exact W.zret (v := 0) hx hb hr rfl (fun t ht hW => ⟨⟨0, (), rfl, Or.inr ⟨(fun z => z.1 c_1), rfl⟩, trivial⟩, hS.F ht⟩) hS.2.2 dX0_has_17
  · refine lv_iload_n hx hb dX0_has_4 rfl (lv_at hl 1 rfl) ?_
    refine lv_aload_n hx hb dX0_has_5 rfl (lv_at hl 0 rfl) ?_
    refine va_get (D := D) (ci := 0) (v := .int (σ 0 3)) (C := RX0) (T := TX0) (N := 6) hx hb hts hinX0 hown hK hP 1 rfl rfl 0 (by decide) hf7 (fun _ h9 => h9) rfl dX0_has_6 ?_
    refine lv_icmp_ge (tgt := 16) hx hb dX0_has_9 (by decide) (fun c_2 => ?_) (fun c_2 => ?_)
    · refine lv_iconst (v := 0) hx hb dX0_has_16 (by decide) ?_
      exact W.zret (v := 0) hx hb hr rfl (fun t ht hW => ⟨⟨0, (), rfl, Or.inr ⟨(fun z => z.2 c_2), rfl⟩, trivial⟩, hS.F ht⟩) hS.2.2 dX0_has_17
    · refine lv_iconst (v := 1) hx hb dX0_has_12 (by decide) ?_
      refine lv_goto (tgt := 17) hx hb dX0_has_13 (by decide) ?_
      exact W.zret (v := 1) hx hb hr rfl (fun t ht hW => ⟨⟨1, (), rfl, Or.inl ⟨⟨c_1, c_2⟩, rfl⟩, trivial⟩, hS.F ht⟩) hS.2.2 dX0_has_17

theorem zin {σ : zS} {nb ns h : Nat} {x : Int32} (hC : zC σ nb ns h) (hx : f_has σ x) : vp_in x 6 := by
  have h3 := hx.2
  rw [hC.1] at h3
  have h1 := hx.1
  obtain ⟨j, hj, rfl⟩ := nI_of h1
  have hb := hC.2.1
  exact vp_in_nI (by have := mt (nI_leI (a := nb) (b := j) (by omega) hj).mpr h3; omega) (by decide)

set_option maxHeartbeats 4000000 in
set_option maxRecDepth 100000 in
theorem c_X0_isFree (l : Launch) (D : va_G) (cI : ClassId) (a : Nat → Nat) (σ : zS) (x : Int32) {nb ns h : Nat} (hC : zC σ nb ns h) : zMR l yX0_isFree wsX0_isFree ({ frames := 1, cells := 0, slots := 0, locals := 21 }) [.ref (a 1), .int x] D [(cI, .int)] (zw_H cI a σ) (zb (f_free σ x)) := by
  intro sz
  refine Met.ofW (cc := cX0_isFree) (maxL := 2) (ret := (some .boolean)) (by decide) rfl ?_
  intro p e s m args below meth c s₁ B hml hv
  obtain ⟨rfl, hsz, hP, hK, hD⟩ := hv
  have hx := B.exec
  have hb := B.bytes
  have hr := B.returns
  have hts := atoms_spec (ws := wsX0_isFree) B.pre
  have hown : s.vm.findClass RX0 = some m.cls := findClass_of_methodNamed B.named
  have hlocks := B.notSynchronized
  have hS : va_S (fun _ => False) s.heap s.heap [] := va_S.rf
  have hP : va_P D vwCl (zw_H cI a σ) s.heap := hP
  have hl := lv_entry ([.ref (a 1), .int x]) (n := 2) (Nat.le_of_ble_eq_true rfl)
  rw [lg_entry_eq]
  generalize (lg_sl ([.ref (a 1), .int x]) ++ List.replicate (2 - (lg_sl ([.ref (a 1), .int x])).length) Slot.unset).toArray = ls at hl ⊢
  have hl : lv_has ls 2 [(0, .ref (a 1)), (1, .int x)] := hl
  have hf26 := hts (.fieldLink RX0 26 "HotBeds$Beds" "sleeper" "[I") (by decide +kernel)
  have hinX0 : ∀ w ∈ u_ws RX0 TX0 6, w ∈ wsX0_isFree := by decide +kernel
  refine lv_aload_n hx hb dX0_isFree_0 rfl (lv_at hl 0 rfl) ?_
  refine lv_iload_n hx hb dX0_isFree_1 rfl (lv_at hl 1 rfl) ?_
  refine zk_R (D := D) (va_runV (As := [.int x]) (rest := []) ⟨hx, hb, hml, hown, hts⟩ (c_X0_has l D cI a σ x _) (cwV 1 hts gX0_isFree_X0_has rfl rfl rfl zdX0_has ⟨Nat.le_of_ble_eq_true rfl, Nat.le_of_ble_eq_true rfl⟩) ⟨zbl _, va_recv hK hP (ci := 0) (q0 := 1) rfl rfl, zpr hK hP hD⟩ rfl rfl hl.1 rfl (lv_room (Nat.le_of_ble_eq_true rfl)) dX0_isFree_2 ⟨Nat.zero_le _, Nat.zero_le _⟩) hS (fun r_1 H locs hw hkp hS => ?_)
  have hP := hkp _ hP
  rcases hw with ⟨c_2, rfl⟩ | ⟨c_2, rfl⟩
  · refine lv_if_eq (tgt := 22) hx hb dX0_isFree_5 (by decide) (fun c => absurd c (by decide)) (fun _ => ?_)
    refine lv_aload_n hx hb dX0_isFree_8 rfl (lv_at hl 0 rfl) ?_
    refine va_get (D := D) (ci := 0) (v := .ref (a 7)) (C := RX0) (T := TX0) (N := 6) hx hb hts hinX0 hown hK hP 1 rfl rfl 5 (by decide) hf26 (fun _ h9 => h9) rfl dX0_isFree_9 ?_
    refine lv_iload_n hx hb dX0_isFree_12 rfl (lv_at hl 1 rfl) ?_
    refine va_iald hx hb hK hP 7 0 (zwq5 cI a _) rfl (zin hC c_2) dX0_isFree_13 ?_
    refine lv_iconst (v := (-1)) hx hb dX0_isFree_14 (by decide) ?_
    refine lv_icmp_ne (tgt := 22) hx hb dX0_isFree_15 (by decide) (fun c_4 => ?_) (fun c_4 => ?_)
    · refine lv_iconst (v := 0) hx hb dX0_isFree_22 (by decide) ?_
      exact W.zret (v := 0) hx hb hr rfl (fun t ht hW => ⟨⟨0, (), rfl, Or.inr ⟨(fun z => c_4 z.2), rfl⟩, trivial⟩, hS.F ht⟩) hS.2.2 dX0_isFree_23
    · refine lv_iconst (v := 1) hx hb dX0_isFree_18 (by decide) ?_
      refine lv_goto (tgt := 23) hx hb dX0_isFree_19 (by decide) ?_
      exact W.zret (v := 1) hx hb hr rfl (fun t ht hW => ⟨⟨1, (), rfl, Or.inl ⟨⟨c_2, c_4⟩, rfl⟩, trivial⟩, hS.F ht⟩) hS.2.2 dX0_isFree_23
  · refine lv_if_eq (tgt := 22) hx hb dX0_isFree_5 (by decide) (fun _ => ?_) (fun c => absurd (by decide) c)
    refine lv_iconst (v := 0) hx hb dX0_isFree_22 (by decide) ?_
    exact W.zret (v := 0) hx hb hr rfl (fun t ht hW => ⟨⟨0, (), rfl, Or.inr ⟨(fun z => c_2 z.1), rfl⟩, trivial⟩, hS.F ht⟩) hS.2.2 dX0_isFree_23

set_option maxHeartbeats 4000000 in
set_option maxRecDepth 100000 in
theorem c_X0_isWarm (l : Launch) (D : va_G) (cI : ClassId) (a : Nat → Nat) (σ : zS) (x : Int32) {nb ns h : Nat} (hC : zC σ nb ns h) : zMR l yX0_isWarm wsX0_isWarm ({ frames := 1, cells := 0, slots := 0, locals := 21 }) [.ref (a 1), .int x] D [(cI, .int)] (zw_H cI a σ) (zb (f_warm σ x)) := by
  intro sz
  refine Met.ofW (cc := cX0_isWarm) (maxL := 2) (ret := (some .boolean)) (by decide) rfl ?_
  intro p e s m args below meth c s₁ B hml hv
  obtain ⟨rfl, hsz, hP, hK, hD⟩ := hv
  have hx := B.exec
  have hb := B.bytes
  have hr := B.returns
  have hts := atoms_spec (ws := wsX0_isWarm) B.pre
  have hown : s.vm.findClass RX0 = some m.cls := findClass_of_methodNamed B.named
  have hlocks := B.notSynchronized
  have hS : va_S (fun _ => False) s.heap s.heap [] := va_S.rf
  have hP : va_P D vwCl (zw_H cI a σ) s.heap := hP
  have hl := lv_entry ([.ref (a 1), .int x]) (n := 2) (Nat.le_of_ble_eq_true rfl)
  rw [lg_entry_eq]
  generalize (lg_sl ([.ref (a 1), .int x]) ++ List.replicate (2 - (lg_sl ([.ref (a 1), .int x])).length) Slot.unset).toArray = ls at hl ⊢
  have hl : lv_has ls 2 [(0, .ref (a 1)), (1, .int x)] := hl
  have hf17 := hts (.fieldLink RX0 17 "HotBeds$Beds" "warmth" "[I") (by decide +kernel)
  have hinX0 : ∀ w ∈ u_ws RX0 TX0 6, w ∈ wsX0_isWarm := by decide +kernel
  refine lv_aload_n hx hb dX0_isWarm_0 rfl (lv_at hl 0 rfl) ?_
  refine lv_iload_n hx hb dX0_isWarm_1 rfl (lv_at hl 1 rfl) ?_
  refine zk_R (D := D) (va_runV (As := [.int x]) (rest := []) ⟨hx, hb, hml, hown, hts⟩ (c_X0_has l D cI a σ x _) (cwV 1 hts gX0_isWarm_X0_has rfl rfl rfl zdX0_has ⟨Nat.le_of_ble_eq_true rfl, Nat.le_of_ble_eq_true rfl⟩) ⟨zbl _, va_recv hK hP (ci := 0) (q0 := 1) rfl rfl, zpr hK hP hD⟩ rfl rfl hl.1 rfl (lv_room (Nat.le_of_ble_eq_true rfl)) dX0_isWarm_2 ⟨Nat.zero_le _, Nat.zero_le _⟩) hS (fun r_1 H locs hw hkp hS => ?_)
  have hP := hkp _ hP
  rcases hw with ⟨c_2, rfl⟩ | ⟨c_2, rfl⟩
  · refine lv_if_eq (tgt := 22) hx hb dX0_isWarm_5 (by decide) (fun c => absurd c (by decide)) (fun _ => ?_)
    refine lv_aload_n hx hb dX0_isWarm_8 rfl (lv_at hl 0 rfl) ?_
    refine va_get (D := D) (ci := 0) (v := .ref (a 4)) (C := RX0) (T := TX0) (N := 6) hx hb hts hinX0 hown hK hP 1 rfl rfl 2 (by decide) hf17 (fun _ h9 => h9) rfl dX0_isWarm_9 ?_
    refine lv_iload_n hx hb dX0_isWarm_12 rfl (lv_at hl 1 rfl) ?_
    refine va_iald hx hb hK hP 4 0 (zwq2 cI a _) rfl (zin hC c_2) dX0_isWarm_13 ?_
    refine lv_iconst (v := 4) hx hb dX0_isWarm_14 (by decide) ?_
    refine lv_icmp_lt (tgt := 22) hx hb dX0_isWarm_15 (by decide) (fun c_4 => ?_) (fun c_4 => ?_)
    · refine lv_iconst (v := 0) hx hb dX0_isWarm_22 (by decide) ?_
      exact W.zret (v := 0) hx hb hr rfl (fun t ht hW => ⟨⟨0, (), rfl, Or.inr ⟨(fun z => z.2 c_4), rfl⟩, trivial⟩, hS.F ht⟩) hS.2.2 dX0_isWarm_23
    · refine lv_iconst (v := 1) hx hb dX0_isWarm_18 (by decide) ?_
      refine lv_goto (tgt := 23) hx hb dX0_isWarm_19 (by decide) ?_
      exact W.zret (v := 1) hx hb hr rfl (fun t ht hW => ⟨⟨1, (), rfl, Or.inl ⟨⟨c_2, c_4⟩, rfl⟩, trivial⟩, hS.F ht⟩) hS.2.2 dX0_isWarm_23
  · refine lv_if_eq (tgt := 22) hx hb dX0_isWarm_5 (by decide) (fun _ => ?_) (fun c => absurd (by decide) c)
    refine lv_iconst (v := 0) hx hb dX0_isWarm_22 (by decide) ?_
    exact W.zret (v := 0) hx hb hr rfl (fun t ht hW => ⟨⟨0, (), rfl, Or.inr ⟨(fun z => c_2 z.1), rfl⟩, trivial⟩, hS.F ht⟩) hS.2.2 dX0_isWarm_23

theorem zfree_k {σ : zS} {nb ns h k : Nat} (hC : zC σ nb ns h) (hk : k < nb) : f_free σ (nI k) ↔ σ 5 k = -1 := by
  have hnb := hC.2.1
  constructor
  · intro z
    have h2 := z.2
    rw [nI_clamp (by omega)] at h2
    exact h2
  · intro z
    refine ⟨⟨nI_pos (by omega), ?_⟩, ?_⟩
    · rw [hC.1]
      exact nI_ge hk (by omega)
    · rw [nI_clamp (by omega)]
      exact z
theorem zch (σ : zS) : ∀ k : Nat, f_ch σ k = -1 ∨ ∃ j, j < k ∧ f_ch σ k = nI j
  | 0 => Or.inl rfl
  | k + 1 => by
    by_cases hc : σ 5 k = -1 ∧ (f_ch σ k = -1 ∨ ¬ σ 1 (f_ch σ k).toNatClampNeg ≤ σ 1 k)
    · exact Or.inr ⟨k, Nat.lt_succ_self k, if_pos hc⟩
    · have e : f_ch σ (k + 1) = f_ch σ k := if_neg hc
      rcases zch σ k with h | ⟨j, hj, h⟩
      · exact Or.inl (e.trans h)
      · exact Or.inr ⟨j, Nat.lt_succ_of_lt hj, e.trans h⟩
theorem zch_in {σ : zS} {k : Nat} (hk : k ≤ 6) (h : ¬ f_ch σ k = -1) : vp_in (f_ch σ k) 6 := by
  rcases zch σ k with z | ⟨j, hj, z⟩
  · exact absurd z h
  · rw [z]
    exact vp_in_nI (by omega) (by decide)
theorem f_cool_0 (σ : zS) : ∀ k : Nat, f_cool σ k 0 = σ 0
  | 0 => rfl
  | k + 1 => (zs_row (f_cool σ k) (r := 2) (r' := 0) (by decide) k _).trans (f_cool_0 σ k)
theorem f_cool_6 (σ : zS) : ∀ k : Nat, f_cool σ k 6 = σ 6
  | 0 => rfl
  | k + 1 => (zs_row (f_cool σ k) (r := 2) (r' := 6) (by decide) k _).trans (f_cool_6 σ k)

set_option maxHeartbeats 4000000 in
set_option maxRecDepth 100000 in
theorem c_X0_cheapestFree (l : Launch) (D : va_G) (cI : ClassId) (a : Nat → Nat) (σ : zS) {nb ns h : Nat} (hC : zC σ nb ns h) : zMR l yX0_cheapestFree wsX0_cheapestFree ({ frames := 2, cells := 0, slots := 0, locals := 42 }) [.ref (a 1)] D [(cI, .int)] (zw_H cI a σ) (fun r => r = f_ch σ nb) := by
  intro sz
  refine Met.ofW (cc := cX0_cheapestFree) (maxL := 3) (ret := (some .int)) (by decide) rfl ?_
  intro p e s m args below meth c s₁ B hml hv
  obtain ⟨rfl, hsz, hP, hK, hD⟩ := hv
  have hx := B.exec
  have hb := B.bytes
  have hr := B.returns
  have hts := atoms_spec (ws := wsX0_cheapestFree) B.pre
  have hown : s.vm.findClass RX0 = some m.cls := findClass_of_methodNamed B.named
  have hlocks := B.notSynchronized
  have hS : va_S (fun _ => False) s.heap s.heap [] := va_S.rf
  have hP : va_P D vwCl (zw_H cI a σ) s.heap := hP
  have hl := lv_entry ([.ref (a 1)]) (n := 3) (Nat.le_of_ble_eq_true rfl)
  rw [lg_entry_eq]
  generalize (lg_sl ([.ref (a 1)]) ++ List.replicate (3 - (lg_sl ([.ref (a 1)])).length) Slot.unset).toArray = ls at hl ⊢
  have hl : lv_has ls 3 [(0, .ref (a 1))] := hl
  have hf13 := hts (.fieldLink RX0 13 "HotBeds$Beds" "price" "[I") (by decide +kernel)
  have hf7 := hts (.fieldLink RX0 7 "HotBeds$Beds" "size" "I") (by decide +kernel)
  have hinX0 : ∀ w ∈ u_ws RX0 TX0 6, w ∈ wsX0_cheapestFree := by decide +kernel
  have hnb := hC.2.1
  refine lv_iconst (v := (-1)) hx hb dX0_cheapestFree_0 (by decide) ?_
  refine lv_istore_n (lv' := [(1, .int (-1)), (0, .ref (a 1))]) hx hb dX0_cheapestFree_1 rfl hl (by decide) rfl (fun ls hl => ?_)
  refine lv_iconst (v := 0) hx hb dX0_cheapestFree_2 (by decide) ?_
  refine lv_istore_n (lv' := [(2, .int 0), (1, .int (-1)), (0, .ref (a 1))]) hx hb dX0_cheapestFree_3 rfl hl (by decide) rfl (fun ls hl => ?_)
  refine zk_loop (pc := 4) (fun k H locs ls => va_P D vwCl (zw_H cI a σ) H ∧ va_S (fun _ => False) s.heap H locs ∧ lv_has ls 3 [(0, .ref (a 1)), (1, .int (f_ch σ k)), (2, .int (nI k))]) nb (fun k hkk ih H locs ls hI => ?_) (fun H locs ls hI => ?_) _ _ _ ⟨hP, hS, lv_sub hl [2, 1, 0] rfl⟩
  · obtain ⟨hP, hS, hl⟩ := hI
    refine lv_iload_n hx hb dX0_cheapestFree_4 rfl (lv_at hl 2 rfl) ?_
    refine lv_aload_n hx hb dX0_cheapestFree_5 rfl (lv_at hl 0 rfl) ?_
    refine va_get (D := D) (ci := 0) (v := .int (nI nb)) (C := RX0) (T := TX0) (N := 6) hx hb hts hinX0 hown hK hP 1 rfl rfl 0 (by decide) hf7 (fun _ h9 => h9) (congrArg (fun z => some (Value.int z)) hC.1) dX0_cheapestFree_6 ?_
    refine lv_icmp_ge (tgt := 48) hx hb dX0_cheapestFree_9 (by decide) (fun c => absurd c (nI_ge hkk (by omega))) (fun _ => ?_)
    refine lv_aload_n hx hb dX0_cheapestFree_12 rfl (lv_at hl 0 rfl) ?_
    refine lv_iload_n hx hb dX0_cheapestFree_13 rfl (lv_at hl 2 rfl) ?_
    refine zk_R (D := D) (va_runV (As := [.int (nI k)]) (rest := []) ⟨hx, hb, hml, hown, hts⟩ (c_X0_isFree l D cI a σ (nI k) hC _) (cwV 1 hts gX0_cheapestFree_X0_isFree rfl rfl rfl zdX0_isFree ⟨Nat.le_of_ble_eq_true rfl, Nat.le_of_ble_eq_true rfl⟩) ⟨zbl _, va_recv hK hP (ci := 0) (q0 := 1) rfl rfl, zpr hK hP hD⟩ rfl rfl hl.1 rfl (lv_room (Nat.le_of_ble_eq_true rfl)) dX0_cheapestFree_14 ⟨Nat.zero_le _, Nat.zero_le _⟩) hS (fun r_2 H locs hw hkp hS => ?_)
    have hP := hkp _ hP
    rcases hw with ⟨c_3, rfl⟩ | ⟨c_3, rfl⟩
    · refine lv_if_eq (tgt := 42) hx hb dX0_cheapestFree_17 (by decide) (fun c => absurd c (by decide)) (fun _ => ?_)
      refine lv_iload_n hx hb dX0_cheapestFree_20 rfl (lv_at hl 1 rfl) ?_
      refine lv_iconst (v := (-1)) hx hb dX0_cheapestFree_21 (by decide) ?_
      refine lv_icmp_eq (tgt := 40) hx hb dX0_cheapestFree_22 (by decide) (fun c_5 => ?_) (fun c_5 => ?_)
      · refine lv_iload_n hx hb dX0_cheapestFree_40 rfl (lv_at hl 2 rfl) ?_
        refine lv_istore_n (lv' := [(1, .int (nI k)), (0, .ref (a 1)), (2, .int (nI k))]) hx hb dX0_cheapestFree_41 rfl hl (by decide) rfl (fun ls hl => ?_)
        refine lv_iinc (v := nI (k + 1)) (lv' := [(2, .int (nI (k + 1))), (1, .int (nI k)), (0, .ref (a 1))]) hx hb dX0_cheapestFree_42 hl (k := 2) rfl (nI_1 k) (by decide) rfl (fun ls hl => ?_)
        refine lv_goto (tgt := 4) hx hb dX0_cheapestFree_45 (by decide) ?_
        have e1 : f_ch σ (k + 1) = nI k := if_pos ⟨(zfree_k hC hkk).mp c_3, Or.inl c_5⟩
        exact ih _ _ _ ⟨hP, hS, by rw [e1]; exact lv_sub hl [2, 1, 0] rfl⟩
      · refine lv_aload_n hx hb dX0_cheapestFree_25 rfl (lv_at hl 0 rfl) ?_
        refine va_get (D := D) (ci := 0) (v := .ref (a 3)) (C := RX0) (T := TX0) (N := 6) hx hb hts hinX0 hown hK hP 1 rfl rfl 1 (by decide) hf13 (fun _ h9 => h9) rfl dX0_cheapestFree_26 ?_
        refine lv_iload_n hx hb dX0_cheapestFree_29 rfl (lv_at hl 2 rfl) ?_
        refine zk_ld hx hb hK hP 3 0 (zwq1 cI a _) rfl (k := k) (by omega) (by decide) (v := σ 1 k) rfl dX0_cheapestFree_30 ?_
        refine lv_aload_n hx hb dX0_cheapestFree_31 rfl (lv_at hl 0 rfl) ?_
        refine va_get (D := D) (ci := 0) (v := .ref (a 3)) (C := RX0) (T := TX0) (N := 6) hx hb hts hinX0 hown hK hP 1 rfl rfl 1 (by decide) hf13 (fun _ h9 => h9) rfl dX0_cheapestFree_32 ?_
        refine lv_iload_n hx hb dX0_cheapestFree_35 rfl (lv_at hl 1 rfl) ?_
        refine va_iald hx hb hK hP 3 0 (zwq1 cI a _) rfl (zch_in (by omega) c_5) dX0_cheapestFree_36 ?_
        refine lv_icmp_ge (tgt := 42) hx hb dX0_cheapestFree_37 (by decide) (fun c_6 => ?_) (fun c_6 => ?_)
        · refine lv_iinc (v := nI (k + 1)) (lv' := [(2, .int (nI (k + 1))), (0, .ref (a 1)), (1, .int (f_ch σ k))]) hx hb dX0_cheapestFree_42 hl (k := 2) rfl (nI_1 k) (by decide) rfl (fun ls hl => ?_)
          refine lv_goto (tgt := 4) hx hb dX0_cheapestFree_45 (by decide) ?_
          have e1 : f_ch σ (k + 1) = f_ch σ k := if_neg (fun z => z.2.elim c_5 (fun y => y c_6))
          exact ih _ _ _ ⟨hP, hS, by rw [e1]; exact lv_sub hl [1, 2, 0] rfl⟩
        · refine lv_iload_n hx hb dX0_cheapestFree_40 rfl (lv_at hl 2 rfl) ?_
          refine lv_istore_n (lv' := [(1, .int (nI k)), (0, .ref (a 1)), (2, .int (nI k))]) hx hb dX0_cheapestFree_41 rfl hl (by decide) rfl (fun ls hl => ?_)
          refine lv_iinc (v := nI (k + 1)) (lv' := [(2, .int (nI (k + 1))), (1, .int (nI k)), (0, .ref (a 1))]) hx hb dX0_cheapestFree_42 hl (k := 2) rfl (nI_1 k) (by decide) rfl (fun ls hl => ?_)
          refine lv_goto (tgt := 4) hx hb dX0_cheapestFree_45 (by decide) ?_
          have e1 : f_ch σ (k + 1) = nI k := if_pos ⟨(zfree_k hC hkk).mp c_3, Or.inr c_6⟩
          exact ih _ _ _ ⟨hP, hS, by rw [e1]; exact lv_sub hl [2, 1, 0] rfl⟩
    · refine lv_if_eq (tgt := 42) hx hb dX0_cheapestFree_17 (by decide) (fun _ => ?_) (fun c => absurd (by decide) c)
      refine lv_iinc (v := nI (k + 1)) (lv' := [(2, .int (nI (k + 1))), (0, .ref (a 1)), (1, .int (f_ch σ k))]) hx hb dX0_cheapestFree_42 hl (k := 2) rfl (nI_1 k) (by decide) rfl (fun ls hl => ?_)
      refine lv_goto (tgt := 4) hx hb dX0_cheapestFree_45 (by decide) ?_
      have e1 : f_ch σ (k + 1) = f_ch σ k := if_neg (fun z => c_3 ((zfree_k hC hkk).mpr z.1))
      exact ih _ _ _ ⟨hP, hS, by rw [e1]; exact lv_sub hl [1, 2, 0] rfl⟩
  · obtain ⟨hP, hS, hl⟩ := hI
    refine lv_iload_n hx hb dX0_cheapestFree_4 rfl (lv_at hl 2 rfl) ?_
    refine lv_aload_n hx hb dX0_cheapestFree_5 rfl (lv_at hl 0 rfl) ?_
    refine va_get (D := D) (ci := 0) (v := .int (nI nb)) (C := RX0) (T := TX0) (N := 6) hx hb hts hinX0 hown hK hP 1 rfl rfl 0 (by decide) hf7 (fun _ h9 => h9) (congrArg (fun z => some (Value.int z)) hC.1) dX0_cheapestFree_6 ?_
    refine lv_icmp_ge (tgt := 48) hx hb dX0_cheapestFree_9 (by decide) (fun _ => ?_) (fun c => absurd (Int32.le_refl _) c)
    refine lv_iload_n hx hb dX0_cheapestFree_48 rfl (lv_at hl 1 rfl) ?_
    exact W.iret (v := f_ch σ nb) hx hb hr (fun t ht hW => ⟨⟨f_ch σ nb, (), rfl, rfl, trivial⟩, hS.F ht⟩) hS.2.2 dX0_cheapestFree_49

set_option maxHeartbeats 4000000 in
set_option maxRecDepth 100000 in
theorem c_X0_changeWarmth (l : Launch) (D : va_G) (cI : ClassId) (a : Nat → Nat) (σ : zS) {nb ns h : Nat} (hC : zC σ nb ns h) : zMV l yX0_changeWarmth wsX0_changeWarmth ({ frames := 1, cells := 0, slots := 0, locals := 15 }) [.ref (a 1)] D [(cI, .int)] (zw_H cI a σ) (zw_H cI a (f_cool σ nb)) := by
  intro sz
  refine Met.ofW (cc := cX0_changeWarmth) (maxL := 2) (ret := none) (by decide) rfl ?_
  intro p e s m args below meth c s₁ B hml hv
  obtain ⟨rfl, hsz, hP, hK, hD⟩ := hv
  have hx := B.exec
  have hb := B.bytes
  have hr := B.returns
  have hts := atoms_spec (ws := wsX0_changeWarmth) B.pre
  have hown : s.vm.findClass RX0 = some m.cls := findClass_of_methodNamed B.named
  have hlocks := B.notSynchronized
  subst hsz
  have hD := hD.self (sz := s.heap.size)
  generalize hAe : va_A (zw_H cI a σ) s.heap.size = A at hD ⊢
  have hA : ∀ q : Nat, s.heap.size ≤ q → A q := fun q h => by rw [← hAe]; exact Or.inr h
  have hS : va_S A s.heap s.heap [] := va_S.rf
  have hP : va_P D vwCl (zw_H cI a σ) s.heap := hP
  have hl := lv_entry ([.ref (a 1)]) (n := 2) (Nat.le_of_ble_eq_true rfl)
  rw [lg_entry_eq]
  generalize (lg_sl ([.ref (a 1)]) ++ List.replicate (2 - (lg_sl ([.ref (a 1)])).length) Slot.unset).toArray = ls at hl ⊢
  have hl : lv_has ls 2 [(0, .ref (a 1))] := hl
  have hf17 := hts (.fieldLink RX0 17 "HotBeds$Beds" "warmth" "[I") (by decide +kernel)
  have hf26 := hts (.fieldLink RX0 26 "HotBeds$Beds" "sleeper" "[I") (by decide +kernel)
  have hf7 := hts (.fieldLink RX0 7 "HotBeds$Beds" "size" "I") (by decide +kernel)
  have hinX0 : ∀ w ∈ u_ws RX0 TX0 6, w ∈ wsX0_changeWarmth := by decide +kernel
  have hcomax := hts (.code Lib.Math.max.name Lib.Math.max.code 2 (some .int)) (by decide +kernel)
  have hcomin := hts (.code Lib.Math.min.name Lib.Math.min.code 2 (some .int)) (by decide +kernel)
  have hinM := hts (.initialized "java/lang/Math") (by decide +kernel)
  have hml49 := hts (.methodLink RX0 49 Lib.Math.max.name) (by decide +kernel)
  have hml55 := hts (.methodLink RX0 55 Lib.Math.min.name) (by decide +kernel)
  have hstmax := hts (.static Lib.Math.max.name) (by decide +kernel)
  have hstmin := hts (.static Lib.Math.min.name) (by decide +kernel)
  have hnb := hC.2.1
  refine lv_iconst (v := 0) hx hb dX0_changeWarmth_0 (by decide) ?_
  refine lv_istore_n (lv' := [(1, .int 0), (0, .ref (a 1))]) hx hb dX0_changeWarmth_1 rfl hl (by decide) rfl (fun ls hl => ?_)
  refine zk_loop (pc := 2) (fun k H locs ls => va_P D vwCl (zw_H cI a (f_cool σ k)) H ∧ va_D A (zw_H cI a (f_cool σ k)) ∧ va_S A s.heap H locs ∧ lv_has ls 2 [(0, .ref (a 1)), (1, .int (nI k))]) nb (fun k hkk ih H locs ls hI => ?_) (fun H locs ls hI => ?_) _ _ _ ⟨hP, hD, hS, lv_sub hl [1, 0] rfl⟩
  · obtain ⟨hP, hD, hS, hl⟩ := hI
    refine lv_iload_n hx hb dX0_changeWarmth_2 rfl (lv_at hl 1 rfl) ?_
    refine lv_aload_n hx hb dX0_changeWarmth_3 rfl (lv_at hl 0 rfl) ?_
    refine va_get (D := D) (ci := 0) (v := .int (nI nb)) (C := RX0) (T := TX0) (N := 6) hx hb hts hinX0 hown hK hP 1 rfl rfl 0 (by decide) hf7 (fun _ h9 => h9) (congrArg (fun z => some (Value.int z)) ((congrFun (f_cool_0 σ k) 3).trans hC.1)) dX0_changeWarmth_4 ?_
    refine lv_icmp_ge (tgt := 66) hx hb dX0_changeWarmth_7 (by decide) (fun c => absurd c (nI_ge hkk (by omega))) (fun _ => ?_)
    refine lv_aload_n hx hb dX0_changeWarmth_10 rfl (lv_at hl 0 rfl) ?_
    refine va_get (D := D) (ci := 0) (v := .ref (a 7)) (C := RX0) (T := TX0) (N := 6) hx hb hts hinX0 hown hK hP 1 rfl rfl 5 (by decide) hf26 (fun _ h9 => h9) rfl dX0_changeWarmth_11 ?_
    refine lv_iload_n hx hb dX0_changeWarmth_14 rfl (lv_at hl 1 rfl) ?_
    refine zk_ld hx hb hK hP 7 0 (zwq5 cI a _) rfl (k := k) (by omega) (by decide) (v := (f_cool σ k) 5 k) rfl dX0_changeWarmth_15 ?_
    refine lv_iconst (v := (-1)) hx hb dX0_changeWarmth_16 (by decide) ?_
    refine lv_icmp_ne (tgt := 41) hx hb dX0_changeWarmth_17 (by decide) (fun c_2 => ?_) (fun c_2 => ?_)
    · refine lv_aload_n hx hb dX0_changeWarmth_41 rfl (lv_at hl 0 rfl) ?_
      refine va_get (D := D) (ci := 0) (v := .ref (a 4)) (C := RX0) (T := TX0) (N := 6) hx hb hts hinX0 hown hK hP 1 rfl rfl 2 (by decide) hf17 (fun _ h9 => h9) rfl dX0_changeWarmth_42 ?_
      refine lv_iload_n hx hb dX0_changeWarmth_45 rfl (lv_at hl 1 rfl) ?_
      refine lv_bipush (v := 8) hx hb dX0_changeWarmth_46 (by decide) ?_
      refine lv_aload_n hx hb dX0_changeWarmth_48 rfl (lv_at hl 0 rfl) ?_
      refine va_get (D := D) (ci := 0) (v := .ref (a 4)) (C := RX0) (T := TX0) (N := 6) hx hb hts hinX0 hown hK hP 1 rfl rfl 2 (by decide) hf17 (fun _ h9 => h9) rfl dX0_changeWarmth_49 ?_
      refine lv_iload_n hx hb dX0_changeWarmth_52 rfl (lv_at hl 1 rfl) ?_
      refine zk_ld hx hb hK hP 4 0 (zwq2 cI a _) rfl (k := k) (by omega) (by decide) (v := (f_cool σ k) 2 k) rfl dX0_changeWarmth_53 ?_
      refine lv_iconst (v := 2) hx hb dX0_changeWarmth_54 (by decide) ?_
      refine lv_iadd hx hb dX0_changeWarmth_55 ?_
      refine va_mmin hx hb (hml.trans hl.1.symm) hown hml55 hstmin hinM hcomin (Nat.le_of_ble_eq_true rfl) (Nat.le_of_ble_eq_true rfl) (Nat.zero_le _) (Nat.zero_le _) dX0_changeWarmth_56 ?_
      refine zk_st hx hb hK hP hD hS 4 0 (zwq2 cI a _) rfl (k := k) (by omega) (by decide) (zws2 cI a _ _ _) dX0_changeWarmth_59 (fun H locs hP hD hS => ?_)
      have hP : va_P D vwCl (zw_H cI a (zs (f_cool σ k) 2 k (f_min8 (((f_cool σ k) 2 k) + 2)))) H := hP
      have hD : va_D A (zw_H cI a (zs (f_cool σ k) 2 k (f_min8 (((f_cool σ k) 2 k) + 2)))) := hD
      refine lv_iinc (v := nI (k + 1)) (lv' := [(1, .int (nI (k + 1))), (0, .ref (a 1))]) hx hb dX0_changeWarmth_60 hl (k := 1) rfl (nI_1 k) (by decide) rfl (fun ls hl => ?_)
      refine lv_goto (tgt := 2) hx hb dX0_changeWarmth_63 (by decide) ?_
      have e1 : f_cool σ (k + 1) = zs (f_cool σ k) 2 k (f_min8 (((f_cool σ k) 2 k) + 2)) := by rw [f_cool, f_cw, if_neg c_2]
      exact ih _ _ _ ⟨by rw [e1]; exact hP, by rw [e1]; exact hD, hS, lv_sub hl [1, 0] rfl⟩
    · refine lv_aload_n hx hb dX0_changeWarmth_20 rfl (lv_at hl 0 rfl) ?_
      refine va_get (D := D) (ci := 0) (v := .ref (a 4)) (C := RX0) (T := TX0) (N := 6) hx hb hts hinX0 hown hK hP 1 rfl rfl 2 (by decide) hf17 (fun _ h9 => h9) rfl dX0_changeWarmth_21 ?_
      refine lv_iload_n hx hb dX0_changeWarmth_24 rfl (lv_at hl 1 rfl) ?_
      refine lv_iconst (v := 0) hx hb dX0_changeWarmth_25 (by decide) ?_
      refine lv_aload_n hx hb dX0_changeWarmth_26 rfl (lv_at hl 0 rfl) ?_
      refine va_get (D := D) (ci := 0) (v := .ref (a 4)) (C := RX0) (T := TX0) (N := 6) hx hb hts hinX0 hown hK hP 1 rfl rfl 2 (by decide) hf17 (fun _ h9 => h9) rfl dX0_changeWarmth_27 ?_
      refine lv_iload_n hx hb dX0_changeWarmth_30 rfl (lv_at hl 1 rfl) ?_
      refine zk_ld hx hb hK hP 4 0 (zwq2 cI a _) rfl (k := k) (by omega) (by decide) (v := (f_cool σ k) 2 k) rfl dX0_changeWarmth_31 ?_
      refine lv_iconst (v := 1) hx hb dX0_changeWarmth_32 (by decide) ?_
      refine lv_isub hx hb dX0_changeWarmth_33 ?_
      refine va_mmax hx hb (hml.trans hl.1.symm) hown hml49 hstmax hinM hcomax (Nat.le_of_ble_eq_true rfl) (Nat.le_of_ble_eq_true rfl) (Nat.zero_le _) (Nat.zero_le _) dX0_changeWarmth_34 ?_
      refine zk_st hx hb hK hP hD hS 4 0 (zwq2 cI a _) rfl (k := k) (by omega) (by decide) (zws2 cI a _ _ _) dX0_changeWarmth_37 (fun H locs hP hD hS => ?_)
      have hP : va_P D vwCl (zw_H cI a (zs (f_cool σ k) 2 k (f_max0 (((f_cool σ k) 2 k) - 1)))) H := hP
      have hD : va_D A (zw_H cI a (zs (f_cool σ k) 2 k (f_max0 (((f_cool σ k) 2 k) - 1)))) := hD
      refine lv_goto (tgt := 60) hx hb dX0_changeWarmth_38 (by decide) ?_
      refine lv_iinc (v := nI (k + 1)) (lv' := [(1, .int (nI (k + 1))), (0, .ref (a 1))]) hx hb dX0_changeWarmth_60 hl (k := 1) rfl (nI_1 k) (by decide) rfl (fun ls hl => ?_)
      refine lv_goto (tgt := 2) hx hb dX0_changeWarmth_63 (by decide) ?_
      have e1 : f_cool σ (k + 1) = zs (f_cool σ k) 2 k (f_max0 (((f_cool σ k) 2 k) - 1)) := by rw [f_cool, f_cw, if_pos c_2]
      exact ih _ _ _ ⟨by rw [e1]; exact hP, by rw [e1]; exact hD, hS, lv_sub hl [1, 0] rfl⟩
  · obtain ⟨hP, hD, hS, hl⟩ := hI
    refine lv_iload_n hx hb dX0_changeWarmth_2 rfl (lv_at hl 1 rfl) ?_
    refine lv_aload_n hx hb dX0_changeWarmth_3 rfl (lv_at hl 0 rfl) ?_
    refine va_get (D := D) (ci := 0) (v := .int (nI nb)) (C := RX0) (T := TX0) (N := 6) hx hb hts hinX0 hown hK hP 1 rfl rfl 0 (by decide) hf7 (fun _ h9 => h9) (congrArg (fun z => some (Value.int z)) ((congrFun (f_cool_0 σ nb) 3).trans hC.1)) dX0_changeWarmth_4 ?_
    refine lv_icmp_ge (tgt := 66) hx hb dX0_changeWarmth_7 (by decide) (fun _ => ?_) (fun c => absurd (Int32.le_refl _) c)
    have hP9 := hP
    have hD9 := hD
    exact W.vret hx hb hr (fun t ht hW => ⟨⟨(), rfl, trivial, by rw [ht]; exact hP9, va_K.moved hW.alike hK, hD9⟩, hS.F ht⟩) hS.2.2 dX0_changeWarmth_66
end
section
set_option maxHeartbeats 4000000 in
set_option maxRecDepth 100000 in
theorem c_X2_isUp (l : Launch) (D : va_G) (cI : ClassId) (a : Nat → Nat) (σ : zS) {k : Nat} (hk : k < 10) : zMR l yX2_isUp wsX2_isUp ({ frames := 0, cells := 0, slots := 0, locals := 0 }) [.ref (a 2), .int (nI k)] D [(cI, .int)] (zw_H cI a σ) (zb (σ 12 k = 0)) := by
  intro sz
  refine Met.ofW (cc := cX2_isUp) (maxL := 2) (ret := (some .boolean)) (by decide) rfl ?_
  intro p e s m args below meth c s₁ B hml hv
  obtain ⟨rfl, hsz, hP, hK, hD⟩ := hv
  have hx := B.exec
  have hb := B.bytes
  have hr := B.returns
  have hts := atoms_spec (ws := wsX2_isUp) B.pre
  have hown : s.vm.findClass RX2 = some m.cls := findClass_of_methodNamed B.named
  have hlocks := B.notSynchronized
  have hS : va_S (fun _ => False) s.heap s.heap [] := va_S.rf
  have hP : va_P D vwCl (zw_H cI a σ) s.heap := hP
  have hl := lv_entry ([.ref (a 2), .int (nI k)]) (n := 2) (Nat.le_of_ble_eq_true rfl)
  rw [lg_entry_eq]
  generalize (lg_sl ([.ref (a 2), .int (nI k)]) ++ List.replicate (2 - (lg_sl ([.ref (a 2), .int (nI k)])).length) Slot.unset).toArray = ls at hl ⊢
  have hl : lv_has ls 2 [(0, .ref (a 2)), (1, .int (nI k))] := hl
  have hf32 := hts (.fieldLink RX2 32 "HotBeds$Sailors" "place" "[I") (by decide +kernel)
  have hinX2 : ∀ w ∈ u_ws RX2 TX2 13, w ∈ wsX2_isUp := by decide +kernel
  refine lv_aload_n hx hb dX2_isUp_0 rfl (lv_at hl 0 rfl) ?_
  refine va_get (D := D) (ci := 2) (v := .ref (a 14)) (C := RX2) (T := TX2) (N := 13) hx hb hts hinX2 hown hK hP 2 rfl rfl 7 (by decide) hf32 (fun _ h9 => h9) rfl dX2_isUp_1 ?_
  refine lv_iload_n hx hb dX2_isUp_4 rfl (lv_at hl 1 rfl) ?_
  refine zk_ld hx hb hK hP 14 0 (zwq12 cI a _) rfl (k := k) hk (by decide) (v := σ 12 k) rfl dX2_isUp_5 ?_
  refine lv_if_ne (tgt := 13) hx hb dX2_isUp_6 (by decide) (fun c_1 => ?_) (fun c_1 => ?_)
  · refine lv_iconst (v := 0) hx hb dX2_isUp_13 (by decide) ?_
    exact W.zret (v := 0) hx hb hr rfl (fun t ht hW => ⟨⟨0, (), rfl, Or.inr ⟨(fun z => c_1 z), rfl⟩, trivial⟩, hS.F ht⟩) hS.2.2 dX2_isUp_14
  · refine lv_iconst (v := 1) hx hb dX2_isUp_9 (by decide) ?_
    refine lv_goto (tgt := 14) hx hb dX2_isUp_10 (by decide) ?_
    exact W.zret (v := 1) hx hb hr rfl (fun t ht hW => ⟨⟨1, (), rfl, Or.inl ⟨c_1, rfl⟩, trivial⟩, hS.F ht⟩) hS.2.2 dX2_isUp_14

set_option maxHeartbeats 4000000 in
set_option maxRecDepth 100000 in
theorem c_X2_hasBoots (l : Launch) (D : va_G) (cI : ClassId) (a : Nat → Nat) (σ : zS) {k : Nat} (hk : k < 10) : zMR l yX2_hasBoots wsX2_hasBoots ({ frames := 0, cells := 0, slots := 0, locals := 0 }) [.ref (a 2), .int (nI k)] D [(cI, .int)] (zw_H cI a σ) (zb (σ 10 k = 1)) := by
  intro sz
  refine Met.ofW (cc := cX2_hasBoots) (maxL := 2) (ret := (some .boolean)) (by decide) rfl ?_
  intro p e s m args below meth c s₁ B hml hv
  obtain ⟨rfl, hsz, hP, hK, hD⟩ := hv
  have hx := B.exec
  have hb := B.bytes
  have hr := B.returns
  have hts := atoms_spec (ws := wsX2_hasBoots) B.pre
  have hown : s.vm.findClass RX2 = some m.cls := findClass_of_methodNamed B.named
  have hlocks := B.notSynchronized
  have hS : va_S (fun _ => False) s.heap s.heap [] := va_S.rf
  have hP : va_P D vwCl (zw_H cI a σ) s.heap := hP
  have hl := lv_entry ([.ref (a 2), .int (nI k)]) (n := 2) (Nat.le_of_ble_eq_true rfl)
  rw [lg_entry_eq]
  generalize (lg_sl ([.ref (a 2), .int (nI k)]) ++ List.replicate (2 - (lg_sl ([.ref (a 2), .int (nI k)])).length) Slot.unset).toArray = ls at hl ⊢
  have hl : lv_has ls 2 [(0, .ref (a 2)), (1, .int (nI k))] := hl
  have hf26 := hts (.fieldLink RX2 26 "HotBeds$Sailors" "boots" "[I") (by decide +kernel)
  have hinX2 : ∀ w ∈ u_ws RX2 TX2 13, w ∈ wsX2_hasBoots := by decide +kernel
  refine lv_aload_n hx hb dX2_hasBoots_0 rfl (lv_at hl 0 rfl) ?_
  refine va_get (D := D) (ci := 2) (v := .ref (a 12)) (C := RX2) (T := TX2) (N := 13) hx hb hts hinX2 hown hK hP 2 rfl rfl 5 (by decide) hf26 (fun _ h9 => h9) rfl dX2_hasBoots_1 ?_
  refine lv_iload_n hx hb dX2_hasBoots_4 rfl (lv_at hl 1 rfl) ?_
  refine zk_ld hx hb hK hP 12 0 (zwq10 cI a _) rfl (k := k) hk (by decide) (v := σ 10 k) rfl dX2_hasBoots_5 ?_
  refine lv_iconst (v := 1) hx hb dX2_hasBoots_6 (by decide) ?_
  refine lv_icmp_ne (tgt := 14) hx hb dX2_hasBoots_7 (by decide) (fun c_1 => ?_) (fun c_1 => ?_)
  · refine lv_iconst (v := 0) hx hb dX2_hasBoots_14 (by decide) ?_
    exact W.zret (v := 0) hx hb hr rfl (fun t ht hW => ⟨⟨0, (), rfl, Or.inr ⟨(fun z => c_1 z), rfl⟩, trivial⟩, hS.F ht⟩) hS.2.2 dX2_hasBoots_15
  · refine lv_iconst (v := 1) hx hb dX2_hasBoots_10 (by decide) ?_
    refine lv_goto (tgt := 15) hx hb dX2_hasBoots_11 (by decide) ?_
    exact W.zret (v := 1) hx hb hr rfl (fun t ht hW => ⟨⟨1, (), rfl, Or.inl ⟨c_1, rfl⟩, trivial⟩, hS.F ht⟩) hS.2.2 dX2_hasBoots_15

set_option maxHeartbeats 4000000 in
set_option maxRecDepth 100000 in
theorem c_X2_earn (l : Launch) (D : va_G) (cI : ClassId) (a : Nat → Nat) (σ : zS) {k : Nat} (hk : k < 10) (v : Int32) : zMV l yX2_earn wsX2_earn ({ frames := 1, cells := 0, slots := 0, locals := 15 }) [.ref (a 2), .int (nI k), .int v] D [(cI, .int)] (zw_H cI a σ) (zw_H cI a (f_earn σ k v)) := by
  intro sz
  refine Met.ofW (cc := cX2_earn) (maxL := 3) (ret := none) (by decide) rfl ?_
  intro p e s m args below meth c s₁ B hml hv
  obtain ⟨rfl, hsz, hP, hK, hD⟩ := hv
  have hx := B.exec
  have hb := B.bytes
  have hr := B.returns
  have hts := atoms_spec (ws := wsX2_earn) B.pre
  have hown : s.vm.findClass RX2 = some m.cls := findClass_of_methodNamed B.named
  have hlocks := B.notSynchronized
  subst hsz
  have hD := hD.self (sz := s.heap.size)
  generalize hAe : va_A (zw_H cI a σ) s.heap.size = A at hD ⊢
  have hA : ∀ q : Nat, s.heap.size ≤ q → A q := fun q h => by rw [← hAe]; exact Or.inr h
  have hS : va_S A s.heap s.heap [] := va_S.rf
  have hP : va_P D vwCl (zw_H cI a σ) s.heap := hP
  have hl := lv_entry ([.ref (a 2), .int (nI k), .int v]) (n := 3) (Nat.le_of_ble_eq_true rfl)
  rw [lg_entry_eq]
  generalize (lg_sl ([.ref (a 2), .int (nI k), .int v]) ++ List.replicate (3 - (lg_sl ([.ref (a 2), .int (nI k), .int v])).length) Slot.unset).toArray = ls at hl ⊢
  have hl : lv_has ls 3 [(0, .ref (a 2)), (1, .int (nI k)), (2, .int v)] := hl
  have hf23 := hts (.fieldLink RX2 23 "HotBeds$Sailors" "purse" "[I") (by decide +kernel)
  have hinX2 : ∀ w ∈ u_ws RX2 TX2 13, w ∈ wsX2_earn := by decide +kernel
  have hcomin := hts (.code Lib.Math.min.name Lib.Math.min.code 2 (some .int)) (by decide +kernel)
  have hinM := hts (.initialized "java/lang/Math") (by decide +kernel)
  have hml65 := hts (.methodLink RX2 65 Lib.Math.min.name) (by decide +kernel)
  have hstmin := hts (.static Lib.Math.min.name) (by decide +kernel)
  refine lv_aload_n hx hb dX2_earn_0 rfl (lv_at hl 0 rfl) ?_
  refine va_get (D := D) (ci := 2) (v := .ref (a 11)) (C := RX2) (T := TX2) (N := 13) hx hb hts hinX2 hown hK hP 2 rfl rfl 4 (by decide) hf23 (fun _ h9 => h9) rfl dX2_earn_1 ?_
  refine lv_iload_n hx hb dX2_earn_4 rfl (lv_at hl 1 rfl) ?_
  refine lv_bipush (v := 99) hx hb dX2_earn_5 (by decide) ?_
  refine lv_aload_n hx hb dX2_earn_7 rfl (lv_at hl 0 rfl) ?_
  refine va_get (D := D) (ci := 2) (v := .ref (a 11)) (C := RX2) (T := TX2) (N := 13) hx hb hts hinX2 hown hK hP 2 rfl rfl 4 (by decide) hf23 (fun _ h9 => h9) rfl dX2_earn_8 ?_
  refine lv_iload_n hx hb dX2_earn_11 rfl (lv_at hl 1 rfl) ?_
  refine zk_ld hx hb hK hP 11 0 (zwq9 cI a _) rfl (k := k) hk (by decide) (v := σ 9 k) rfl dX2_earn_12 ?_
  refine lv_iload_n hx hb dX2_earn_13 rfl (lv_at hl 2 rfl) ?_
  refine lv_iadd hx hb dX2_earn_14 ?_
  refine va_mmin hx hb (hml.trans hl.1.symm) hown hml65 hstmin hinM hcomin (Nat.le_of_ble_eq_true rfl) (Nat.le_of_ble_eq_true rfl) (Nat.zero_le _) (Nat.zero_le _) dX2_earn_15 ?_
  refine zk_st hx hb hK hP hD hS 11 0 (zwq9 cI a _) rfl (k := k) hk (by decide) (zws9 cI a _ _ _) dX2_earn_18 (fun H locs hP hD hS => ?_)
  have hP : va_P D vwCl (zw_H cI a (zs σ 9 k (f_min99 ((σ 9 k) + v)))) H := hP
  have hD : va_D A (zw_H cI a (zs σ 9 k (f_min99 ((σ 9 k) + v)))) := hD
  have e9 : f_earn σ k v = zs σ 9 k (f_min99 ((σ 9 k) + v)) := by simp only [f_earn]
  have hP9 : va_P D vwCl (zw_H cI a (f_earn σ k v)) H := by rw [e9]; exact hP
  have hD9 : va_D A (zw_H cI a (f_earn σ k v)) := by rw [e9]; exact hD
  exact W.vret hx hb hr (fun t ht hW => ⟨⟨(), rfl, trivial, by rw [ht]; exact hP9, va_K.moved hW.alike hK, hD9⟩, hS.F ht⟩) hS.2.2 dX2_earn_19

set_option maxHeartbeats 4000000 in
set_option maxRecDepth 100000 in
theorem c_X2_beLate (l : Launch) (D : va_G) (cI : ClassId) (a : Nat → Nat) (σ : zS) {k : Nat} (hk : k < 10) : zMV l yX2_beLate wsX2_beLate ({ frames := 0, cells := 0, slots := 0, locals := 0 }) [.ref (a 2), .int (nI k)] D [(cI, .int)] (zw_H cI a σ) (zw_H cI a (f_late σ k)) := by
  intro sz
  refine Met.ofW (cc := cX2_beLate) (maxL := 2) (ret := none) (by decide) rfl ?_
  intro p e s m args below meth c s₁ B hml hv
  obtain ⟨rfl, hsz, hP, hK, hD⟩ := hv
  have hx := B.exec
  have hb := B.bytes
  have hr := B.returns
  have hts := atoms_spec (ws := wsX2_beLate) B.pre
  have hown : s.vm.findClass RX2 = some m.cls := findClass_of_methodNamed B.named
  have hlocks := B.notSynchronized
  subst hsz
  have hD := hD.self (sz := s.heap.size)
  generalize hAe : va_A (zw_H cI a σ) s.heap.size = A at hD ⊢
  have hA : ∀ q : Nat, s.heap.size ≤ q → A q := fun q h => by rw [← hAe]; exact Or.inr h
  have hS : va_S A s.heap s.heap [] := va_S.rf
  have hP : va_P D vwCl (zw_H cI a σ) s.heap := hP
  have hl := lv_entry ([.ref (a 2), .int (nI k)]) (n := 2) (Nat.le_of_ble_eq_true rfl)
  rw [lg_entry_eq]
  generalize (lg_sl ([.ref (a 2), .int (nI k)]) ++ List.replicate (2 - (lg_sl ([.ref (a 2), .int (nI k)])).length) Slot.unset).toArray = ls at hl ⊢
  have hl : lv_has ls 2 [(0, .ref (a 2)), (1, .int (nI k))] := hl
  have hf41 := hts (.fieldLink RX2 41 "HotBeds$Sailors" "late" "[I") (by decide +kernel)
  have hf44 := hts (.fieldLink RX2 44 "HotBeds$Sailors" "lateSincePay" "[I") (by decide +kernel)
  have hinX2 : ∀ w ∈ u_ws RX2 TX2 13, w ∈ wsX2_beLate := by decide +kernel
  refine lv_aload_n hx hb dX2_beLate_0 rfl (lv_at hl 0 rfl) ?_
  refine va_get (D := D) (ci := 2) (v := .ref (a 17)) (C := RX2) (T := TX2) (N := 13) hx hb hts hinX2 hown hK hP 2 rfl rfl 10 (by decide) hf41 (fun _ h9 => h9) rfl dX2_beLate_1 ?_
  refine lv_iload_n hx hb dX2_beLate_4 rfl (lv_at hl 1 rfl) ?_
  refine lv_dup2_11 hx hb dX2_beLate_5 rfl rfl ?_
  refine zk_ld hx hb hK hP 17 0 (zwq15 cI a _) rfl (k := k) hk (by decide) (v := σ 15 k) rfl dX2_beLate_6 ?_
  refine lv_iconst (v := 1) hx hb dX2_beLate_7 (by decide) ?_
  refine lv_iadd hx hb dX2_beLate_8 ?_
  refine zk_st hx hb hK hP hD hS 17 0 (zwq15 cI a _) rfl (k := k) hk (by decide) (zws15 cI a _ _ _) dX2_beLate_9 (fun H locs hP hD hS => ?_)
  have hP : va_P D vwCl (zw_H cI a (zs σ 15 k ((σ 15 k) + 1))) H := hP
  have hD : va_D A (zw_H cI a (zs σ 15 k ((σ 15 k) + 1))) := hD
  refine lv_aload_n hx hb dX2_beLate_10 rfl (lv_at hl 0 rfl) ?_
  refine va_get (D := D) (ci := 2) (v := .ref (a 18)) (C := RX2) (T := TX2) (N := 13) hx hb hts hinX2 hown hK hP 2 rfl rfl 11 (by decide) hf44 (fun _ h9 => h9) rfl dX2_beLate_11 ?_
  refine lv_iload_n hx hb dX2_beLate_14 rfl (lv_at hl 1 rfl) ?_
  refine lv_dup2_11 hx hb dX2_beLate_15 rfl rfl ?_
  refine zk_ld hx hb hK hP 18 0 (zwq16 cI a _) rfl (k := k) hk (by decide) (v := σ 16 k) rfl dX2_beLate_16 ?_
  refine lv_iconst (v := 1) hx hb dX2_beLate_17 (by decide) ?_
  refine lv_iadd hx hb dX2_beLate_18 ?_
  refine zk_st hx hb hK hP hD hS 18 0 (zwq16 cI a _) rfl (k := k) hk (by decide) (zws16 cI a _ _ _) dX2_beLate_19 (fun H locs hP hD hS => ?_)
  have hP : va_P D vwCl (zw_H cI a (zs (zs σ 15 k ((σ 15 k) + 1)) 16 k ((σ 16 k) + 1))) H := hP
  have hD : va_D A (zw_H cI a (zs (zs σ 15 k ((σ 15 k) + 1)) 16 k ((σ 16 k) + 1))) := hD
  have e9 : f_late σ k = zs (zs σ 15 k ((σ 15 k) + 1)) 16 k ((σ 16 k) + 1) := by simp only [f_late]
  have hP9 : va_P D vwCl (zw_H cI a (f_late σ k)) H := by rw [e9]; exact hP
  have hD9 : va_D A (zw_H cI a (f_late σ k)) := by rw [e9]; exact hD
  exact W.vret hx hb hr (fun t ht hW => ⟨⟨(), rfl, trivial, by rw [ht]; exact hP9, va_K.moved hW.alike hK, hD9⟩, hS.F ht⟩) hS.2.2 dX2_beLate_20

set_option maxHeartbeats 4000000 in
set_option maxRecDepth 100000 in
theorem c_X2_lieOnFloor (l : Launch) (D : va_G) (cI : ClassId) (a : Nat → Nat) (σ : zS) {k : Nat} (hk : k < 10) : zMV l yX2_lieOnFloor wsX2_lieOnFloor ({ frames := 0, cells := 0, slots := 0, locals := 0 }) [.ref (a 2), .int (nI k)] D [(cI, .int)] (zw_H cI a σ) (zw_H cI a (f_floor σ k)) := by
  intro sz
  refine Met.ofW (cc := cX2_lieOnFloor) (maxL := 2) (ret := none) (by decide) rfl ?_
  intro p e s m args below meth c s₁ B hml hv
  obtain ⟨rfl, hsz, hP, hK, hD⟩ := hv
  have hx := B.exec
  have hb := B.bytes
  have hr := B.returns
  have hts := atoms_spec (ws := wsX2_lieOnFloor) B.pre
  have hown : s.vm.findClass RX2 = some m.cls := findClass_of_methodNamed B.named
  have hlocks := B.notSynchronized
  subst hsz
  have hD := hD.self (sz := s.heap.size)
  generalize hAe : va_A (zw_H cI a σ) s.heap.size = A at hD ⊢
  have hA : ∀ q : Nat, s.heap.size ≤ q → A q := fun q h => by rw [← hAe]; exact Or.inr h
  have hS : va_S A s.heap s.heap [] := va_S.rf
  have hP : va_P D vwCl (zw_H cI a σ) s.heap := hP
  have hl := lv_entry ([.ref (a 2), .int (nI k)]) (n := 2) (Nat.le_of_ble_eq_true rfl)
  rw [lg_entry_eq]
  generalize (lg_sl ([.ref (a 2), .int (nI k)]) ++ List.replicate (2 - (lg_sl ([.ref (a 2), .int (nI k)])).length) Slot.unset).toArray = ls at hl ⊢
  have hl : lv_has ls 2 [(0, .ref (a 2)), (1, .int (nI k))] := hl
  have hf32 := hts (.fieldLink RX2 32 "HotBeds$Sailors" "place" "[I") (by decide +kernel)
  have hf47 := hts (.fieldLink RX2 47 "HotBeds$Sailors" "floors" "[I") (by decide +kernel)
  have hinX2 : ∀ w ∈ u_ws RX2 TX2 13, w ∈ wsX2_lieOnFloor := by decide +kernel
  refine lv_aload_n hx hb dX2_lieOnFloor_0 rfl (lv_at hl 0 rfl) ?_
  refine va_get (D := D) (ci := 2) (v := .ref (a 14)) (C := RX2) (T := TX2) (N := 13) hx hb hts hinX2 hown hK hP 2 rfl rfl 7 (by decide) hf32 (fun _ h9 => h9) rfl dX2_lieOnFloor_1 ?_
  refine lv_iload_n hx hb dX2_lieOnFloor_4 rfl (lv_at hl 1 rfl) ?_
  refine lv_iconst (v := 2) hx hb dX2_lieOnFloor_5 (by decide) ?_
  refine zk_st hx hb hK hP hD hS 14 0 (zwq12 cI a _) rfl (k := k) hk (by decide) (zws12 cI a _ _ _) dX2_lieOnFloor_6 (fun H locs hP hD hS => ?_)
  have hP : va_P D vwCl (zw_H cI a (zs σ 12 k 2)) H := hP
  have hD : va_D A (zw_H cI a (zs σ 12 k 2)) := hD
  refine lv_aload_n hx hb dX2_lieOnFloor_7 rfl (lv_at hl 0 rfl) ?_
  refine va_get (D := D) (ci := 2) (v := .ref (a 19)) (C := RX2) (T := TX2) (N := 13) hx hb hts hinX2 hown hK hP 2 rfl rfl 12 (by decide) hf47 (fun _ h9 => h9) rfl dX2_lieOnFloor_8 ?_
  refine lv_iload_n hx hb dX2_lieOnFloor_11 rfl (lv_at hl 1 rfl) ?_
  refine lv_dup2_11 hx hb dX2_lieOnFloor_12 rfl rfl ?_
  refine zk_ld hx hb hK hP 19 0 (zwq17 cI a _) rfl (k := k) hk (by decide) (v := σ 17 k) rfl dX2_lieOnFloor_13 ?_
  refine lv_iconst (v := 1) hx hb dX2_lieOnFloor_14 (by decide) ?_
  refine lv_iadd hx hb dX2_lieOnFloor_15 ?_
  refine zk_st hx hb hK hP hD hS 19 0 (zwq17 cI a _) rfl (k := k) hk (by decide) (zws17 cI a _ _ _) dX2_lieOnFloor_16 (fun H locs hP hD hS => ?_)
  have hP : va_P D vwCl (zw_H cI a (zs (zs σ 12 k 2) 17 k ((σ 17 k) + 1))) H := hP
  have hD : va_D A (zw_H cI a (zs (zs σ 12 k 2) 17 k ((σ 17 k) + 1))) := hD
  have e9 : f_floor σ k = zs (zs σ 12 k 2) 17 k ((σ 17 k) + 1) := by simp only [f_floor]
  have hP9 : va_P D vwCl (zw_H cI a (f_floor σ k)) H := by rw [e9]; exact hP
  have hD9 : va_D A (zw_H cI a (f_floor σ k)) := by rw [e9]; exact hD
  exact W.vret hx hb hr (fun t ht hW => ⟨⟨(), rfl, trivial, by rw [ht]; exact hP9, va_K.moved hW.alike hK, hD9⟩, hS.F ht⟩) hS.2.2 dX2_lieOnFloor_17

set_option maxHeartbeats 4000000 in
set_option maxRecDepth 100000 in
theorem c_X2_payWage (l : Launch) (D : va_G) (cI : ClassId) (a : Nat → Nat) (σ : zS) {k : Nat} (hk : k < 10) : zMV l yX2_payWage wsX2_payWage ({ frames := 2, cells := 0, slots := 0, locals := 37 }) [.ref (a 2), .int (nI k)] D [(cI, .int)] (zw_H cI a σ) (zw_H cI a (f_pay σ k)) := by
  intro sz
  refine Met.ofW (cc := cX2_payWage) (maxL := 3) (ret := none) (by decide) rfl ?_
  intro p e s m args below meth c s₁ B hml hv
  obtain ⟨rfl, hsz, hP, hK, hD⟩ := hv
  have hx := B.exec
  have hb := B.bytes
  have hr := B.returns
  have hts := atoms_spec (ws := wsX2_payWage) B.pre
  have hown : s.vm.findClass RX2 = some m.cls := findClass_of_methodNamed B.named
  have hlocks := B.notSynchronized
  subst hsz
  have hD := hD.self (sz := s.heap.size)
  generalize hAe : va_A (zw_H cI a σ) s.heap.size = A at hD ⊢
  have hA : ∀ q : Nat, s.heap.size ≤ q → A q := fun q h => by rw [← hAe]; exact Or.inr h
  have hS : va_S A s.heap s.heap [] := va_S.rf
  have hP : va_P D vwCl (zw_H cI a σ) s.heap := hP
  have hl := lv_entry ([.ref (a 2), .int (nI k)]) (n := 3) (Nat.le_of_ble_eq_true rfl)
  rw [lg_entry_eq]
  generalize (lg_sl ([.ref (a 2), .int (nI k)]) ++ List.replicate (3 - (lg_sl ([.ref (a 2), .int (nI k)])).length) Slot.unset).toArray = ls at hl ⊢
  have hl : lv_has ls 3 [(0, .ref (a 2)), (1, .int (nI k))] := hl
  have hf20 := hts (.fieldLink RX2 20 "HotBeds$Sailors" "wage" "[I") (by decide +kernel)
  have hf44 := hts (.fieldLink RX2 44 "HotBeds$Sailors" "lateSincePay" "[I") (by decide +kernel)
  have hinX2 : ∀ w ∈ u_ws RX2 TX2 13, w ∈ wsX2_payWage := by decide +kernel
  have hcomax := hts (.code Lib.Math.max.name Lib.Math.max.code 2 (some .int)) (by decide +kernel)
  have hinM := hts (.initialized "java/lang/Math") (by decide +kernel)
  have hml75 := hts (.methodLink RX2 75 Lib.Math.max.name) (by decide +kernel)
  have hstmax := hts (.static Lib.Math.max.name) (by decide +kernel)
  refine lv_aload_n hx hb dX2_payWage_0 rfl (lv_at hl 0 rfl) ?_
  refine lv_iload_n hx hb dX2_payWage_1 rfl (lv_at hl 1 rfl) ?_
  refine zk_R (D := D) (va_runV (As := [.int (nI k)]) (rest := []) ⟨hx, hb, hml, hown, hts⟩ (c_X2_hasBoots l D cI a σ (k := k) hk _) (cwV 1 hts gX2_payWage_X2_hasBoots rfl rfl rfl zdX2_hasBoots ⟨Nat.le_of_ble_eq_true rfl, Nat.le_of_ble_eq_true rfl⟩) ⟨zbl _, va_recv hK hP (ci := 2) (q0 := 2) rfl rfl, zpr hK hP hD⟩ rfl rfl hl.1 rfl (lv_room (Nat.le_of_ble_eq_true rfl)) dX2_payWage_2 ⟨Nat.zero_le _, Nat.zero_le _⟩) hS (fun r_1 H locs hw hkp hS => ?_)
  have hP := hkp _ hP
  rcases hw with ⟨c_2, rfl⟩ | ⟨c_2, rfl⟩
  · refine lv_if_eq (tgt := 17) hx hb dX2_payWage_5 (by decide) (fun c => absurd c (by decide)) (fun _ => ?_)
    refine lv_aload_n hx hb dX2_payWage_8 rfl (lv_at hl 0 rfl) ?_
    refine va_get (D := D) (ci := 2) (v := .ref (a 10)) (C := RX2) (T := TX2) (N := 13) hx hb hts hinX2 hown hK hP 2 rfl rfl 3 (by decide) hf20 (fun _ h9 => h9) rfl dX2_payWage_9 ?_
    refine lv_iload_n hx hb dX2_payWage_12 rfl (lv_at hl 1 rfl) ?_
    refine zk_ld hx hb hK hP 10 0 (zwq8 cI a _) rfl (k := k) hk (by decide) (v := σ 8 k) rfl dX2_payWage_13 ?_
    refine lv_goto (tgt := 25) hx hb dX2_payWage_14 (by decide) ?_
    refine lv_istore_n (lv' := [(2, .int (σ 8 k)), (0, .ref (a 2)), (1, .int (nI k))]) hx hb dX2_payWage_25 rfl hl (by decide) rfl (fun ls hl => ?_)
    refine lv_aload_n hx hb dX2_payWage_26 rfl (lv_at hl 1 rfl) ?_
    refine lv_iload_n hx hb dX2_payWage_27 rfl (lv_at hl 2 rfl) ?_
    refine lv_iconst (v := 0) hx hb dX2_payWage_28 (by decide) ?_
    refine lv_iload_n hx hb dX2_payWage_29 rfl (lv_at hl 0 rfl) ?_
    refine lv_aload_n hx hb dX2_payWage_30 rfl (lv_at hl 1 rfl) ?_
    refine va_get (D := D) (ci := 2) (v := .ref (a 18)) (C := RX2) (T := TX2) (N := 13) hx hb hts hinX2 hown hK hP 2 rfl rfl 11 (by decide) hf44 (fun _ h9 => h9) rfl dX2_payWage_31 ?_
    refine lv_iload_n hx hb dX2_payWage_34 rfl (lv_at hl 2 rfl) ?_
    refine zk_ld hx hb hK hP 18 0 (zwq16 cI a _) rfl (k := k) hk (by decide) (v := σ 16 k) rfl dX2_payWage_35 ?_
    refine lv_isub hx hb dX2_payWage_36 ?_
    refine va_mmax hx hb (hml.trans hl.1.symm) hown hml75 hstmax hinM hcomax (Nat.le_of_ble_eq_true rfl) (Nat.le_of_ble_eq_true rfl) (Nat.zero_le _) (Nat.zero_le _) dX2_payWage_37 ?_
    have hF := zfree hD hS hA
    refine zk_V (va_runV (As := [.int (nI k), .int (f_max0 ((σ 8 k) - (σ 16 k)))]) (rest := []) ⟨hx, hb, hml, hown, hts⟩ (c_X2_earn l D cI a σ (k := k) hk (f_max0 ((σ 8 k) - (σ 16 k))) _) (cwV 2 hts gX2_payWage_X2_earn rfl rfl rfl zdX2_earn ⟨Nat.le_of_ble_eq_true rfl, Nat.le_of_ble_eq_true rfl⟩) ⟨zbl _, va_recv hK hP (ci := 2) (q0 := 2) rfl rfl, zpr hK hP hD⟩ rfl rfl hl.1 rfl (lv_room (Nat.le_of_ble_eq_true rfl)) dX2_payWage_40 ⟨Nat.zero_le _, Nat.zero_le _⟩) hS hF (fun H locs hkp hP1 hD1 hS => ?_)
    have hP := hP1
    have hD := hD1.weaken (fun _ _ _ z => hF _ z)
    have hP : va_P D vwCl (zw_H cI a (f_earn σ k (f_max0 ((σ 8 k) - (σ 16 k))))) H := hP
    have hD : va_D A (zw_H cI a (f_earn σ k (f_max0 ((σ 8 k) - (σ 16 k))))) := hD
    refine lv_aload_n hx hb dX2_payWage_43 rfl (lv_at hl 1 rfl) ?_
    refine va_get (D := D) (ci := 2) (v := .ref (a 18)) (C := RX2) (T := TX2) (N := 13) hx hb hts hinX2 hown hK hP 2 rfl rfl 11 (by decide) hf44 (fun _ h9 => h9) rfl dX2_payWage_44 ?_
    refine lv_iload_n hx hb dX2_payWage_47 rfl (lv_at hl 2 rfl) ?_
    refine lv_iconst (v := 0) hx hb dX2_payWage_48 (by decide) ?_
    refine zk_st hx hb hK hP hD hS 18 0 (zwq16 cI a _) rfl (k := k) hk (by decide) (zws16 cI a _ _ _) dX2_payWage_49 (fun H locs hP hD hS => ?_)
    have hP : va_P D vwCl (zw_H cI a (zs (f_earn σ k (f_max0 ((σ 8 k) - (σ 16 k)))) 16 k 0)) H := hP
    have hD : va_D A (zw_H cI a (zs (f_earn σ k (f_max0 ((σ 8 k) - (σ 16 k)))) 16 k 0)) := hD
    have e9 : f_pay σ k = zs (f_earn σ k (f_max0 ((σ 8 k) - (σ 16 k)))) 16 k 0 := by simp only [f_pay, if_pos c_2]
    have hP9 : va_P D vwCl (zw_H cI a (f_pay σ k)) H := by rw [e9]; exact hP
    have hD9 : va_D A (zw_H cI a (f_pay σ k)) := by rw [e9]; exact hD
    exact W.vret hx hb hr (fun t ht hW => ⟨⟨(), rfl, trivial, by rw [ht]; exact hP9, va_K.moved hW.alike hK, hD9⟩, hS.F ht⟩) hS.2.2 dX2_payWage_50
  · refine lv_if_eq (tgt := 17) hx hb dX2_payWage_5 (by decide) (fun _ => ?_) (fun c => absurd (by decide) c)
    refine lv_aload_n hx hb dX2_payWage_17 rfl (lv_at hl 0 rfl) ?_
    refine va_get (D := D) (ci := 2) (v := .ref (a 10)) (C := RX2) (T := TX2) (N := 13) hx hb hts hinX2 hown hK hP 2 rfl rfl 3 (by decide) hf20 (fun _ h9 => h9) rfl dX2_payWage_18 ?_
    refine lv_iload_n hx hb dX2_payWage_21 rfl (lv_at hl 1 rfl) ?_
    refine zk_ld hx hb hK hP 10 0 (zwq8 cI a _) rfl (k := k) hk (by decide) (v := σ 8 k) rfl dX2_payWage_22 ?_
    refine lv_iconst (v := 2) hx hb dX2_payWage_23 (by decide) ?_
    refine lv_idiv hx hb dX2_payWage_24 (by decide) ?_
    refine lv_istore_n (lv' := [(2, .int ((σ 8 k) / 2)), (0, .ref (a 2)), (1, .int (nI k))]) hx hb dX2_payWage_25 rfl hl (by decide) rfl (fun ls hl => ?_)
    refine lv_aload_n hx hb dX2_payWage_26 rfl (lv_at hl 1 rfl) ?_
    refine lv_iload_n hx hb dX2_payWage_27 rfl (lv_at hl 2 rfl) ?_
    refine lv_iconst (v := 0) hx hb dX2_payWage_28 (by decide) ?_
    refine lv_iload_n hx hb dX2_payWage_29 rfl (lv_at hl 0 rfl) ?_
    refine lv_aload_n hx hb dX2_payWage_30 rfl (lv_at hl 1 rfl) ?_
    refine va_get (D := D) (ci := 2) (v := .ref (a 18)) (C := RX2) (T := TX2) (N := 13) hx hb hts hinX2 hown hK hP 2 rfl rfl 11 (by decide) hf44 (fun _ h9 => h9) rfl dX2_payWage_31 ?_
    refine lv_iload_n hx hb dX2_payWage_34 rfl (lv_at hl 2 rfl) ?_
    refine zk_ld hx hb hK hP 18 0 (zwq16 cI a _) rfl (k := k) hk (by decide) (v := σ 16 k) rfl dX2_payWage_35 ?_
    refine lv_isub hx hb dX2_payWage_36 ?_
    refine va_mmax hx hb (hml.trans hl.1.symm) hown hml75 hstmax hinM hcomax (Nat.le_of_ble_eq_true rfl) (Nat.le_of_ble_eq_true rfl) (Nat.zero_le _) (Nat.zero_le _) dX2_payWage_37 ?_
    have hF := zfree hD hS hA
    refine zk_V (va_runV (As := [.int (nI k), .int (f_max0 (((σ 8 k) / 2) - (σ 16 k)))]) (rest := []) ⟨hx, hb, hml, hown, hts⟩ (c_X2_earn l D cI a σ (k := k) hk (f_max0 (((σ 8 k) / 2) - (σ 16 k))) _) (cwV 2 hts gX2_payWage_X2_earn rfl rfl rfl zdX2_earn ⟨Nat.le_of_ble_eq_true rfl, Nat.le_of_ble_eq_true rfl⟩) ⟨zbl _, va_recv hK hP (ci := 2) (q0 := 2) rfl rfl, zpr hK hP hD⟩ rfl rfl hl.1 rfl (lv_room (Nat.le_of_ble_eq_true rfl)) dX2_payWage_40 ⟨Nat.zero_le _, Nat.zero_le _⟩) hS hF (fun H locs hkp hP1 hD1 hS => ?_)
    have hP := hP1
    have hD := hD1.weaken (fun _ _ _ z => hF _ z)
    have hP : va_P D vwCl (zw_H cI a (f_earn σ k (f_max0 (((σ 8 k) / 2) - (σ 16 k))))) H := hP
    have hD : va_D A (zw_H cI a (f_earn σ k (f_max0 (((σ 8 k) / 2) - (σ 16 k))))) := hD
    refine lv_aload_n hx hb dX2_payWage_43 rfl (lv_at hl 1 rfl) ?_
    refine va_get (D := D) (ci := 2) (v := .ref (a 18)) (C := RX2) (T := TX2) (N := 13) hx hb hts hinX2 hown hK hP 2 rfl rfl 11 (by decide) hf44 (fun _ h9 => h9) rfl dX2_payWage_44 ?_
    refine lv_iload_n hx hb dX2_payWage_47 rfl (lv_at hl 2 rfl) ?_
    refine lv_iconst (v := 0) hx hb dX2_payWage_48 (by decide) ?_
    refine zk_st hx hb hK hP hD hS 18 0 (zwq16 cI a _) rfl (k := k) hk (by decide) (zws16 cI a _ _ _) dX2_payWage_49 (fun H locs hP hD hS => ?_)
    have hP : va_P D vwCl (zw_H cI a (zs (f_earn σ k (f_max0 (((σ 8 k) / 2) - (σ 16 k)))) 16 k 0)) H := hP
    have hD : va_D A (zw_H cI a (zs (f_earn σ k (f_max0 (((σ 8 k) / 2) - (σ 16 k)))) 16 k 0)) := hD
    have e9 : f_pay σ k = zs (f_earn σ k (f_max0 (((σ 8 k) / 2) - (σ 16 k)))) 16 k 0 := by simp only [f_pay, if_neg c_2]
    have hP9 : va_P D vwCl (zw_H cI a (f_pay σ k)) H := by rw [e9]; exact hP
    have hD9 : va_D A (zw_H cI a (f_pay σ k)) := by rw [e9]; exact hD
    exact W.vret hx hb hr (fun t ht hW => ⟨⟨(), rfl, trivial, by rw [ht]; exact hP9, va_K.moved hW.alike hK, hD9⟩, hS.F ht⟩) hS.2.2 dX2_payWage_50

set_option maxHeartbeats 4000000 in
set_option maxRecDepth 100000 in
theorem c_X2_howManyAt (l : Launch) (D : va_G) (cI : ClassId) (a : Nat → Nat) (σ : zS) (v : Int32) {nb ns h : Nat} (hC : zC σ nb ns h) : zMR l yX2_howManyAt wsX2_howManyAt ({ frames := 0, cells := 0, slots := 0, locals := 0 }) [.ref (a 2), .int v] D [(cI, .int)] (zw_H cI a σ) (fun r => r = f_many (σ 12) v ns) := by
  intro sz
  refine Met.ofW (cc := cX2_howManyAt) (maxL := 4) (ret := (some .int)) (by decide) rfl ?_
  intro p e s m args below meth c s₁ B hml hv
  obtain ⟨rfl, hsz, hP, hK, hD⟩ := hv
  have hx := B.exec
  have hb := B.bytes
  have hr := B.returns
  have hts := atoms_spec (ws := wsX2_howManyAt) B.pre
  have hown : s.vm.findClass RX2 = some m.cls := findClass_of_methodNamed B.named
  have hlocks := B.notSynchronized
  have hS : va_S (fun _ => False) s.heap s.heap [] := va_S.rf
  have hP : va_P D vwCl (zw_H cI a σ) s.heap := hP
  have hl := lv_entry ([.ref (a 2), .int v]) (n := 4) (Nat.le_of_ble_eq_true rfl)
  rw [lg_entry_eq]
  generalize (lg_sl ([.ref (a 2), .int v]) ++ List.replicate (4 - (lg_sl ([.ref (a 2), .int v])).length) Slot.unset).toArray = ls at hl ⊢
  have hl : lv_has ls 4 [(0, .ref (a 2)), (1, .int v)] := hl
  have hf32 := hts (.fieldLink RX2 32 "HotBeds$Sailors" "place" "[I") (by decide +kernel)
  have hf7 := hts (.fieldLink RX2 7 "HotBeds$Sailors" "size" "I") (by decide +kernel)
  have hinX2 : ∀ w ∈ u_ws RX2 TX2 13, w ∈ wsX2_howManyAt := by decide +kernel
  have hns := hC.2.2.2.1
  refine lv_iconst (v := 0) hx hb dX2_howManyAt_0 (by decide) ?_
  refine lv_istore_n (lv' := [(2, .int 0), (0, .ref (a 2)), (1, .int v)]) hx hb dX2_howManyAt_1 rfl hl (by decide) rfl (fun ls hl => ?_)
  refine lv_iconst (v := 0) hx hb dX2_howManyAt_2 (by decide) ?_
  refine lv_istore_n (lv' := [(3, .int 0), (2, .int 0), (0, .ref (a 2)), (1, .int v)]) hx hb dX2_howManyAt_3 rfl hl (by decide) rfl (fun ls hl => ?_)
  refine zk_loop (pc := 4) (fun k H locs ls => va_P D vwCl (zw_H cI a σ) H ∧ va_S (fun _ => False) s.heap H locs ∧ lv_has ls 4 [(0, .ref (a 2)), (1, .int v), (2, .int (f_many (σ 12) v k)), (3, .int (nI k))]) ns (fun k hkk ih H locs ls hI => ?_) (fun H locs ls hI => ?_) _ _ _ ⟨hP, hS, lv_sub hl [2, 3, 1, 0] rfl⟩
  · obtain ⟨hP, hS, hl⟩ := hI
    refine lv_iload_n hx hb dX2_howManyAt_4 rfl (lv_at hl 3 rfl) ?_
    refine lv_aload_n hx hb dX2_howManyAt_5 rfl (lv_at hl 0 rfl) ?_
    refine va_get (D := D) (ci := 2) (v := .int (nI ns)) (C := RX2) (T := TX2) (N := 13) hx hb hts hinX2 hown hK hP 2 rfl rfl 0 (by decide) hf7 (fun _ h9 => h9) (congrArg (fun z => some (Value.int z)) hC.2.2.1) dX2_howManyAt_6 ?_
    refine lv_icmp_ge (tgt := 31) hx hb dX2_howManyAt_9 (by decide) (fun c => absurd c (nI_ge hkk (by omega))) (fun _ => ?_)
    refine lv_aload_n hx hb dX2_howManyAt_12 rfl (lv_at hl 0 rfl) ?_
    refine va_get (D := D) (ci := 2) (v := .ref (a 14)) (C := RX2) (T := TX2) (N := 13) hx hb hts hinX2 hown hK hP 2 rfl rfl 7 (by decide) hf32 (fun _ h9 => h9) rfl dX2_howManyAt_13 ?_
    refine lv_iload_n hx hb dX2_howManyAt_16 rfl (lv_at hl 3 rfl) ?_
    refine zk_ld hx hb hK hP 14 0 (zwq12 cI a _) rfl (k := k) (by omega) (by decide) (v := σ 12 k) rfl dX2_howManyAt_17 ?_
    refine lv_iload_n hx hb dX2_howManyAt_18 rfl (lv_at hl 1 rfl) ?_
    refine lv_icmp_ne (tgt := 25) hx hb dX2_howManyAt_19 (by decide) (fun c_2 => ?_) (fun c_2 => ?_)
    · refine lv_iinc (v := nI (k + 1)) (lv' := [(3, .int (nI (k + 1))), (0, .ref (a 2)), (1, .int v), (2, .int (f_many (σ 12) v k))]) hx hb dX2_howManyAt_25 hl (k := 3) rfl (nI_1 k) (by decide) rfl (fun ls hl => ?_)
      refine lv_goto (tgt := 4) hx hb dX2_howManyAt_28 (by decide) ?_
      have e1 : f_many (σ 12) v (k + 1) = f_many (σ 12) v k := if_neg c_2
      exact ih _ _ _ ⟨hP, hS, by rw [e1]; exact lv_sub hl [1, 2, 3, 0] rfl⟩
    · refine lv_iinc (v := (f_many (σ 12) v k) + 1) (lv' := [(2, .int ((f_many (σ 12) v k) + 1)), (0, .ref (a 2)), (1, .int v), (3, .int (nI k))]) hx hb dX2_howManyAt_22 hl (k := 2) rfl rfl (by decide) rfl (fun ls hl => ?_)
      refine lv_iinc (v := nI (k + 1)) (lv' := [(3, .int (nI (k + 1))), (2, .int ((f_many (σ 12) v k) + 1)), (0, .ref (a 2)), (1, .int v)]) hx hb dX2_howManyAt_25 hl (k := 3) rfl (nI_1 k) (by decide) rfl (fun ls hl => ?_)
      refine lv_goto (tgt := 4) hx hb dX2_howManyAt_28 (by decide) ?_
      have e1 : f_many (σ 12) v (k + 1) = f_many (σ 12) v k + 1 := if_pos c_2
      exact ih _ _ _ ⟨hP, hS, by rw [e1]; exact lv_sub hl [2, 3, 1, 0] rfl⟩
  · obtain ⟨hP, hS, hl⟩ := hI
    refine lv_iload_n hx hb dX2_howManyAt_4 rfl (lv_at hl 3 rfl) ?_
    refine lv_aload_n hx hb dX2_howManyAt_5 rfl (lv_at hl 0 rfl) ?_
    refine va_get (D := D) (ci := 2) (v := .int (nI ns)) (C := RX2) (T := TX2) (N := 13) hx hb hts hinX2 hown hK hP 2 rfl rfl 0 (by decide) hf7 (fun _ h9 => h9) (congrArg (fun z => some (Value.int z)) hC.2.2.1) dX2_howManyAt_6 ?_
    refine lv_icmp_ge (tgt := 31) hx hb dX2_howManyAt_9 (by decide) (fun _ => ?_) (fun c => absurd (Int32.le_refl _) c)
    refine lv_iload_n hx hb dX2_howManyAt_31 rfl (lv_at hl 2 rfl) ?_
    exact W.iret (v := f_many (σ 12) v ns) hx hb hr (fun t ht hW => ⟨⟨f_many (σ 12) v ns, (), rfl, rfl, trivial⟩, hS.F ht⟩) hS.2.2 dX2_howManyAt_32

set_option maxHeartbeats 4000000 in
set_option maxRecDepth 100000 in
theorem c_X2_sum14 (l : Launch) (D : va_G) (cI : ClassId) (a : Nat → Nat) (σ : zS) {nb ns h : Nat} (hC : zC σ nb ns h) : zMR l yX2_sum wsX2_sum ({ frames := 0, cells := 0, slots := 0, locals := 0 }) [.ref (a 2), .ref (a 16)] D [(cI, .int)] (zw_H cI a σ) (fun r => r = f_sum (σ 14) ns) := by
  intro sz
  refine Met.ofW (cc := cX2_sum) (maxL := 4) (ret := (some .int)) (by decide) rfl ?_
  intro p e s m args below meth c s₁ B hml hv
  obtain ⟨rfl, hsz, hP, hK, hD⟩ := hv
  have hx := B.exec
  have hb := B.bytes
  have hr := B.returns
  have hts := atoms_spec (ws := wsX2_sum) B.pre
  have hown : s.vm.findClass RX2 = some m.cls := findClass_of_methodNamed B.named
  have hlocks := B.notSynchronized
  have hS : va_S (fun _ => False) s.heap s.heap [] := va_S.rf
  have hP : va_P D vwCl (zw_H cI a σ) s.heap := hP
  have hl := lv_entry ([.ref (a 2), .ref (a 16)]) (n := 4) (Nat.le_of_ble_eq_true rfl)
  rw [lg_entry_eq]
  generalize (lg_sl ([.ref (a 2), .ref (a 16)]) ++ List.replicate (4 - (lg_sl ([.ref (a 2), .ref (a 16)])).length) Slot.unset).toArray = ls at hl ⊢
  have hl : lv_has ls 4 [(0, .ref (a 2)), (1, .ref (a 16))] := hl
  have hf7 := hts (.fieldLink RX2 7 "HotBeds$Sailors" "size" "I") (by decide +kernel)
  have hinX2 : ∀ w ∈ u_ws RX2 TX2 13, w ∈ wsX2_sum := by decide +kernel
  have hns := hC.2.2.2.1
  refine lv_iconst (v := 0) hx hb dX2_sum_0 (by decide) ?_
  refine lv_istore_n (lv' := [(2, .int 0), (0, .ref (a 2)), (1, .ref (a 16))]) hx hb dX2_sum_1 rfl hl (by decide) rfl (fun ls hl => ?_)
  refine lv_iconst (v := 0) hx hb dX2_sum_2 (by decide) ?_
  refine lv_istore_n (lv' := [(3, .int 0), (2, .int 0), (0, .ref (a 2)), (1, .ref (a 16))]) hx hb dX2_sum_3 rfl hl (by decide) rfl (fun ls hl => ?_)
  refine zk_loop (pc := 4) (fun k H locs ls => va_P D vwCl (zw_H cI a σ) H ∧ va_S (fun _ => False) s.heap H locs ∧ lv_has ls 4 [(0, .ref (a 2)), (1, .ref (a 16)), (2, .int (f_sum (σ 14) k)), (3, .int (nI k))]) ns (fun k hkk ih H locs ls hI => ?_) (fun H locs ls hI => ?_) _ _ _ ⟨hP, hS, lv_sub hl [2, 3, 1, 0] rfl⟩
  · obtain ⟨hP, hS, hl⟩ := hI
    refine lv_iload_n hx hb dX2_sum_4 rfl (lv_at hl 3 rfl) ?_
    refine lv_aload_n hx hb dX2_sum_5 rfl (lv_at hl 0 rfl) ?_
    refine va_get (D := D) (ci := 2) (v := .int (nI ns)) (C := RX2) (T := TX2) (N := 13) hx hb hts hinX2 hown hK hP 2 rfl rfl 0 (by decide) hf7 (fun _ h9 => h9) (congrArg (fun z => some (Value.int z)) hC.2.2.1) dX2_sum_6 ?_
    refine lv_icmp_ge (tgt := 30) hx hb dX2_sum_9 (by decide) (fun c => absurd c (nI_ge hkk (by omega))) (fun _ => ?_)
    refine lv_iload_n hx hb dX2_sum_12 rfl (lv_at hl 3 rfl) ?_
    refine lv_aload_n hx hb dX2_sum_13 rfl (lv_at hl 1 rfl) ?_
    refine va_alen hx hb hK hP 16 0 rfl rfl (v := 10) rfl dX2_sum_14 ?_
    refine lv_icmp_ge (tgt := 30) hx hb dX2_sum_15 (by decide) (fun c => absurd c (nI_ge (a := k) (b := 10) (by omega) (by decide))) (fun _ => ?_)
    refine lv_iload_n hx hb dX2_sum_18 rfl (lv_at hl 2 rfl) ?_
    refine lv_aload_n hx hb dX2_sum_19 rfl (lv_at hl 1 rfl) ?_
    refine lv_iload_n hx hb dX2_sum_20 rfl (lv_at hl 3 rfl) ?_
    refine zk_ld hx hb hK hP 16 0 (zwq14 cI a _) rfl (k := k) (by omega) (by decide) (v := σ 14 k) rfl dX2_sum_21 ?_
    refine lv_iadd hx hb dX2_sum_22 ?_
    refine lv_istore_n (lv' := [(2, .int ((f_sum (σ 14) k) + (σ 14 k))), (0, .ref (a 2)), (1, .ref (a 16)), (3, .int (nI k))]) hx hb dX2_sum_23 rfl hl (by decide) rfl (fun ls hl => ?_)
    refine lv_iinc (v := nI (k + 1)) (lv' := [(3, .int (nI (k + 1))), (2, .int ((f_sum (σ 14) k) + (σ 14 k))), (0, .ref (a 2)), (1, .ref (a 16))]) hx hb dX2_sum_24 hl (k := 3) rfl (nI_1 k) (by decide) rfl (fun ls hl => ?_)
    refine lv_goto (tgt := 4) hx hb dX2_sum_27 (by decide) ?_
    exact ih _ _ _ ⟨hP, hS, lv_sub hl [2, 3, 1, 0] rfl⟩
  · obtain ⟨hP, hS, hl⟩ := hI
    refine lv_iload_n hx hb dX2_sum_4 rfl (lv_at hl 3 rfl) ?_
    refine lv_aload_n hx hb dX2_sum_5 rfl (lv_at hl 0 rfl) ?_
    refine va_get (D := D) (ci := 2) (v := .int (nI ns)) (C := RX2) (T := TX2) (N := 13) hx hb hts hinX2 hown hK hP 2 rfl rfl 0 (by decide) hf7 (fun _ h9 => h9) (congrArg (fun z => some (Value.int z)) hC.2.2.1) dX2_sum_6 ?_
    refine lv_icmp_ge (tgt := 30) hx hb dX2_sum_9 (by decide) (fun _ => ?_) (fun c => absurd (Int32.le_refl _) c)
    refine lv_iload_n hx hb dX2_sum_30 rfl (lv_at hl 2 rfl) ?_
    exact W.iret (v := f_sum (σ 14) ns) hx hb hr (fun t ht hW => ⟨⟨f_sum (σ 14) ns, (), rfl, rfl, trivial⟩, hS.F ht⟩) hS.2.2 dX2_sum_31

set_option maxHeartbeats 4000000 in
set_option maxRecDepth 100000 in
theorem c_X2_sum15 (l : Launch) (D : va_G) (cI : ClassId) (a : Nat → Nat) (σ : zS) {nb ns h : Nat} (hC : zC σ nb ns h) : zMR l yX2_sum wsX2_sum ({ frames := 0, cells := 0, slots := 0, locals := 0 }) [.ref (a 2), .ref (a 17)] D [(cI, .int)] (zw_H cI a σ) (fun r => r = f_sum (σ 15) ns) := by
  intro sz
  refine Met.ofW (cc := cX2_sum) (maxL := 4) (ret := (some .int)) (by decide) rfl ?_
  intro p e s m args below meth c s₁ B hml hv
  obtain ⟨rfl, hsz, hP, hK, hD⟩ := hv
  have hx := B.exec
  have hb := B.bytes
  have hr := B.returns
  have hts := atoms_spec (ws := wsX2_sum) B.pre
  have hown : s.vm.findClass RX2 = some m.cls := findClass_of_methodNamed B.named
  have hlocks := B.notSynchronized
  have hS : va_S (fun _ => False) s.heap s.heap [] := va_S.rf
  have hP : va_P D vwCl (zw_H cI a σ) s.heap := hP
  have hl := lv_entry ([.ref (a 2), .ref (a 17)]) (n := 4) (Nat.le_of_ble_eq_true rfl)
  rw [lg_entry_eq]
  generalize (lg_sl ([.ref (a 2), .ref (a 17)]) ++ List.replicate (4 - (lg_sl ([.ref (a 2), .ref (a 17)])).length) Slot.unset).toArray = ls at hl ⊢
  have hl : lv_has ls 4 [(0, .ref (a 2)), (1, .ref (a 17))] := hl
  have hf7 := hts (.fieldLink RX2 7 "HotBeds$Sailors" "size" "I") (by decide +kernel)
  have hinX2 : ∀ w ∈ u_ws RX2 TX2 13, w ∈ wsX2_sum := by decide +kernel
  have hns := hC.2.2.2.1
  refine lv_iconst (v := 0) hx hb dX2_sum_0 (by decide) ?_
  refine lv_istore_n (lv' := [(2, .int 0), (0, .ref (a 2)), (1, .ref (a 17))]) hx hb dX2_sum_1 rfl hl (by decide) rfl (fun ls hl => ?_)
  refine lv_iconst (v := 0) hx hb dX2_sum_2 (by decide) ?_
  refine lv_istore_n (lv' := [(3, .int 0), (2, .int 0), (0, .ref (a 2)), (1, .ref (a 17))]) hx hb dX2_sum_3 rfl hl (by decide) rfl (fun ls hl => ?_)
  refine zk_loop (pc := 4) (fun k H locs ls => va_P D vwCl (zw_H cI a σ) H ∧ va_S (fun _ => False) s.heap H locs ∧ lv_has ls 4 [(0, .ref (a 2)), (1, .ref (a 17)), (2, .int (f_sum (σ 15) k)), (3, .int (nI k))]) ns (fun k hkk ih H locs ls hI => ?_) (fun H locs ls hI => ?_) _ _ _ ⟨hP, hS, lv_sub hl [2, 3, 1, 0] rfl⟩
  · obtain ⟨hP, hS, hl⟩ := hI
    refine lv_iload_n hx hb dX2_sum_4 rfl (lv_at hl 3 rfl) ?_
    refine lv_aload_n hx hb dX2_sum_5 rfl (lv_at hl 0 rfl) ?_
    refine va_get (D := D) (ci := 2) (v := .int (nI ns)) (C := RX2) (T := TX2) (N := 13) hx hb hts hinX2 hown hK hP 2 rfl rfl 0 (by decide) hf7 (fun _ h9 => h9) (congrArg (fun z => some (Value.int z)) hC.2.2.1) dX2_sum_6 ?_
    refine lv_icmp_ge (tgt := 30) hx hb dX2_sum_9 (by decide) (fun c => absurd c (nI_ge hkk (by omega))) (fun _ => ?_)
    refine lv_iload_n hx hb dX2_sum_12 rfl (lv_at hl 3 rfl) ?_
    refine lv_aload_n hx hb dX2_sum_13 rfl (lv_at hl 1 rfl) ?_
    refine va_alen hx hb hK hP 17 0 rfl rfl (v := 10) rfl dX2_sum_14 ?_
    refine lv_icmp_ge (tgt := 30) hx hb dX2_sum_15 (by decide) (fun c => absurd c (nI_ge (a := k) (b := 10) (by omega) (by decide))) (fun _ => ?_)
    refine lv_iload_n hx hb dX2_sum_18 rfl (lv_at hl 2 rfl) ?_
    refine lv_aload_n hx hb dX2_sum_19 rfl (lv_at hl 1 rfl) ?_
    refine lv_iload_n hx hb dX2_sum_20 rfl (lv_at hl 3 rfl) ?_
    refine zk_ld hx hb hK hP 17 0 (zwq15 cI a _) rfl (k := k) (by omega) (by decide) (v := σ 15 k) rfl dX2_sum_21 ?_
    refine lv_iadd hx hb dX2_sum_22 ?_
    refine lv_istore_n (lv' := [(2, .int ((f_sum (σ 15) k) + (σ 15 k))), (0, .ref (a 2)), (1, .ref (a 17)), (3, .int (nI k))]) hx hb dX2_sum_23 rfl hl (by decide) rfl (fun ls hl => ?_)
    refine lv_iinc (v := nI (k + 1)) (lv' := [(3, .int (nI (k + 1))), (2, .int ((f_sum (σ 15) k) + (σ 15 k))), (0, .ref (a 2)), (1, .ref (a 17))]) hx hb dX2_sum_24 hl (k := 3) rfl (nI_1 k) (by decide) rfl (fun ls hl => ?_)
    refine lv_goto (tgt := 4) hx hb dX2_sum_27 (by decide) ?_
    exact ih _ _ _ ⟨hP, hS, lv_sub hl [2, 3, 1, 0] rfl⟩
  · obtain ⟨hP, hS, hl⟩ := hI
    refine lv_iload_n hx hb dX2_sum_4 rfl (lv_at hl 3 rfl) ?_
    refine lv_aload_n hx hb dX2_sum_5 rfl (lv_at hl 0 rfl) ?_
    refine va_get (D := D) (ci := 2) (v := .int (nI ns)) (C := RX2) (T := TX2) (N := 13) hx hb hts hinX2 hown hK hP 2 rfl rfl 0 (by decide) hf7 (fun _ h9 => h9) (congrArg (fun z => some (Value.int z)) hC.2.2.1) dX2_sum_6 ?_
    refine lv_icmp_ge (tgt := 30) hx hb dX2_sum_9 (by decide) (fun _ => ?_) (fun c => absurd (Int32.le_refl _) c)
    refine lv_iload_n hx hb dX2_sum_30 rfl (lv_at hl 2 rfl) ?_
    exact W.iret (v := f_sum (σ 15) ns) hx hb hr (fun t ht hW => ⟨⟨f_sum (σ 15) ns, (), rfl, rfl, trivial⟩, hS.F ht⟩) hS.2.2 dX2_sum_31

set_option maxHeartbeats 4000000 in
set_option maxRecDepth 100000 in
theorem c_X2_sum17 (l : Launch) (D : va_G) (cI : ClassId) (a : Nat → Nat) (σ : zS) {nb ns h : Nat} (hC : zC σ nb ns h) : zMR l yX2_sum wsX2_sum ({ frames := 0, cells := 0, slots := 0, locals := 0 }) [.ref (a 2), .ref (a 19)] D [(cI, .int)] (zw_H cI a σ) (fun r => r = f_sum (σ 17) ns) := by
  intro sz
  refine Met.ofW (cc := cX2_sum) (maxL := 4) (ret := (some .int)) (by decide) rfl ?_
  intro p e s m args below meth c s₁ B hml hv
  obtain ⟨rfl, hsz, hP, hK, hD⟩ := hv
  have hx := B.exec
  have hb := B.bytes
  have hr := B.returns
  have hts := atoms_spec (ws := wsX2_sum) B.pre
  have hown : s.vm.findClass RX2 = some m.cls := findClass_of_methodNamed B.named
  have hlocks := B.notSynchronized
  have hS : va_S (fun _ => False) s.heap s.heap [] := va_S.rf
  have hP : va_P D vwCl (zw_H cI a σ) s.heap := hP
  have hl := lv_entry ([.ref (a 2), .ref (a 19)]) (n := 4) (Nat.le_of_ble_eq_true rfl)
  rw [lg_entry_eq]
  generalize (lg_sl ([.ref (a 2), .ref (a 19)]) ++ List.replicate (4 - (lg_sl ([.ref (a 2), .ref (a 19)])).length) Slot.unset).toArray = ls at hl ⊢
  have hl : lv_has ls 4 [(0, .ref (a 2)), (1, .ref (a 19))] := hl
  have hf7 := hts (.fieldLink RX2 7 "HotBeds$Sailors" "size" "I") (by decide +kernel)
  have hinX2 : ∀ w ∈ u_ws RX2 TX2 13, w ∈ wsX2_sum := by decide +kernel
  have hns := hC.2.2.2.1
  refine lv_iconst (v := 0) hx hb dX2_sum_0 (by decide) ?_
  refine lv_istore_n (lv' := [(2, .int 0), (0, .ref (a 2)), (1, .ref (a 19))]) hx hb dX2_sum_1 rfl hl (by decide) rfl (fun ls hl => ?_)
  refine lv_iconst (v := 0) hx hb dX2_sum_2 (by decide) ?_
  refine lv_istore_n (lv' := [(3, .int 0), (2, .int 0), (0, .ref (a 2)), (1, .ref (a 19))]) hx hb dX2_sum_3 rfl hl (by decide) rfl (fun ls hl => ?_)
  refine zk_loop (pc := 4) (fun k H locs ls => va_P D vwCl (zw_H cI a σ) H ∧ va_S (fun _ => False) s.heap H locs ∧ lv_has ls 4 [(0, .ref (a 2)), (1, .ref (a 19)), (2, .int (f_sum (σ 17) k)), (3, .int (nI k))]) ns (fun k hkk ih H locs ls hI => ?_) (fun H locs ls hI => ?_) _ _ _ ⟨hP, hS, lv_sub hl [2, 3, 1, 0] rfl⟩
  · obtain ⟨hP, hS, hl⟩ := hI
    refine lv_iload_n hx hb dX2_sum_4 rfl (lv_at hl 3 rfl) ?_
    refine lv_aload_n hx hb dX2_sum_5 rfl (lv_at hl 0 rfl) ?_
    refine va_get (D := D) (ci := 2) (v := .int (nI ns)) (C := RX2) (T := TX2) (N := 13) hx hb hts hinX2 hown hK hP 2 rfl rfl 0 (by decide) hf7 (fun _ h9 => h9) (congrArg (fun z => some (Value.int z)) hC.2.2.1) dX2_sum_6 ?_
    refine lv_icmp_ge (tgt := 30) hx hb dX2_sum_9 (by decide) (fun c => absurd c (nI_ge hkk (by omega))) (fun _ => ?_)
    refine lv_iload_n hx hb dX2_sum_12 rfl (lv_at hl 3 rfl) ?_
    refine lv_aload_n hx hb dX2_sum_13 rfl (lv_at hl 1 rfl) ?_
    refine va_alen hx hb hK hP 19 0 rfl rfl (v := 10) rfl dX2_sum_14 ?_
    refine lv_icmp_ge (tgt := 30) hx hb dX2_sum_15 (by decide) (fun c => absurd c (nI_ge (a := k) (b := 10) (by omega) (by decide))) (fun _ => ?_)
    refine lv_iload_n hx hb dX2_sum_18 rfl (lv_at hl 2 rfl) ?_
    refine lv_aload_n hx hb dX2_sum_19 rfl (lv_at hl 1 rfl) ?_
    refine lv_iload_n hx hb dX2_sum_20 rfl (lv_at hl 3 rfl) ?_
    refine zk_ld hx hb hK hP 19 0 (zwq17 cI a _) rfl (k := k) (by omega) (by decide) (v := σ 17 k) rfl dX2_sum_21 ?_
    refine lv_iadd hx hb dX2_sum_22 ?_
    refine lv_istore_n (lv' := [(2, .int ((f_sum (σ 17) k) + (σ 17 k))), (0, .ref (a 2)), (1, .ref (a 19)), (3, .int (nI k))]) hx hb dX2_sum_23 rfl hl (by decide) rfl (fun ls hl => ?_)
    refine lv_iinc (v := nI (k + 1)) (lv' := [(3, .int (nI (k + 1))), (2, .int ((f_sum (σ 17) k) + (σ 17 k))), (0, .ref (a 2)), (1, .ref (a 19))]) hx hb dX2_sum_24 hl (k := 3) rfl (nI_1 k) (by decide) rfl (fun ls hl => ?_)
    refine lv_goto (tgt := 4) hx hb dX2_sum_27 (by decide) ?_
    exact ih _ _ _ ⟨hP, hS, lv_sub hl [2, 3, 1, 0] rfl⟩
  · obtain ⟨hP, hS, hl⟩ := hI
    refine lv_iload_n hx hb dX2_sum_4 rfl (lv_at hl 3 rfl) ?_
    refine lv_aload_n hx hb dX2_sum_5 rfl (lv_at hl 0 rfl) ?_
    refine va_get (D := D) (ci := 2) (v := .int (nI ns)) (C := RX2) (T := TX2) (N := 13) hx hb hts hinX2 hown hK hP 2 rfl rfl 0 (by decide) hf7 (fun _ h9 => h9) (congrArg (fun z => some (Value.int z)) hC.2.2.1) dX2_sum_6 ?_
    refine lv_icmp_ge (tgt := 30) hx hb dX2_sum_9 (by decide) (fun _ => ?_) (fun c => absurd (Int32.le_refl _) c)
    refine lv_iload_n hx hb dX2_sum_30 rfl (lv_at hl 2 rfl) ?_
    exact W.iret (v := f_sum (σ 17) ns) hx hb hr (fun t ht hW => ⟨⟨f_sum (σ 17) ns, (), rfl, rfl, trivial⟩, hS.F ht⟩) hS.2.2 dX2_sum_31

set_option maxHeartbeats 4000000 in
set_option maxRecDepth 100000 in
theorem c_X2_allRest (l : Launch) (D : va_G) (cI : ClassId) (a : Nat → Nat) (σ : zS) {nb ns h : Nat} (hC : zC σ nb ns h) : zMR l yX2_allRest wsX2_allRest ({ frames := 1, cells := 0, slots := 0, locals := 23 }) [.ref (a 2)] D [(cI, .int)] (zw_H cI a σ) (fun r => r = f_sum (σ 14) ns) := by
  intro sz
  refine Met.ofW (cc := cX2_allRest) (maxL := 1) (ret := (some .int)) (by decide) rfl ?_
  intro p e s m args below meth c s₁ B hml hv
  obtain ⟨rfl, hsz, hP, hK, hD⟩ := hv
  have hx := B.exec
  have hb := B.bytes
  have hr := B.returns
  have hts := atoms_spec (ws := wsX2_allRest) B.pre
  have hown : s.vm.findClass RX2 = some m.cls := findClass_of_methodNamed B.named
  have hlocks := B.notSynchronized
  have hS : va_S (fun _ => False) s.heap s.heap [] := va_S.rf
  have hP : va_P D vwCl (zw_H cI a σ) s.heap := hP
  have hl := lv_entry ([.ref (a 2)]) (n := 1) (Nat.le_of_ble_eq_true rfl)
  rw [lg_entry_eq]
  generalize (lg_sl ([.ref (a 2)]) ++ List.replicate (1 - (lg_sl ([.ref (a 2)])).length) Slot.unset).toArray = ls at hl ⊢
  have hl : lv_has ls 1 [(0, .ref (a 2))] := hl
  have hf38 := hts (.fieldLink RX2 38 "HotBeds$Sailors" "rest" "[I") (by decide +kernel)
  have hinX2 : ∀ w ∈ u_ws RX2 TX2 13, w ∈ wsX2_allRest := by decide +kernel
  refine lv_aload_n hx hb dX2_allRest_0 rfl (lv_at hl 0 rfl) ?_
  refine lv_aload_n hx hb dX2_allRest_1 rfl (lv_at hl 0 rfl) ?_
  refine va_get (D := D) (ci := 2) (v := .ref (a 16)) (C := RX2) (T := TX2) (N := 13) hx hb hts hinX2 hown hK hP 2 rfl rfl 9 (by decide) hf38 (fun _ h9 => h9) rfl dX2_allRest_2 ?_
  refine zk_R (D := D) (va_runV (As := [.ref (a 16)]) (rest := []) ⟨hx, hb, hml, hown, hts⟩ (c_X2_sum14 l D cI a σ hC _) (cwV 1 hts gX2_allRest_X2_sum rfl rfl rfl zdX2_sum ⟨Nat.le_of_ble_eq_true rfl, Nat.le_of_ble_eq_true rfl⟩) ⟨zbl _, va_recv hK hP (ci := 2) (q0 := 2) rfl rfl, zpr hK hP hD⟩ rfl rfl hl.1 rfl (lv_room (Nat.le_of_ble_eq_true rfl)) dX2_allRest_5 ⟨Nat.zero_le _, Nat.zero_le _⟩) hS (fun r_1 H locs hw hkp hS => ?_)
  have hP := hkp _ hP
  subst hw
  exact W.iret (v := f_sum (σ 14) ns) hx hb hr (fun t ht hW => ⟨⟨f_sum (σ 14) ns, (), rfl, rfl, trivial⟩, hS.F ht⟩) hS.2.2 dX2_allRest_8

set_option maxHeartbeats 4000000 in
set_option maxRecDepth 100000 in
theorem c_X2_allLate (l : Launch) (D : va_G) (cI : ClassId) (a : Nat → Nat) (σ : zS) {nb ns h : Nat} (hC : zC σ nb ns h) : zMR l yX2_allLate wsX2_allLate ({ frames := 1, cells := 0, slots := 0, locals := 23 }) [.ref (a 2)] D [(cI, .int)] (zw_H cI a σ) (fun r => r = f_sum (σ 15) ns) := by
  intro sz
  refine Met.ofW (cc := cX2_allLate) (maxL := 1) (ret := (some .int)) (by decide) rfl ?_
  intro p e s m args below meth c s₁ B hml hv
  obtain ⟨rfl, hsz, hP, hK, hD⟩ := hv
  have hx := B.exec
  have hb := B.bytes
  have hr := B.returns
  have hts := atoms_spec (ws := wsX2_allLate) B.pre
  have hown : s.vm.findClass RX2 = some m.cls := findClass_of_methodNamed B.named
  have hlocks := B.notSynchronized
  have hS : va_S (fun _ => False) s.heap s.heap [] := va_S.rf
  have hP : va_P D vwCl (zw_H cI a σ) s.heap := hP
  have hl := lv_entry ([.ref (a 2)]) (n := 1) (Nat.le_of_ble_eq_true rfl)
  rw [lg_entry_eq]
  generalize (lg_sl ([.ref (a 2)]) ++ List.replicate (1 - (lg_sl ([.ref (a 2)])).length) Slot.unset).toArray = ls at hl ⊢
  have hl : lv_has ls 1 [(0, .ref (a 2))] := hl
  have hf41 := hts (.fieldLink RX2 41 "HotBeds$Sailors" "late" "[I") (by decide +kernel)
  have hinX2 : ∀ w ∈ u_ws RX2 TX2 13, w ∈ wsX2_allLate := by decide +kernel
  refine lv_aload_n hx hb dX2_allLate_0 rfl (lv_at hl 0 rfl) ?_
  refine lv_aload_n hx hb dX2_allLate_1 rfl (lv_at hl 0 rfl) ?_
  refine va_get (D := D) (ci := 2) (v := .ref (a 17)) (C := RX2) (T := TX2) (N := 13) hx hb hts hinX2 hown hK hP 2 rfl rfl 10 (by decide) hf41 (fun _ h9 => h9) rfl dX2_allLate_2 ?_
  refine zk_R (D := D) (va_runV (As := [.ref (a 17)]) (rest := []) ⟨hx, hb, hml, hown, hts⟩ (c_X2_sum15 l D cI a σ hC _) (cwV 1 hts gX2_allLate_X2_sum rfl rfl rfl zdX2_sum ⟨Nat.le_of_ble_eq_true rfl, Nat.le_of_ble_eq_true rfl⟩) ⟨zbl _, va_recv hK hP (ci := 2) (q0 := 2) rfl rfl, zpr hK hP hD⟩ rfl rfl hl.1 rfl (lv_room (Nat.le_of_ble_eq_true rfl)) dX2_allLate_5 ⟨Nat.zero_le _, Nat.zero_le _⟩) hS (fun r_1 H locs hw hkp hS => ?_)
  have hP := hkp _ hP
  subst hw
  exact W.iret (v := f_sum (σ 15) ns) hx hb hr (fun t ht hW => ⟨⟨f_sum (σ 15) ns, (), rfl, rfl, trivial⟩, hS.F ht⟩) hS.2.2 dX2_allLate_8

set_option maxHeartbeats 4000000 in
set_option maxRecDepth 100000 in
theorem c_X2_allFloors (l : Launch) (D : va_G) (cI : ClassId) (a : Nat → Nat) (σ : zS) {nb ns h : Nat} (hC : zC σ nb ns h) : zMR l yX2_allFloors wsX2_allFloors ({ frames := 1, cells := 0, slots := 0, locals := 23 }) [.ref (a 2)] D [(cI, .int)] (zw_H cI a σ) (fun r => r = f_sum (σ 17) ns) := by
  intro sz
  refine Met.ofW (cc := cX2_allFloors) (maxL := 1) (ret := (some .int)) (by decide) rfl ?_
  intro p e s m args below meth c s₁ B hml hv
  obtain ⟨rfl, hsz, hP, hK, hD⟩ := hv
  have hx := B.exec
  have hb := B.bytes
  have hr := B.returns
  have hts := atoms_spec (ws := wsX2_allFloors) B.pre
  have hown : s.vm.findClass RX2 = some m.cls := findClass_of_methodNamed B.named
  have hlocks := B.notSynchronized
  have hS : va_S (fun _ => False) s.heap s.heap [] := va_S.rf
  have hP : va_P D vwCl (zw_H cI a σ) s.heap := hP
  have hl := lv_entry ([.ref (a 2)]) (n := 1) (Nat.le_of_ble_eq_true rfl)
  rw [lg_entry_eq]
  generalize (lg_sl ([.ref (a 2)]) ++ List.replicate (1 - (lg_sl ([.ref (a 2)])).length) Slot.unset).toArray = ls at hl ⊢
  have hl : lv_has ls 1 [(0, .ref (a 2))] := hl
  have hf47 := hts (.fieldLink RX2 47 "HotBeds$Sailors" "floors" "[I") (by decide +kernel)
  have hinX2 : ∀ w ∈ u_ws RX2 TX2 13, w ∈ wsX2_allFloors := by decide +kernel
  refine lv_aload_n hx hb dX2_allFloors_0 rfl (lv_at hl 0 rfl) ?_
  refine lv_aload_n hx hb dX2_allFloors_1 rfl (lv_at hl 0 rfl) ?_
  refine va_get (D := D) (ci := 2) (v := .ref (a 19)) (C := RX2) (T := TX2) (N := 13) hx hb hts hinX2 hown hK hP 2 rfl rfl 12 (by decide) hf47 (fun _ h9 => h9) rfl dX2_allFloors_2 ?_
  refine zk_R (D := D) (va_runV (As := [.ref (a 19)]) (rest := []) ⟨hx, hb, hml, hown, hts⟩ (c_X2_sum17 l D cI a σ hC _) (cwV 1 hts gX2_allFloors_X2_sum rfl rfl rfl zdX2_sum ⟨Nat.le_of_ble_eq_true rfl, Nat.le_of_ble_eq_true rfl⟩) ⟨zbl _, va_recv hK hP (ci := 2) (q0 := 2) rfl rfl, zpr hK hP hD⟩ rfl rfl hl.1 rfl (lv_room (Nat.le_of_ble_eq_true rfl)) dX2_allFloors_5 ⟨Nat.zero_le _, Nat.zero_le _⟩) hS (fun r_1 H locs hw hkp hS => ?_)
  have hP := hkp _ hP
  subst hw
  exact W.iret (v := f_sum (σ 17) ns) hx hb hr (fun t ht hW => ⟨⟨f_sum (σ 17) ns, (), rfl, rfl, trivial⟩, hS.F ht⟩) hS.2.2 dX2_allFloors_8
end
section
set_option maxHeartbeats 4000000 in
set_option maxRecDepth 100000 in
theorem c_X1_watchNow (l : Launch) (D : va_G) (cI : ClassId) (a : Nat → Nat) (σ : zS) {nb ns h : Nat} (hC : zC σ nb ns h) : zMR l yX1_watchNow wsX1_watchNow ({ frames := 0, cells := 0, slots := 0, locals := 0 }) [.ref (a 0)] D [(cI, .int)] (zw_H cI a σ) (fun r => r = nI (h % 24 / 8)) := by
  intro sz
  refine Met.ofW (cc := cX1_watchNow) (maxL := 1) (ret := (some .int)) (by decide) rfl ?_
  intro p e s m args below meth c s₁ B hml hv
  obtain ⟨rfl, hsz, hP, hK, hD⟩ := hv
  have hx := B.exec
  have hb := B.bytes
  have hr := B.returns
  have hts := atoms_spec (ws := wsX1_watchNow) B.pre
  have hown : s.vm.findClass RX1 = some m.cls := findClass_of_methodNamed B.named
  have hlocks := B.notSynchronized
  have hS : va_S (fun _ => False) s.heap s.heap [] := va_S.rf
  have hP : va_P D vwCl (zw_H cI a σ) s.heap := hP
  have hl := lv_entry ([.ref (a 0)]) (n := 1) (Nat.le_of_ble_eq_true rfl)
  rw [lg_entry_eq]
  generalize (lg_sl ([.ref (a 0)]) ++ List.replicate (1 - (lg_sl ([.ref (a 0)])).length) Slot.unset).toArray = ls at hl ⊢
  have hl : lv_has ls 1 [(0, .ref (a 0))] := hl
  have hf7 := hts (.fieldLink RX1 7 "HotBeds$House" "hour" "I") (by decide +kernel)
  have hinX1 : ∀ w ∈ u_ws RX1 TX1 5, w ∈ wsX1_watchNow := by decide +kernel
  have hnb := hC.2.1
  have hns := hC.2.2.2.1
  have hh := hC.2.2.2.2.2.1
  refine lv_aload_n hx hb dX1_watchNow_0 rfl (lv_at hl 0 rfl) ?_
  refine va_get (D := D) (ci := 1) (v := .int (nI h)) (C := RX1) (T := TX1) (N := 5) hx hb hts hinX1 hown hK hP 0 rfl rfl 0 (by decide) hf7 (fun _ h9 => h9) (congrArg (fun z => some (Value.int z)) hC.2.2.2.2.1) dX1_watchNow_1 ?_
  refine lv_bipush (v := 24) hx hb dX1_watchNow_4 (by decide) ?_
  refine zk_rem (x := h) (y := 24) hx hb dX1_watchNow_6 (by omega) (by decide) (by decide) ?_
  refine lv_bipush (v := 8) hx hb dX1_watchNow_7 (by decide) ?_
  refine zk_div (x := (h % 24)) (y := 8) hx hb dX1_watchNow_9 (by omega) (by decide) (by decide) ?_
  exact W.iret (v := nI ((h % 24) / 8)) hx hb hr (fun t ht hW => ⟨⟨nI ((h % 24) / 8), (), rfl, rfl, trivial⟩, hS.F ht⟩) hS.2.2 dX1_watchNow_10

set_option maxHeartbeats 4000000 in
set_option maxRecDepth 100000 in
theorem c_X1_isInWatch (l : Launch) (D : va_G) (cI : ClassId) (a : Nat → Nat) (σ : zS) {k : Nat} (hk : k < 10) {nb ns h : Nat} (hC : zC σ nb ns h) : zMR l yX1_isInWatch wsX1_isInWatch ({ frames := 1, cells := 0, slots := 0, locals := 20 }) [.ref (a 0), .int (nI k)] D [(cI, .int)] (zw_H cI a σ) (zb (σ 6 k = nI (h % 24 / 8))) := by
  intro sz
  refine Met.ofW (cc := cX1_isInWatch) (maxL := 2) (ret := (some .boolean)) (by decide) rfl ?_
  intro p e s m args below meth c s₁ B hml hv
  obtain ⟨rfl, hsz, hP, hK, hD⟩ := hv
  have hx := B.exec
  have hb := B.bytes
  have hr := B.returns
  have hts := atoms_spec (ws := wsX1_isInWatch) B.pre
  have hown : s.vm.findClass RX1 = some m.cls := findClass_of_methodNamed B.named
  have hlocks := B.notSynchronized
  have hS : va_S (fun _ => False) s.heap s.heap [] := va_S.rf
  have hP : va_P D vwCl (zw_H cI a σ) s.heap := hP
  have hl := lv_entry ([.ref (a 0), .int (nI k)]) (n := 2) (Nat.le_of_ble_eq_true rfl)
  rw [lg_entry_eq]
  generalize (lg_sl ([.ref (a 0), .int (nI k)]) ++ List.replicate (2 - (lg_sl ([.ref (a 0), .int (nI k)])).length) Slot.unset).toArray = ls at hl ⊢
  have hl : lv_has ls 2 [(0, .ref (a 0)), (1, .int (nI k))] := hl
  have hf105 := hts (.fieldLink RX1 105 "HotBeds$Sailors" "watch" "[I") (by decide +kernel)
  have hf29 := hts (.fieldLink RX1 29 "HotBeds$House" "sailors" "LHotBeds$Sailors;") (by decide +kernel)
  have hinX1 : ∀ w ∈ u_ws RX1 TX1 5, w ∈ wsX1_isInWatch := by decide +kernel
  have hinX2 : ∀ w ∈ u_ws RX2 TX2 13, w ∈ wsX1_isInWatch := by decide +kernel
  have hnb := hC.2.1
  have hns := hC.2.2.2.1
  have hh := hC.2.2.2.2.2.1
  refine lv_aload_n hx hb dX1_isInWatch_0 rfl (lv_at hl 0 rfl) ?_
  refine va_get (D := D) (ci := 1) (v := .ref (a 2)) (C := RX1) (T := TX1) (N := 5) hx hb hts hinX1 hown hK hP 0 rfl rfl 4 (by decide) hf29 (fun _ h9 => h9) rfl dX1_isInWatch_1 ?_
  refine va_get (D := D) (ci := 2) (v := .ref (a 8)) (C := RX2) (T := TX2) (N := 13) hx hb hts hinX2 hown hK hP 2 rfl rfl 1 (by decide) hf105 (fun _ h9 => h9) rfl dX1_isInWatch_4 ?_
  refine lv_iload_n hx hb dX1_isInWatch_7 rfl (lv_at hl 1 rfl) ?_
  refine zk_ld hx hb hK hP 8 0 (zwq6 cI a _) rfl (k := k) hk (by decide) (v := σ 6 k) rfl dX1_isInWatch_8 ?_
  refine lv_aload_n hx hb dX1_isInWatch_9 rfl (lv_at hl 0 rfl) ?_
  refine zk_R (D := D) (va_runV (As := []) (rest := [.int (σ 6 k)]) ⟨hx, hb, hml, hown, hts⟩ (c_X1_watchNow l D cI a σ hC _) (cwV 0 hts gX1_isInWatch_X1_watchNow rfl rfl rfl zdX1_watchNow ⟨Nat.le_of_ble_eq_true rfl, Nat.le_of_ble_eq_true rfl⟩) ⟨zbl _, va_recv hK hP (ci := 1) (q0 := 0) rfl rfl, zpr hK hP hD⟩ rfl rfl hl.1 rfl (lv_room (Nat.le_of_ble_eq_true rfl)) dX1_isInWatch_10 ⟨Nat.zero_le _, Nat.zero_le _⟩) hS (fun r_1 H locs hw hkp hS => ?_)
  have hP := hkp _ hP
  subst hw
  refine lv_icmp_ne (tgt := 20) hx hb dX1_isInWatch_13 (by decide) (fun c_2 => ?_) (fun c_2 => ?_)
  · refine lv_iconst (v := 0) hx hb dX1_isInWatch_20 (by decide) ?_
    exact W.zret (v := 0) hx hb hr rfl (fun t ht hW => ⟨⟨0, (), rfl, Or.inr ⟨(fun z => c_2 z), rfl⟩, trivial⟩, hS.F ht⟩) hS.2.2 dX1_isInWatch_21
  · refine lv_iconst (v := 1) hx hb dX1_isInWatch_16 (by decide) ?_
    refine lv_goto (tgt := 21) hx hb dX1_isInWatch_17 (by decide) ?_
    exact W.zret (v := 1) hx hb hr rfl (fun t ht hW => ⟨⟨1, (), rfl, Or.inl ⟨c_2, rfl⟩, trivial⟩, hS.F ht⟩) hS.2.2 dX1_isInWatch_21

set_option maxHeartbeats 4000000 in
set_option maxRecDepth 100000 in
theorem c_X1_hoursSinceWatch (l : Launch) (D : va_G) (cI : ClassId) (a : Nat → Nat) (σ : zS) {k : Nat} (hk : k < 10) {nb ns h : Nat} (hC : zC σ nb ns h) : zMR l yX1_hoursSinceWatch wsX1_hoursSinceWatch ({ frames := 0, cells := 0, slots := 0, locals := 0 }) [.ref (a 0), .int (nI k)] D [(cI, .int)] (zw_H cI a σ) (fun r => r = nI ((h % 24 + 24 - ((σ 6 k).toNatClampNeg + 1) * 8) % 24)) := by
  intro sz
  refine Met.ofW (cc := cX1_hoursSinceWatch) (maxL := 3) (ret := (some .int)) (by decide) rfl ?_
  intro p e s m args below meth c s₁ B hml hv
  obtain ⟨rfl, hsz, hP, hK, hD⟩ := hv
  have hx := B.exec
  have hb := B.bytes
  have hr := B.returns
  have hts := atoms_spec (ws := wsX1_hoursSinceWatch) B.pre
  have hown : s.vm.findClass RX1 = some m.cls := findClass_of_methodNamed B.named
  have hlocks := B.notSynchronized
  have hS : va_S (fun _ => False) s.heap s.heap [] := va_S.rf
  have hP : va_P D vwCl (zw_H cI a σ) s.heap := hP
  have hl := lv_entry ([.ref (a 0), .int (nI k)]) (n := 3) (Nat.le_of_ble_eq_true rfl)
  rw [lg_entry_eq]
  generalize (lg_sl ([.ref (a 0), .int (nI k)]) ++ List.replicate (3 - (lg_sl ([.ref (a 0), .int (nI k)])).length) Slot.unset).toArray = ls at hl ⊢
  have hl : lv_has ls 3 [(0, .ref (a 0)), (1, .int (nI k))] := hl
  have hf105 := hts (.fieldLink RX1 105 "HotBeds$Sailors" "watch" "[I") (by decide +kernel)
  have hf29 := hts (.fieldLink RX1 29 "HotBeds$House" "sailors" "LHotBeds$Sailors;") (by decide +kernel)
  have hf7 := hts (.fieldLink RX1 7 "HotBeds$House" "hour" "I") (by decide +kernel)
  have hinX1 : ∀ w ∈ u_ws RX1 TX1 5, w ∈ wsX1_hoursSinceWatch := by decide +kernel
  have hinX2 : ∀ w ∈ u_ws RX2 TX2 13, w ∈ wsX1_hoursSinceWatch := by decide +kernel
  have hnb := hC.2.1
  have hns := hC.2.2.2.1
  have hh := hC.2.2.2.2.2.1
  obtain ⟨w, hw3, ew⟩ := hC.2.2.2.2.2.2 k hk
  refine lv_aload_n hx hb dX1_hoursSinceWatch_0 rfl (lv_at hl 0 rfl) ?_
  refine va_get (D := D) (ci := 1) (v := .ref (a 2)) (C := RX1) (T := TX1) (N := 5) hx hb hts hinX1 hown hK hP 0 rfl rfl 4 (by decide) hf29 (fun _ h9 => h9) rfl dX1_hoursSinceWatch_1 ?_
  refine va_get (D := D) (ci := 2) (v := .ref (a 8)) (C := RX2) (T := TX2) (N := 13) hx hb hts hinX2 hown hK hP 2 rfl rfl 1 (by decide) hf105 (fun _ h9 => h9) rfl dX1_hoursSinceWatch_4 ?_
  refine lv_iload_n hx hb dX1_hoursSinceWatch_7 rfl (lv_at hl 1 rfl) ?_
  refine zk_ld hx hb hK hP 8 0 (zwq6 cI a _) rfl (k := k) hk (by decide) (v := nI w) ew dX1_hoursSinceWatch_8 ?_
  refine lv_iconst (v := 1) hx hb dX1_hoursSinceWatch_9 (by decide) ?_
  refine zk_add (x := w) (y := 1) hx hb dX1_hoursSinceWatch_10 ?_
  refine lv_bipush (v := 8) hx hb dX1_hoursSinceWatch_11 (by decide) ?_
  refine zk_mul (x := (w + 1)) (y := 8) hx hb dX1_hoursSinceWatch_13 ?_
  refine lv_istore_n (lv' := [(2, .int (nI ((w + 1) * 8))), (0, .ref (a 0)), (1, .int (nI k))]) hx hb dX1_hoursSinceWatch_14 rfl hl (by decide) rfl (fun ls hl => ?_)
  refine lv_aload_n hx hb dX1_hoursSinceWatch_15 rfl (lv_at hl 1 rfl) ?_
  refine va_get (D := D) (ci := 1) (v := .int (nI h)) (C := RX1) (T := TX1) (N := 5) hx hb hts hinX1 hown hK hP 0 rfl rfl 0 (by decide) hf7 (fun _ h9 => h9) (congrArg (fun z => some (Value.int z)) hC.2.2.2.2.1) dX1_hoursSinceWatch_16 ?_
  refine lv_bipush (v := 24) hx hb dX1_hoursSinceWatch_19 (by decide) ?_
  refine zk_rem (x := h) (y := 24) hx hb dX1_hoursSinceWatch_21 (by omega) (by decide) (by decide) ?_
  refine lv_bipush (v := 24) hx hb dX1_hoursSinceWatch_22 (by decide) ?_
  refine zk_add (x := (h % 24)) (y := 24) hx hb dX1_hoursSinceWatch_24 ?_
  refine lv_iload_n hx hb dX1_hoursSinceWatch_25 rfl (lv_at hl 0 rfl) ?_
  refine zk_sub (x := ((h % 24) + 24)) (y := ((w + 1) * 8)) hx hb dX1_hoursSinceWatch_26 (by omega) ?_
  refine lv_bipush (v := 24) hx hb dX1_hoursSinceWatch_27 (by decide) ?_
  refine zk_rem (x := (((h % 24) + 24) - ((w + 1) * 8))) (y := 24) hx hb dX1_hoursSinceWatch_29 (by omega) (by decide) (by decide) ?_
  exact W.iret (v := nI ((((h % 24) + 24) - ((w + 1) * 8)) % 24)) hx hb hr (fun t ht hW => ⟨⟨nI ((((h % 24) + 24) - ((w + 1) * 8)) % 24), (), rfl, (by rw [ew, nI_clamp (by omega)]), trivial⟩, hS.F ht⟩) hS.2.2 dX1_hoursSinceWatch_30

set_option maxHeartbeats 4000000 in
set_option maxRecDepth 100000 in
theorem c_X1_getUp (l : Launch) (D : va_G) (cI : ClassId) (a : Nat → Nat) (σ : zS) {k : Nat} (hk : k < 10) {nb ns h : Nat} (hC : zC σ nb ns h) : zMV l yX1_getUp wsX1_getUp ({ frames := 1, cells := 0, slots := 0, locals := 21 }) [.ref (a 0), .int (nI k)] D [(cI, .int)] (zw_H cI a σ) (zw_H cI a (f_getUp σ k)) := by
  intro sz
  refine Met.ofW (cc := cX1_getUp) (maxL := 3) (ret := none) (by decide) rfl ?_
  intro p e s m args below meth c s₁ B hml hv
  obtain ⟨rfl, hsz, hP, hK, hD⟩ := hv
  have hx := B.exec
  have hb := B.bytes
  have hr := B.returns
  have hts := atoms_spec (ws := wsX1_getUp) B.pre
  have hown : s.vm.findClass RX1 = some m.cls := findClass_of_methodNamed B.named
  have hlocks := B.notSynchronized
  subst hsz
  have hD := hD.self (sz := s.heap.size)
  generalize hAe : va_A (zw_H cI a σ) s.heap.size = A at hD ⊢
  have hA : ∀ q : Nat, s.heap.size ≤ q → A q := fun q h => by rw [← hAe]; exact Or.inr h
  have hS : va_S A s.heap s.heap [] := va_S.rf
  have hP : va_P D vwCl (zw_H cI a σ) s.heap := hP
  have hl := lv_entry ([.ref (a 0), .int (nI k)]) (n := 3) (Nat.le_of_ble_eq_true rfl)
  rw [lg_entry_eq]
  generalize (lg_sl ([.ref (a 0), .int (nI k)]) ++ List.replicate (3 - (lg_sl ([.ref (a 0), .int (nI k)])).length) Slot.unset).toArray = ls at hl ⊢
  have hl : lv_has ls 3 [(0, .ref (a 0)), (1, .int (nI k))] := hl
  have hf22 := hts (.fieldLink RX1 22 "HotBeds$House" "beds" "LHotBeds$Beds;") (by decide +kernel)
  have hf29 := hts (.fieldLink RX1 29 "HotBeds$House" "sailors" "LHotBeds$Sailors;") (by decide +kernel)
  have hf61 := hts (.fieldLink RX1 61 "HotBeds$Sailors" "bed" "[I") (by decide +kernel)
  have hf68 := hts (.fieldLink RX1 68 "HotBeds$Beds" "sleeper" "[I") (by decide +kernel)
  have hf71 := hts (.fieldLink RX1 71 "HotBeds$Sailors" "place" "[I") (by decide +kernel)
  have hinX0 : ∀ w ∈ u_ws RX0 TX0 6, w ∈ wsX1_getUp := by decide +kernel
  have hinX1 : ∀ w ∈ u_ws RX1 TX1 5, w ∈ wsX1_getUp := by decide +kernel
  have hinX2 : ∀ w ∈ u_ws RX2 TX2 13, w ∈ wsX1_getUp := by decide +kernel
  have hnb := hC.2.1
  have hns := hC.2.2.2.1
  have hh := hC.2.2.2.2.2.1
  refine lv_aload_n hx hb dX1_getUp_0 rfl (lv_at hl 0 rfl) ?_
  refine va_get (D := D) (ci := 1) (v := .ref (a 2)) (C := RX1) (T := TX1) (N := 5) hx hb hts hinX1 hown hK hP 0 rfl rfl 4 (by decide) hf29 (fun _ h9 => h9) rfl dX1_getUp_1 ?_
  refine va_get (D := D) (ci := 2) (v := .ref (a 15)) (C := RX2) (T := TX2) (N := 13) hx hb hts hinX2 hown hK hP 2 rfl rfl 8 (by decide) hf61 (fun _ h9 => h9) rfl dX1_getUp_4 ?_
  refine lv_iload_n hx hb dX1_getUp_7 rfl (lv_at hl 1 rfl) ?_
  refine zk_ld hx hb hK hP 15 0 (zwq13 cI a _) rfl (k := k) hk (by decide) (v := σ 13 k) rfl dX1_getUp_8 ?_
  refine lv_istore_n (lv' := [(2, .int (σ 13 k)), (0, .ref (a 0)), (1, .int (nI k))]) hx hb dX1_getUp_9 rfl hl (by decide) rfl (fun ls hl => ?_)
  refine lv_aload_n hx hb dX1_getUp_10 rfl (lv_at hl 1 rfl) ?_
  refine va_get (D := D) (ci := 1) (v := .ref (a 1)) (C := RX1) (T := TX1) (N := 5) hx hb hts hinX1 hown hK hP 0 rfl rfl 3 (by decide) hf22 (fun _ h9 => h9) rfl dX1_getUp_11 ?_
  refine lv_iload_n hx hb dX1_getUp_14 rfl (lv_at hl 0 rfl) ?_
  refine zk_R (D := D) (va_runV (As := [.int (σ 13 k)]) (rest := []) ⟨hx, hb, hml, hown, hts⟩ (c_X0_has l D cI a σ (σ 13 k) _) (cwV 1 hts gX1_getUp_X0_has rfl rfl rfl zdX0_has ⟨Nat.le_of_ble_eq_true rfl, Nat.le_of_ble_eq_true rfl⟩) ⟨zbl _, va_recv hK hP (ci := 0) (q0 := 1) rfl rfl, zpr hK hP hD⟩ rfl rfl hl.1 rfl (lv_room (Nat.le_of_ble_eq_true rfl)) dX1_getUp_15 ⟨Nat.zero_le _, Nat.zero_le _⟩) hS (fun r_1 H locs hw hkp hS => ?_)
  have hP := hkp _ hP
  rcases hw with ⟨c_2, rfl⟩ | ⟨c_2, rfl⟩
  · refine lv_if_eq (tgt := 31) hx hb dX1_getUp_18 (by decide) (fun c => absurd c (by decide)) (fun _ => ?_)
    refine lv_aload_n hx hb dX1_getUp_21 rfl (lv_at hl 1 rfl) ?_
    refine va_get (D := D) (ci := 1) (v := .ref (a 1)) (C := RX1) (T := TX1) (N := 5) hx hb hts hinX1 hown hK hP 0 rfl rfl 3 (by decide) hf22 (fun _ h9 => h9) rfl dX1_getUp_22 ?_
    refine va_get (D := D) (ci := 0) (v := .ref (a 7)) (C := RX0) (T := TX0) (N := 6) hx hb hts hinX0 hown hK hP 1 rfl rfl 5 (by decide) hf68 (fun _ h9 => h9) rfl dX1_getUp_25 ?_
    refine lv_iload_n hx hb dX1_getUp_28 rfl (lv_at hl 0 rfl) ?_
    refine lv_iconst (v := (-1)) hx hb dX1_getUp_29 (by decide) ?_
    refine va_iast hx hb hK hP hD hS 7 0 (zwq5 cI a _) rfl (zin hC c_2) dX1_getUp_30 (fun H locs hP hD hS => ?_)
    have hP : va_P D vwCl (zw_H cI a (zs σ 5 ((σ 13 k).toNatClampNeg) (-1))) H := hP
    have hD : va_D A (zw_H cI a (zs σ 5 ((σ 13 k).toNatClampNeg) (-1))) := hD
    refine lv_aload_n hx hb dX1_getUp_31 rfl (lv_at hl 1 rfl) ?_
    refine va_get (D := D) (ci := 1) (v := .ref (a 2)) (C := RX1) (T := TX1) (N := 5) hx hb hts hinX1 hown hK hP 0 rfl rfl 4 (by decide) hf29 (fun _ h9 => h9) rfl dX1_getUp_32 ?_
    refine va_get (D := D) (ci := 2) (v := .ref (a 15)) (C := RX2) (T := TX2) (N := 13) hx hb hts hinX2 hown hK hP 2 rfl rfl 8 (by decide) hf61 (fun _ h9 => h9) rfl dX1_getUp_35 ?_
    refine lv_iload_n hx hb dX1_getUp_38 rfl (lv_at hl 2 rfl) ?_
    refine lv_iconst (v := (-1)) hx hb dX1_getUp_39 (by decide) ?_
    refine zk_st hx hb hK hP hD hS 15 0 (zwq13 cI a _) rfl (k := k) hk (by decide) (zws13 cI a _ _ _) dX1_getUp_40 (fun H locs hP hD hS => ?_)
    have hP : va_P D vwCl (zw_H cI a (zs (zs σ 5 ((σ 13 k).toNatClampNeg) (-1)) 13 k (-1))) H := hP
    have hD : va_D A (zw_H cI a (zs (zs σ 5 ((σ 13 k).toNatClampNeg) (-1)) 13 k (-1))) := hD
    refine lv_aload_n hx hb dX1_getUp_41 rfl (lv_at hl 1 rfl) ?_
    refine va_get (D := D) (ci := 1) (v := .ref (a 2)) (C := RX1) (T := TX1) (N := 5) hx hb hts hinX1 hown hK hP 0 rfl rfl 4 (by decide) hf29 (fun _ h9 => h9) rfl dX1_getUp_42 ?_
    refine va_get (D := D) (ci := 2) (v := .ref (a 14)) (C := RX2) (T := TX2) (N := 13) hx hb hts hinX2 hown hK hP 2 rfl rfl 7 (by decide) hf71 (fun _ h9 => h9) rfl dX1_getUp_45 ?_
    refine lv_iload_n hx hb dX1_getUp_48 rfl (lv_at hl 2 rfl) ?_
    refine lv_iconst (v := 0) hx hb dX1_getUp_49 (by decide) ?_
    refine zk_st hx hb hK hP hD hS 14 0 (zwq12 cI a _) rfl (k := k) hk (by decide) (zws12 cI a _ _ _) dX1_getUp_50 (fun H locs hP hD hS => ?_)
    have hP : va_P D vwCl (zw_H cI a (zs (zs (zs σ 5 ((σ 13 k).toNatClampNeg) (-1)) 13 k (-1)) 12 k 0)) H := hP
    have hD : va_D A (zw_H cI a (zs (zs (zs σ 5 ((σ 13 k).toNatClampNeg) (-1)) 13 k (-1)) 12 k 0)) := hD
    have e9 : f_getUp σ k = zs (zs (zs σ 5 ((σ 13 k).toNatClampNeg) (-1)) 13 k (-1)) 12 k 0 := by simp only [f_getUp, f_leave, if_pos c_2]
    have hP9 : va_P D vwCl (zw_H cI a (f_getUp σ k)) H := by rw [e9]; exact hP
    have hD9 : va_D A (zw_H cI a (f_getUp σ k)) := by rw [e9]; exact hD
    exact W.vret hx hb hr (fun t ht hW => ⟨⟨(), rfl, trivial, by rw [ht]; exact hP9, va_K.moved hW.alike hK, hD9⟩, hS.F ht⟩) hS.2.2 dX1_getUp_51
  · refine lv_if_eq (tgt := 31) hx hb dX1_getUp_18 (by decide) (fun _ => ?_) (fun c => absurd (by decide) c)
    refine lv_aload_n hx hb dX1_getUp_31 rfl (lv_at hl 1 rfl) ?_
    refine va_get (D := D) (ci := 1) (v := .ref (a 2)) (C := RX1) (T := TX1) (N := 5) hx hb hts hinX1 hown hK hP 0 rfl rfl 4 (by decide) hf29 (fun _ h9 => h9) rfl dX1_getUp_32 ?_
    refine va_get (D := D) (ci := 2) (v := .ref (a 15)) (C := RX2) (T := TX2) (N := 13) hx hb hts hinX2 hown hK hP 2 rfl rfl 8 (by decide) hf61 (fun _ h9 => h9) rfl dX1_getUp_35 ?_
    refine lv_iload_n hx hb dX1_getUp_38 rfl (lv_at hl 2 rfl) ?_
    refine lv_iconst (v := (-1)) hx hb dX1_getUp_39 (by decide) ?_
    refine zk_st hx hb hK hP hD hS 15 0 (zwq13 cI a _) rfl (k := k) hk (by decide) (zws13 cI a _ _ _) dX1_getUp_40 (fun H locs hP hD hS => ?_)
    have hP : va_P D vwCl (zw_H cI a (zs σ 13 k (-1))) H := hP
    have hD : va_D A (zw_H cI a (zs σ 13 k (-1))) := hD
    refine lv_aload_n hx hb dX1_getUp_41 rfl (lv_at hl 1 rfl) ?_
    refine va_get (D := D) (ci := 1) (v := .ref (a 2)) (C := RX1) (T := TX1) (N := 5) hx hb hts hinX1 hown hK hP 0 rfl rfl 4 (by decide) hf29 (fun _ h9 => h9) rfl dX1_getUp_42 ?_
    refine va_get (D := D) (ci := 2) (v := .ref (a 14)) (C := RX2) (T := TX2) (N := 13) hx hb hts hinX2 hown hK hP 2 rfl rfl 7 (by decide) hf71 (fun _ h9 => h9) rfl dX1_getUp_45 ?_
    refine lv_iload_n hx hb dX1_getUp_48 rfl (lv_at hl 2 rfl) ?_
    refine lv_iconst (v := 0) hx hb dX1_getUp_49 (by decide) ?_
    refine zk_st hx hb hK hP hD hS 14 0 (zwq12 cI a _) rfl (k := k) hk (by decide) (zws12 cI a _ _ _) dX1_getUp_50 (fun H locs hP hD hS => ?_)
    have hP : va_P D vwCl (zw_H cI a (zs (zs σ 13 k (-1)) 12 k 0)) H := hP
    have hD : va_D A (zw_H cI a (zs (zs σ 13 k (-1)) 12 k 0)) := hD
    have e9 : f_getUp σ k = zs (zs σ 13 k (-1)) 12 k 0 := by simp only [f_getUp, f_leave, if_neg c_2]
    have hP9 : va_P D vwCl (zw_H cI a (f_getUp σ k)) H := by rw [e9]; exact hP
    have hD9 : va_D A (zw_H cI a (f_getUp σ k)) := by rw [e9]; exact hD
    exact W.vret hx hb hr (fun t ht hW => ⟨⟨(), rfl, trivial, by rw [ht]; exact hP9, va_K.moved hW.alike hK, hD9⟩, hS.F ht⟩) hS.2.2 dX1_getUp_51

set_option maxHeartbeats 4000000 in
set_option maxRecDepth 100000 in
theorem c_X1_pawnBoots (l : Launch) (D : va_G) (cI : ClassId) (a : Nat → Nat) (σ : zS) {k : Nat} (hk : k < 10) : zMV l yX1_pawnBoots wsX1_pawnBoots ({ frames := 2, cells := 0, slots := 0, locals := 37 }) [.ref (a 0), .int (nI k)] D [(cI, .int)] (zw_H cI a σ) (zw_H cI a (f_pawnB σ k)) := by
  intro sz
  refine Met.ofW (cc := cX1_pawnBoots) (maxL := 2) (ret := none) (by decide) rfl ?_
  intro p e s m args below meth c s₁ B hml hv
  obtain ⟨rfl, hsz, hP, hK, hD⟩ := hv
  have hx := B.exec
  have hb := B.bytes
  have hr := B.returns
  have hts := atoms_spec (ws := wsX1_pawnBoots) B.pre
  have hown : s.vm.findClass RX1 = some m.cls := findClass_of_methodNamed B.named
  have hlocks := B.notSynchronized
  subst hsz
  have hD := hD.self (sz := s.heap.size)
  generalize hAe : va_A (zw_H cI a σ) s.heap.size = A at hD ⊢
  have hA : ∀ q : Nat, s.heap.size ≤ q → A q := fun q h => by rw [← hAe]; exact Or.inr h
  have hS : va_S A s.heap s.heap [] := va_S.rf
  have hP : va_P D vwCl (zw_H cI a σ) s.heap := hP
  have hl := lv_entry ([.ref (a 0), .int (nI k)]) (n := 2) (Nat.le_of_ble_eq_true rfl)
  rw [lg_entry_eq]
  generalize (lg_sl ([.ref (a 0), .int (nI k)]) ++ List.replicate (2 - (lg_sl ([.ref (a 0), .int (nI k)])).length) Slot.unset).toArray = ls at hl ⊢
  have hl : lv_has ls 2 [(0, .ref (a 0)), (1, .int (nI k))] := hl
  have hf16 := hts (.fieldLink RX1 16 "HotBeds$House" "pawn" "I") (by decide +kernel)
  have hf29 := hts (.fieldLink RX1 29 "HotBeds$House" "sailors" "LHotBeds$Sailors;") (by decide +kernel)
  have hf74 := hts (.fieldLink RX1 74 "HotBeds$Sailors" "boots" "[I") (by decide +kernel)
  have hinX1 : ∀ w ∈ u_ws RX1 TX1 5, w ∈ wsX1_pawnBoots := by decide +kernel
  have hinX2 : ∀ w ∈ u_ws RX2 TX2 13, w ∈ wsX1_pawnBoots := by decide +kernel
  refine lv_aload_n hx hb dX1_pawnBoots_0 rfl (lv_at hl 0 rfl) ?_
  refine va_get (D := D) (ci := 1) (v := .ref (a 2)) (C := RX1) (T := TX1) (N := 5) hx hb hts hinX1 hown hK hP 0 rfl rfl 4 (by decide) hf29 (fun _ h9 => h9) rfl dX1_pawnBoots_1 ?_
  refine va_get (D := D) (ci := 2) (v := .ref (a 12)) (C := RX2) (T := TX2) (N := 13) hx hb hts hinX2 hown hK hP 2 rfl rfl 5 (by decide) hf74 (fun _ h9 => h9) rfl dX1_pawnBoots_4 ?_
  refine lv_iload_n hx hb dX1_pawnBoots_7 rfl (lv_at hl 1 rfl) ?_
  refine lv_iconst (v := 0) hx hb dX1_pawnBoots_8 (by decide) ?_
  refine zk_st hx hb hK hP hD hS 12 0 (zwq10 cI a _) rfl (k := k) hk (by decide) (zws10 cI a _ _ _) dX1_pawnBoots_9 (fun H locs hP hD hS => ?_)
  have hP : va_P D vwCl (zw_H cI a (zs σ 10 k 0)) H := hP
  have hD : va_D A (zw_H cI a (zs σ 10 k 0)) := hD
  refine lv_aload_n hx hb dX1_pawnBoots_10 rfl (lv_at hl 0 rfl) ?_
  refine va_get (D := D) (ci := 1) (v := .ref (a 2)) (C := RX1) (T := TX1) (N := 5) hx hb hts hinX1 hown hK hP 0 rfl rfl 4 (by decide) hf29 (fun _ h9 => h9) rfl dX1_pawnBoots_11 ?_
  refine lv_iload_n hx hb dX1_pawnBoots_14 rfl (lv_at hl 1 rfl) ?_
  refine lv_aload_n hx hb dX1_pawnBoots_15 rfl (lv_at hl 0 rfl) ?_
  refine va_get (D := D) (ci := 1) (v := .int (σ 0 2)) (C := RX1) (T := TX1) (N := 5) hx hb hts hinX1 hown hK hP 0 rfl rfl 2 (by decide) hf16 (fun _ h9 => h9) rfl dX1_pawnBoots_16 ?_
  have hF := zfree hD hS hA
  refine zk_V (va_runV (As := [.int (nI k), .int (σ 0 2)]) (rest := []) ⟨hx, hb, hml, hown, hts⟩ (c_X2_earn l D cI a (zs σ 10 k 0) (k := k) hk (σ 0 2) _) (cwV 2 hts gX1_pawnBoots_X2_earn rfl rfl rfl zdX2_earn ⟨Nat.le_of_ble_eq_true rfl, Nat.le_of_ble_eq_true rfl⟩) ⟨zbl _, va_recv hK hP (ci := 2) (q0 := 2) rfl rfl, zpr hK hP hD⟩ rfl rfl hl.1 rfl (lv_room (Nat.le_of_ble_eq_true rfl)) dX1_pawnBoots_19 ⟨Nat.zero_le _, Nat.zero_le _⟩) hS hF (fun H locs hkp hP1 hD1 hS => ?_)
  have hP := hP1
  have hD := hD1.weaken (fun _ _ _ z => hF _ z)
  have hP : va_P D vwCl (zw_H cI a (f_earn (zs σ 10 k 0) k (σ 0 2))) H := hP
  have hD : va_D A (zw_H cI a (f_earn (zs σ 10 k 0) k (σ 0 2))) := hD
  have e9 : f_pawnB σ k = f_earn (zs σ 10 k 0) k (σ 0 2) := by simp only [f_pawnB]
  have hP9 : va_P D vwCl (zw_H cI a (f_pawnB σ k)) H := by rw [e9]; exact hP
  have hD9 : va_D A (zw_H cI a (f_pawnB σ k)) := by rw [e9]; exact hD
  exact W.vret hx hb hr (fun t ht hW => ⟨⟨(), rfl, trivial, by rw [ht]; exact hP9, va_K.moved hW.alike hK, hD9⟩, hS.F ht⟩) hS.2.2 dX1_pawnBoots_22

set_option maxHeartbeats 4000000 in
set_option maxRecDepth 100000 in
theorem c_X1_canRedeemBoots (l : Launch) (D : va_G) (cI : ClassId) (a : Nat → Nat) (σ : zS) {k : Nat} (hk : k < 10) : zMR l yX1_canRedeemBoots wsX1_canRedeemBoots ({ frames := 1, cells := 0, slots := 0, locals := 21 }) [.ref (a 0), .int (nI k)] D [(cI, .int)] (zw_H cI a σ) (zb (f_can σ k)) := by
  intro sz
  refine Met.ofW (cc := cX1_canRedeemBoots) (maxL := 2) (ret := (some .boolean)) (by decide) rfl ?_
  intro p e s m args below meth c s₁ B hml hv
  obtain ⟨rfl, hsz, hP, hK, hD⟩ := hv
  have hx := B.exec
  have hb := B.bytes
  have hr := B.returns
  have hts := atoms_spec (ws := wsX1_canRedeemBoots) B.pre
  have hown : s.vm.findClass RX1 = some m.cls := findClass_of_methodNamed B.named
  have hlocks := B.notSynchronized
  have hS : va_S (fun _ => False) s.heap s.heap [] := va_S.rf
  have hP : va_P D vwCl (zw_H cI a σ) s.heap := hP
  have hl := lv_entry ([.ref (a 0), .int (nI k)]) (n := 2) (Nat.le_of_ble_eq_true rfl)
  rw [lg_entry_eq]
  generalize (lg_sl ([.ref (a 0), .int (nI k)]) ++ List.replicate (2 - (lg_sl ([.ref (a 0), .int (nI k)])).length) Slot.unset).toArray = ls at hl ⊢
  have hl : lv_has ls 2 [(0, .ref (a 0)), (1, .int (nI k))] := hl
  have hf16 := hts (.fieldLink RX1 16 "HotBeds$House" "pawn" "I") (by decide +kernel)
  have hf29 := hts (.fieldLink RX1 29 "HotBeds$House" "sailors" "LHotBeds$Sailors;") (by decide +kernel)
  have hf84 := hts (.fieldLink RX1 84 "HotBeds$Sailors" "purse" "[I") (by decide +kernel)
  have hinX1 : ∀ w ∈ u_ws RX1 TX1 5, w ∈ wsX1_canRedeemBoots := by decide +kernel
  have hinX2 : ∀ w ∈ u_ws RX2 TX2 13, w ∈ wsX1_canRedeemBoots := by decide +kernel
  refine lv_aload_n hx hb dX1_canRedeemBoots_0 rfl (lv_at hl 0 rfl) ?_
  refine va_get (D := D) (ci := 1) (v := .ref (a 2)) (C := RX1) (T := TX1) (N := 5) hx hb hts hinX1 hown hK hP 0 rfl rfl 4 (by decide) hf29 (fun _ h9 => h9) rfl dX1_canRedeemBoots_1 ?_
  refine lv_iload_n hx hb dX1_canRedeemBoots_4 rfl (lv_at hl 1 rfl) ?_
  refine zk_R (D := D) (va_runV (As := [.int (nI k)]) (rest := []) ⟨hx, hb, hml, hown, hts⟩ (c_X2_hasBoots l D cI a σ (k := k) hk _) (cwV 1 hts gX1_canRedeemBoots_X2_hasBoots rfl rfl rfl zdX2_hasBoots ⟨Nat.le_of_ble_eq_true rfl, Nat.le_of_ble_eq_true rfl⟩) ⟨zbl _, va_recv hK hP (ci := 2) (q0 := 2) rfl rfl, zpr hK hP hD⟩ rfl rfl hl.1 rfl (lv_room (Nat.le_of_ble_eq_true rfl)) dX1_canRedeemBoots_5 ⟨Nat.zero_le _, Nat.zero_le _⟩) hS (fun r_1 H locs hw hkp hS => ?_)
  have hP := hkp _ hP
  rcases hw with ⟨c_2, rfl⟩ | ⟨c_2, rfl⟩
  · refine lv_if_ne (tgt := 33) hx hb dX1_canRedeemBoots_8 (by decide) (fun _ => ?_) (fun c => absurd c (by decide))
    refine lv_iconst (v := 0) hx hb dX1_canRedeemBoots_33 (by decide) ?_
    exact W.zret (v := 0) hx hb hr rfl (fun t ht hW => ⟨⟨0, (), rfl, Or.inr ⟨(fun z => z.1 c_2), rfl⟩, trivial⟩, hS.F ht⟩) hS.2.2 dX1_canRedeemBoots_34
  · refine lv_if_ne (tgt := 33) hx hb dX1_canRedeemBoots_8 (by decide) (fun c => absurd (by decide) c) (fun _ => ?_)
    refine lv_aload_n hx hb dX1_canRedeemBoots_11 rfl (lv_at hl 0 rfl) ?_
    refine va_get (D := D) (ci := 1) (v := .ref (a 2)) (C := RX1) (T := TX1) (N := 5) hx hb hts hinX1 hown hK hP 0 rfl rfl 4 (by decide) hf29 (fun _ h9 => h9) rfl dX1_canRedeemBoots_12 ?_
    refine va_get (D := D) (ci := 2) (v := .ref (a 11)) (C := RX2) (T := TX2) (N := 13) hx hb hts hinX2 hown hK hP 2 rfl rfl 4 (by decide) hf84 (fun _ h9 => h9) rfl dX1_canRedeemBoots_15 ?_
    refine lv_iload_n hx hb dX1_canRedeemBoots_18 rfl (lv_at hl 1 rfl) ?_
    refine zk_ld hx hb hK hP 11 0 (zwq9 cI a _) rfl (k := k) hk (by decide) (v := σ 9 k) rfl dX1_canRedeemBoots_19 ?_
    refine lv_aload_n hx hb dX1_canRedeemBoots_20 rfl (lv_at hl 0 rfl) ?_
    refine va_get (D := D) (ci := 1) (v := .int (σ 0 2)) (C := RX1) (T := TX1) (N := 5) hx hb hts hinX1 hown hK hP 0 rfl rfl 2 (by decide) hf16 (fun _ h9 => h9) rfl dX1_canRedeemBoots_21 ?_
    refine lv_iconst (v := 2) hx hb dX1_canRedeemBoots_24 (by decide) ?_
    refine lv_iadd hx hb dX1_canRedeemBoots_25 ?_
    refine lv_icmp_lt (tgt := 33) hx hb dX1_canRedeemBoots_26 (by decide) (fun c_5 => ?_) (fun c_5 => ?_)
    · refine lv_iconst (v := 0) hx hb dX1_canRedeemBoots_33 (by decide) ?_
      exact W.zret (v := 0) hx hb hr rfl (fun t ht hW => ⟨⟨0, (), rfl, Or.inr ⟨(fun z => z.2 c_5), rfl⟩, trivial⟩, hS.F ht⟩) hS.2.2 dX1_canRedeemBoots_34
    · refine lv_iconst (v := 1) hx hb dX1_canRedeemBoots_29 (by decide) ?_
      refine lv_goto (tgt := 34) hx hb dX1_canRedeemBoots_30 (by decide) ?_
      exact W.zret (v := 1) hx hb hr rfl (fun t ht hW => ⟨⟨1, (), rfl, Or.inl ⟨⟨c_2, c_5⟩, rfl⟩, trivial⟩, hS.F ht⟩) hS.2.2 dX1_canRedeemBoots_34

set_option maxHeartbeats 4000000 in
set_option maxRecDepth 100000 in
theorem c_X1_redeemBoots (l : Launch) (D : va_G) (cI : ClassId) (a : Nat → Nat) (σ : zS) {k : Nat} (hk : k < 10) : zMV l yX1_redeemBoots wsX1_redeemBoots ({ frames := 0, cells := 0, slots := 0, locals := 0 }) [.ref (a 0), .int (nI k)] D [(cI, .int)] (zw_H cI a σ) (zw_H cI a (f_red σ k)) := by
  intro sz
  refine Met.ofW (cc := cX1_redeemBoots) (maxL := 2) (ret := none) (by decide) rfl ?_
  intro p e s m args below meth c s₁ B hml hv
  obtain ⟨rfl, hsz, hP, hK, hD⟩ := hv
  have hx := B.exec
  have hb := B.bytes
  have hr := B.returns
  have hts := atoms_spec (ws := wsX1_redeemBoots) B.pre
  have hown : s.vm.findClass RX1 = some m.cls := findClass_of_methodNamed B.named
  have hlocks := B.notSynchronized
  subst hsz
  have hD := hD.self (sz := s.heap.size)
  generalize hAe : va_A (zw_H cI a σ) s.heap.size = A at hD ⊢
  have hA : ∀ q : Nat, s.heap.size ≤ q → A q := fun q h => by rw [← hAe]; exact Or.inr h
  have hS : va_S A s.heap s.heap [] := va_S.rf
  have hP : va_P D vwCl (zw_H cI a σ) s.heap := hP
  have hl := lv_entry ([.ref (a 0), .int (nI k)]) (n := 2) (Nat.le_of_ble_eq_true rfl)
  rw [lg_entry_eq]
  generalize (lg_sl ([.ref (a 0), .int (nI k)]) ++ List.replicate (2 - (lg_sl ([.ref (a 0), .int (nI k)])).length) Slot.unset).toArray = ls at hl ⊢
  have hl : lv_has ls 2 [(0, .ref (a 0)), (1, .int (nI k))] := hl
  have hf16 := hts (.fieldLink RX1 16 "HotBeds$House" "pawn" "I") (by decide +kernel)
  have hf29 := hts (.fieldLink RX1 29 "HotBeds$House" "sailors" "LHotBeds$Sailors;") (by decide +kernel)
  have hf74 := hts (.fieldLink RX1 74 "HotBeds$Sailors" "boots" "[I") (by decide +kernel)
  have hf84 := hts (.fieldLink RX1 84 "HotBeds$Sailors" "purse" "[I") (by decide +kernel)
  have hinX1 : ∀ w ∈ u_ws RX1 TX1 5, w ∈ wsX1_redeemBoots := by decide +kernel
  have hinX2 : ∀ w ∈ u_ws RX2 TX2 13, w ∈ wsX1_redeemBoots := by decide +kernel
  refine lv_aload_n hx hb dX1_redeemBoots_0 rfl (lv_at hl 0 rfl) ?_
  refine va_get (D := D) (ci := 1) (v := .ref (a 2)) (C := RX1) (T := TX1) (N := 5) hx hb hts hinX1 hown hK hP 0 rfl rfl 4 (by decide) hf29 (fun _ h9 => h9) rfl dX1_redeemBoots_1 ?_
  refine va_get (D := D) (ci := 2) (v := .ref (a 11)) (C := RX2) (T := TX2) (N := 13) hx hb hts hinX2 hown hK hP 2 rfl rfl 4 (by decide) hf84 (fun _ h9 => h9) rfl dX1_redeemBoots_4 ?_
  refine lv_iload_n hx hb dX1_redeemBoots_7 rfl (lv_at hl 1 rfl) ?_
  refine lv_dup2_11 hx hb dX1_redeemBoots_8 rfl rfl ?_
  refine zk_ld hx hb hK hP 11 0 (zwq9 cI a _) rfl (k := k) hk (by decide) (v := σ 9 k) rfl dX1_redeemBoots_9 ?_
  refine lv_aload_n hx hb dX1_redeemBoots_10 rfl (lv_at hl 0 rfl) ?_
  refine va_get (D := D) (ci := 1) (v := .int (σ 0 2)) (C := RX1) (T := TX1) (N := 5) hx hb hts hinX1 hown hK hP 0 rfl rfl 2 (by decide) hf16 (fun _ h9 => h9) rfl dX1_redeemBoots_11 ?_
  refine lv_iconst (v := 2) hx hb dX1_redeemBoots_14 (by decide) ?_
  refine lv_iadd hx hb dX1_redeemBoots_15 ?_
  refine lv_isub hx hb dX1_redeemBoots_16 ?_
  refine zk_st hx hb hK hP hD hS 11 0 (zwq9 cI a _) rfl (k := k) hk (by decide) (zws9 cI a _ _ _) dX1_redeemBoots_17 (fun H locs hP hD hS => ?_)
  have hP : va_P D vwCl (zw_H cI a (zs σ 9 k ((σ 9 k) - ((σ 0 2) + 2)))) H := hP
  have hD : va_D A (zw_H cI a (zs σ 9 k ((σ 9 k) - ((σ 0 2) + 2)))) := hD
  refine lv_aload_n hx hb dX1_redeemBoots_18 rfl (lv_at hl 0 rfl) ?_
  refine va_get (D := D) (ci := 1) (v := .ref (a 2)) (C := RX1) (T := TX1) (N := 5) hx hb hts hinX1 hown hK hP 0 rfl rfl 4 (by decide) hf29 (fun _ h9 => h9) rfl dX1_redeemBoots_19 ?_
  refine va_get (D := D) (ci := 2) (v := .ref (a 12)) (C := RX2) (T := TX2) (N := 13) hx hb hts hinX2 hown hK hP 2 rfl rfl 5 (by decide) hf74 (fun _ h9 => h9) rfl dX1_redeemBoots_22 ?_
  refine lv_iload_n hx hb dX1_redeemBoots_25 rfl (lv_at hl 1 rfl) ?_
  refine lv_iconst (v := 1) hx hb dX1_redeemBoots_26 (by decide) ?_
  refine zk_st hx hb hK hP hD hS 12 0 (zwq10 cI a _) rfl (k := k) hk (by decide) (zws10 cI a _ _ _) dX1_redeemBoots_27 (fun H locs hP hD hS => ?_)
  have hP : va_P D vwCl (zw_H cI a (zs (zs σ 9 k ((σ 9 k) - ((σ 0 2) + 2))) 10 k 1)) H := hP
  have hD : va_D A (zw_H cI a (zs (zs σ 9 k ((σ 9 k) - ((σ 0 2) + 2))) 10 k 1)) := hD
  have e9 : f_red σ k = zs (zs σ 9 k ((σ 9 k) - ((σ 0 2) + 2))) 10 k 1 := by simp only [f_red]
  have hP9 : va_P D vwCl (zw_H cI a (f_red σ k)) H := by rw [e9]; exact hP
  have hD9 : va_D A (zw_H cI a (f_red σ k)) := by rw [e9]; exact hD
  exact W.vret hx hb hr (fun t ht hW => ⟨⟨(), rfl, trivial, by rw [ht]; exact hP9, va_K.moved hW.alike hK, hD9⟩, hS.F ht⟩) hS.2.2 dX1_redeemBoots_28

set_option maxHeartbeats 4000000 in
set_option maxRecDepth 100000 in
theorem c_X1_ringBell (l : Launch) (D : va_G) (cI : ClassId) (a : Nat → Nat) (σ : zS) {k : Nat} (hk : k < 10) {nb ns h : Nat} (hC : zC σ nb ns h) : zMV l yX1_ringBell wsX1_ringBell ({ frames := 2, cells := 0, slots := 0, locals := 43 }) [.ref (a 0), .int (nI k)] D [(cI, .int)] (zw_H cI a σ) (zw_H cI a (f_ring σ h k)) := by
  intro sz
  refine Met.ofW (cc := cX1_ringBell) (maxL := 3) (ret := none) (by decide) rfl ?_
  intro p e s m args below meth c s₁ B hml hv
  obtain ⟨rfl, hsz, hP, hK, hD⟩ := hv
  have hx := B.exec
  have hb := B.bytes
  have hr := B.returns
  have hts := atoms_spec (ws := wsX1_ringBell) B.pre
  have hown : s.vm.findClass RX1 = some m.cls := findClass_of_methodNamed B.named
  have hlocks := B.notSynchronized
  subst hsz
  have hD := hD.self (sz := s.heap.size)
  generalize hAe : va_A (zw_H cI a σ) s.heap.size = A at hD ⊢
  have hA : ∀ q : Nat, s.heap.size ≤ q → A q := fun q h => by rw [← hAe]; exact Or.inr h
  have hS : va_S A s.heap s.heap [] := va_S.rf
  have hP : va_P D vwCl (zw_H cI a σ) s.heap := hP
  have hl := lv_entry ([.ref (a 0), .int (nI k)]) (n := 3) (Nat.le_of_ble_eq_true rfl)
  rw [lg_entry_eq]
  generalize (lg_sl ([.ref (a 0), .int (nI k)]) ++ List.replicate (3 - (lg_sl ([.ref (a 0), .int (nI k)])).length) Slot.unset).toArray = ls at hl ⊢
  have hl : lv_has ls 3 [(0, .ref (a 0)), (1, .int (nI k))] := hl
  have hf13 := hts (.fieldLink RX1 13 "HotBeds$House" "bell" "I") (by decide +kernel)
  have hf29 := hts (.fieldLink RX1 29 "HotBeds$House" "sailors" "LHotBeds$Sailors;") (by decide +kernel)
  have hf96 := hts (.fieldLink RX1 96 "HotBeds$Sailors" "heavy" "[I") (by decide +kernel)
  have hinX1 : ∀ w ∈ u_ws RX1 TX1 5, w ∈ wsX1_ringBell := by decide +kernel
  have hinX2 : ∀ w ∈ u_ws RX2 TX2 13, w ∈ wsX1_ringBell := by decide +kernel
  have hnb := hC.2.1
  have hns := hC.2.2.2.1
  have hh := hC.2.2.2.2.2.1
  refine lv_aload_n hx hb dX1_ringBell_0 rfl (lv_at hl 0 rfl) ?_
  refine va_get (D := D) (ci := 1) (v := .ref (a 2)) (C := RX1) (T := TX1) (N := 5) hx hb hts hinX1 hown hK hP 0 rfl rfl 4 (by decide) hf29 (fun _ h9 => h9) rfl dX1_ringBell_1 ?_
  refine lv_iload_n hx hb dX1_ringBell_4 rfl (lv_at hl 1 rfl) ?_
  refine zk_R (D := D) (va_runV (As := [.int (nI k)]) (rest := []) ⟨hx, hb, hml, hown, hts⟩ (c_X2_isUp l D cI a σ (k := k) hk _) (cwV 1 hts gX1_ringBell_X2_isUp rfl rfl rfl zdX2_isUp ⟨Nat.le_of_ble_eq_true rfl, Nat.le_of_ble_eq_true rfl⟩) ⟨zbl _, va_recv hK hP (ci := 2) (q0 := 2) rfl rfl, zpr hK hP hD⟩ rfl rfl hl.1 rfl (lv_room (Nat.le_of_ble_eq_true rfl)) dX1_ringBell_5 ⟨Nat.zero_le _, Nat.zero_le _⟩) hS (fun r_1 H locs hw hkp hS => ?_)
  have hP := hkp _ hP
  rcases hw with ⟨c_2, rfl⟩ | ⟨c_2, rfl⟩
  · refine lv_if_ne (tgt := 19) hx hb dX1_ringBell_8 (by decide) (fun _ => ?_) (fun c => absurd c (by decide))
    have e9 : f_ring σ h k = σ := by simp only [f_ring, if_pos c_2]
    have hP9 : va_P D vwCl (zw_H cI a (f_ring σ h k)) H := by rw [e9]; exact hP
    have hD9 : va_D A (zw_H cI a (f_ring σ h k)) := by rw [e9]; exact hD
    exact W.vret hx hb hr (fun t ht hW => ⟨⟨(), rfl, trivial, by rw [ht]; exact hP9, va_K.moved hW.alike hK, hD9⟩, hS.F ht⟩) hS.2.2 dX1_ringBell_19
  · refine lv_if_ne (tgt := 19) hx hb dX1_ringBell_8 (by decide) (fun c => absurd (by decide) c) (fun _ => ?_)
    refine lv_aload_n hx hb dX1_ringBell_11 rfl (lv_at hl 0 rfl) ?_
    refine lv_iload_n hx hb dX1_ringBell_12 rfl (lv_at hl 1 rfl) ?_
    refine zk_R (D := D) (va_runV (As := [.int (nI k)]) (rest := []) ⟨hx, hb, hml, hown, hts⟩ (c_X1_isInWatch l D cI a σ (k := k) hk hC _) (cwV 1 hts gX1_ringBell_X1_isInWatch rfl rfl rfl zdX1_isInWatch ⟨Nat.le_of_ble_eq_true rfl, Nat.le_of_ble_eq_true rfl⟩) ⟨zbl _, va_recv hK hP (ci := 1) (q0 := 0) rfl rfl, zpr hK hP hD⟩ rfl rfl hl.1 rfl (lv_room (Nat.le_of_ble_eq_true rfl)) dX1_ringBell_13 ⟨Nat.zero_le _, Nat.zero_le _⟩) hS (fun r_5 H locs hw hkp hS => ?_)
    have hP := hkp _ hP
    rcases hw with ⟨c_6, rfl⟩ | ⟨c_6, rfl⟩
    · refine lv_if_eq (tgt := 20) hx hb dX1_ringBell_16 (by decide) (fun c => absurd c (by decide)) (fun _ => ?_)
      have e9 : f_ring σ h k = σ := by simp only [f_ring, if_neg c_2, if_pos c_6]
      have hP9 : va_P D vwCl (zw_H cI a (f_ring σ h k)) H := by rw [e9]; exact hP
      have hD9 : va_D A (zw_H cI a (f_ring σ h k)) := by rw [e9]; exact hD
      exact W.vret hx hb hr (fun t ht hW => ⟨⟨(), rfl, trivial, by rw [ht]; exact hP9, va_K.moved hW.alike hK, hD9⟩, hS.F ht⟩) hS.2.2 dX1_ringBell_19
    · refine lv_if_eq (tgt := 20) hx hb dX1_ringBell_16 (by decide) (fun _ => ?_) (fun c => absurd (by decide) c)
      refine lv_aload_n hx hb dX1_ringBell_20 rfl (lv_at hl 0 rfl) ?_
      refine va_get (D := D) (ci := 1) (v := .int (σ 0 1)) (C := RX1) (T := TX1) (N := 5) hx hb hts hinX1 hown hK hP 0 rfl rfl 1 (by decide) hf13 (fun _ h9 => h9) rfl dX1_ringBell_21 ?_
      refine lv_iconst (v := 2) hx hb dX1_ringBell_24 (by decide) ?_
      refine lv_aload_n hx hb dX1_ringBell_25 rfl (lv_at hl 0 rfl) ?_
      refine lv_iload_n hx hb dX1_ringBell_26 rfl (lv_at hl 1 rfl) ?_
      refine zk_R (D := D) (va_runV (As := [.int (nI k)]) (rest := [.int 2, .int (σ 0 1)]) ⟨hx, hb, hml, hown, hts⟩ (c_X1_hoursSinceWatch l D cI a σ (k := k) hk hC _) (cwV 1 hts gX1_ringBell_X1_hoursSinceWatch rfl rfl rfl zdX1_hoursSinceWatch ⟨Nat.le_of_ble_eq_true rfl, Nat.le_of_ble_eq_true rfl⟩) ⟨zbl _, va_recv hK hP (ci := 1) (q0 := 0) rfl rfl, zpr hK hP hD⟩ rfl rfl hl.1 rfl (lv_room (Nat.le_of_ble_eq_true rfl)) dX1_ringBell_27 ⟨Nat.zero_le _, Nat.zero_le _⟩) hS (fun r_9 H locs hw hkp hS => ?_)
      have hP := hkp _ hP
      subst hw
      refine lv_imul hx hb dX1_ringBell_30 ?_
      refine lv_iadd hx hb dX1_ringBell_31 ?_
      refine lv_istore_n (lv' := [(2, .int ((σ 0 1) + (2 * (nI ((h % 24 + 24 - ((σ 6 k).toNatClampNeg + 1) * 8) % 24))))), (0, .ref (a 0)), (1, .int (nI k))]) hx hb dX1_ringBell_32 rfl hl (by decide) rfl (fun ls hl => ?_)
      refine lv_iload_n hx hb dX1_ringBell_33 rfl (lv_at hl 0 rfl) ?_
      refine lv_aload_n hx hb dX1_ringBell_34 rfl (lv_at hl 1 rfl) ?_
      refine va_get (D := D) (ci := 1) (v := .ref (a 2)) (C := RX1) (T := TX1) (N := 5) hx hb hts hinX1 hown hK hP 0 rfl rfl 4 (by decide) hf29 (fun _ h9 => h9) rfl dX1_ringBell_35 ?_
      refine va_get (D := D) (ci := 2) (v := .ref (a 9)) (C := RX2) (T := TX2) (N := 13) hx hb hts hinX2 hown hK hP 2 rfl rfl 2 (by decide) hf96 (fun _ h9 => h9) rfl dX1_ringBell_38 ?_
      refine lv_iload_n hx hb dX1_ringBell_41 rfl (lv_at hl 2 rfl) ?_
      refine zk_ld hx hb hK hP 9 0 (zwq7 cI a _) rfl (k := k) hk (by decide) (v := σ 7 k) rfl dX1_ringBell_42 ?_
      refine lv_icmp_lt (tgt := 54) hx hb dX1_ringBell_43 (by decide) (fun c_10 => ?_) (fun c_10 => ?_)
      · refine lv_aload_n hx hb dX1_ringBell_54 rfl (lv_at hl 1 rfl) ?_
        refine va_get (D := D) (ci := 1) (v := .ref (a 2)) (C := RX1) (T := TX1) (N := 5) hx hb hts hinX1 hown hK hP 0 rfl rfl 4 (by decide) hf29 (fun _ h9 => h9) rfl dX1_ringBell_55 ?_
        refine lv_iload_n hx hb dX1_ringBell_58 rfl (lv_at hl 2 rfl) ?_
        have hF := zfree hD hS hA
        refine zk_V (va_runV (As := [.int (nI k)]) (rest := []) ⟨hx, hb, hml, hown, hts⟩ (c_X2_beLate l D cI a σ (k := k) hk _) (cwV 1 hts gX1_ringBell_X2_beLate rfl rfl rfl zdX2_beLate ⟨Nat.le_of_ble_eq_true rfl, Nat.le_of_ble_eq_true rfl⟩) ⟨zbl _, va_recv hK hP (ci := 2) (q0 := 2) rfl rfl, zpr hK hP hD⟩ rfl rfl hl.1 rfl (lv_room (Nat.le_of_ble_eq_true rfl)) dX1_ringBell_59 ⟨Nat.zero_le _, Nat.zero_le _⟩) hS hF (fun H locs hkp hP1 hD1 hS => ?_)
        have hP := hP1
        have hD := hD1.weaken (fun _ _ _ z => hF _ z)
        have hP : va_P D vwCl (zw_H cI a (f_late σ k)) H := hP
        have hD : va_D A (zw_H cI a (f_late σ k)) := hD
        have e9 : f_ring σ h k = f_late σ k := by simp only [f_ring, if_neg c_2, if_neg c_6, if_pos c_10]
        have hP9 : va_P D vwCl (zw_H cI a (f_ring σ h k)) H := by rw [e9]; exact hP
        have hD9 : va_D A (zw_H cI a (f_ring σ h k)) := by rw [e9]; exact hD
        exact W.vret hx hb hr (fun t ht hW => ⟨⟨(), rfl, trivial, by rw [ht]; exact hP9, va_K.moved hW.alike hK, hD9⟩, hS.F ht⟩) hS.2.2 dX1_ringBell_62
      · refine lv_aload_n hx hb dX1_ringBell_46 rfl (lv_at hl 1 rfl) ?_
        refine lv_iload_n hx hb dX1_ringBell_47 rfl (lv_at hl 2 rfl) ?_
        have hF := zfree hD hS hA
        refine zk_V (va_runV (As := [.int (nI k)]) (rest := []) ⟨hx, hb, hml, hown, hts⟩ (c_X1_getUp l D cI a σ (k := k) hk hC _) (cwV 1 hts gX1_ringBell_X1_getUp rfl rfl rfl zdX1_getUp ⟨Nat.le_of_ble_eq_true rfl, Nat.le_of_ble_eq_true rfl⟩) ⟨zbl _, va_recv hK hP (ci := 1) (q0 := 0) rfl rfl, zpr hK hP hD⟩ rfl rfl hl.1 rfl (lv_room (Nat.le_of_ble_eq_true rfl)) dX1_ringBell_48 ⟨Nat.zero_le _, Nat.zero_le _⟩) hS hF (fun H locs hkp hP1 hD1 hS => ?_)
        have hP := hP1
        have hD := hD1.weaken (fun _ _ _ z => hF _ z)
        have hP : va_P D vwCl (zw_H cI a (f_getUp σ k)) H := hP
        have hD : va_D A (zw_H cI a (f_getUp σ k)) := hD
        refine lv_goto (tgt := 62) hx hb dX1_ringBell_51 (by decide) ?_
        have e9 : f_ring σ h k = f_getUp σ k := by simp only [f_ring, if_neg c_2, if_neg c_6, if_neg c_10]
        have hP9 : va_P D vwCl (zw_H cI a (f_ring σ h k)) H := by rw [e9]; exact hP
        have hD9 : va_D A (zw_H cI a (f_ring σ h k)) := by rw [e9]; exact hD
        exact W.vret hx hb hr (fun t ht hW => ⟨⟨(), rfl, trivial, by rw [ht]; exact hP9, va_K.moved hW.alike hK, hD9⟩, hS.F ht⟩) hS.2.2 dX1_ringBell_62

set_option maxHeartbeats 4000000 in
set_option maxRecDepth 100000 in
theorem c_X1_getInto (l : Launch) (D : va_G) (cI : ClassId) (a : Nat → Nat) (σ : zS) {k b : Nat} (hk : k < 10) (hb6 : b < 6) : zMV l yX1_getInto wsX1_getInto ({ frames := 0, cells := 0, slots := 0, locals := 0 }) [.ref (a 0), .int (nI k), .int (nI b)] D [(cI, .int)] (zw_H cI a σ) (zw_H cI a (f_into σ k b)) := by
  intro sz
  refine Met.ofW (cc := cX1_getInto) (maxL := 4) (ret := none) (by decide) rfl ?_
  intro p e s m args below meth c s₁ B hml hv
  obtain ⟨rfl, hsz, hP, hK, hD⟩ := hv
  have hx := B.exec
  have hb := B.bytes
  have hr := B.returns
  have hts := atoms_spec (ws := wsX1_getInto) B.pre
  have hown : s.vm.findClass RX1 = some m.cls := findClass_of_methodNamed B.named
  have hlocks := B.notSynchronized
  subst hsz
  have hD := hD.self (sz := s.heap.size)
  generalize hAe : va_A (zw_H cI a σ) s.heap.size = A at hD ⊢
  have hA : ∀ q : Nat, s.heap.size ≤ q → A q := fun q h => by rw [← hAe]; exact Or.inr h
  have hS : va_S A s.heap s.heap [] := va_S.rf
  have hP : va_P D vwCl (zw_H cI a σ) s.heap := hP
  have hl := lv_entry ([.ref (a 0), .int (nI k), .int (nI b)]) (n := 4) (Nat.le_of_ble_eq_true rfl)
  rw [lg_entry_eq]
  generalize (lg_sl ([.ref (a 0), .int (nI k), .int (nI b)]) ++ List.replicate (4 - (lg_sl ([.ref (a 0), .int (nI k), .int (nI b)])).length) Slot.unset).toArray = ls at hl ⊢
  have hl : lv_has ls 4 [(0, .ref (a 0)), (1, .int (nI k)), (2, .int (nI b))] := hl
  have hf139 := hts (.fieldLink RX1 139 "HotBeds$Beds" "price" "[I") (by decide +kernel)
  have hf148 := hts (.fieldLink RX1 148 "HotBeds$Beds" "paid" "[I") (by decide +kernel)
  have hf151 := hts (.fieldLink RX1 151 "HotBeds$Beds" "entries" "[I") (by decide +kernel)
  have hf22 := hts (.fieldLink RX1 22 "HotBeds$House" "beds" "LHotBeds$Beds;") (by decide +kernel)
  have hf29 := hts (.fieldLink RX1 29 "HotBeds$House" "sailors" "LHotBeds$Sailors;") (by decide +kernel)
  have hf61 := hts (.fieldLink RX1 61 "HotBeds$Sailors" "bed" "[I") (by decide +kernel)
  have hf68 := hts (.fieldLink RX1 68 "HotBeds$Beds" "sleeper" "[I") (by decide +kernel)
  have hf71 := hts (.fieldLink RX1 71 "HotBeds$Sailors" "place" "[I") (by decide +kernel)
  have hf84 := hts (.fieldLink RX1 84 "HotBeds$Sailors" "purse" "[I") (by decide +kernel)
  have hinX0 : ∀ w ∈ u_ws RX0 TX0 6, w ∈ wsX1_getInto := by decide +kernel
  have hinX1 : ∀ w ∈ u_ws RX1 TX1 5, w ∈ wsX1_getInto := by decide +kernel
  have hinX2 : ∀ w ∈ u_ws RX2 TX2 13, w ∈ wsX1_getInto := by decide +kernel
  refine lv_aload_n hx hb dX1_getInto_0 rfl (lv_at hl 0 rfl) ?_
  refine va_get (D := D) (ci := 1) (v := .ref (a 1)) (C := RX1) (T := TX1) (N := 5) hx hb hts hinX1 hown hK hP 0 rfl rfl 3 (by decide) hf22 (fun _ h9 => h9) rfl dX1_getInto_1 ?_
  refine va_get (D := D) (ci := 0) (v := .ref (a 3)) (C := RX0) (T := TX0) (N := 6) hx hb hts hinX0 hown hK hP 1 rfl rfl 1 (by decide) hf139 (fun _ h9 => h9) rfl dX1_getInto_4 ?_
  refine lv_iload_n hx hb dX1_getInto_7 rfl (lv_at hl 2 rfl) ?_
  refine zk_ld hx hb hK hP 3 0 (zwq1 cI a _) rfl (k := b) hb6 (by decide) (v := σ 1 b) rfl dX1_getInto_8 ?_
  refine lv_istore_n (lv' := [(3, .int (σ 1 b)), (0, .ref (a 0)), (1, .int (nI k)), (2, .int (nI b))]) hx hb dX1_getInto_9 rfl hl (by decide) rfl (fun ls hl => ?_)
  refine lv_aload_n hx hb dX1_getInto_10 rfl (lv_at hl 1 rfl) ?_
  refine va_get (D := D) (ci := 1) (v := .ref (a 2)) (C := RX1) (T := TX1) (N := 5) hx hb hts hinX1 hown hK hP 0 rfl rfl 4 (by decide) hf29 (fun _ h9 => h9) rfl dX1_getInto_11 ?_
  refine va_get (D := D) (ci := 2) (v := .ref (a 11)) (C := RX2) (T := TX2) (N := 13) hx hb hts hinX2 hown hK hP 2 rfl rfl 4 (by decide) hf84 (fun _ h9 => h9) rfl dX1_getInto_14 ?_
  refine lv_iload_n hx hb dX1_getInto_17 rfl (lv_at hl 2 rfl) ?_
  refine lv_dup2_11 hx hb dX1_getInto_18 rfl rfl ?_
  refine zk_ld hx hb hK hP 11 0 (zwq9 cI a _) rfl (k := k) hk (by decide) (v := σ 9 k) rfl dX1_getInto_19 ?_
  refine lv_iload_n hx hb dX1_getInto_20 rfl (lv_at hl 0 rfl) ?_
  refine lv_isub hx hb dX1_getInto_21 ?_
  refine zk_st hx hb hK hP hD hS 11 0 (zwq9 cI a _) rfl (k := k) hk (by decide) (zws9 cI a _ _ _) dX1_getInto_22 (fun H locs hP hD hS => ?_)
  have hP : va_P D vwCl (zw_H cI a (zs σ 9 k ((σ 9 k) - (σ 1 b)))) H := hP
  have hD : va_D A (zw_H cI a (zs σ 9 k ((σ 9 k) - (σ 1 b)))) := hD
  refine lv_aload_n hx hb dX1_getInto_23 rfl (lv_at hl 1 rfl) ?_
  refine va_get (D := D) (ci := 1) (v := .ref (a 2)) (C := RX1) (T := TX1) (N := 5) hx hb hts hinX1 hown hK hP 0 rfl rfl 4 (by decide) hf29 (fun _ h9 => h9) rfl dX1_getInto_24 ?_
  refine va_get (D := D) (ci := 2) (v := .ref (a 14)) (C := RX2) (T := TX2) (N := 13) hx hb hts hinX2 hown hK hP 2 rfl rfl 7 (by decide) hf71 (fun _ h9 => h9) rfl dX1_getInto_27 ?_
  refine lv_iload_n hx hb dX1_getInto_30 rfl (lv_at hl 2 rfl) ?_
  refine lv_iconst (v := 1) hx hb dX1_getInto_31 (by decide) ?_
  refine zk_st hx hb hK hP hD hS 14 0 (zwq12 cI a _) rfl (k := k) hk (by decide) (zws12 cI a _ _ _) dX1_getInto_32 (fun H locs hP hD hS => ?_)
  have hP : va_P D vwCl (zw_H cI a (zs (zs σ 9 k ((σ 9 k) - (σ 1 b))) 12 k 1)) H := hP
  have hD : va_D A (zw_H cI a (zs (zs σ 9 k ((σ 9 k) - (σ 1 b))) 12 k 1)) := hD
  refine lv_aload_n hx hb dX1_getInto_33 rfl (lv_at hl 1 rfl) ?_
  refine va_get (D := D) (ci := 1) (v := .ref (a 2)) (C := RX1) (T := TX1) (N := 5) hx hb hts hinX1 hown hK hP 0 rfl rfl 4 (by decide) hf29 (fun _ h9 => h9) rfl dX1_getInto_34 ?_
  refine va_get (D := D) (ci := 2) (v := .ref (a 15)) (C := RX2) (T := TX2) (N := 13) hx hb hts hinX2 hown hK hP 2 rfl rfl 8 (by decide) hf61 (fun _ h9 => h9) rfl dX1_getInto_37 ?_
  refine lv_iload_n hx hb dX1_getInto_40 rfl (lv_at hl 2 rfl) ?_
  refine lv_iload_n hx hb dX1_getInto_41 rfl (lv_at hl 3 rfl) ?_
  refine zk_st hx hb hK hP hD hS 15 0 (zwq13 cI a _) rfl (k := k) hk (by decide) (zws13 cI a _ _ _) dX1_getInto_42 (fun H locs hP hD hS => ?_)
  have hP : va_P D vwCl (zw_H cI a (zs (zs (zs σ 9 k ((σ 9 k) - (σ 1 b))) 12 k 1) 13 k (nI b))) H := hP
  have hD : va_D A (zw_H cI a (zs (zs (zs σ 9 k ((σ 9 k) - (σ 1 b))) 12 k 1) 13 k (nI b))) := hD
  refine lv_aload_n hx hb dX1_getInto_43 rfl (lv_at hl 1 rfl) ?_
  refine va_get (D := D) (ci := 1) (v := .ref (a 1)) (C := RX1) (T := TX1) (N := 5) hx hb hts hinX1 hown hK hP 0 rfl rfl 3 (by decide) hf22 (fun _ h9 => h9) rfl dX1_getInto_44 ?_
  refine va_get (D := D) (ci := 0) (v := .ref (a 6)) (C := RX0) (T := TX0) (N := 6) hx hb hts hinX0 hown hK hP 1 rfl rfl 4 (by decide) hf148 (fun _ h9 => h9) rfl dX1_getInto_47 ?_
  refine lv_iload_n hx hb dX1_getInto_50 rfl (lv_at hl 3 rfl) ?_
  refine lv_dup2_11 hx hb dX1_getInto_51 rfl rfl ?_
  refine zk_ld hx hb hK hP 6 0 (zwq4 cI a _) rfl (k := b) hb6 (by decide) (v := σ 4 b) rfl dX1_getInto_52 ?_
  refine lv_iload_n hx hb dX1_getInto_53 rfl (lv_at hl 0 rfl) ?_
  refine lv_iadd hx hb dX1_getInto_54 ?_
  refine zk_st hx hb hK hP hD hS 6 0 (zwq4 cI a _) rfl (k := b) hb6 (by decide) (zws4 cI a _ _ _) dX1_getInto_55 (fun H locs hP hD hS => ?_)
  have hP : va_P D vwCl (zw_H cI a (zs (zs (zs (zs σ 9 k ((σ 9 k) - (σ 1 b))) 12 k 1) 13 k (nI b)) 4 b ((σ 4 b) + (σ 1 b)))) H := hP
  have hD : va_D A (zw_H cI a (zs (zs (zs (zs σ 9 k ((σ 9 k) - (σ 1 b))) 12 k 1) 13 k (nI b)) 4 b ((σ 4 b) + (σ 1 b)))) := hD
  refine lv_aload_n hx hb dX1_getInto_56 rfl (lv_at hl 1 rfl) ?_
  refine va_get (D := D) (ci := 1) (v := .ref (a 1)) (C := RX1) (T := TX1) (N := 5) hx hb hts hinX1 hown hK hP 0 rfl rfl 3 (by decide) hf22 (fun _ h9 => h9) rfl dX1_getInto_57 ?_
  refine va_get (D := D) (ci := 0) (v := .ref (a 5)) (C := RX0) (T := TX0) (N := 6) hx hb hts hinX0 hown hK hP 1 rfl rfl 3 (by decide) hf151 (fun _ h9 => h9) rfl dX1_getInto_60 ?_
  refine lv_iload_n hx hb dX1_getInto_63 rfl (lv_at hl 3 rfl) ?_
  refine lv_dup2_11 hx hb dX1_getInto_64 rfl rfl ?_
  refine zk_ld hx hb hK hP 5 0 (zwq3 cI a _) rfl (k := b) hb6 (by decide) (v := σ 3 b) rfl dX1_getInto_65 ?_
  refine lv_iconst (v := 1) hx hb dX1_getInto_66 (by decide) ?_
  refine lv_iadd hx hb dX1_getInto_67 ?_
  refine zk_st hx hb hK hP hD hS 5 0 (zwq3 cI a _) rfl (k := b) hb6 (by decide) (zws3 cI a _ _ _) dX1_getInto_68 (fun H locs hP hD hS => ?_)
  have hP : va_P D vwCl (zw_H cI a (zs (zs (zs (zs (zs σ 9 k ((σ 9 k) - (σ 1 b))) 12 k 1) 13 k (nI b)) 4 b ((σ 4 b) + (σ 1 b))) 3 b ((σ 3 b) + 1))) H := hP
  have hD : va_D A (zw_H cI a (zs (zs (zs (zs (zs σ 9 k ((σ 9 k) - (σ 1 b))) 12 k 1) 13 k (nI b)) 4 b ((σ 4 b) + (σ 1 b))) 3 b ((σ 3 b) + 1))) := hD
  refine lv_aload_n hx hb dX1_getInto_69 rfl (lv_at hl 1 rfl) ?_
  refine va_get (D := D) (ci := 1) (v := .ref (a 1)) (C := RX1) (T := TX1) (N := 5) hx hb hts hinX1 hown hK hP 0 rfl rfl 3 (by decide) hf22 (fun _ h9 => h9) rfl dX1_getInto_70 ?_
  refine va_get (D := D) (ci := 0) (v := .ref (a 7)) (C := RX0) (T := TX0) (N := 6) hx hb hts hinX0 hown hK hP 1 rfl rfl 5 (by decide) hf68 (fun _ h9 => h9) rfl dX1_getInto_73 ?_
  refine lv_iload_n hx hb dX1_getInto_76 rfl (lv_at hl 3 rfl) ?_
  refine lv_iload_n hx hb dX1_getInto_77 rfl (lv_at hl 2 rfl) ?_
  refine zk_st hx hb hK hP hD hS 7 0 (zwq5 cI a _) rfl (k := b) hb6 (by decide) (zws5 cI a _ _ _) dX1_getInto_78 (fun H locs hP hD hS => ?_)
  have hP : va_P D vwCl (zw_H cI a (zs (zs (zs (zs (zs (zs σ 9 k ((σ 9 k) - (σ 1 b))) 12 k 1) 13 k (nI b)) 4 b ((σ 4 b) + (σ 1 b))) 3 b ((σ 3 b) + 1)) 5 b (nI k))) H := hP
  have hD : va_D A (zw_H cI a (zs (zs (zs (zs (zs (zs σ 9 k ((σ 9 k) - (σ 1 b))) 12 k 1) 13 k (nI b)) 4 b ((σ 4 b) + (σ 1 b))) 3 b ((σ 3 b) + 1)) 5 b (nI k))) := hD
  have e9 : f_into σ k b = zs (zs (zs (zs (zs (zs σ 9 k ((σ 9 k) - (σ 1 b))) 12 k 1) 13 k (nI b)) 4 b ((σ 4 b) + (σ 1 b))) 3 b ((σ 3 b) + 1)) 5 b (nI k) := by simp only [f_into]
  have hP9 : va_P D vwCl (zw_H cI a (f_into σ k b)) H := by rw [e9]; exact hP
  have hD9 : va_D A (zw_H cI a (f_into σ k b)) := by rw [e9]; exact hD
  exact W.vret hx hb hr (fun t ht hW => ⟨⟨(), rfl, trivial, by rw [ht]; exact hP9, va_K.moved hW.alike hK, hD9⟩, hS.F ht⟩) hS.2.2 dX1_getInto_79

set_option maxHeartbeats 4000000 in
set_option maxRecDepth 100000 in
theorem c_X1_tryBed (l : Launch) (D : va_G) (cI : ClassId) (a : Nat → Nat) (σ : zS) {k b : Nat} (hk : k < 10) (hb6 : b < 6) : zMV l yX1_tryBed wsX1_tryBed ({ frames := 3, cells := 0, slots := 0, locals := 58 }) [.ref (a 0), .int (nI k), .int (nI b)] D [(cI, .int)] (zw_H cI a σ) (zw_H cI a (f_try σ k b)) := by
  intro sz
  refine Met.ofW (cc := cX1_tryBed) (maxL := 5) (ret := none) (by decide) rfl ?_
  intro p e s m args below meth c s₁ B hml hv
  obtain ⟨rfl, hsz, hP, hK, hD⟩ := hv
  have hx := B.exec
  have hb := B.bytes
  have hr := B.returns
  have hts := atoms_spec (ws := wsX1_tryBed) B.pre
  have hown : s.vm.findClass RX1 = some m.cls := findClass_of_methodNamed B.named
  have hlocks := B.notSynchronized
  subst hsz
  have hD := hD.self (sz := s.heap.size)
  generalize hAe : va_A (zw_H cI a σ) s.heap.size = A at hD ⊢
  have hA : ∀ q : Nat, s.heap.size ≤ q → A q := fun q h => by rw [← hAe]; exact Or.inr h
  have hS : va_S A s.heap s.heap [] := va_S.rf
  have hP : va_P D vwCl (zw_H cI a σ) s.heap := hP
  have hl := lv_entry ([.ref (a 0), .int (nI k), .int (nI b)]) (n := 5) (Nat.le_of_ble_eq_true rfl)
  rw [lg_entry_eq]
  generalize (lg_sl ([.ref (a 0), .int (nI k), .int (nI b)]) ++ List.replicate (5 - (lg_sl ([.ref (a 0), .int (nI k), .int (nI b)])).length) Slot.unset).toArray = ls at hl ⊢
  have hl : lv_has ls 5 [(0, .ref (a 0)), (1, .int (nI k)), (2, .int (nI b))] := hl
  have hf139 := hts (.fieldLink RX1 139 "HotBeds$Beds" "price" "[I") (by decide +kernel)
  have hf16 := hts (.fieldLink RX1 16 "HotBeds$House" "pawn" "I") (by decide +kernel)
  have hf22 := hts (.fieldLink RX1 22 "HotBeds$House" "beds" "LHotBeds$Beds;") (by decide +kernel)
  have hf29 := hts (.fieldLink RX1 29 "HotBeds$House" "sailors" "LHotBeds$Sailors;") (by decide +kernel)
  have hf84 := hts (.fieldLink RX1 84 "HotBeds$Sailors" "purse" "[I") (by decide +kernel)
  have hinX0 : ∀ w ∈ u_ws RX0 TX0 6, w ∈ wsX1_tryBed := by decide +kernel
  have hinX1 : ∀ w ∈ u_ws RX1 TX1 5, w ∈ wsX1_tryBed := by decide +kernel
  have hinX2 : ∀ w ∈ u_ws RX2 TX2 13, w ∈ wsX1_tryBed := by decide +kernel
  refine lv_aload_n hx hb dX1_tryBed_0 rfl (lv_at hl 0 rfl) ?_
  refine va_get (D := D) (ci := 1) (v := .ref (a 1)) (C := RX1) (T := TX1) (N := 5) hx hb hts hinX1 hown hK hP 0 rfl rfl 3 (by decide) hf22 (fun _ h9 => h9) rfl dX1_tryBed_1 ?_
  refine va_get (D := D) (ci := 0) (v := .ref (a 3)) (C := RX0) (T := TX0) (N := 6) hx hb hts hinX0 hown hK hP 1 rfl rfl 1 (by decide) hf139 (fun _ h9 => h9) rfl dX1_tryBed_4 ?_
  refine lv_iload_n hx hb dX1_tryBed_7 rfl (lv_at hl 2 rfl) ?_
  refine zk_ld hx hb hK hP 3 0 (zwq1 cI a _) rfl (k := b) hb6 (by decide) (v := σ 1 b) rfl dX1_tryBed_8 ?_
  refine lv_istore_n (lv' := [(3, .int (σ 1 b)), (0, .ref (a 0)), (1, .int (nI k)), (2, .int (nI b))]) hx hb dX1_tryBed_9 rfl hl (by decide) rfl (fun ls hl => ?_)
  refine lv_aload_n hx hb dX1_tryBed_10 rfl (lv_at hl 1 rfl) ?_
  refine va_get (D := D) (ci := 1) (v := .ref (a 2)) (C := RX1) (T := TX1) (N := 5) hx hb hts hinX1 hown hK hP 0 rfl rfl 4 (by decide) hf29 (fun _ h9 => h9) rfl dX1_tryBed_11 ?_
  refine va_get (D := D) (ci := 2) (v := .ref (a 11)) (C := RX2) (T := TX2) (N := 13) hx hb hts hinX2 hown hK hP 2 rfl rfl 4 (by decide) hf84 (fun _ h9 => h9) rfl dX1_tryBed_14 ?_
  refine lv_iload_n hx hb dX1_tryBed_17 rfl (lv_at hl 2 rfl) ?_
  refine zk_ld hx hb hK hP 11 0 (zwq9 cI a _) rfl (k := k) hk (by decide) (v := σ 9 k) rfl dX1_tryBed_18 ?_
  refine lv_istore (lv' := [(4, .int (σ 9 k)), (3, .int (σ 1 b)), (0, .ref (a 0)), (1, .int (nI k)), (2, .int (nI b))]) hx hb dX1_tryBed_19 hl (by decide) rfl (fun ls hl => ?_)
  refine lv_iload hx hb dX1_tryBed_21 (lv_at hl 0 rfl) ?_
  refine lv_iload_n hx hb dX1_tryBed_23 rfl (lv_at hl 1 rfl) ?_
  refine lv_icmp_ge (tgt := 54) hx hb dX1_tryBed_24 (by decide) (fun c_1 => ?_) (fun c_1 => ?_)
  · refine lv_aload_n hx hb dX1_tryBed_54 rfl (lv_at hl 2 rfl) ?_
    refine va_get (D := D) (ci := 1) (v := .ref (a 2)) (C := RX1) (T := TX1) (N := 5) hx hb hts hinX1 hown hK hP 0 rfl rfl 4 (by decide) hf29 (fun _ h9 => h9) rfl dX1_tryBed_55 ?_
    refine va_get (D := D) (ci := 2) (v := .ref (a 11)) (C := RX2) (T := TX2) (N := 13) hx hb hts hinX2 hown hK hP 2 rfl rfl 4 (by decide) hf84 (fun _ h9 => h9) rfl dX1_tryBed_58 ?_
    refine lv_iload_n hx hb dX1_tryBed_61 rfl (lv_at hl 3 rfl) ?_
    refine zk_ld hx hb hK hP 11 0 (zwq9 cI a _) rfl (k := k) hk (by decide) (v := σ 9 k) rfl dX1_tryBed_62 ?_
    refine lv_iload_n hx hb dX1_tryBed_63 rfl (lv_at hl 1 rfl) ?_
    refine lv_icmp_lt (tgt := 76) hx hb dX1_tryBed_64 (by decide) (fun c_2 => ?_) (fun c_2 => ?_)
    · refine lv_aload_n hx hb dX1_tryBed_76 rfl (lv_at hl 2 rfl) ?_
      refine va_get (D := D) (ci := 1) (v := .ref (a 2)) (C := RX1) (T := TX1) (N := 5) hx hb hts hinX1 hown hK hP 0 rfl rfl 4 (by decide) hf29 (fun _ h9 => h9) rfl dX1_tryBed_77 ?_
      refine lv_iload_n hx hb dX1_tryBed_80 rfl (lv_at hl 3 rfl) ?_
      have hF := zfree hD hS hA
      refine zk_V (va_runV (As := [.int (nI k)]) (rest := []) ⟨hx, hb, hml, hown, hts⟩ (c_X2_lieOnFloor l D cI a σ (k := k) hk _) (cwV 1 hts gX1_tryBed_X2_lieOnFloor rfl rfl rfl zdX2_lieOnFloor ⟨Nat.le_of_ble_eq_true rfl, Nat.le_of_ble_eq_true rfl⟩) ⟨zbl _, va_recv hK hP (ci := 2) (q0 := 2) rfl rfl, zpr hK hP hD⟩ rfl rfl hl.1 rfl (lv_room (Nat.le_of_ble_eq_true rfl)) dX1_tryBed_81 ⟨Nat.zero_le _, Nat.zero_le _⟩) hS hF (fun H locs hkp hP1 hD1 hS => ?_)
      have hP := hP1
      have hD := hD1.weaken (fun _ _ _ z => hF _ z)
      have hP : va_P D vwCl (zw_H cI a (f_floor σ k)) H := hP
      have hD : va_D A (zw_H cI a (f_floor σ k)) := hD
      have e9 : f_try σ k b = f_floor σ k := by rw [f_try, show f_try1 σ k b = σ from if_neg (fun z => z.1 c_1), if_pos c_2]
      have hP9 : va_P D vwCl (zw_H cI a (f_try σ k b)) H := by rw [e9]; exact hP
      have hD9 : va_D A (zw_H cI a (f_try σ k b)) := by rw [e9]; exact hD
      exact W.vret hx hb hr (fun t ht hW => ⟨⟨(), rfl, trivial, by rw [ht]; exact hP9, va_K.moved hW.alike hK, hD9⟩, hS.F ht⟩) hS.2.2 dX1_tryBed_84
    · refine lv_aload_n hx hb dX1_tryBed_67 rfl (lv_at hl 2 rfl) ?_
      refine lv_iload_n hx hb dX1_tryBed_68 rfl (lv_at hl 3 rfl) ?_
      refine lv_iload_n hx hb dX1_tryBed_69 rfl (lv_at hl 4 rfl) ?_
      have hF := zfree hD hS hA
      refine zk_V (va_runV (As := [.int (nI k), .int (nI b)]) (rest := []) ⟨hx, hb, hml, hown, hts⟩ (c_X1_getInto l D cI a σ (k := k) (b := b) hk hb6 _) (cwV 2 hts gX1_tryBed_X1_getInto rfl rfl rfl zdX1_getInto ⟨Nat.le_of_ble_eq_true rfl, Nat.le_of_ble_eq_true rfl⟩) ⟨zbl _, va_recv hK hP (ci := 1) (q0 := 0) rfl rfl, zpr hK hP hD⟩ rfl rfl hl.1 rfl (lv_room (Nat.le_of_ble_eq_true rfl)) dX1_tryBed_70 ⟨Nat.zero_le _, Nat.zero_le _⟩) hS hF (fun H locs hkp hP1 hD1 hS => ?_)
      have hP := hP1
      have hD := hD1.weaken (fun _ _ _ z => hF _ z)
      have hP : va_P D vwCl (zw_H cI a (f_into σ k b)) H := hP
      have hD : va_D A (zw_H cI a (f_into σ k b)) := hD
      refine lv_goto (tgt := 84) hx hb dX1_tryBed_73 (by decide) ?_
      have e9 : f_try σ k b = f_into σ k b := by rw [f_try, show f_try1 σ k b = σ from if_neg (fun z => z.1 c_1), if_neg c_2]
      have hP9 : va_P D vwCl (zw_H cI a (f_try σ k b)) H := by rw [e9]; exact hP
      have hD9 : va_D A (zw_H cI a (f_try σ k b)) := by rw [e9]; exact hD
      exact W.vret hx hb hr (fun t ht hW => ⟨⟨(), rfl, trivial, by rw [ht]; exact hP9, va_K.moved hW.alike hK, hD9⟩, hS.F ht⟩) hS.2.2 dX1_tryBed_84
  · refine lv_iload hx hb dX1_tryBed_27 (lv_at hl 0 rfl) ?_
    refine lv_aload_n hx hb dX1_tryBed_29 rfl (lv_at hl 2 rfl) ?_
    refine va_get (D := D) (ci := 1) (v := .int (σ 0 2)) (C := RX1) (T := TX1) (N := 5) hx hb hts hinX1 hown hK hP 0 rfl rfl 2 (by decide) hf16 (fun _ h9 => h9) rfl dX1_tryBed_30 ?_
    refine lv_iadd hx hb dX1_tryBed_33 ?_
    refine lv_iload_n hx hb dX1_tryBed_34 rfl (lv_at hl 1 rfl) ?_
    refine lv_icmp_lt (tgt := 54) hx hb dX1_tryBed_35 (by decide) (fun c_3 => ?_) (fun c_3 => ?_)
    · refine lv_aload_n hx hb dX1_tryBed_54 rfl (lv_at hl 2 rfl) ?_
      refine va_get (D := D) (ci := 1) (v := .ref (a 2)) (C := RX1) (T := TX1) (N := 5) hx hb hts hinX1 hown hK hP 0 rfl rfl 4 (by decide) hf29 (fun _ h9 => h9) rfl dX1_tryBed_55 ?_
      refine va_get (D := D) (ci := 2) (v := .ref (a 11)) (C := RX2) (T := TX2) (N := 13) hx hb hts hinX2 hown hK hP 2 rfl rfl 4 (by decide) hf84 (fun _ h9 => h9) rfl dX1_tryBed_58 ?_
      refine lv_iload_n hx hb dX1_tryBed_61 rfl (lv_at hl 3 rfl) ?_
      refine zk_ld hx hb hK hP 11 0 (zwq9 cI a _) rfl (k := k) hk (by decide) (v := σ 9 k) rfl dX1_tryBed_62 ?_
      refine lv_iload_n hx hb dX1_tryBed_63 rfl (lv_at hl 1 rfl) ?_
      refine lv_icmp_lt (tgt := 76) hx hb dX1_tryBed_64 (by decide) (fun c_4 => ?_) (fun c_4 => ?_)
      · refine lv_aload_n hx hb dX1_tryBed_76 rfl (lv_at hl 2 rfl) ?_
        refine va_get (D := D) (ci := 1) (v := .ref (a 2)) (C := RX1) (T := TX1) (N := 5) hx hb hts hinX1 hown hK hP 0 rfl rfl 4 (by decide) hf29 (fun _ h9 => h9) rfl dX1_tryBed_77 ?_
        refine lv_iload_n hx hb dX1_tryBed_80 rfl (lv_at hl 3 rfl) ?_
        have hF := zfree hD hS hA
        refine zk_V (va_runV (As := [.int (nI k)]) (rest := []) ⟨hx, hb, hml, hown, hts⟩ (c_X2_lieOnFloor l D cI a σ (k := k) hk _) (cwV 1 hts gX1_tryBed_X2_lieOnFloor rfl rfl rfl zdX2_lieOnFloor ⟨Nat.le_of_ble_eq_true rfl, Nat.le_of_ble_eq_true rfl⟩) ⟨zbl _, va_recv hK hP (ci := 2) (q0 := 2) rfl rfl, zpr hK hP hD⟩ rfl rfl hl.1 rfl (lv_room (Nat.le_of_ble_eq_true rfl)) dX1_tryBed_81 ⟨Nat.zero_le _, Nat.zero_le _⟩) hS hF (fun H locs hkp hP1 hD1 hS => ?_)
        have hP := hP1
        have hD := hD1.weaken (fun _ _ _ z => hF _ z)
        have hP : va_P D vwCl (zw_H cI a (f_floor σ k)) H := hP
        have hD : va_D A (zw_H cI a (f_floor σ k)) := hD
        have e9 : f_try σ k b = f_floor σ k := by rw [f_try, show f_try1 σ k b = σ from if_neg (fun z => z.2.1 c_3), if_pos c_4]
        have hP9 : va_P D vwCl (zw_H cI a (f_try σ k b)) H := by rw [e9]; exact hP
        have hD9 : va_D A (zw_H cI a (f_try σ k b)) := by rw [e9]; exact hD
        exact W.vret hx hb hr (fun t ht hW => ⟨⟨(), rfl, trivial, by rw [ht]; exact hP9, va_K.moved hW.alike hK, hD9⟩, hS.F ht⟩) hS.2.2 dX1_tryBed_84
      · refine lv_aload_n hx hb dX1_tryBed_67 rfl (lv_at hl 2 rfl) ?_
        refine lv_iload_n hx hb dX1_tryBed_68 rfl (lv_at hl 3 rfl) ?_
        refine lv_iload_n hx hb dX1_tryBed_69 rfl (lv_at hl 4 rfl) ?_
        have hF := zfree hD hS hA
        refine zk_V (va_runV (As := [.int (nI k), .int (nI b)]) (rest := []) ⟨hx, hb, hml, hown, hts⟩ (c_X1_getInto l D cI a σ (k := k) (b := b) hk hb6 _) (cwV 2 hts gX1_tryBed_X1_getInto rfl rfl rfl zdX1_getInto ⟨Nat.le_of_ble_eq_true rfl, Nat.le_of_ble_eq_true rfl⟩) ⟨zbl _, va_recv hK hP (ci := 1) (q0 := 0) rfl rfl, zpr hK hP hD⟩ rfl rfl hl.1 rfl (lv_room (Nat.le_of_ble_eq_true rfl)) dX1_tryBed_70 ⟨Nat.zero_le _, Nat.zero_le _⟩) hS hF (fun H locs hkp hP1 hD1 hS => ?_)
        have hP := hP1
        have hD := hD1.weaken (fun _ _ _ z => hF _ z)
        have hP : va_P D vwCl (zw_H cI a (f_into σ k b)) H := hP
        have hD : va_D A (zw_H cI a (f_into σ k b)) := hD
        refine lv_goto (tgt := 84) hx hb dX1_tryBed_73 (by decide) ?_
        have e9 : f_try σ k b = f_into σ k b := by rw [f_try, show f_try1 σ k b = σ from if_neg (fun z => z.2.1 c_3), if_neg c_4]
        have hP9 : va_P D vwCl (zw_H cI a (f_try σ k b)) H := by rw [e9]; exact hP
        have hD9 : va_D A (zw_H cI a (f_try σ k b)) := by rw [e9]; exact hD
        exact W.vret hx hb hr (fun t ht hW => ⟨⟨(), rfl, trivial, by rw [ht]; exact hP9, va_K.moved hW.alike hK, hD9⟩, hS.F ht⟩) hS.2.2 dX1_tryBed_84
    · refine lv_aload_n hx hb dX1_tryBed_38 rfl (lv_at hl 2 rfl) ?_
      refine va_get (D := D) (ci := 1) (v := .ref (a 2)) (C := RX1) (T := TX1) (N := 5) hx hb hts hinX1 hown hK hP 0 rfl rfl 4 (by decide) hf29 (fun _ h9 => h9) rfl dX1_tryBed_39 ?_
      refine lv_iload_n hx hb dX1_tryBed_42 rfl (lv_at hl 3 rfl) ?_
      refine zk_R (D := D) (va_runV (As := [.int (nI k)]) (rest := []) ⟨hx, hb, hml, hown, hts⟩ (c_X2_hasBoots l D cI a σ (k := k) hk _) (cwV 1 hts gX1_tryBed_X2_hasBoots rfl rfl rfl zdX2_hasBoots ⟨Nat.le_of_ble_eq_true rfl, Nat.le_of_ble_eq_true rfl⟩) ⟨zbl _, va_recv hK hP (ci := 2) (q0 := 2) rfl rfl, zpr hK hP hD⟩ rfl rfl hl.1 rfl (lv_room (Nat.le_of_ble_eq_true rfl)) dX1_tryBed_43 ⟨Nat.zero_le _, Nat.zero_le _⟩) hS (fun r_5 H locs hw hkp hS => ?_)
      have hP := hkp _ hP
      rcases hw with ⟨c_6, rfl⟩ | ⟨c_6, rfl⟩
      · refine lv_if_eq (tgt := 54) hx hb dX1_tryBed_46 (by decide) (fun c => absurd c (by decide)) (fun _ => ?_)
        refine lv_aload_n hx hb dX1_tryBed_49 rfl (lv_at hl 2 rfl) ?_
        refine lv_iload_n hx hb dX1_tryBed_50 rfl (lv_at hl 3 rfl) ?_
        have hF := zfree hD hS hA
        refine zk_V (va_runV (As := [.int (nI k)]) (rest := []) ⟨hx, hb, hml, hown, hts⟩ (c_X1_pawnBoots l D cI a σ (k := k) hk _) (cwV 1 hts gX1_tryBed_X1_pawnBoots rfl rfl rfl zdX1_pawnBoots ⟨Nat.le_of_ble_eq_true rfl, Nat.le_of_ble_eq_true rfl⟩) ⟨zbl _, va_recv hK hP (ci := 1) (q0 := 0) rfl rfl, zpr hK hP hD⟩ rfl rfl hl.1 rfl (lv_room (Nat.le_of_ble_eq_true rfl)) dX1_tryBed_51 ⟨Nat.zero_le _, Nat.zero_le _⟩) hS hF (fun H locs hkp hP1 hD1 hS => ?_)
        have hP := hP1
        have hD := hD1.weaken (fun _ _ _ z => hF _ z)
        have hP : va_P D vwCl (zw_H cI a (f_pawnB σ k)) H := hP
        have hD : va_D A (zw_H cI a (f_pawnB σ k)) := hD
        refine lv_aload_n hx hb dX1_tryBed_54 rfl (lv_at hl 2 rfl) ?_
        refine va_get (D := D) (ci := 1) (v := .ref (a 2)) (C := RX1) (T := TX1) (N := 5) hx hb hts hinX1 hown hK hP 0 rfl rfl 4 (by decide) hf29 (fun _ h9 => h9) rfl dX1_tryBed_55 ?_
        refine va_get (D := D) (ci := 2) (v := .ref (a 11)) (C := RX2) (T := TX2) (N := 13) hx hb hts hinX2 hown hK hP 2 rfl rfl 4 (by decide) hf84 (fun _ h9 => h9) rfl dX1_tryBed_58 ?_
        refine lv_iload_n hx hb dX1_tryBed_61 rfl (lv_at hl 3 rfl) ?_
        refine zk_ld hx hb hK hP 11 0 (zwq9 cI a _) rfl (k := k) hk (by decide) (v := (f_pawnB σ k) 9 k) rfl dX1_tryBed_62 ?_
        refine lv_iload_n hx hb dX1_tryBed_63 rfl (lv_at hl 1 rfl) ?_
        refine lv_icmp_lt (tgt := 76) hx hb dX1_tryBed_64 (by decide) (fun c_8 => ?_) (fun c_8 => ?_)
        · refine lv_aload_n hx hb dX1_tryBed_76 rfl (lv_at hl 2 rfl) ?_
          refine va_get (D := D) (ci := 1) (v := .ref (a 2)) (C := RX1) (T := TX1) (N := 5) hx hb hts hinX1 hown hK hP 0 rfl rfl 4 (by decide) hf29 (fun _ h9 => h9) rfl dX1_tryBed_77 ?_
          refine lv_iload_n hx hb dX1_tryBed_80 rfl (lv_at hl 3 rfl) ?_
          have hF := zfree hD hS hA
          refine zk_V (va_runV (As := [.int (nI k)]) (rest := []) ⟨hx, hb, hml, hown, hts⟩ (c_X2_lieOnFloor l D cI a (f_pawnB σ k) (k := k) hk _) (cwV 1 hts gX1_tryBed_X2_lieOnFloor rfl rfl rfl zdX2_lieOnFloor ⟨Nat.le_of_ble_eq_true rfl, Nat.le_of_ble_eq_true rfl⟩) ⟨zbl _, va_recv hK hP (ci := 2) (q0 := 2) rfl rfl, zpr hK hP hD⟩ rfl rfl hl.1 rfl (lv_room (Nat.le_of_ble_eq_true rfl)) dX1_tryBed_81 ⟨Nat.zero_le _, Nat.zero_le _⟩) hS hF (fun H locs hkp hP1 hD1 hS => ?_)
          have hP := hP1
          have hD := hD1.weaken (fun _ _ _ z => hF _ z)
          have hP : va_P D vwCl (zw_H cI a (f_floor (f_pawnB σ k) k)) H := hP
          have hD : va_D A (zw_H cI a (f_floor (f_pawnB σ k) k)) := hD
          have e9 : f_try σ k b = f_floor (f_pawnB σ k) k := by rw [f_try, show f_try1 σ k b = (f_pawnB σ k) from if_pos ⟨c_1, c_3, c_6⟩, if_pos c_8]
          have hP9 : va_P D vwCl (zw_H cI a (f_try σ k b)) H := by rw [e9]; exact hP
          have hD9 : va_D A (zw_H cI a (f_try σ k b)) := by rw [e9]; exact hD
          exact W.vret hx hb hr (fun t ht hW => ⟨⟨(), rfl, trivial, by rw [ht]; exact hP9, va_K.moved hW.alike hK, hD9⟩, hS.F ht⟩) hS.2.2 dX1_tryBed_84
        · refine lv_aload_n hx hb dX1_tryBed_67 rfl (lv_at hl 2 rfl) ?_
          refine lv_iload_n hx hb dX1_tryBed_68 rfl (lv_at hl 3 rfl) ?_
          refine lv_iload_n hx hb dX1_tryBed_69 rfl (lv_at hl 4 rfl) ?_
          have hF := zfree hD hS hA
          refine zk_V (va_runV (As := [.int (nI k), .int (nI b)]) (rest := []) ⟨hx, hb, hml, hown, hts⟩ (c_X1_getInto l D cI a (f_pawnB σ k) (k := k) (b := b) hk hb6 _) (cwV 2 hts gX1_tryBed_X1_getInto rfl rfl rfl zdX1_getInto ⟨Nat.le_of_ble_eq_true rfl, Nat.le_of_ble_eq_true rfl⟩) ⟨zbl _, va_recv hK hP (ci := 1) (q0 := 0) rfl rfl, zpr hK hP hD⟩ rfl rfl hl.1 rfl (lv_room (Nat.le_of_ble_eq_true rfl)) dX1_tryBed_70 ⟨Nat.zero_le _, Nat.zero_le _⟩) hS hF (fun H locs hkp hP1 hD1 hS => ?_)
          have hP := hP1
          have hD := hD1.weaken (fun _ _ _ z => hF _ z)
          have hP : va_P D vwCl (zw_H cI a (f_into (f_pawnB σ k) k b)) H := hP
          have hD : va_D A (zw_H cI a (f_into (f_pawnB σ k) k b)) := hD
          refine lv_goto (tgt := 84) hx hb dX1_tryBed_73 (by decide) ?_
          have e9 : f_try σ k b = f_into (f_pawnB σ k) k b := by rw [f_try, show f_try1 σ k b = (f_pawnB σ k) from if_pos ⟨c_1, c_3, c_6⟩, if_neg c_8]
          have hP9 : va_P D vwCl (zw_H cI a (f_try σ k b)) H := by rw [e9]; exact hP
          have hD9 : va_D A (zw_H cI a (f_try σ k b)) := by rw [e9]; exact hD
          exact W.vret hx hb hr (fun t ht hW => ⟨⟨(), rfl, trivial, by rw [ht]; exact hP9, va_K.moved hW.alike hK, hD9⟩, hS.F ht⟩) hS.2.2 dX1_tryBed_84
      · refine lv_if_eq (tgt := 54) hx hb dX1_tryBed_46 (by decide) (fun _ => ?_) (fun c => absurd (by decide) c)
        refine lv_aload_n hx hb dX1_tryBed_54 rfl (lv_at hl 2 rfl) ?_
        refine va_get (D := D) (ci := 1) (v := .ref (a 2)) (C := RX1) (T := TX1) (N := 5) hx hb hts hinX1 hown hK hP 0 rfl rfl 4 (by decide) hf29 (fun _ h9 => h9) rfl dX1_tryBed_55 ?_
        refine va_get (D := D) (ci := 2) (v := .ref (a 11)) (C := RX2) (T := TX2) (N := 13) hx hb hts hinX2 hown hK hP 2 rfl rfl 4 (by decide) hf84 (fun _ h9 => h9) rfl dX1_tryBed_58 ?_
        refine lv_iload_n hx hb dX1_tryBed_61 rfl (lv_at hl 3 rfl) ?_
        refine zk_ld hx hb hK hP 11 0 (zwq9 cI a _) rfl (k := k) hk (by decide) (v := σ 9 k) rfl dX1_tryBed_62 ?_
        refine lv_iload_n hx hb dX1_tryBed_63 rfl (lv_at hl 1 rfl) ?_
        refine lv_icmp_lt (tgt := 76) hx hb dX1_tryBed_64 (by decide) (fun c_10 => ?_) (fun c_10 => ?_)
        · refine lv_aload_n hx hb dX1_tryBed_76 rfl (lv_at hl 2 rfl) ?_
          refine va_get (D := D) (ci := 1) (v := .ref (a 2)) (C := RX1) (T := TX1) (N := 5) hx hb hts hinX1 hown hK hP 0 rfl rfl 4 (by decide) hf29 (fun _ h9 => h9) rfl dX1_tryBed_77 ?_
          refine lv_iload_n hx hb dX1_tryBed_80 rfl (lv_at hl 3 rfl) ?_
          have hF := zfree hD hS hA
          refine zk_V (va_runV (As := [.int (nI k)]) (rest := []) ⟨hx, hb, hml, hown, hts⟩ (c_X2_lieOnFloor l D cI a σ (k := k) hk _) (cwV 1 hts gX1_tryBed_X2_lieOnFloor rfl rfl rfl zdX2_lieOnFloor ⟨Nat.le_of_ble_eq_true rfl, Nat.le_of_ble_eq_true rfl⟩) ⟨zbl _, va_recv hK hP (ci := 2) (q0 := 2) rfl rfl, zpr hK hP hD⟩ rfl rfl hl.1 rfl (lv_room (Nat.le_of_ble_eq_true rfl)) dX1_tryBed_81 ⟨Nat.zero_le _, Nat.zero_le _⟩) hS hF (fun H locs hkp hP1 hD1 hS => ?_)
          have hP := hP1
          have hD := hD1.weaken (fun _ _ _ z => hF _ z)
          have hP : va_P D vwCl (zw_H cI a (f_floor σ k)) H := hP
          have hD : va_D A (zw_H cI a (f_floor σ k)) := hD
          have e9 : f_try σ k b = f_floor σ k := by rw [f_try, show f_try1 σ k b = σ from if_neg (fun z => c_6 z.2.2), if_pos c_10]
          have hP9 : va_P D vwCl (zw_H cI a (f_try σ k b)) H := by rw [e9]; exact hP
          have hD9 : va_D A (zw_H cI a (f_try σ k b)) := by rw [e9]; exact hD
          exact W.vret hx hb hr (fun t ht hW => ⟨⟨(), rfl, trivial, by rw [ht]; exact hP9, va_K.moved hW.alike hK, hD9⟩, hS.F ht⟩) hS.2.2 dX1_tryBed_84
        · refine lv_aload_n hx hb dX1_tryBed_67 rfl (lv_at hl 2 rfl) ?_
          refine lv_iload_n hx hb dX1_tryBed_68 rfl (lv_at hl 3 rfl) ?_
          refine lv_iload_n hx hb dX1_tryBed_69 rfl (lv_at hl 4 rfl) ?_
          have hF := zfree hD hS hA
          refine zk_V (va_runV (As := [.int (nI k), .int (nI b)]) (rest := []) ⟨hx, hb, hml, hown, hts⟩ (c_X1_getInto l D cI a σ (k := k) (b := b) hk hb6 _) (cwV 2 hts gX1_tryBed_X1_getInto rfl rfl rfl zdX1_getInto ⟨Nat.le_of_ble_eq_true rfl, Nat.le_of_ble_eq_true rfl⟩) ⟨zbl _, va_recv hK hP (ci := 1) (q0 := 0) rfl rfl, zpr hK hP hD⟩ rfl rfl hl.1 rfl (lv_room (Nat.le_of_ble_eq_true rfl)) dX1_tryBed_70 ⟨Nat.zero_le _, Nat.zero_le _⟩) hS hF (fun H locs hkp hP1 hD1 hS => ?_)
          have hP := hP1
          have hD := hD1.weaken (fun _ _ _ z => hF _ z)
          have hP : va_P D vwCl (zw_H cI a (f_into σ k b)) H := hP
          have hD : va_D A (zw_H cI a (f_into σ k b)) := hD
          refine lv_goto (tgt := 84) hx hb dX1_tryBed_73 (by decide) ?_
          have e9 : f_try σ k b = f_into σ k b := by rw [f_try, show f_try1 σ k b = σ from if_neg (fun z => c_6 z.2.2), if_neg c_10]
          have hP9 : va_P D vwCl (zw_H cI a (f_try σ k b)) H := by rw [e9]; exact hP
          have hD9 : va_D A (zw_H cI a (f_try σ k b)) := by rw [e9]; exact hD
          exact W.vret hx hb hr (fun t ht hW => ⟨⟨(), rfl, trivial, by rw [ht]; exact hP9, va_K.moved hW.alike hK, hD9⟩, hS.F ht⟩) hS.2.2 dX1_tryBed_84

theorem zhas_of {σ : zS} {nb ns h : Nat} {x : Int32} (hC : zC σ nb ns h) (hx : f_has σ x) : ∃ b, b < nb ∧ x = nI b := by
  have h3 := hx.2
  rw [hC.1] at h3
  obtain ⟨j, hj, rfl⟩ := nI_of hx.1
  have hb := hC.2.1
  exact ⟨j, by have := mt (nI_leI (a := nb) (b := j) (by omega) hj).mpr h3; omega, rfl⟩

set_option maxHeartbeats 4000000 in
set_option maxRecDepth 100000 in
theorem c_X1_lookForBed (l : Launch) (D : va_G) (cI : ClassId) (a : Nat → Nat) (σ : zS) {k : Nat} (hk : k < 10) {nb ns h : Nat} (hC : zC σ nb ns h) : zMV l yX1_lookForBed wsX1_lookForBed ({ frames := 4, cells := 0, slots := 0, locals := 82 }) [.ref (a 0), .int (nI k)] D [(cI, .int)] (zw_H cI a σ) (zw_H cI a (f_look σ nb h k)) := by
  intro sz
  refine Met.ofW (cc := cX1_lookForBed) (maxL := 4) (ret := none) (by decide) rfl ?_
  intro p e s m args below meth c s₁ B hml hv
  obtain ⟨rfl, hsz, hP, hK, hD⟩ := hv
  have hx := B.exec
  have hb := B.bytes
  have hr := B.returns
  have hts := atoms_spec (ws := wsX1_lookForBed) B.pre
  have hown : s.vm.findClass RX1 = some m.cls := findClass_of_methodNamed B.named
  have hlocks := B.notSynchronized
  subst hsz
  have hD := hD.self (sz := s.heap.size)
  generalize hAe : va_A (zw_H cI a σ) s.heap.size = A at hD ⊢
  have hA : ∀ q : Nat, s.heap.size ≤ q → A q := fun q h => by rw [← hAe]; exact Or.inr h
  have hS : va_S A s.heap s.heap [] := va_S.rf
  have hP : va_P D vwCl (zw_H cI a σ) s.heap := hP
  have hl := lv_entry ([.ref (a 0), .int (nI k)]) (n := 4) (Nat.le_of_ble_eq_true rfl)
  rw [lg_entry_eq]
  generalize (lg_sl ([.ref (a 0), .int (nI k)]) ++ List.replicate (4 - (lg_sl ([.ref (a 0), .int (nI k)])).length) Slot.unset).toArray = ls at hl ⊢
  have hl : lv_has ls 4 [(0, .ref (a 0)), (1, .int (nI k))] := hl
  have hf124 := hts (.fieldLink RX1 124 "HotBeds$Sailors" "kept" "[I") (by decide +kernel)
  have hf22 := hts (.fieldLink RX1 22 "HotBeds$House" "beds" "LHotBeds$Beds;") (by decide +kernel)
  have hf29 := hts (.fieldLink RX1 29 "HotBeds$House" "sailors" "LHotBeds$Sailors;") (by decide +kernel)
  have hf7 := hts (.fieldLink RX1 7 "HotBeds$House" "hour" "I") (by decide +kernel)
  have hinX1 : ∀ w ∈ u_ws RX1 TX1 5, w ∈ wsX1_lookForBed := by decide +kernel
  have hinX2 : ∀ w ∈ u_ws RX2 TX2 13, w ∈ wsX1_lookForBed := by decide +kernel
  have hnb := hC.2.1
  have hns := hC.2.2.2.1
  have hh := hC.2.2.2.2.2.1
  refine lv_aload_n hx hb dX1_lookForBed_0 rfl (lv_at hl 0 rfl) ?_
  refine va_get (D := D) (ci := 1) (v := .ref (a 2)) (C := RX1) (T := TX1) (N := 5) hx hb hts hinX1 hown hK hP 0 rfl rfl 4 (by decide) hf29 (fun _ h9 => h9) rfl dX1_lookForBed_1 ?_
  refine va_get (D := D) (ci := 2) (v := .ref (a 13)) (C := RX2) (T := TX2) (N := 13) hx hb hts hinX2 hown hK hP 2 rfl rfl 6 (by decide) hf124 (fun _ h9 => h9) rfl dX1_lookForBed_4 ?_
  refine lv_iload_n hx hb dX1_lookForBed_7 rfl (lv_at hl 1 rfl) ?_
  refine zk_ld hx hb hK hP 13 0 (zwq11 cI a _) rfl (k := k) hk (by decide) (v := σ 11 k) rfl dX1_lookForBed_8 ?_
  refine lv_istore_n (lv' := [(2, .int (σ 11 k)), (0, .ref (a 0)), (1, .int (nI k))]) hx hb dX1_lookForBed_9 rfl hl (by decide) rfl (fun ls hl => ?_)
  refine lv_aload_n hx hb dX1_lookForBed_10 rfl (lv_at hl 1 rfl) ?_
  refine va_get (D := D) (ci := 1) (v := .ref (a 1)) (C := RX1) (T := TX1) (N := 5) hx hb hts hinX1 hown hK hP 0 rfl rfl 3 (by decide) hf22 (fun _ h9 => h9) rfl dX1_lookForBed_11 ?_
  refine lv_iload_n hx hb dX1_lookForBed_14 rfl (lv_at hl 0 rfl) ?_
  refine zk_R (D := D) (va_runV (As := [.int (σ 11 k)]) (rest := []) ⟨hx, hb, hml, hown, hts⟩ (c_X0_isFree l D cI a σ (σ 11 k) hC _) (cwV 1 hts gX1_lookForBed_X0_isFree rfl rfl rfl zdX0_isFree ⟨Nat.le_of_ble_eq_true rfl, Nat.le_of_ble_eq_true rfl⟩) ⟨zbl _, va_recv hK hP (ci := 0) (q0 := 1) rfl rfl, zpr hK hP hD⟩ rfl rfl hl.1 rfl (lv_room (Nat.le_of_ble_eq_true rfl)) dX1_lookForBed_15 ⟨Nat.zero_le _, Nat.zero_le _⟩) hS (fun r_1 H locs hw hkp hS => ?_)
  have hP := hkp _ hP
  rcases hw with ⟨c_2, rfl⟩ | ⟨c_2, rfl⟩
  · refine lv_if_eq (tgt := 25) hx hb dX1_lookForBed_18 (by decide) (fun c => absurd c (by decide)) (fun _ => ?_)
    refine lv_iload_n hx hb dX1_lookForBed_21 rfl (lv_at hl 0 rfl) ?_
    refine lv_goto (tgt := 32) hx hb dX1_lookForBed_22 (by decide) ?_
    refine lv_istore_n (lv' := [(3, .int (σ 11 k)), (2, .int (σ 11 k)), (0, .ref (a 0)), (1, .int (nI k))]) hx hb dX1_lookForBed_32 rfl hl (by decide) rfl (fun ls hl => ?_)
    refine lv_aload_n hx hb dX1_lookForBed_33 rfl (lv_at hl 2 rfl) ?_
    refine va_get (D := D) (ci := 1) (v := .ref (a 1)) (C := RX1) (T := TX1) (N := 5) hx hb hts hinX1 hown hK hP 0 rfl rfl 3 (by decide) hf22 (fun _ h9 => h9) rfl dX1_lookForBed_34 ?_
    refine lv_iload_n hx hb dX1_lookForBed_37 rfl (lv_at hl 0 rfl) ?_
    refine zk_R (D := D) (va_runV (As := [.int (σ 11 k)]) (rest := []) ⟨hx, hb, hml, hown, hts⟩ (c_X0_has l D cI a σ (σ 11 k) _) (cwV 1 hts gX1_lookForBed_X0_has rfl rfl rfl zdX0_has ⟨Nat.le_of_ble_eq_true rfl, Nat.le_of_ble_eq_true rfl⟩) ⟨zbl _, va_recv hK hP (ci := 0) (q0 := 1) rfl rfl, zpr hK hP hD⟩ rfl rfl hl.1 rfl (lv_room (Nat.le_of_ble_eq_true rfl)) dX1_lookForBed_38 ⟨Nat.zero_le _, Nat.zero_le _⟩) hS (fun r_4 H locs hw hkp hS => ?_)
    have hP := hkp _ hP
    rcases hw with ⟨c_5, rfl⟩ | ⟨c_5, rfl⟩
    · have e7 : f_choose σ nb k = σ 11 k := if_pos c_2
      obtain ⟨b, hb9, eb⟩ := zhas_of hC c_5
      rw [eb] at hl
      refine lv_if_eq (tgt := 53) hx hb dX1_lookForBed_41 (by decide) (fun c => absurd c (by decide)) (fun _ => ?_)
      refine lv_aload_n hx hb dX1_lookForBed_44 rfl (lv_at hl 2 rfl) ?_
      refine lv_iload_n hx hb dX1_lookForBed_45 rfl (lv_at hl 3 rfl) ?_
      refine lv_iload_n hx hb dX1_lookForBed_46 rfl (lv_at hl 0 rfl) ?_
      have hF := zfree hD hS hA
      refine zk_V (va_runV (As := [.int (nI k), .int (nI b)]) (rest := []) ⟨hx, hb, hml, hown, hts⟩ (c_X1_tryBed l D cI a σ (k := k) (b := b) hk (by omega) _) (cwV 2 hts gX1_lookForBed_X1_tryBed rfl rfl rfl zdX1_tryBed ⟨Nat.le_of_ble_eq_true rfl, Nat.le_of_ble_eq_true rfl⟩) ⟨zbl _, va_recv hK hP (ci := 1) (q0 := 0) rfl rfl, zpr hK hP hD⟩ rfl rfl hl.1 rfl (lv_room (Nat.le_of_ble_eq_true rfl)) dX1_lookForBed_47 ⟨Nat.zero_le _, Nat.zero_le _⟩) hS hF (fun H locs hkp hP1 hD1 hS => ?_)
      have hP := hP1
      have hD := hD1.weaken (fun _ _ _ z => hF _ z)
      have hP : va_P D vwCl (zw_H cI a (f_try σ k b)) H := hP
      have hD : va_D A (zw_H cI a (f_try σ k b)) := hD
      refine lv_goto (tgt := 72) hx hb dX1_lookForBed_50 (by decide) ?_
      have e9 : f_look σ nb h k = f_try σ k b := by rw [f_look, e7, if_pos c_5, eb, nI_clamp (by omega)]
      have hP9 : va_P D vwCl (zw_H cI a (f_look σ nb h k)) H := by rw [e9]; exact hP
      have hD9 : va_D A (zw_H cI a (f_look σ nb h k)) := by rw [e9]; exact hD
      exact W.vret hx hb hr (fun t ht hW => ⟨⟨(), rfl, trivial, by rw [ht]; exact hP9, va_K.moved hW.alike hK, hD9⟩, hS.F ht⟩) hS.2.2 dX1_lookForBed_72
    · have e7 : f_choose σ nb k = σ 11 k := if_pos c_2
      refine lv_if_eq (tgt := 53) hx hb dX1_lookForBed_41 (by decide) (fun _ => ?_) (fun c => absurd (by decide) c)
      refine lv_aload_n hx hb dX1_lookForBed_53 rfl (lv_at hl 2 rfl) ?_
      refine va_get (D := D) (ci := 1) (v := .int (nI h)) (C := RX1) (T := TX1) (N := 5) hx hb hts hinX1 hown hK hP 0 rfl rfl 0 (by decide) hf7 (fun _ h9 => h9) (congrArg (fun z => some (Value.int z)) hC.2.2.2.2.1) dX1_lookForBed_54 ?_
      refine lv_bipush (v := 8) hx hb dX1_lookForBed_57 (by decide) ?_
      refine zk_rem (x := h) (y := 8) hx hb dX1_lookForBed_59 (by omega) (by decide) (by decide) ?_
      refine lv_iconst (v := 4) hx hb dX1_lookForBed_60 (by decide) ?_
      refine lv_icmp_lt (tgt := 72) hx hb dX1_lookForBed_61 (by decide) (fun c_8 => ?_) (fun c_8 => ?_)
      · have e9 : f_look σ nb h k = σ := by rw [f_look, e7, if_neg c_5, if_pos c_8]
        have hP9 : va_P D vwCl (zw_H cI a (f_look σ nb h k)) H := by rw [e9]; exact hP
        have hD9 : va_D A (zw_H cI a (f_look σ nb h k)) := by rw [e9]; exact hD
        exact W.vret hx hb hr (fun t ht hW => ⟨⟨(), rfl, trivial, by rw [ht]; exact hP9, va_K.moved hW.alike hK, hD9⟩, hS.F ht⟩) hS.2.2 dX1_lookForBed_72
      · refine lv_aload_n hx hb dX1_lookForBed_64 rfl (lv_at hl 2 rfl) ?_
        refine va_get (D := D) (ci := 1) (v := .ref (a 2)) (C := RX1) (T := TX1) (N := 5) hx hb hts hinX1 hown hK hP 0 rfl rfl 4 (by decide) hf29 (fun _ h9 => h9) rfl dX1_lookForBed_65 ?_
        refine lv_iload_n hx hb dX1_lookForBed_68 rfl (lv_at hl 3 rfl) ?_
        have hF := zfree hD hS hA
        refine zk_V (va_runV (As := [.int (nI k)]) (rest := []) ⟨hx, hb, hml, hown, hts⟩ (c_X2_lieOnFloor l D cI a σ (k := k) hk _) (cwV 1 hts gX1_lookForBed_X2_lieOnFloor rfl rfl rfl zdX2_lieOnFloor ⟨Nat.le_of_ble_eq_true rfl, Nat.le_of_ble_eq_true rfl⟩) ⟨zbl _, va_recv hK hP (ci := 2) (q0 := 2) rfl rfl, zpr hK hP hD⟩ rfl rfl hl.1 rfl (lv_room (Nat.le_of_ble_eq_true rfl)) dX1_lookForBed_69 ⟨Nat.zero_le _, Nat.zero_le _⟩) hS hF (fun H locs hkp hP1 hD1 hS => ?_)
        have hP := hP1
        have hD := hD1.weaken (fun _ _ _ z => hF _ z)
        have hP : va_P D vwCl (zw_H cI a (f_floor σ k)) H := hP
        have hD : va_D A (zw_H cI a (f_floor σ k)) := hD
        have e9 : f_look σ nb h k = f_floor σ k := by rw [f_look, e7, if_neg c_5, if_neg c_8]
        have hP9 : va_P D vwCl (zw_H cI a (f_look σ nb h k)) H := by rw [e9]; exact hP
        have hD9 : va_D A (zw_H cI a (f_look σ nb h k)) := by rw [e9]; exact hD
        exact W.vret hx hb hr (fun t ht hW => ⟨⟨(), rfl, trivial, by rw [ht]; exact hP9, va_K.moved hW.alike hK, hD9⟩, hS.F ht⟩) hS.2.2 dX1_lookForBed_72
  · refine lv_if_eq (tgt := 25) hx hb dX1_lookForBed_18 (by decide) (fun _ => ?_) (fun c => absurd (by decide) c)
    refine lv_aload_n hx hb dX1_lookForBed_25 rfl (lv_at hl 1 rfl) ?_
    refine va_get (D := D) (ci := 1) (v := .ref (a 1)) (C := RX1) (T := TX1) (N := 5) hx hb hts hinX1 hown hK hP 0 rfl rfl 3 (by decide) hf22 (fun _ h9 => h9) rfl dX1_lookForBed_26 ?_
    refine zk_R (D := D) (va_runV (As := []) (rest := []) ⟨hx, hb, hml, hown, hts⟩ (c_X0_cheapestFree l D cI a σ hC _) (cwV 0 hts gX1_lookForBed_X0_cheapestFree rfl rfl rfl zdX0_cheapestFree ⟨Nat.le_of_ble_eq_true rfl, Nat.le_of_ble_eq_true rfl⟩) ⟨zbl _, va_recv hK hP (ci := 0) (q0 := 1) rfl rfl, zpr hK hP hD⟩ rfl rfl hl.1 rfl (lv_room (Nat.le_of_ble_eq_true rfl)) dX1_lookForBed_29 ⟨Nat.zero_le _, Nat.zero_le _⟩) hS (fun r_10 H locs hw hkp hS => ?_)
    have hP := hkp _ hP
    subst hw
    refine lv_istore_n (lv' := [(3, .int (f_ch σ nb)), (2, .int (σ 11 k)), (0, .ref (a 0)), (1, .int (nI k))]) hx hb dX1_lookForBed_32 rfl hl (by decide) rfl (fun ls hl => ?_)
    refine lv_aload_n hx hb dX1_lookForBed_33 rfl (lv_at hl 2 rfl) ?_
    refine va_get (D := D) (ci := 1) (v := .ref (a 1)) (C := RX1) (T := TX1) (N := 5) hx hb hts hinX1 hown hK hP 0 rfl rfl 3 (by decide) hf22 (fun _ h9 => h9) rfl dX1_lookForBed_34 ?_
    refine lv_iload_n hx hb dX1_lookForBed_37 rfl (lv_at hl 0 rfl) ?_
    refine zk_R (D := D) (va_runV (As := [.int (f_ch σ nb)]) (rest := []) ⟨hx, hb, hml, hown, hts⟩ (c_X0_has l D cI a σ (f_ch σ nb) _) (cwV 1 hts gX1_lookForBed_X0_has rfl rfl rfl zdX0_has ⟨Nat.le_of_ble_eq_true rfl, Nat.le_of_ble_eq_true rfl⟩) ⟨zbl _, va_recv hK hP (ci := 0) (q0 := 1) rfl rfl, zpr hK hP hD⟩ rfl rfl hl.1 rfl (lv_room (Nat.le_of_ble_eq_true rfl)) dX1_lookForBed_38 ⟨Nat.zero_le _, Nat.zero_le _⟩) hS (fun r_11 H locs hw hkp hS => ?_)
    have hP := hkp _ hP
    rcases hw with ⟨c_12, rfl⟩ | ⟨c_12, rfl⟩
    · have e7 : f_choose σ nb k = f_ch σ nb := if_neg c_2
      obtain ⟨b, hb9, eb⟩ := zhas_of hC c_12
      rw [eb] at hl
      refine lv_if_eq (tgt := 53) hx hb dX1_lookForBed_41 (by decide) (fun c => absurd c (by decide)) (fun _ => ?_)
      refine lv_aload_n hx hb dX1_lookForBed_44 rfl (lv_at hl 2 rfl) ?_
      refine lv_iload_n hx hb dX1_lookForBed_45 rfl (lv_at hl 3 rfl) ?_
      refine lv_iload_n hx hb dX1_lookForBed_46 rfl (lv_at hl 0 rfl) ?_
      have hF := zfree hD hS hA
      refine zk_V (va_runV (As := [.int (nI k), .int (nI b)]) (rest := []) ⟨hx, hb, hml, hown, hts⟩ (c_X1_tryBed l D cI a σ (k := k) (b := b) hk (by omega) _) (cwV 2 hts gX1_lookForBed_X1_tryBed rfl rfl rfl zdX1_tryBed ⟨Nat.le_of_ble_eq_true rfl, Nat.le_of_ble_eq_true rfl⟩) ⟨zbl _, va_recv hK hP (ci := 1) (q0 := 0) rfl rfl, zpr hK hP hD⟩ rfl rfl hl.1 rfl (lv_room (Nat.le_of_ble_eq_true rfl)) dX1_lookForBed_47 ⟨Nat.zero_le _, Nat.zero_le _⟩) hS hF (fun H locs hkp hP1 hD1 hS => ?_)
      have hP := hP1
      have hD := hD1.weaken (fun _ _ _ z => hF _ z)
      have hP : va_P D vwCl (zw_H cI a (f_try σ k b)) H := hP
      have hD : va_D A (zw_H cI a (f_try σ k b)) := hD
      refine lv_goto (tgt := 72) hx hb dX1_lookForBed_50 (by decide) ?_
      have e9 : f_look σ nb h k = f_try σ k b := by rw [f_look, e7, if_pos c_12, eb, nI_clamp (by omega)]
      have hP9 : va_P D vwCl (zw_H cI a (f_look σ nb h k)) H := by rw [e9]; exact hP
      have hD9 : va_D A (zw_H cI a (f_look σ nb h k)) := by rw [e9]; exact hD
      exact W.vret hx hb hr (fun t ht hW => ⟨⟨(), rfl, trivial, by rw [ht]; exact hP9, va_K.moved hW.alike hK, hD9⟩, hS.F ht⟩) hS.2.2 dX1_lookForBed_72
    · have e7 : f_choose σ nb k = f_ch σ nb := if_neg c_2
      refine lv_if_eq (tgt := 53) hx hb dX1_lookForBed_41 (by decide) (fun _ => ?_) (fun c => absurd (by decide) c)
      refine lv_aload_n hx hb dX1_lookForBed_53 rfl (lv_at hl 2 rfl) ?_
      refine va_get (D := D) (ci := 1) (v := .int (nI h)) (C := RX1) (T := TX1) (N := 5) hx hb hts hinX1 hown hK hP 0 rfl rfl 0 (by decide) hf7 (fun _ h9 => h9) (congrArg (fun z => some (Value.int z)) hC.2.2.2.2.1) dX1_lookForBed_54 ?_
      refine lv_bipush (v := 8) hx hb dX1_lookForBed_57 (by decide) ?_
      refine zk_rem (x := h) (y := 8) hx hb dX1_lookForBed_59 (by omega) (by decide) (by decide) ?_
      refine lv_iconst (v := 4) hx hb dX1_lookForBed_60 (by decide) ?_
      refine lv_icmp_lt (tgt := 72) hx hb dX1_lookForBed_61 (by decide) (fun c_15 => ?_) (fun c_15 => ?_)
      · have e9 : f_look σ nb h k = σ := by rw [f_look, e7, if_neg c_12, if_pos c_15]
        have hP9 : va_P D vwCl (zw_H cI a (f_look σ nb h k)) H := by rw [e9]; exact hP
        have hD9 : va_D A (zw_H cI a (f_look σ nb h k)) := by rw [e9]; exact hD
        exact W.vret hx hb hr (fun t ht hW => ⟨⟨(), rfl, trivial, by rw [ht]; exact hP9, va_K.moved hW.alike hK, hD9⟩, hS.F ht⟩) hS.2.2 dX1_lookForBed_72
      · refine lv_aload_n hx hb dX1_lookForBed_64 rfl (lv_at hl 2 rfl) ?_
        refine va_get (D := D) (ci := 1) (v := .ref (a 2)) (C := RX1) (T := TX1) (N := 5) hx hb hts hinX1 hown hK hP 0 rfl rfl 4 (by decide) hf29 (fun _ h9 => h9) rfl dX1_lookForBed_65 ?_
        refine lv_iload_n hx hb dX1_lookForBed_68 rfl (lv_at hl 3 rfl) ?_
        have hF := zfree hD hS hA
        refine zk_V (va_runV (As := [.int (nI k)]) (rest := []) ⟨hx, hb, hml, hown, hts⟩ (c_X2_lieOnFloor l D cI a σ (k := k) hk _) (cwV 1 hts gX1_lookForBed_X2_lieOnFloor rfl rfl rfl zdX2_lieOnFloor ⟨Nat.le_of_ble_eq_true rfl, Nat.le_of_ble_eq_true rfl⟩) ⟨zbl _, va_recv hK hP (ci := 2) (q0 := 2) rfl rfl, zpr hK hP hD⟩ rfl rfl hl.1 rfl (lv_room (Nat.le_of_ble_eq_true rfl)) dX1_lookForBed_69 ⟨Nat.zero_le _, Nat.zero_le _⟩) hS hF (fun H locs hkp hP1 hD1 hS => ?_)
        have hP := hP1
        have hD := hD1.weaken (fun _ _ _ z => hF _ z)
        have hP : va_P D vwCl (zw_H cI a (f_floor σ k)) H := hP
        have hD : va_D A (zw_H cI a (f_floor σ k)) := hD
        have e9 : f_look σ nb h k = f_floor σ k := by rw [f_look, e7, if_neg c_12, if_neg c_15]
        have hP9 : va_P D vwCl (zw_H cI a (f_look σ nb h k)) H := by rw [e9]; exact hP
        have hD9 : va_D A (zw_H cI a (f_look σ nb h k)) := by rw [e9]; exact hD
        exact W.vret hx hb hr (fun t ht hW => ⟨⟨(), rfl, trivial, by rw [ht]; exact hP9, va_K.moved hW.alike hK, hD9⟩, hS.F ht⟩) hS.2.2 dX1_lookForBed_72

theorem f_pay_0 (σ : zS) (k : Nat) : f_pay σ k 0 = σ 0 := rfl
theorem f_pay_6 (σ : zS) (k : Nat) : f_pay σ k 6 = σ 6 := rfl
theorem f_red_0 (σ : zS) (k : Nat) : f_red σ k 0 = σ 0 := rfl
theorem f_red_6 (σ : zS) (k : Nat) : f_red σ k 6 = σ 6 := rfl

set_option maxHeartbeats 4000000 in
set_option maxRecDepth 100000 in
theorem c_X1_serve (l : Launch) (D : va_G) (cI : ClassId) (a : Nat → Nat) (σ : zS) {k : Nat} (hk : k < 10) {nb ns h : Nat} (hC : zC σ nb ns h) : zMV l yX1_serve wsX1_serve ({ frames := 5, cells := 0, slots := 0, locals := 105 }) [.ref (a 0), .int (nI k)] D [(cI, .int)] (zw_H cI a σ) (zw_H cI a (f_serve σ nb h k)) := by
  intro sz
  refine Met.ofW (cc := cX1_serve) (maxL := 2) (ret := none) (by decide) rfl ?_
  intro p e s m args below meth c s₁ B hml hv
  obtain ⟨rfl, hsz, hP, hK, hD⟩ := hv
  have hx := B.exec
  have hb := B.bytes
  have hr := B.returns
  have hts := atoms_spec (ws := wsX1_serve) B.pre
  have hown : s.vm.findClass RX1 = some m.cls := findClass_of_methodNamed B.named
  have hlocks := B.notSynchronized
  subst hsz
  have hD := hD.self (sz := s.heap.size)
  generalize hAe : va_A (zw_H cI a σ) s.heap.size = A at hD ⊢
  have hA : ∀ q : Nat, s.heap.size ≤ q → A q := fun q h => by rw [← hAe]; exact Or.inr h
  have hS : va_S A s.heap s.heap [] := va_S.rf
  have hP : va_P D vwCl (zw_H cI a σ) s.heap := hP
  have hl := lv_entry ([.ref (a 0), .int (nI k)]) (n := 2) (Nat.le_of_ble_eq_true rfl)
  rw [lg_entry_eq]
  generalize (lg_sl ([.ref (a 0), .int (nI k)]) ++ List.replicate (2 - (lg_sl ([.ref (a 0), .int (nI k)])).length) Slot.unset).toArray = ls at hl ⊢
  have hl : lv_has ls 2 [(0, .ref (a 0)), (1, .int (nI k))] := hl
  have hf29 := hts (.fieldLink RX1 29 "HotBeds$House" "sailors" "LHotBeds$Sailors;") (by decide +kernel)
  have hf7 := hts (.fieldLink RX1 7 "HotBeds$House" "hour" "I") (by decide +kernel)
  have hinX1 : ∀ w ∈ u_ws RX1 TX1 5, w ∈ wsX1_serve := by decide +kernel
  have hnb := hC.2.1
  have hns := hC.2.2.2.1
  have hh := hC.2.2.2.2.2.1
  refine lv_aload_n hx hb dX1_serve_0 rfl (lv_at hl 0 rfl) ?_
  refine lv_iload_n hx hb dX1_serve_1 rfl (lv_at hl 1 rfl) ?_
  refine zk_R (D := D) (va_runV (As := [.int (nI k)]) (rest := []) ⟨hx, hb, hml, hown, hts⟩ (c_X1_isInWatch l D cI a σ (k := k) hk hC _) (cwV 1 hts gX1_serve_X1_isInWatch rfl rfl rfl zdX1_isInWatch ⟨Nat.le_of_ble_eq_true rfl, Nat.le_of_ble_eq_true rfl⟩) ⟨zbl _, va_recv hK hP (ci := 1) (q0 := 0) rfl rfl, zpr hK hP hD⟩ rfl rfl hl.1 rfl (lv_room (Nat.le_of_ble_eq_true rfl)) dX1_serve_2 ⟨Nat.zero_le _, Nat.zero_le _⟩) hS (fun r_1 H locs hw hkp hS => ?_)
  have hP := hkp _ hP
  rcases hw with ⟨c_2, rfl⟩ | ⟨c_2, rfl⟩
  · refine lv_if_ne (tgt := 9) hx hb dX1_serve_5 (by decide) (fun _ => ?_) (fun c => absurd c (by decide))
    refine lv_aload_n hx hb dX1_serve_9 rfl (lv_at hl 0 rfl) ?_
    refine va_get (D := D) (ci := 1) (v := .int (nI h)) (C := RX1) (T := TX1) (N := 5) hx hb hts hinX1 hown hK hP 0 rfl rfl 0 (by decide) hf7 (fun _ h9 => h9) (congrArg (fun z => some (Value.int z)) hC.2.2.2.2.1) dX1_serve_10 ?_
    refine lv_bipush (v := 8) hx hb dX1_serve_13 (by decide) ?_
    refine zk_rem (x := h) (y := 8) hx hb dX1_serve_15 (by omega) (by decide) (by decide) ?_
    refine lv_if_ne (tgt := 40) hx hb dX1_serve_16 (by decide) (fun c_4 => ?_) (fun c_4 => ?_)
    · refine lv_aload_n hx hb dX1_serve_40 rfl (lv_at hl 0 rfl) ?_
      refine va_get (D := D) (ci := 1) (v := .ref (a 2)) (C := RX1) (T := TX1) (N := 5) hx hb hts hinX1 hown hK hP 0 rfl rfl 4 (by decide) hf29 (fun _ h9 => h9) rfl dX1_serve_41 ?_
      refine lv_iload_n hx hb dX1_serve_44 rfl (lv_at hl 1 rfl) ?_
      refine zk_R (D := D) (va_runV (As := [.int (nI k)]) (rest := []) ⟨hx, hb, hml, hown, hts⟩ (c_X2_isUp l D cI a σ (k := k) hk _) (cwV 1 hts gX1_serve_X2_isUp rfl rfl rfl zdX2_isUp ⟨Nat.le_of_ble_eq_true rfl, Nat.le_of_ble_eq_true rfl⟩) ⟨zbl _, va_recv hK hP (ci := 2) (q0 := 2) rfl rfl, zpr hK hP hD⟩ rfl rfl hl.1 rfl (lv_room (Nat.le_of_ble_eq_true rfl)) dX1_serve_45 ⟨Nat.zero_le _, Nat.zero_le _⟩) hS (fun r_5 H locs hw hkp hS => ?_)
      have hP := hkp _ hP
      rcases hw with ⟨c_6, rfl⟩ | ⟨c_6, rfl⟩
      · refine lv_if_eq (tgt := 56) hx hb dX1_serve_48 (by decide) (fun c => absurd c (by decide)) (fun _ => ?_)
        refine lv_aload_n hx hb dX1_serve_51 rfl (lv_at hl 0 rfl) ?_
        refine lv_iload_n hx hb dX1_serve_52 rfl (lv_at hl 1 rfl) ?_
        have hF := zfree hD hS hA
        refine zk_V (va_runV (As := [.int (nI k)]) (rest := []) ⟨hx, hb, hml, hown, hts⟩ (c_X1_lookForBed l D cI a σ (k := k) hk hC _) (cwV 1 hts gX1_serve_X1_lookForBed rfl rfl rfl zdX1_lookForBed ⟨Nat.le_of_ble_eq_true rfl, Nat.le_of_ble_eq_true rfl⟩) ⟨zbl _, va_recv hK hP (ci := 1) (q0 := 0) rfl rfl, zpr hK hP hD⟩ rfl rfl hl.1 rfl (lv_room (Nat.le_of_ble_eq_true rfl)) dX1_serve_53 ⟨Nat.zero_le _, Nat.zero_le _⟩) hS hF (fun H locs hkp hP1 hD1 hS => ?_)
        have hP := hP1
        have hD := hD1.weaken (fun _ _ _ z => hF _ z)
        have hP : va_P D vwCl (zw_H cI a (f_look σ nb h k)) H := hP
        have hD : va_D A (zw_H cI a (f_look σ nb h k)) := hD
        have e9 : f_serve σ nb h k = f_look σ nb h k := by simp only [f_serve, f_payR, if_pos c_2, if_neg c_4, if_pos c_6]
        have hP9 : va_P D vwCl (zw_H cI a (f_serve σ nb h k)) H := by rw [e9]; exact hP
        have hD9 : va_D A (zw_H cI a (f_serve σ nb h k)) := by rw [e9]; exact hD
        exact W.vret hx hb hr (fun t ht hW => ⟨⟨(), rfl, trivial, by rw [ht]; exact hP9, va_K.moved hW.alike hK, hD9⟩, hS.F ht⟩) hS.2.2 dX1_serve_56
      · refine lv_if_eq (tgt := 56) hx hb dX1_serve_48 (by decide) (fun _ => ?_) (fun c => absurd (by decide) c)
        have e9 : f_serve σ nb h k = σ := by simp only [f_serve, f_payR, if_pos c_2, if_neg c_4, if_neg c_6]
        have hP9 : va_P D vwCl (zw_H cI a (f_serve σ nb h k)) H := by rw [e9]; exact hP
        have hD9 : va_D A (zw_H cI a (f_serve σ nb h k)) := by rw [e9]; exact hD
        exact W.vret hx hb hr (fun t ht hW => ⟨⟨(), rfl, trivial, by rw [ht]; exact hP9, va_K.moved hW.alike hK, hD9⟩, hS.F ht⟩) hS.2.2 dX1_serve_56
    · refine lv_aload_n hx hb dX1_serve_19 rfl (lv_at hl 0 rfl) ?_
      refine va_get (D := D) (ci := 1) (v := .ref (a 2)) (C := RX1) (T := TX1) (N := 5) hx hb hts hinX1 hown hK hP 0 rfl rfl 4 (by decide) hf29 (fun _ h9 => h9) rfl dX1_serve_20 ?_
      refine lv_iload_n hx hb dX1_serve_23 rfl (lv_at hl 1 rfl) ?_
      have hF := zfree hD hS hA
      refine zk_V (va_runV (As := [.int (nI k)]) (rest := []) ⟨hx, hb, hml, hown, hts⟩ (c_X2_payWage l D cI a σ (k := k) hk _) (cwV 1 hts gX1_serve_X2_payWage rfl rfl rfl zdX2_payWage ⟨Nat.le_of_ble_eq_true rfl, Nat.le_of_ble_eq_true rfl⟩) ⟨zbl _, va_recv hK hP (ci := 2) (q0 := 2) rfl rfl, zpr hK hP hD⟩ rfl rfl hl.1 rfl (lv_room (Nat.le_of_ble_eq_true rfl)) dX1_serve_24 ⟨Nat.zero_le _, Nat.zero_le _⟩) hS hF (fun H locs hkp hP1 hD1 hS => ?_)
      have hP := hP1
      have hD := hD1.weaken (fun _ _ _ z => hF _ z)
      have hP : va_P D vwCl (zw_H cI a (f_pay σ k)) H := hP
      have hD : va_D A (zw_H cI a (f_pay σ k)) := hD
      have hC := hC.to (f_pay_0 σ k) (f_pay_6 σ k)
      refine lv_aload_n hx hb dX1_serve_27 rfl (lv_at hl 0 rfl) ?_
      refine lv_iload_n hx hb dX1_serve_28 rfl (lv_at hl 1 rfl) ?_
      refine zk_R (D := D) (va_runV (As := [.int (nI k)]) (rest := []) ⟨hx, hb, hml, hown, hts⟩ (c_X1_canRedeemBoots l D cI a (f_pay σ k) (k := k) hk _) (cwV 1 hts gX1_serve_X1_canRedeemBoots rfl rfl rfl zdX1_canRedeemBoots ⟨Nat.le_of_ble_eq_true rfl, Nat.le_of_ble_eq_true rfl⟩) ⟨zbl _, va_recv hK hP (ci := 1) (q0 := 0) rfl rfl, zpr hK hP hD⟩ rfl rfl hl.1 rfl (lv_room (Nat.le_of_ble_eq_true rfl)) dX1_serve_29 ⟨Nat.zero_le _, Nat.zero_le _⟩) hS (fun r_9 H locs hw hkp hS => ?_)
      have hP := hkp _ hP
      rcases hw with ⟨c_10, rfl⟩ | ⟨c_10, rfl⟩
      · refine lv_if_eq (tgt := 40) hx hb dX1_serve_32 (by decide) (fun c => absurd c (by decide)) (fun _ => ?_)
        refine lv_aload_n hx hb dX1_serve_35 rfl (lv_at hl 0 rfl) ?_
        refine lv_iload_n hx hb dX1_serve_36 rfl (lv_at hl 1 rfl) ?_
        have hF := zfree hD hS hA
        refine zk_V (va_runV (As := [.int (nI k)]) (rest := []) ⟨hx, hb, hml, hown, hts⟩ (c_X1_redeemBoots l D cI a (f_pay σ k) (k := k) hk _) (cwV 1 hts gX1_serve_X1_redeemBoots rfl rfl rfl zdX1_redeemBoots ⟨Nat.le_of_ble_eq_true rfl, Nat.le_of_ble_eq_true rfl⟩) ⟨zbl _, va_recv hK hP (ci := 1) (q0 := 0) rfl rfl, zpr hK hP hD⟩ rfl rfl hl.1 rfl (lv_room (Nat.le_of_ble_eq_true rfl)) dX1_serve_37 ⟨Nat.zero_le _, Nat.zero_le _⟩) hS hF (fun H locs hkp hP1 hD1 hS => ?_)
        have hP := hP1
        have hD := hD1.weaken (fun _ _ _ z => hF _ z)
        have hP : va_P D vwCl (zw_H cI a (f_red (f_pay σ k) k)) H := hP
        have hD : va_D A (zw_H cI a (f_red (f_pay σ k) k)) := hD
        have hC := hC.to (f_red_0 (f_pay σ k) k) (f_red_6 (f_pay σ k) k)
        refine lv_aload_n hx hb dX1_serve_40 rfl (lv_at hl 0 rfl) ?_
        refine va_get (D := D) (ci := 1) (v := .ref (a 2)) (C := RX1) (T := TX1) (N := 5) hx hb hts hinX1 hown hK hP 0 rfl rfl 4 (by decide) hf29 (fun _ h9 => h9) rfl dX1_serve_41 ?_
        refine lv_iload_n hx hb dX1_serve_44 rfl (lv_at hl 1 rfl) ?_
        refine zk_R (D := D) (va_runV (As := [.int (nI k)]) (rest := []) ⟨hx, hb, hml, hown, hts⟩ (c_X2_isUp l D cI a (f_red (f_pay σ k) k) (k := k) hk _) (cwV 1 hts gX1_serve_X2_isUp rfl rfl rfl zdX2_isUp ⟨Nat.le_of_ble_eq_true rfl, Nat.le_of_ble_eq_true rfl⟩) ⟨zbl _, va_recv hK hP (ci := 2) (q0 := 2) rfl rfl, zpr hK hP hD⟩ rfl rfl hl.1 rfl (lv_room (Nat.le_of_ble_eq_true rfl)) dX1_serve_45 ⟨Nat.zero_le _, Nat.zero_le _⟩) hS (fun r_12 H locs hw hkp hS => ?_)
        have hP := hkp _ hP
        rcases hw with ⟨c_13, rfl⟩ | ⟨c_13, rfl⟩
        · refine lv_if_eq (tgt := 56) hx hb dX1_serve_48 (by decide) (fun c => absurd c (by decide)) (fun _ => ?_)
          refine lv_aload_n hx hb dX1_serve_51 rfl (lv_at hl 0 rfl) ?_
          refine lv_iload_n hx hb dX1_serve_52 rfl (lv_at hl 1 rfl) ?_
          have hF := zfree hD hS hA
          refine zk_V (va_runV (As := [.int (nI k)]) (rest := []) ⟨hx, hb, hml, hown, hts⟩ (c_X1_lookForBed l D cI a (f_red (f_pay σ k) k) (k := k) hk hC _) (cwV 1 hts gX1_serve_X1_lookForBed rfl rfl rfl zdX1_lookForBed ⟨Nat.le_of_ble_eq_true rfl, Nat.le_of_ble_eq_true rfl⟩) ⟨zbl _, va_recv hK hP (ci := 1) (q0 := 0) rfl rfl, zpr hK hP hD⟩ rfl rfl hl.1 rfl (lv_room (Nat.le_of_ble_eq_true rfl)) dX1_serve_53 ⟨Nat.zero_le _, Nat.zero_le _⟩) hS hF (fun H locs hkp hP1 hD1 hS => ?_)
          have hP := hP1
          have hD := hD1.weaken (fun _ _ _ z => hF _ z)
          have hP : va_P D vwCl (zw_H cI a (f_look (f_red (f_pay σ k) k) nb h k)) H := hP
          have hD : va_D A (zw_H cI a (f_look (f_red (f_pay σ k) k) nb h k)) := hD
          have e9 : f_serve σ nb h k = f_look (f_red (f_pay σ k) k) nb h k := by simp only [f_serve, f_payR, if_pos c_2, if_pos c_4, if_pos c_10, if_pos c_13]
          have hP9 : va_P D vwCl (zw_H cI a (f_serve σ nb h k)) H := by rw [e9]; exact hP
          have hD9 : va_D A (zw_H cI a (f_serve σ nb h k)) := by rw [e9]; exact hD
          exact W.vret hx hb hr (fun t ht hW => ⟨⟨(), rfl, trivial, by rw [ht]; exact hP9, va_K.moved hW.alike hK, hD9⟩, hS.F ht⟩) hS.2.2 dX1_serve_56
        · refine lv_if_eq (tgt := 56) hx hb dX1_serve_48 (by decide) (fun _ => ?_) (fun c => absurd (by decide) c)
          have e9 : f_serve σ nb h k = f_red (f_pay σ k) k := by simp only [f_serve, f_payR, if_pos c_2, if_pos c_4, if_pos c_10, if_neg c_13]
          have hP9 : va_P D vwCl (zw_H cI a (f_serve σ nb h k)) H := by rw [e9]; exact hP
          have hD9 : va_D A (zw_H cI a (f_serve σ nb h k)) := by rw [e9]; exact hD
          exact W.vret hx hb hr (fun t ht hW => ⟨⟨(), rfl, trivial, by rw [ht]; exact hP9, va_K.moved hW.alike hK, hD9⟩, hS.F ht⟩) hS.2.2 dX1_serve_56
      · refine lv_if_eq (tgt := 40) hx hb dX1_serve_32 (by decide) (fun _ => ?_) (fun c => absurd (by decide) c)
        refine lv_aload_n hx hb dX1_serve_40 rfl (lv_at hl 0 rfl) ?_
        refine va_get (D := D) (ci := 1) (v := .ref (a 2)) (C := RX1) (T := TX1) (N := 5) hx hb hts hinX1 hown hK hP 0 rfl rfl 4 (by decide) hf29 (fun _ h9 => h9) rfl dX1_serve_41 ?_
        refine lv_iload_n hx hb dX1_serve_44 rfl (lv_at hl 1 rfl) ?_
        refine zk_R (D := D) (va_runV (As := [.int (nI k)]) (rest := []) ⟨hx, hb, hml, hown, hts⟩ (c_X2_isUp l D cI a (f_pay σ k) (k := k) hk _) (cwV 1 hts gX1_serve_X2_isUp rfl rfl rfl zdX2_isUp ⟨Nat.le_of_ble_eq_true rfl, Nat.le_of_ble_eq_true rfl⟩) ⟨zbl _, va_recv hK hP (ci := 2) (q0 := 2) rfl rfl, zpr hK hP hD⟩ rfl rfl hl.1 rfl (lv_room (Nat.le_of_ble_eq_true rfl)) dX1_serve_45 ⟨Nat.zero_le _, Nat.zero_le _⟩) hS (fun r_17 H locs hw hkp hS => ?_)
        have hP := hkp _ hP
        rcases hw with ⟨c_18, rfl⟩ | ⟨c_18, rfl⟩
        · refine lv_if_eq (tgt := 56) hx hb dX1_serve_48 (by decide) (fun c => absurd c (by decide)) (fun _ => ?_)
          refine lv_aload_n hx hb dX1_serve_51 rfl (lv_at hl 0 rfl) ?_
          refine lv_iload_n hx hb dX1_serve_52 rfl (lv_at hl 1 rfl) ?_
          have hF := zfree hD hS hA
          refine zk_V (va_runV (As := [.int (nI k)]) (rest := []) ⟨hx, hb, hml, hown, hts⟩ (c_X1_lookForBed l D cI a (f_pay σ k) (k := k) hk hC _) (cwV 1 hts gX1_serve_X1_lookForBed rfl rfl rfl zdX1_lookForBed ⟨Nat.le_of_ble_eq_true rfl, Nat.le_of_ble_eq_true rfl⟩) ⟨zbl _, va_recv hK hP (ci := 1) (q0 := 0) rfl rfl, zpr hK hP hD⟩ rfl rfl hl.1 rfl (lv_room (Nat.le_of_ble_eq_true rfl)) dX1_serve_53 ⟨Nat.zero_le _, Nat.zero_le _⟩) hS hF (fun H locs hkp hP1 hD1 hS => ?_)
          have hP := hP1
          have hD := hD1.weaken (fun _ _ _ z => hF _ z)
          have hP : va_P D vwCl (zw_H cI a (f_look (f_pay σ k) nb h k)) H := hP
          have hD : va_D A (zw_H cI a (f_look (f_pay σ k) nb h k)) := hD
          have e9 : f_serve σ nb h k = f_look (f_pay σ k) nb h k := by simp only [f_serve, f_payR, if_pos c_2, if_pos c_4, if_neg c_10, if_pos c_18]
          have hP9 : va_P D vwCl (zw_H cI a (f_serve σ nb h k)) H := by rw [e9]; exact hP
          have hD9 : va_D A (zw_H cI a (f_serve σ nb h k)) := by rw [e9]; exact hD
          exact W.vret hx hb hr (fun t ht hW => ⟨⟨(), rfl, trivial, by rw [ht]; exact hP9, va_K.moved hW.alike hK, hD9⟩, hS.F ht⟩) hS.2.2 dX1_serve_56
        · refine lv_if_eq (tgt := 56) hx hb dX1_serve_48 (by decide) (fun _ => ?_) (fun c => absurd (by decide) c)
          have e9 : f_serve σ nb h k = f_pay σ k := by simp only [f_serve, f_payR, if_pos c_2, if_pos c_4, if_neg c_10, if_neg c_18]
          have hP9 : va_P D vwCl (zw_H cI a (f_serve σ nb h k)) H := by rw [e9]; exact hP
          have hD9 : va_D A (zw_H cI a (f_serve σ nb h k)) := by rw [e9]; exact hD
          exact W.vret hx hb hr (fun t ht hW => ⟨⟨(), rfl, trivial, by rw [ht]; exact hP9, va_K.moved hW.alike hK, hD9⟩, hS.F ht⟩) hS.2.2 dX1_serve_56
  · refine lv_if_ne (tgt := 9) hx hb dX1_serve_5 (by decide) (fun c => absurd (by decide) c) (fun _ => ?_)
    have e9 : f_serve σ nb h k = σ := by simp only [f_serve, f_payR, if_neg c_2]
    have hP9 : va_P D vwCl (zw_H cI a (f_serve σ nb h k)) H := by rw [e9]; exact hP
    have hD9 : va_D A (zw_H cI a (f_serve σ nb h k)) := by rw [e9]; exact hD
    exact W.vret hx hb hr (fun t ht hW => ⟨⟨(), rfl, trivial, by rw [ht]; exact hP9, va_K.moved hW.alike hK, hD9⟩, hS.F ht⟩) hS.2.2 dX1_serve_8
end
section
theorem zlk {x : Int32} {o1 o2 d : Int} (h1 : ¬ x = 1) (h2 : ¬ x = 2) : Op.lookupswitch.offset [((1 : Int), o1), ((2 : Int), o2)] d x.toInt = d := by
  have n1 : ¬ (1 : Int) = x.toInt := fun z => h1 (Int32.toInt_inj.mp z.symm)
  have n2 : ¬ (2 : Int) = x.toInt := fun z => h2 (Int32.toInt_inj.mp z.symm)
  rw [Op.lookupswitch.offset_cons, if_neg n1, Op.lookupswitch.offset_cons, if_neg n2, Op.lookupswitch.offset_nil]
theorem f_getUp_0 (σ : zS) (k : Nat) : f_getUp σ k 0 = σ 0 := by unfold f_getUp f_leave; split <;> rfl
theorem f_getUp_6 (σ : zS) (k : Nat) : f_getUp σ k 6 = σ 6 := by unfold f_getUp f_leave; split <;> rfl
theorem f_try1_0 (σ : zS) (k b : Nat) : f_try1 σ k b 0 = σ 0 := by unfold f_try1; split <;> rfl
theorem f_try1_6 (σ : zS) (k b : Nat) : f_try1 σ k b 6 = σ 6 := by unfold f_try1; split <;> rfl
theorem f_try_0 (σ : zS) (k b : Nat) : f_try σ k b 0 = σ 0 := by unfold f_try; split <;> exact f_try1_0 σ k b
theorem f_try_6 (σ : zS) (k b : Nat) : f_try σ k b 6 = σ 6 := by unfold f_try; split <;> exact f_try1_6 σ k b
theorem f_look_0 (σ : zS) (nb h k : Nat) : f_look σ nb h k 0 = σ 0 := by
  unfold f_look
  split
  · exact f_try_0 _ _ _
  · split <;> rfl
theorem f_look_6 (σ : zS) (nb h k : Nat) : f_look σ nb h k 6 = σ 6 := by
  unfold f_look
  split
  · exact f_try_6 _ _ _
  · split <;> rfl
theorem f_payR_0 (σ : zS) (h k : Nat) : f_payR σ h k 0 = σ 0 := by
  unfold f_payR
  split
  · split <;> rfl
  · rfl
theorem f_payR_6 (σ : zS) (h k : Nat) : f_payR σ h k 6 = σ 6 := by
  unfold f_payR
  split
  · split <;> rfl
  · rfl
theorem f_serve_0 (σ : zS) (nb h k : Nat) : f_serve σ nb h k 0 = σ 0 := by
  unfold f_serve
  split
  · split
    · exact (f_look_0 _ _ _ _).trans (f_payR_0 _ _ _)
    · exact f_payR_0 _ _ _
  · rfl
theorem f_serve_6 (σ : zS) (nb h k : Nat) : f_serve σ nb h k 6 = σ 6 := by
  unfold f_serve
  split
  · split
    · exact (f_look_6 _ _ _ _).trans (f_payR_6 _ _ _)
    · exact f_payR_6 _ _ _
  · rfl
theorem f_ring_0 (σ : zS) (h k : Nat) : f_ring σ h k 0 = σ 0 := by
  unfold f_ring
  split
  · rfl
  · split
    · rfl
    · split
      · rfl
      · exact f_getUp_0 _ _
theorem f_ring_6 (σ : zS) (h k : Nat) : f_ring σ h k 6 = σ 6 := by
  unfold f_ring
  split
  · rfl
  · split
    · rfl
    · split
      · rfl
      · exact f_getUp_6 _ _
theorem f_itr_row {F : zS → Nat → zS} {r : Nat} (hF : ∀ τ k, F τ k r = τ r) (σ : zS) : ∀ j : Nat, f_itr F j σ r = σ r
  | 0 => rfl
  | j + 1 => (hF (f_itr F j σ) j).trans (f_itr_row hF σ j)
theorem zC.itr {F : zS → Nat → zS} {σ : zS} {nb ns h : Nat} (hC : zC σ nb ns h) (h0 : ∀ τ k, F τ k 0 = τ 0) (h6 : ∀ τ k, F τ k 6 = τ 6) (j : Nat) : zC (f_itr F j σ) nb ns h := hC.to (f_itr_row h0 σ j) (f_itr_row h6 σ j)
theorem zC.ring {σ : zS} {nb ns h : Nat} (hC : zC σ nb ns h) (j : Nat) : zC (f_itr (fun τ k => f_ring τ h k) j σ) nb ns h := hC.itr (fun τ k => f_ring_0 τ h k) (fun τ k => f_ring_6 τ h k) j
theorem zC.serve {σ : zS} {nb ns h : Nat} (hC : zC σ nb ns h) (j : Nat) : zC (f_itr (fun τ k => f_serve τ nb h k) j σ) nb ns h := hC.itr (fun τ k => f_serve_0 τ nb h k) (fun τ k => f_serve_6 τ nb h k) j
theorem zC.rest {σ : zS} {nb ns h : Nat} (hC : zC σ nb ns h) (j : Nat) : zC (f_itr (fun τ k => f_rest τ h k) j σ) nb ns h := hC.itr (F := fun τ k => f_rest τ h k) (fun _ _ => rfl) (fun _ _ => rfl) j
theorem zC.cool {σ : zS} {nb ns h : Nat} (hC : zC σ nb ns h) (j : Nat) : zC (f_cool σ j) nb ns h := hC.to (f_cool_0 σ j) (f_cool_6 σ j)
theorem zC.hour {σ : zS} {nb ns h : Nat} (hC : zC σ nb ns h) (hh : h + 1 < 2 ^ 30) : zC (f_hour σ nb ns h) nb ns (h + 1) := by
  have h1 := ((hC.ring ns).serve ns)
  have h2 := (h1.rest ns).cool nb
  exact ⟨h2.1, h2.2.1, h2.2.2.1, h2.2.2.2.1, rfl, hh, h2.2.2.2.2.2.2⟩
theorem zC.hours {σ : zS} {nb ns h : Nat} (hC : zC σ nb ns h) : ∀ n : Nat, h + n < 2 ^ 30 → zC (f_hours σ nb ns h n) nb ns (h + n)
  | 0, _ => hC
  | n + 1, hn => (hC.hours n (by omega)).hour hn

set_option maxHeartbeats 4000000 in
set_option maxRecDepth 100000 in
theorem c_X1_restOfHour (l : Launch) (D : va_G) (cI : ClassId) (a : Nat → Nat) (σ : zS) {k : Nat} (hk : k < 10) {nb ns h : Nat} (hC : zC σ nb ns h) : zMR l yX1_restOfHour wsX1_restOfHour ({ frames := 2, cells := 0, slots := 0, locals := 42 }) [.ref (a 0), .int (nI k)] D [(cI, .int)] (zw_H cI a σ) (fun r => r = f_roh σ h k) := by
  intro sz
  refine Met.ofW (cc := cX1_restOfHour) (maxL := 2) (ret := (some .int)) (by decide) rfl ?_
  intro p e s m args below meth c s₁ B hml hv
  obtain ⟨rfl, hsz, hP, hK, hD⟩ := hv
  have hx := B.exec
  have hb := B.bytes
  have hr := B.returns
  have hts := atoms_spec (ws := wsX1_restOfHour) B.pre
  have hown : s.vm.findClass RX1 = some m.cls := findClass_of_methodNamed B.named
  have hlocks := B.notSynchronized
  have hS : va_S (fun _ => False) s.heap s.heap [] := va_S.rf
  have hP : va_P D vwCl (zw_H cI a σ) s.heap := hP
  have hl := lv_entry ([.ref (a 0), .int (nI k)]) (n := 2) (Nat.le_of_ble_eq_true rfl)
  rw [lg_entry_eq]
  generalize (lg_sl ([.ref (a 0), .int (nI k)]) ++ List.replicate (2 - (lg_sl ([.ref (a 0), .int (nI k)])).length) Slot.unset).toArray = ls at hl ⊢
  have hl : lv_has ls 2 [(0, .ref (a 0)), (1, .int (nI k))] := hl
  have hf22 := hts (.fieldLink RX1 22 "HotBeds$House" "beds" "LHotBeds$Beds;") (by decide +kernel)
  have hf29 := hts (.fieldLink RX1 29 "HotBeds$House" "sailors" "LHotBeds$Sailors;") (by decide +kernel)
  have hf61 := hts (.fieldLink RX1 61 "HotBeds$Sailors" "bed" "[I") (by decide +kernel)
  have hf7 := hts (.fieldLink RX1 7 "HotBeds$House" "hour" "I") (by decide +kernel)
  have hf71 := hts (.fieldLink RX1 71 "HotBeds$Sailors" "place" "[I") (by decide +kernel)
  have hinX1 : ∀ w ∈ u_ws RX1 TX1 5, w ∈ wsX1_restOfHour := by decide +kernel
  have hinX2 : ∀ w ∈ u_ws RX2 TX2 13, w ∈ wsX1_restOfHour := by decide +kernel
  have hnb := hC.2.1
  have hns := hC.2.2.2.1
  have hh := hC.2.2.2.2.2.1
  refine lv_aload_n hx hb dX1_restOfHour_0 rfl (lv_at hl 0 rfl) ?_
  refine va_get (D := D) (ci := 1) (v := .ref (a 2)) (C := RX1) (T := TX1) (N := 5) hx hb hts hinX1 hown hK hP 0 rfl rfl 4 (by decide) hf29 (fun _ h9 => h9) rfl dX1_restOfHour_1 ?_
  refine va_get (D := D) (ci := 2) (v := .ref (a 14)) (C := RX2) (T := TX2) (N := 13) hx hb hts hinX2 hown hK hP 2 rfl rfl 7 (by decide) hf71 (fun _ h9 => h9) rfl dX1_restOfHour_4 ?_
  refine lv_iload_n hx hb dX1_restOfHour_7 rfl (lv_at hl 1 rfl) ?_
  refine zk_ld hx hb hK hP 14 0 (zwq12 cI a _) rfl (k := k) hk (by decide) (v := σ 12 k) rfl dX1_restOfHour_8 ?_
  by_cases c_1 : σ 12 k = 1
  · refine lv_lookup hx hb dX1_restOfHour_9 (by decide) (off := 27) (by rw [c_1]; decide) (tgt := 36) (by decide) ?_
    refine lv_aload_n hx hb dX1_restOfHour_36 rfl (lv_at hl 0 rfl) ?_
    refine va_get (D := D) (ci := 1) (v := .ref (a 1)) (C := RX1) (T := TX1) (N := 5) hx hb hts hinX1 hown hK hP 0 rfl rfl 3 (by decide) hf22 (fun _ h9 => h9) rfl dX1_restOfHour_37 ?_
    refine lv_aload_n hx hb dX1_restOfHour_40 rfl (lv_at hl 0 rfl) ?_
    refine va_get (D := D) (ci := 1) (v := .ref (a 2)) (C := RX1) (T := TX1) (N := 5) hx hb hts hinX1 hown hK hP 0 rfl rfl 4 (by decide) hf29 (fun _ h9 => h9) rfl dX1_restOfHour_41 ?_
    refine va_get (D := D) (ci := 2) (v := .ref (a 15)) (C := RX2) (T := TX2) (N := 13) hx hb hts hinX2 hown hK hP 2 rfl rfl 8 (by decide) hf61 (fun _ h9 => h9) rfl dX1_restOfHour_44 ?_
    refine lv_iload_n hx hb dX1_restOfHour_47 rfl (lv_at hl 1 rfl) ?_
    refine zk_ld hx hb hK hP 15 0 (zwq13 cI a _) rfl (k := k) hk (by decide) (v := σ 13 k) rfl dX1_restOfHour_48 ?_
    refine zk_R (D := D) (va_runV (As := [.int (σ 13 k)]) (rest := []) ⟨hx, hb, hml, hown, hts⟩ (c_X0_isWarm l D cI a σ (σ 13 k) hC _) (cwV 1 hts gX1_restOfHour_X0_isWarm rfl rfl rfl zdX0_isWarm ⟨Nat.le_of_ble_eq_true rfl, Nat.le_of_ble_eq_true rfl⟩) ⟨zbl _, va_recv hK hP (ci := 0) (q0 := 1) rfl rfl, zpr hK hP hD⟩ rfl rfl hl.1 rfl (lv_room (Nat.le_of_ble_eq_true rfl)) dX1_restOfHour_49 ⟨Nat.zero_le _, Nat.zero_le _⟩) hS (fun r_3 H locs hw hkp hS => ?_)
    have hP := hkp _ hP
    rcases hw with ⟨c_4, rfl⟩ | ⟨c_4, rfl⟩
    · refine lv_if_eq (tgt := 59) hx hb dX1_restOfHour_52 (by decide) (fun c => absurd c (by decide)) (fun _ => ?_)
      refine lv_iconst (v := 2) hx hb dX1_restOfHour_55 (by decide) ?_
      refine lv_goto (tgt := 60) hx hb dX1_restOfHour_56 (by decide) ?_
      exact W.iret (v := 2) hx hb hr (fun t ht hW => ⟨⟨2, (), rfl, (by simp only [f_roh, if_pos c_1, if_pos c_4]), trivial⟩, hS.F ht⟩) hS.2.2 dX1_restOfHour_60
    · refine lv_if_eq (tgt := 59) hx hb dX1_restOfHour_52 (by decide) (fun _ => ?_) (fun c => absurd (by decide) c)
      refine lv_iconst (v := 1) hx hb dX1_restOfHour_59 (by decide) ?_
      exact W.iret (v := 1) hx hb hr (fun t ht hW => ⟨⟨1, (), rfl, (by simp only [f_roh, if_pos c_1, if_neg c_4]), trivial⟩, hS.F ht⟩) hS.2.2 dX1_restOfHour_60
  · by_cases c_2 : σ 12 k = 2
    · refine lv_lookup hx hb dX1_restOfHour_9 (by decide) (off := 52) (by rw [c_2]; decide) (tgt := 61) (by decide) ?_
      refine lv_aload_n hx hb dX1_restOfHour_61 rfl (lv_at hl 0 rfl) ?_
      refine va_get (D := D) (ci := 1) (v := .int (nI h)) (C := RX1) (T := TX1) (N := 5) hx hb hts hinX1 hown hK hP 0 rfl rfl 0 (by decide) hf7 (fun _ h9 => h9) (congrArg (fun z => some (Value.int z)) hC.2.2.2.2.1) dX1_restOfHour_62 ?_
      refine lv_iconst (v := 2) hx hb dX1_restOfHour_65 (by decide) ?_
      refine zk_rem (x := h) (y := 2) hx hb dX1_restOfHour_66 (by omega) (by decide) (by decide) ?_
      refine lv_if_ne (tgt := 74) hx hb dX1_restOfHour_67 (by decide) (fun c_7 => ?_) (fun c_7 => ?_)
      · refine lv_iconst (v := 1) hx hb dX1_restOfHour_74 (by decide) ?_
        exact W.iret (v := 1) hx hb hr (fun t ht hW => ⟨⟨1, (), rfl, (by simp only [f_roh, if_neg c_1, if_pos c_2, if_neg c_7]), trivial⟩, hS.F ht⟩) hS.2.2 dX1_restOfHour_75
      · refine lv_iconst (v := 0) hx hb dX1_restOfHour_70 (by decide) ?_
        refine lv_goto (tgt := 75) hx hb dX1_restOfHour_71 (by decide) ?_
        exact W.iret (v := 0) hx hb hr (fun t ht hW => ⟨⟨0, (), rfl, (by simp only [f_roh, if_neg c_1, if_pos c_2, if_pos c_7]), trivial⟩, hS.F ht⟩) hS.2.2 dX1_restOfHour_75
    · refine lv_lookup hx hb dX1_restOfHour_9 (by decide) (off := 67) (zlk c_1 c_2) (tgt := 76) (by decide) ?_
      refine lv_iconst (v := 0) hx hb dX1_restOfHour_76 (by decide) ?_
      exact W.iret (v := 0) hx hb hr (fun t ht hW => ⟨⟨0, (), rfl, (by simp only [f_roh, if_neg c_1, if_neg c_2]), trivial⟩, hS.F ht⟩) hS.2.2 dX1_restOfHour_77

set_option maxHeartbeats 4000000 in
set_option maxRecDepth 100000 in
theorem c_X1_goOn (l : Launch) (D : va_G) (cI : ClassId) (a : Nat → Nat) (σ : zS) {n : Nat} {nb ns h : Nat} (hC : zC σ nb ns h) (hn : h + n < 2 ^ 30) : zMV l yX1_goOn wsX1_goOn ({ frames := 6, cells := 0, slots := 0, locals := 126 }) [.ref (a 0), .int (nI n)] D [(cI, .int)] (zw_H cI a σ) (zw_H cI a (f_hours σ nb ns h n)) := by
  intro sz
  refine Met.ofW (cc := cX1_goOn) (maxL := 4) (ret := none) (by decide) rfl ?_
  intro p e s m args below meth c s₁ B hml hv
  obtain ⟨rfl, hsz, hP, hK, hD⟩ := hv
  have hx := B.exec
  have hb := B.bytes
  have hr := B.returns
  have hts := atoms_spec (ws := wsX1_goOn) B.pre
  have hown : s.vm.findClass RX1 = some m.cls := findClass_of_methodNamed B.named
  have hlocks := B.notSynchronized
  subst hsz
  have hD := hD.self (sz := s.heap.size)
  generalize hAe : va_A (zw_H cI a σ) s.heap.size = A at hD ⊢
  have hA : ∀ q : Nat, s.heap.size ≤ q → A q := fun q h => by rw [← hAe]; exact Or.inr h
  have hS : va_S A s.heap s.heap [] := va_S.rf
  have hP : va_P D vwCl (zw_H cI a σ) s.heap := hP
  have hl := lv_entry ([.ref (a 0), .int (nI n)]) (n := 4) (Nat.le_of_ble_eq_true rfl)
  rw [lg_entry_eq]
  generalize (lg_sl ([.ref (a 0), .int (nI n)]) ++ List.replicate (4 - (lg_sl ([.ref (a 0), .int (nI n)])).length) Slot.unset).toArray = ls at hl ⊢
  have hl : lv_has ls 4 [(0, .ref (a 0)), (1, .int (nI n))] := hl
  have hf22 := hts (.fieldLink RX1 22 "HotBeds$House" "beds" "LHotBeds$Beds;") (by decide +kernel)
  have hf29 := hts (.fieldLink RX1 29 "HotBeds$House" "sailors" "LHotBeds$Sailors;") (by decide +kernel)
  have hf40 := hts (.fieldLink RX1 40 "HotBeds$Sailors" "size" "I") (by decide +kernel)
  have hf50 := hts (.fieldLink RX1 50 "HotBeds$Sailors" "rest" "[I") (by decide +kernel)
  have hf7 := hts (.fieldLink RX1 7 "HotBeds$House" "hour" "I") (by decide +kernel)
  have hinX1 : ∀ w ∈ u_ws RX1 TX1 5, w ∈ wsX1_goOn := by decide +kernel
  have hinX2 : ∀ w ∈ u_ws RX2 TX2 13, w ∈ wsX1_goOn := by decide +kernel
  have hC0 := hC
  have hnb := hC.2.1
  have hns := hC.2.2.2.1
  have hh := hC.2.2.2.2.2.1
  refine lv_iconst (v := 0) hx hb dX1_goOn_0 (by decide) ?_
  refine lv_istore_n (lv' := [(2, .int 0), (0, .ref (a 0)), (1, .int (nI n))]) hx hb dX1_goOn_1 rfl hl (by decide) rfl (fun ls hl => ?_)
  refine zk_loop (pc := 2) (fun i H locs ls => va_P D vwCl (zw_H cI a (f_hours σ nb ns h i)) H ∧ va_D A (zw_H cI a (f_hours σ nb ns h i)) ∧ va_S A s.heap H locs ∧ lv_has ls 4 [(0, .ref (a 0)), (1, .int (nI n)), (2, .int (nI i))]) n (fun i hki ih H locs ls hI => ?_) (fun H locs ls hI => ?_) _ _ _ ⟨hP, hD, hS, lv_sub hl [1, 2, 0] rfl⟩
  · obtain ⟨hP, hD, hS, hl⟩ := hI
    have hC := hC0.hours i (by omega)
    refine lv_iload_n hx hb dX1_goOn_2 rfl (lv_at hl 2 rfl) ?_
    refine lv_iload_n hx hb dX1_goOn_3 rfl (lv_at hl 1 rfl) ?_
    refine lv_icmp_ge (tgt := 114) hx hb dX1_goOn_4 (by decide) (fun c => absurd c (nI_ge hki (by omega))) (fun _ => ?_)
    refine lv_iconst (v := 0) hx hb dX1_goOn_7 (by decide) ?_
    refine lv_istore_n (lv' := [(3, .int 0), (0, .ref (a 0)), (1, .int (nI n)), (2, .int (nI i))]) hx hb dX1_goOn_8 rfl hl (by decide) rfl (fun ls hl => ?_)
    refine zk_loop (pc := 9) (fun j H locs ls => va_P D vwCl (zw_H cI a (f_itr (fun τ k => f_ring τ (h + i) k) j (f_hours σ nb ns h i))) H ∧ va_D A (zw_H cI a (f_itr (fun τ k => f_ring τ (h + i) k) j (f_hours σ nb ns h i))) ∧ va_S A s.heap H locs ∧ lv_has ls 4 [(0, .ref (a 0)), (1, .int (nI n)), (2, .int (nI i)), (3, .int (nI j))]) ns (fun j hkj ih H locs ls hI => ?_) (fun H locs ls hI => ?_) _ _ _ ⟨hP, hD, hS, lv_sub hl [1, 2, 3, 0] rfl⟩
    · obtain ⟨hP, hD, hS, hl⟩ := hI
      have hC := hC.ring j
      refine lv_iload_n hx hb dX1_goOn_9 rfl (lv_at hl 3 rfl) ?_
      refine lv_aload_n hx hb dX1_goOn_10 rfl (lv_at hl 0 rfl) ?_
      refine va_get (D := D) (ci := 1) (v := .ref (a 2)) (C := RX1) (T := TX1) (N := 5) hx hb hts hinX1 hown hK hP 0 rfl rfl 4 (by decide) hf29 (fun _ h9 => h9) rfl dX1_goOn_11 ?_
      refine va_get (D := D) (ci := 2) (v := .int (nI ns)) (C := RX2) (T := TX2) (N := 13) hx hb hts hinX2 hown hK hP 2 rfl rfl 0 (by decide) hf40 (fun _ h9 => h9) (congrArg (fun z => some (Value.int z)) hC.2.2.1) dX1_goOn_14 ?_
      refine lv_icmp_ge (tgt := 31) hx hb dX1_goOn_17 (by decide) (fun c => absurd c (nI_ge hkj (by omega))) (fun _ => ?_)
      refine lv_aload_n hx hb dX1_goOn_20 rfl (lv_at hl 0 rfl) ?_
      refine lv_iload_n hx hb dX1_goOn_21 rfl (lv_at hl 3 rfl) ?_
      have hF := zfree hD hS hA
      refine zk_V (va_runV (As := [.int (nI j)]) (rest := []) ⟨hx, hb, hml, hown, hts⟩ (c_X1_ringBell l D cI a (f_itr (fun τ k => f_ring τ (h + i) k) j (f_hours σ nb ns h i)) (k := j) (by omega) hC _) (cwV 1 hts gX1_goOn_X1_ringBell rfl rfl rfl zdX1_ringBell ⟨Nat.le_of_ble_eq_true rfl, Nat.le_of_ble_eq_true rfl⟩) ⟨zbl _, va_recv hK hP (ci := 1) (q0 := 0) rfl rfl, zpr hK hP hD⟩ rfl rfl hl.1 rfl (lv_room (Nat.le_of_ble_eq_true rfl)) dX1_goOn_22 ⟨Nat.zero_le _, Nat.zero_le _⟩) hS hF (fun H locs hkp hP1 hD1 hS => ?_)
      have hP := hP1
      have hD := hD1.weaken (fun _ _ _ z => hF _ z)
      have hP : va_P D vwCl (zw_H cI a (f_ring (f_itr (fun τ k => f_ring τ (h + i) k) j (f_hours σ nb ns h i)) (h + i) j)) H := hP
      have hD : va_D A (zw_H cI a (f_ring (f_itr (fun τ k => f_ring τ (h + i) k) j (f_hours σ nb ns h i)) (h + i) j)) := hD
      refine lv_iinc (v := nI (j + 1)) (lv' := [(3, .int (nI (j + 1))), (0, .ref (a 0)), (1, .int (nI n)), (2, .int (nI i))]) hx hb dX1_goOn_25 hl (k := 3) rfl (nI_1 j) (by decide) rfl (fun ls hl => ?_)
      refine lv_goto (tgt := 9) hx hb dX1_goOn_28 (by decide) ?_
      exact ih _ _ _ ⟨hP, hD, hS, lv_sub hl [1, 2, 3, 0] rfl⟩
    · obtain ⟨hP, hD, hS, hl⟩ := hI
      have hC := hC.ring ns
      refine lv_iload_n hx hb dX1_goOn_9 rfl (lv_at hl 3 rfl) ?_
      refine lv_aload_n hx hb dX1_goOn_10 rfl (lv_at hl 0 rfl) ?_
      refine va_get (D := D) (ci := 1) (v := .ref (a 2)) (C := RX1) (T := TX1) (N := 5) hx hb hts hinX1 hown hK hP 0 rfl rfl 4 (by decide) hf29 (fun _ h9 => h9) rfl dX1_goOn_11 ?_
      refine va_get (D := D) (ci := 2) (v := .int (nI ns)) (C := RX2) (T := TX2) (N := 13) hx hb hts hinX2 hown hK hP 2 rfl rfl 0 (by decide) hf40 (fun _ h9 => h9) (congrArg (fun z => some (Value.int z)) hC.2.2.1) dX1_goOn_14 ?_
      refine lv_icmp_ge (tgt := 31) hx hb dX1_goOn_17 (by decide) (fun _ => ?_) (fun c => absurd (Int32.le_refl _) c)
      refine lv_iconst (v := 0) hx hb dX1_goOn_31 (by decide) ?_
      refine lv_istore_n (lv' := [(3, .int 0), (0, .ref (a 0)), (1, .int (nI n)), (2, .int (nI i))]) hx hb dX1_goOn_32 rfl hl (by decide) rfl (fun ls hl => ?_)
      refine zk_loop (pc := 33) (fun j H locs ls => va_P D vwCl (zw_H cI a (f_itr (fun τ k => f_serve τ nb (h + i) k) j (f_itr (fun τ k => f_ring τ (h + i) k) ns (f_hours σ nb ns h i)))) H ∧ va_D A (zw_H cI a (f_itr (fun τ k => f_serve τ nb (h + i) k) j (f_itr (fun τ k => f_ring τ (h + i) k) ns (f_hours σ nb ns h i)))) ∧ va_S A s.heap H locs ∧ lv_has ls 4 [(0, .ref (a 0)), (1, .int (nI n)), (2, .int (nI i)), (3, .int (nI j))]) ns (fun j hkj ih H locs ls hI => ?_) (fun H locs ls hI => ?_) _ _ _ ⟨hP, hD, hS, lv_sub hl [1, 2, 3, 0] rfl⟩
      · obtain ⟨hP, hD, hS, hl⟩ := hI
        have hC := hC.serve j
        refine lv_iload_n hx hb dX1_goOn_33 rfl (lv_at hl 3 rfl) ?_
        refine lv_aload_n hx hb dX1_goOn_34 rfl (lv_at hl 0 rfl) ?_
        refine va_get (D := D) (ci := 1) (v := .ref (a 2)) (C := RX1) (T := TX1) (N := 5) hx hb hts hinX1 hown hK hP 0 rfl rfl 4 (by decide) hf29 (fun _ h9 => h9) rfl dX1_goOn_35 ?_
        refine va_get (D := D) (ci := 2) (v := .int (nI ns)) (C := RX2) (T := TX2) (N := 13) hx hb hts hinX2 hown hK hP 2 rfl rfl 0 (by decide) hf40 (fun _ h9 => h9) (congrArg (fun z => some (Value.int z)) hC.2.2.1) dX1_goOn_38 ?_
        refine lv_icmp_ge (tgt := 55) hx hb dX1_goOn_41 (by decide) (fun c => absurd c (nI_ge hkj (by omega))) (fun _ => ?_)
        refine lv_aload_n hx hb dX1_goOn_44 rfl (lv_at hl 0 rfl) ?_
        refine lv_iload_n hx hb dX1_goOn_45 rfl (lv_at hl 3 rfl) ?_
        have hF := zfree hD hS hA
        refine zk_V (va_runV (As := [.int (nI j)]) (rest := []) ⟨hx, hb, hml, hown, hts⟩ (c_X1_serve l D cI a (f_itr (fun τ k => f_serve τ nb (h + i) k) j (f_itr (fun τ k => f_ring τ (h + i) k) ns (f_hours σ nb ns h i))) (k := j) (by omega) hC _) (cwV 1 hts gX1_goOn_X1_serve rfl rfl rfl zdX1_serve ⟨Nat.le_of_ble_eq_true rfl, Nat.le_of_ble_eq_true rfl⟩) ⟨zbl _, va_recv hK hP (ci := 1) (q0 := 0) rfl rfl, zpr hK hP hD⟩ rfl rfl hl.1 rfl (lv_room (Nat.le_of_ble_eq_true rfl)) dX1_goOn_46 ⟨Nat.zero_le _, Nat.zero_le _⟩) hS hF (fun H locs hkp hP1 hD1 hS => ?_)
        have hP := hP1
        have hD := hD1.weaken (fun _ _ _ z => hF _ z)
        have hP : va_P D vwCl (zw_H cI a (f_serve (f_itr (fun τ k => f_serve τ nb (h + i) k) j (f_itr (fun τ k => f_ring τ (h + i) k) ns (f_hours σ nb ns h i))) nb (h + i) j)) H := hP
        have hD : va_D A (zw_H cI a (f_serve (f_itr (fun τ k => f_serve τ nb (h + i) k) j (f_itr (fun τ k => f_ring τ (h + i) k) ns (f_hours σ nb ns h i))) nb (h + i) j)) := hD
        refine lv_iinc (v := nI (j + 1)) (lv' := [(3, .int (nI (j + 1))), (0, .ref (a 0)), (1, .int (nI n)), (2, .int (nI i))]) hx hb dX1_goOn_49 hl (k := 3) rfl (nI_1 j) (by decide) rfl (fun ls hl => ?_)
        refine lv_goto (tgt := 33) hx hb dX1_goOn_52 (by decide) ?_
        exact ih _ _ _ ⟨hP, hD, hS, lv_sub hl [1, 2, 3, 0] rfl⟩
      · obtain ⟨hP, hD, hS, hl⟩ := hI
        have hC := hC.serve ns
        refine lv_iload_n hx hb dX1_goOn_33 rfl (lv_at hl 3 rfl) ?_
        refine lv_aload_n hx hb dX1_goOn_34 rfl (lv_at hl 0 rfl) ?_
        refine va_get (D := D) (ci := 1) (v := .ref (a 2)) (C := RX1) (T := TX1) (N := 5) hx hb hts hinX1 hown hK hP 0 rfl rfl 4 (by decide) hf29 (fun _ h9 => h9) rfl dX1_goOn_35 ?_
        refine va_get (D := D) (ci := 2) (v := .int (nI ns)) (C := RX2) (T := TX2) (N := 13) hx hb hts hinX2 hown hK hP 2 rfl rfl 0 (by decide) hf40 (fun _ h9 => h9) (congrArg (fun z => some (Value.int z)) hC.2.2.1) dX1_goOn_38 ?_
        refine lv_icmp_ge (tgt := 55) hx hb dX1_goOn_41 (by decide) (fun _ => ?_) (fun c => absurd (Int32.le_refl _) c)
        refine lv_iconst (v := 0) hx hb dX1_goOn_55 (by decide) ?_
        refine lv_istore_n (lv' := [(3, .int 0), (0, .ref (a 0)), (1, .int (nI n)), (2, .int (nI i))]) hx hb dX1_goOn_56 rfl hl (by decide) rfl (fun ls hl => ?_)
        refine zk_loop (pc := 57) (fun j H locs ls => va_P D vwCl (zw_H cI a (f_itr (fun τ k => f_rest τ (h + i) k) j (f_itr (fun τ k => f_serve τ nb (h + i) k) ns (f_itr (fun τ k => f_ring τ (h + i) k) ns (f_hours σ nb ns h i))))) H ∧ va_D A (zw_H cI a (f_itr (fun τ k => f_rest τ (h + i) k) j (f_itr (fun τ k => f_serve τ nb (h + i) k) ns (f_itr (fun τ k => f_ring τ (h + i) k) ns (f_hours σ nb ns h i))))) ∧ va_S A s.heap H locs ∧ lv_has ls 4 [(0, .ref (a 0)), (1, .int (nI n)), (2, .int (nI i)), (3, .int (nI j))]) ns (fun j hkj ih H locs ls hI => ?_) (fun H locs ls hI => ?_) _ _ _ ⟨hP, hD, hS, lv_sub hl [1, 2, 3, 0] rfl⟩
        · obtain ⟨hP, hD, hS, hl⟩ := hI
          have hC := hC.rest j
          refine lv_iload_n hx hb dX1_goOn_57 rfl (lv_at hl 3 rfl) ?_
          refine lv_aload_n hx hb dX1_goOn_58 rfl (lv_at hl 0 rfl) ?_
          refine va_get (D := D) (ci := 1) (v := .ref (a 2)) (C := RX1) (T := TX1) (N := 5) hx hb hts hinX1 hown hK hP 0 rfl rfl 4 (by decide) hf29 (fun _ h9 => h9) rfl dX1_goOn_59 ?_
          refine va_get (D := D) (ci := 2) (v := .int (nI ns)) (C := RX2) (T := TX2) (N := 13) hx hb hts hinX2 hown hK hP 2 rfl rfl 0 (by decide) hf40 (fun _ h9 => h9) (congrArg (fun z => some (Value.int z)) hC.2.2.1) dX1_goOn_62 ?_
          refine lv_icmp_ge (tgt := 91) hx hb dX1_goOn_65 (by decide) (fun c => absurd c (nI_ge hkj (by omega))) (fun _ => ?_)
          refine lv_aload_n hx hb dX1_goOn_68 rfl (lv_at hl 0 rfl) ?_
          refine va_get (D := D) (ci := 1) (v := .ref (a 2)) (C := RX1) (T := TX1) (N := 5) hx hb hts hinX1 hown hK hP 0 rfl rfl 4 (by decide) hf29 (fun _ h9 => h9) rfl dX1_goOn_69 ?_
          refine va_get (D := D) (ci := 2) (v := .ref (a 16)) (C := RX2) (T := TX2) (N := 13) hx hb hts hinX2 hown hK hP 2 rfl rfl 9 (by decide) hf50 (fun _ h9 => h9) rfl dX1_goOn_72 ?_
          refine lv_iload_n hx hb dX1_goOn_75 rfl (lv_at hl 3 rfl) ?_
          refine lv_dup2_11 hx hb dX1_goOn_76 rfl rfl ?_
          refine zk_ld hx hb hK hP 16 0 (zwq14 cI a _) rfl (k := j) (by omega) (by decide) (v := (f_itr (fun τ k => f_rest τ (h + i) k) j (f_itr (fun τ k => f_serve τ nb (h + i) k) ns (f_itr (fun τ k => f_ring τ (h + i) k) ns (f_hours σ nb ns h i)))) 14 j) rfl dX1_goOn_77 ?_
          refine lv_aload_n hx hb dX1_goOn_78 rfl (lv_at hl 0 rfl) ?_
          refine lv_iload_n hx hb dX1_goOn_79 rfl (lv_at hl 3 rfl) ?_
          refine zk_R (D := D) (va_runV (As := [.int (nI j)]) (rest := [.int ((f_itr (fun τ k => f_rest τ (h + i) k) j (f_itr (fun τ k => f_serve τ nb (h + i) k) ns (f_itr (fun τ k => f_ring τ (h + i) k) ns (f_hours σ nb ns h i)))) 14 j), .int (nI j), .ref (a 16)]) ⟨hx, hb, hml, hown, hts⟩ (c_X1_restOfHour l D cI a (f_itr (fun τ k => f_rest τ (h + i) k) j (f_itr (fun τ k => f_serve τ nb (h + i) k) ns (f_itr (fun τ k => f_ring τ (h + i) k) ns (f_hours σ nb ns h i)))) (k := j) (by omega) hC _) (cwV 1 hts gX1_goOn_X1_restOfHour rfl rfl rfl zdX1_restOfHour ⟨Nat.le_of_ble_eq_true rfl, Nat.le_of_ble_eq_true rfl⟩) ⟨zbl _, va_recv hK hP (ci := 1) (q0 := 0) rfl rfl, zpr hK hP hD⟩ rfl rfl hl.1 rfl (lv_room (Nat.le_of_ble_eq_true rfl)) dX1_goOn_80 ⟨Nat.zero_le _, Nat.zero_le _⟩) hS (fun r_7 H locs hw hkp hS => ?_)
          have hP := hkp _ hP
          subst hw
          refine lv_iadd hx hb dX1_goOn_83 ?_
          refine zk_st hx hb hK hP hD hS 16 0 (zwq14 cI a _) rfl (k := j) (by omega) (by decide) (zws14 cI a _ _ _) dX1_goOn_84 (fun H locs hP hD hS => ?_)
          have hP : va_P D vwCl (zw_H cI a (zs (f_itr (fun τ k => f_rest τ (h + i) k) j (f_itr (fun τ k => f_serve τ nb (h + i) k) ns (f_itr (fun τ k => f_ring τ (h + i) k) ns (f_hours σ nb ns h i)))) 14 j (((f_itr (fun τ k => f_rest τ (h + i) k) j (f_itr (fun τ k => f_serve τ nb (h + i) k) ns (f_itr (fun τ k => f_ring τ (h + i) k) ns (f_hours σ nb ns h i)))) 14 j) + (f_roh (f_itr (fun τ k => f_rest τ (h + i) k) j (f_itr (fun τ k => f_serve τ nb (h + i) k) ns (f_itr (fun τ k => f_ring τ (h + i) k) ns (f_hours σ nb ns h i)))) (h + i) j)))) H := hP
          have hD : va_D A (zw_H cI a (zs (f_itr (fun τ k => f_rest τ (h + i) k) j (f_itr (fun τ k => f_serve τ nb (h + i) k) ns (f_itr (fun τ k => f_ring τ (h + i) k) ns (f_hours σ nb ns h i)))) 14 j (((f_itr (fun τ k => f_rest τ (h + i) k) j (f_itr (fun τ k => f_serve τ nb (h + i) k) ns (f_itr (fun τ k => f_ring τ (h + i) k) ns (f_hours σ nb ns h i)))) 14 j) + (f_roh (f_itr (fun τ k => f_rest τ (h + i) k) j (f_itr (fun τ k => f_serve τ nb (h + i) k) ns (f_itr (fun τ k => f_ring τ (h + i) k) ns (f_hours σ nb ns h i)))) (h + i) j)))) := hD
          refine lv_iinc (v := nI (j + 1)) (lv' := [(3, .int (nI (j + 1))), (0, .ref (a 0)), (1, .int (nI n)), (2, .int (nI i))]) hx hb dX1_goOn_85 hl (k := 3) rfl (nI_1 j) (by decide) rfl (fun ls hl => ?_)
          refine lv_goto (tgt := 57) hx hb dX1_goOn_88 (by decide) ?_
          exact ih _ _ _ ⟨hP, hD, hS, lv_sub hl [1, 2, 3, 0] rfl⟩
        · obtain ⟨hP, hD, hS, hl⟩ := hI
          have hC := hC.rest ns
          refine lv_iload_n hx hb dX1_goOn_57 rfl (lv_at hl 3 rfl) ?_
          refine lv_aload_n hx hb dX1_goOn_58 rfl (lv_at hl 0 rfl) ?_
          refine va_get (D := D) (ci := 1) (v := .ref (a 2)) (C := RX1) (T := TX1) (N := 5) hx hb hts hinX1 hown hK hP 0 rfl rfl 4 (by decide) hf29 (fun _ h9 => h9) rfl dX1_goOn_59 ?_
          refine va_get (D := D) (ci := 2) (v := .int (nI ns)) (C := RX2) (T := TX2) (N := 13) hx hb hts hinX2 hown hK hP 2 rfl rfl 0 (by decide) hf40 (fun _ h9 => h9) (congrArg (fun z => some (Value.int z)) hC.2.2.1) dX1_goOn_62 ?_
          refine lv_icmp_ge (tgt := 91) hx hb dX1_goOn_65 (by decide) (fun _ => ?_) (fun c => absurd (Int32.le_refl _) c)
          refine lv_aload_n hx hb dX1_goOn_91 rfl (lv_at hl 0 rfl) ?_
          refine va_get (D := D) (ci := 1) (v := .ref (a 1)) (C := RX1) (T := TX1) (N := 5) hx hb hts hinX1 hown hK hP 0 rfl rfl 3 (by decide) hf22 (fun _ h9 => h9) rfl dX1_goOn_92 ?_
          have hF := zfree hD hS hA
          refine zk_V (va_runV (As := []) (rest := []) ⟨hx, hb, hml, hown, hts⟩ (c_X0_changeWarmth l D cI a (f_itr (fun τ k => f_rest τ (h + i) k) ns (f_itr (fun τ k => f_serve τ nb (h + i) k) ns (f_itr (fun τ k => f_ring τ (h + i) k) ns (f_hours σ nb ns h i)))) hC _) (cwV 0 hts gX1_goOn_X0_changeWarmth rfl rfl rfl zdX0_changeWarmth ⟨Nat.le_of_ble_eq_true rfl, Nat.le_of_ble_eq_true rfl⟩) ⟨zbl _, va_recv hK hP (ci := 0) (q0 := 1) rfl rfl, zpr hK hP hD⟩ rfl rfl hl.1 rfl (lv_room (Nat.le_of_ble_eq_true rfl)) dX1_goOn_95 ⟨Nat.zero_le _, Nat.zero_le _⟩) hS hF (fun H locs hkp hP1 hD1 hS => ?_)
          have hP := hP1
          have hD := hD1.weaken (fun _ _ _ z => hF _ z)
          have hP : va_P D vwCl (zw_H cI a (f_cool (f_itr (fun τ k => f_rest τ (h + i) k) ns (f_itr (fun τ k => f_serve τ nb (h + i) k) ns (f_itr (fun τ k => f_ring τ (h + i) k) ns (f_hours σ nb ns h i)))) nb)) H := hP
          have hD : va_D A (zw_H cI a (f_cool (f_itr (fun τ k => f_rest τ (h + i) k) ns (f_itr (fun τ k => f_serve τ nb (h + i) k) ns (f_itr (fun τ k => f_ring τ (h + i) k) ns (f_hours σ nb ns h i)))) nb)) := hD
          have hC := hC.cool nb
          refine lv_aload_n hx hb dX1_goOn_98 rfl (lv_at hl 0 rfl) ?_
          refine lv_dup hx hb dX1_goOn_99 rfl ?_
          refine va_get (D := D) (ci := 1) (v := .int (nI (h + i))) (C := RX1) (T := TX1) (N := 5) hx hb hts hinX1 hown hK hP 0 rfl rfl 0 (by decide) hf7 (fun _ h9 => h9) (congrArg (fun z => some (Value.int z)) hC.2.2.2.2.1) dX1_goOn_100 ?_
          refine lv_iconst (v := 1) hx hb dX1_goOn_103 (by decide) ?_
          refine zk_add (x := (h + i)) (y := 1) hx hb dX1_goOn_104 ?_
          refine va_put (D := D) (ci := 1) (v := .int (nI ((h + i) + 1))) (ty := .int) (C := RX1) (T := TX1) (N := 5) hx hb hts hinX1 tyX1 tyX1_ok nmX1 hown hK hP hD hS 0 rfl rfl 0 (by decide) hf7 (fun _ h9 => h9)  rfl (by decide +kernel) rfl rfl (Nat.le_of_ble_eq_true rfl) dX1_goOn_105 (fun H locs hP hD hS => ?_)
          have hP : va_P D vwCl (zw_H cI a (zs (f_cool (f_itr (fun τ k => f_rest τ (h + i) k) ns (f_itr (fun τ k => f_serve τ nb (h + i) k) ns (f_itr (fun τ k => f_ring τ (h + i) k) ns (f_hours σ nb ns h i)))) nb) 0 0 (nI ((h + i) + 1)))) H := hP
          have hD : va_D A (zw_H cI a (zs (f_cool (f_itr (fun τ k => f_rest τ (h + i) k) ns (f_itr (fun τ k => f_serve τ nb (h + i) k) ns (f_itr (fun τ k => f_ring τ (h + i) k) ns (f_hours σ nb ns h i)))) nb) 0 0 (nI ((h + i) + 1)))) := hD
          refine lv_iinc (v := nI (i + 1)) (lv' := [(2, .int (nI (i + 1))), (0, .ref (a 0)), (1, .int (nI n)), (3, .int (nI ns))]) hx hb dX1_goOn_108 hl (k := 2) rfl (nI_1 i) (by decide) rfl (fun ls hl => ?_)
          refine lv_goto (tgt := 2) hx hb dX1_goOn_111 (by decide) ?_
          have e1 : f_hours σ nb ns h (i + 1) = zs (f_cool (f_itr (fun τ k => f_rest τ (h + i) k) ns (f_itr (fun τ k => f_serve τ nb (h + i) k) ns (f_itr (fun τ k => f_ring τ (h + i) k) ns (f_hours σ nb ns h i)))) nb) 0 0 (nI ((h + i) + 1)) := rfl
          exact ih _ _ _ ⟨by rw [e1]; exact hP, by rw [e1]; exact hD, hS, lv_sub hl [1, 2, 0] rfl⟩
  · obtain ⟨hP, hD, hS, hl⟩ := hI
    refine lv_iload_n hx hb dX1_goOn_2 rfl (lv_at hl 2 rfl) ?_
    refine lv_iload_n hx hb dX1_goOn_3 rfl (lv_at hl 1 rfl) ?_
    refine lv_icmp_ge (tgt := 114) hx hb dX1_goOn_4 (by decide) (fun _ => ?_) (fun c => absurd (Int32.le_refl _) c)
    have hP9 := hP
    have hD9 := hD
    exact W.vret hx hb hr (fun t ht hW => ⟨⟨(), rfl, trivial, by rw [ht]; exact hP9, va_K.moved hW.alike hK, hD9⟩, hS.F ht⟩) hS.2.2 dX1_goOn_114
end
section
set_option maxRecDepth 20000 in
theorem ggX3_init_X1_init : GoodIn wsX3_init wsX1_init := goodIn_r _ [10, 11, 2, 3, 12, 13, 14, 15, 16, 17, 18, 19, 20, 21, 22, 23, 24, 25, 26, 27, 28, 29, 30, 31, 32, 33, 34, 35, 36, 37, 38, 39, 40, 41, 42, 43, 44, 45, 46, 47, 48, 49, 50, 51, 52, 53, 56, 57, 58, 59, 60, 61, 62, 63, 64, 65, 66, 67, 68, 69, 70, 71, 72, 73, 74] (by decide +kernel) (by decide +kernel)
set_option maxRecDepth 20000 in
theorem gX3_init_X1_init_n9 : GoodIn wsX3_init (wsX1_init) := ggX3_init_X1_init
theorem dX3_init_0 : decode cX3_init 0 = .ok (.aload_n 0, 1) := by decide +kernel
theorem dX3_init_1 : decode cX3_init 1 = .ok (.invokespecial 1, 3) := by decide +kernel
theorem dX3_init_4 : decode cX3_init 4 = .ok (.aload_n 0, 1) := by decide +kernel
theorem dX3_init_5 : decode cX3_init 5 = .ok (.new 7, 3) := by decide +kernel
theorem dX3_init_8 : decode cX3_init 8 = .ok (.dup, 1) := by decide +kernel
theorem dX3_init_9 : decode cX3_init 9 = .ok (.invokespecial 9, 3) := by decide +kernel
theorem dX3_init_12 : decode cX3_init 12 = .ok (.putfield 10, 3) := by decide +kernel
theorem dX3_init_15 : decode cX3_init 15 = .ok (.aload_n 0, 1) := by decide +kernel
theorem dX3_init_16 : decode cX3_init 16 = .ok (.new 7, 3) := by decide +kernel
theorem dX3_init_19 : decode cX3_init 19 = .ok (.dup, 1) := by decide +kernel
theorem dX3_init_20 : decode cX3_init 20 = .ok (.invokespecial 9, 3) := by decide +kernel
theorem dX3_init_23 : decode cX3_init 23 = .ok (.putfield 16, 3) := by decide +kernel
theorem dX3_init_26 : decode cX3_init 26 = .ok (.return_, 1) := by decide +kernel
set_option maxRecDepth 20000 in
theorem ggX3_bed_X0_add : GoodIn wsX3_bed wsX0_add := goodIn_ca (goodIn_r _ [9, 10, 11, 12, 13, 14, 22, 23, 24, 25, 26, 27] (by decide +kernel) (by decide +kernel)) (goodIn_sub (fun _ h => List.mem_cons_of_mem _ (List.mem_append_right _ h)) (by decide +kernel))
set_option maxRecDepth 20000 in
theorem gX3_bed_X0_add : GoodIn wsX3_bed (wsV RX3 30 RX0 yX0_add wsX0_add) := goodIn_app (goodIn_of _ (by decide +kernel)) ggX3_bed_X0_add
theorem dX3_bed_0 : decode cX3_bed 0 = .ok (.iload_n 1, 1) := by decide +kernel
theorem dX3_bed_1 : decode cX3_bed 1 = .ok (.ifCond .lt 9, 3) := by decide +kernel
theorem dX3_bed_4 : decode cX3_bed 4 = .ok (.iload_n 1, 1) := by decide +kernel
theorem dX3_bed_5 : decode cX3_bed 5 = .ok (.bipush 9, 2) := by decide +kernel
theorem dX3_bed_7 : decode cX3_bed 7 = .ok (.if_icmp .le 13, 3) := by decide +kernel
theorem dX3_bed_10 : decode cX3_bed 10 = .ok (.new 19, 3) := by decide +kernel
theorem dX3_bed_13 : decode cX3_bed 13 = .ok (.dup, 1) := by decide +kernel
theorem dX3_bed_14 : decode cX3_bed 14 = .ok (.ldc 21, 2) := by decide +kernel
theorem dX3_bed_16 : decode cX3_bed 16 = .ok (.invokespecial 23, 3) := by decide +kernel
theorem dX3_bed_19 : decode cX3_bed 19 = .ok (.athrow, 1) := by decide +kernel
theorem dX3_bed_20 : decode cX3_bed 20 = .ok (.aload_n 0, 1) := by decide +kernel
theorem dX3_bed_21 : decode cX3_bed 21 = .ok (.getfield 10, 3) := by decide +kernel
theorem dX3_bed_24 : decode cX3_bed 24 = .ok (.getfield 26, 3) := by decide +kernel
theorem dX3_bed_27 : decode cX3_bed 27 = .ok (.iload_n 1, 1) := by decide +kernel
theorem dX3_bed_28 : decode cX3_bed 28 = .ok (.invokevirtual 30, 3) := by decide +kernel
theorem dX3_bed_31 : decode cX3_bed 31 = .ok (.ireturn, 1) := by decide +kernel
set_option maxRecDepth 20000 in
theorem ggX3_sailor_X3_requireWatch : GoodIn wsX3_sailor wsX3_requireWatch := goodIn_ca (goodIn_r _ [8, 9, 10] (by decide +kernel) (by decide +kernel)) (goodIn_sub (fun _ h => List.mem_cons_of_mem _ (List.mem_append_left _ (List.mem_append_right _ h))) (by decide +kernel))
set_option maxRecDepth 20000 in
theorem gX3_sailor_X3_requireWatch : GoodIn wsX3_sailor (va_wsS RX3 36 yX3_requireWatch wsX3_requireWatch) := goodIn_app (goodIn_of _ (by decide +kernel)) ggX3_sailor_X3_requireWatch
set_option maxRecDepth 20000 in
theorem ggX3_sailor_X2_add : GoodIn wsX3_sailor wsX2_add := goodIn_ca (goodIn_r _ [15, 16, 17, 18, 19, 20, 21, 22, 23, 24, 25, 26, 34, 35, 36, 37, 38, 39, 40, 41, 42, 43, 44, 45, 46] (by decide +kernel) (by decide +kernel)) (goodIn_sub (fun _ h => List.mem_cons_of_mem _ (List.mem_append_right _ h)) (by decide +kernel))
set_option maxRecDepth 20000 in
theorem gX3_sailor_X2_add : GoodIn wsX3_sailor (wsV RX3 52 RX2 yX2_add wsX2_add) := goodIn_app (goodIn_of _ (by decide +kernel)) ggX3_sailor_X2_add
theorem dX3_sailor_0 : decode cX3_sailor 0 = .ok (.iload_n 1, 1) := by decide +kernel
theorem dX3_sailor_1 : decode cX3_sailor 1 = .ok (.invokestatic 36, 3) := by decide +kernel
theorem dX3_sailor_4 : decode cX3_sailor 4 = .ok (.iload_n 2, 1) := by decide +kernel
theorem dX3_sailor_5 : decode cX3_sailor 5 = .ok (.ifCond .lt 9, 3) := by decide +kernel
theorem dX3_sailor_8 : decode cX3_sailor 8 = .ok (.iload_n 2, 1) := by decide +kernel
theorem dX3_sailor_9 : decode cX3_sailor 9 = .ok (.bipush 9, 2) := by decide +kernel
theorem dX3_sailor_11 : decode cX3_sailor 11 = .ok (.if_icmp .le 13, 3) := by decide +kernel
theorem dX3_sailor_14 : decode cX3_sailor 14 = .ok (.new 19, 3) := by decide +kernel
theorem dX3_sailor_17 : decode cX3_sailor 17 = .ok (.dup, 1) := by decide +kernel
theorem dX3_sailor_18 : decode cX3_sailor 18 = .ok (.ldc 40, 2) := by decide +kernel
theorem dX3_sailor_20 : decode cX3_sailor 20 = .ok (.invokespecial 23, 3) := by decide +kernel
theorem dX3_sailor_23 : decode cX3_sailor 23 = .ok (.athrow, 1) := by decide +kernel
theorem dX3_sailor_24 : decode cX3_sailor 24 = .ok (.iload_n 3, 1) := by decide +kernel
theorem dX3_sailor_25 : decode cX3_sailor 25 = .ok (.ifCond .lt 9, 3) := by decide +kernel
theorem dX3_sailor_28 : decode cX3_sailor 28 = .ok (.iload_n 3, 1) := by decide +kernel
theorem dX3_sailor_29 : decode cX3_sailor 29 = .ok (.bipush 20, 2) := by decide +kernel
theorem dX3_sailor_31 : decode cX3_sailor 31 = .ok (.if_icmp .le 13, 3) := by decide +kernel
theorem dX3_sailor_34 : decode cX3_sailor 34 = .ok (.new 19, 3) := by decide +kernel
theorem dX3_sailor_37 : decode cX3_sailor 37 = .ok (.dup, 1) := by decide +kernel
theorem dX3_sailor_38 : decode cX3_sailor 38 = .ok (.ldc 42, 2) := by decide +kernel
theorem dX3_sailor_40 : decode cX3_sailor 40 = .ok (.invokespecial 23, 3) := by decide +kernel
theorem dX3_sailor_43 : decode cX3_sailor 43 = .ok (.athrow, 1) := by decide +kernel
theorem dX3_sailor_44 : decode cX3_sailor 44 = .ok (.iload 4, 2) := by decide +kernel
theorem dX3_sailor_46 : decode cX3_sailor 46 = .ok (.ifCond .lt 10, 3) := by decide +kernel
theorem dX3_sailor_49 : decode cX3_sailor 49 = .ok (.iload 4, 2) := by decide +kernel
theorem dX3_sailor_51 : decode cX3_sailor 51 = .ok (.bipush 99, 2) := by decide +kernel
theorem dX3_sailor_53 : decode cX3_sailor 53 = .ok (.if_icmp .le 13, 3) := by decide +kernel
theorem dX3_sailor_56 : decode cX3_sailor 56 = .ok (.new 19, 3) := by decide +kernel
theorem dX3_sailor_59 : decode cX3_sailor 59 = .ok (.dup, 1) := by decide +kernel
theorem dX3_sailor_60 : decode cX3_sailor 60 = .ok (.ldc 46, 2) := by decide +kernel
theorem dX3_sailor_62 : decode cX3_sailor 62 = .ok (.invokespecial 23, 3) := by decide +kernel
theorem dX3_sailor_65 : decode cX3_sailor 65 = .ok (.athrow, 1) := by decide +kernel
theorem dX3_sailor_66 : decode cX3_sailor 66 = .ok (.aload_n 0, 1) := by decide +kernel
theorem dX3_sailor_67 : decode cX3_sailor 67 = .ok (.getfield 10, 3) := by decide +kernel
theorem dX3_sailor_70 : decode cX3_sailor 70 = .ok (.getfield 48, 3) := by decide +kernel
theorem dX3_sailor_73 : decode cX3_sailor 73 = .ok (.iload_n 1, 1) := by decide +kernel
theorem dX3_sailor_74 : decode cX3_sailor 74 = .ok (.iload_n 2, 1) := by decide +kernel
theorem dX3_sailor_75 : decode cX3_sailor 75 = .ok (.iload_n 3, 1) := by decide +kernel
theorem dX3_sailor_76 : decode cX3_sailor 76 = .ok (.iload 4, 2) := by decide +kernel
theorem dX3_sailor_78 : decode cX3_sailor 78 = .ok (.invokevirtual 52, 3) := by decide +kernel
theorem dX3_sailor_81 : decode cX3_sailor 81 = .ok (.ireturn, 1) := by decide +kernel
set_option maxRecDepth 20000 in
theorem ggX3_keep_X3_requireSailor : GoodIn wsX3_keep wsX3_requireSailor := goodIn_ca (goodIn_r _ [8, 9, 10, 1, 2, 11, 23, 24, 25, 26, 27, 28, 29, 30, 31, 32, 33, 34, 35, 36, 37, 38, 39, 40, 41, 42] (by decide +kernel) (by decide +kernel)) (goodIn_sub (fun _ h => List.mem_cons_of_mem _ (List.mem_append_right _ h)) (by decide +kernel))
set_option maxRecDepth 20000 in
theorem gX3_keep_X3_requireSailor : GoodIn wsX3_keep (wsV RX3 55 RX3 yX3_requireSailor wsX3_requireSailor) := goodIn_app (goodIn_of _ (by decide +kernel)) ggX3_keep_X3_requireSailor
set_option maxRecDepth 20000 in
theorem ggX3_keep_X3_requireBed : GoodIn wsX3_keep wsX3_requireBed := goodIn_ca (goodIn_r _ [15, 9, 10, 1, 16, 17, 18, 19, 20, 21, 22, 23, 24, 25, 26, 27, 28, 29, 43, 44, 45, 46, 47, 48] (by decide +kernel) (by decide +kernel)) (goodIn_sub (fun _ h => List.mem_cons_of_mem _ (List.mem_append_right _ h)) (by decide +kernel))
set_option maxRecDepth 20000 in
theorem gX3_keep_X3_requireBed : GoodIn wsX3_keep (wsV RX3 58 RX3 yX3_requireBed wsX3_requireBed) := goodIn_app (goodIn_of _ (by decide +kernel)) ggX3_keep_X3_requireBed
theorem dX3_keep_0 : decode cX3_keep 0 = .ok (.aload_n 0, 1) := by decide +kernel
theorem dX3_keep_1 : decode cX3_keep 1 = .ok (.iload_n 1, 1) := by decide +kernel
theorem dX3_keep_2 : decode cX3_keep 2 = .ok (.invokevirtual 55, 3) := by decide +kernel
theorem dX3_keep_5 : decode cX3_keep 5 = .ok (.iload_n 2, 1) := by decide +kernel
theorem dX3_keep_6 : decode cX3_keep 6 = .ok (.iconst (-1), 1) := by decide +kernel
theorem dX3_keep_7 : decode cX3_keep 7 = .ok (.if_icmp .eq 8, 3) := by decide +kernel
theorem dX3_keep_10 : decode cX3_keep 10 = .ok (.aload_n 0, 1) := by decide +kernel
theorem dX3_keep_11 : decode cX3_keep 11 = .ok (.iload_n 2, 1) := by decide +kernel
theorem dX3_keep_12 : decode cX3_keep 12 = .ok (.invokevirtual 58, 3) := by decide +kernel
theorem dX3_keep_15 : decode cX3_keep 15 = .ok (.aload_n 0, 1) := by decide +kernel
theorem dX3_keep_16 : decode cX3_keep 16 = .ok (.getfield 10, 3) := by decide +kernel
theorem dX3_keep_19 : decode cX3_keep 19 = .ok (.getfield 48, 3) := by decide +kernel
theorem dX3_keep_22 : decode cX3_keep 22 = .ok (.getfield 61, 3) := by decide +kernel
theorem dX3_keep_25 : decode cX3_keep 25 = .ok (.iload_n 1, 1) := by decide +kernel
theorem dX3_keep_26 : decode cX3_keep 26 = .ok (.iaload, 1) := by decide +kernel
theorem dX3_keep_27 : decode cX3_keep 27 = .ok (.istore_n 3, 1) := by decide +kernel
theorem dX3_keep_28 : decode cX3_keep 28 = .ok (.aload_n 0, 1) := by decide +kernel
theorem dX3_keep_29 : decode cX3_keep 29 = .ok (.getfield 10, 3) := by decide +kernel
theorem dX3_keep_32 : decode cX3_keep 32 = .ok (.getfield 48, 3) := by decide +kernel
theorem dX3_keep_35 : decode cX3_keep 35 = .ok (.getfield 61, 3) := by decide +kernel
theorem dX3_keep_38 : decode cX3_keep 38 = .ok (.iload_n 1, 1) := by decide +kernel
theorem dX3_keep_39 : decode cX3_keep 39 = .ok (.iload_n 2, 1) := by decide +kernel
theorem dX3_keep_40 : decode cX3_keep 40 = .ok (.iastore, 1) := by decide +kernel
theorem dX3_keep_41 : decode cX3_keep 41 = .ok (.iload_n 3, 1) := by decide +kernel
theorem dX3_keep_42 : decode cX3_keep 42 = .ok (.ireturn, 1) := by decide +kernel
theorem dX3_setBell_0 : decode cX3_setBell 0 = .ok (.iload_n 1, 1) := by decide +kernel
theorem dX3_setBell_1 : decode cX3_setBell 1 = .ok (.ifCond .lt 9, 3) := by decide +kernel
theorem dX3_setBell_4 : decode cX3_setBell 4 = .ok (.iload_n 1, 1) := by decide +kernel
theorem dX3_setBell_5 : decode cX3_setBell 5 = .ok (.bipush 9, 2) := by decide +kernel
theorem dX3_setBell_7 : decode cX3_setBell 7 = .ok (.if_icmp .le 13, 3) := by decide +kernel
theorem dX3_setBell_10 : decode cX3_setBell 10 = .ok (.new 19, 3) := by decide +kernel
theorem dX3_setBell_13 : decode cX3_setBell 13 = .ok (.dup, 1) := by decide +kernel
theorem dX3_setBell_14 : decode cX3_setBell 14 = .ok (.ldc 65, 2) := by decide +kernel
theorem dX3_setBell_16 : decode cX3_setBell 16 = .ok (.invokespecial 23, 3) := by decide +kernel
theorem dX3_setBell_19 : decode cX3_setBell 19 = .ok (.athrow, 1) := by decide +kernel
theorem dX3_setBell_20 : decode cX3_setBell 20 = .ok (.aload_n 0, 1) := by decide +kernel
theorem dX3_setBell_21 : decode cX3_setBell 21 = .ok (.getfield 10, 3) := by decide +kernel
theorem dX3_setBell_24 : decode cX3_setBell 24 = .ok (.getfield 67, 3) := by decide +kernel
theorem dX3_setBell_27 : decode cX3_setBell 27 = .ok (.istore_n 2, 1) := by decide +kernel
theorem dX3_setBell_28 : decode cX3_setBell 28 = .ok (.aload_n 0, 1) := by decide +kernel
theorem dX3_setBell_29 : decode cX3_setBell 29 = .ok (.getfield 10, 3) := by decide +kernel
theorem dX3_setBell_32 : decode cX3_setBell 32 = .ok (.iload_n 1, 1) := by decide +kernel
theorem dX3_setBell_33 : decode cX3_setBell 33 = .ok (.putfield 67, 3) := by decide +kernel
theorem dX3_setBell_36 : decode cX3_setBell 36 = .ok (.iload_n 2, 1) := by decide +kernel
theorem dX3_setBell_37 : decode cX3_setBell 37 = .ok (.ireturn, 1) := by decide +kernel
theorem dX3_setPawn_0 : decode cX3_setPawn 0 = .ok (.iload_n 1, 1) := by decide +kernel
theorem dX3_setPawn_1 : decode cX3_setPawn 1 = .ok (.iconst 1, 1) := by decide +kernel
theorem dX3_setPawn_2 : decode cX3_setPawn 2 = .ok (.if_icmp .lt 9, 3) := by decide +kernel
theorem dX3_setPawn_5 : decode cX3_setPawn 5 = .ok (.iload_n 1, 1) := by decide +kernel
theorem dX3_setPawn_6 : decode cX3_setPawn 6 = .ok (.bipush 20, 2) := by decide +kernel
theorem dX3_setPawn_8 : decode cX3_setPawn 8 = .ok (.if_icmp .le 13, 3) := by decide +kernel
theorem dX3_setPawn_11 : decode cX3_setPawn 11 = .ok (.new 19, 3) := by decide +kernel
theorem dX3_setPawn_14 : decode cX3_setPawn 14 = .ok (.dup, 1) := by decide +kernel
theorem dX3_setPawn_15 : decode cX3_setPawn 15 = .ok (.ldc 71, 2) := by decide +kernel
theorem dX3_setPawn_17 : decode cX3_setPawn 17 = .ok (.invokespecial 23, 3) := by decide +kernel
theorem dX3_setPawn_20 : decode cX3_setPawn 20 = .ok (.athrow, 1) := by decide +kernel
theorem dX3_setPawn_21 : decode cX3_setPawn 21 = .ok (.aload_n 0, 1) := by decide +kernel
theorem dX3_setPawn_22 : decode cX3_setPawn 22 = .ok (.getfield 10, 3) := by decide +kernel
theorem dX3_setPawn_25 : decode cX3_setPawn 25 = .ok (.getfield 73, 3) := by decide +kernel
theorem dX3_setPawn_28 : decode cX3_setPawn 28 = .ok (.istore_n 2, 1) := by decide +kernel
theorem dX3_setPawn_29 : decode cX3_setPawn 29 = .ok (.aload_n 0, 1) := by decide +kernel
theorem dX3_setPawn_30 : decode cX3_setPawn 30 = .ok (.getfield 10, 3) := by decide +kernel
theorem dX3_setPawn_33 : decode cX3_setPawn 33 = .ok (.iload_n 1, 1) := by decide +kernel
theorem dX3_setPawn_34 : decode cX3_setPawn 34 = .ok (.putfield 73, 3) := by decide +kernel
theorem dX3_setPawn_37 : decode cX3_setPawn 37 = .ok (.iload_n 2, 1) := by decide +kernel
theorem dX3_setPawn_38 : decode cX3_setPawn 38 = .ok (.ireturn, 1) := by decide +kernel
set_option maxRecDepth 20000 in
theorem ggX3_give_X3_requireSailor : GoodIn wsX3_give wsX3_requireSailor := goodIn_ca (goodIn_r _ [10, 11, 12, 3, 4, 13, 24, 25, 26, 27, 28, 29, 30, 31, 32, 33, 34, 35, 36, 37, 38, 39, 40, 41, 42, 43] (by decide +kernel) (by decide +kernel)) (goodIn_sub (fun _ h => List.mem_cons_of_mem _ (List.mem_append_right _ h)) (by decide +kernel))
set_option maxRecDepth 20000 in
theorem gX3_give_X3_requireSailor : GoodIn wsX3_give (wsV RX3 55 RX3 yX3_requireSailor wsX3_requireSailor) := goodIn_app (goodIn_of _ (by decide +kernel)) ggX3_give_X3_requireSailor
set_option maxRecDepth 20000 in
theorem ggX3_give_X2_earn : GoodIn wsX3_give wsX2_earn := goodIn_r _ [18, 19, 20, 21, 22, 23, 31, 32, 33, 34, 35, 36, 37, 38, 39, 40, 41, 42, 43] (by decide +kernel) (by decide +kernel)
set_option maxRecDepth 20000 in
theorem gX3_give_X2_earn : GoodIn wsX3_give (wsV RX3 78 RX2 yX2_earn wsX2_earn) := goodIn_app (goodIn_of _ (by decide +kernel)) ggX3_give_X2_earn
theorem dX3_give_0 : decode cX3_give 0 = .ok (.aload_n 0, 1) := by decide +kernel
theorem dX3_give_1 : decode cX3_give 1 = .ok (.iload_n 1, 1) := by decide +kernel
theorem dX3_give_2 : decode cX3_give 2 = .ok (.invokevirtual 55, 3) := by decide +kernel
theorem dX3_give_5 : decode cX3_give 5 = .ok (.iload_n 2, 1) := by decide +kernel
theorem dX3_give_6 : decode cX3_give 6 = .ok (.iconst 1, 1) := by decide +kernel
theorem dX3_give_7 : decode cX3_give 7 = .ok (.if_icmp .lt 9, 3) := by decide +kernel
theorem dX3_give_10 : decode cX3_give 10 = .ok (.iload_n 2, 1) := by decide +kernel
theorem dX3_give_11 : decode cX3_give 11 = .ok (.bipush 99, 2) := by decide +kernel
theorem dX3_give_13 : decode cX3_give 13 = .ok (.if_icmp .le 13, 3) := by decide +kernel
theorem dX3_give_16 : decode cX3_give 16 = .ok (.new 19, 3) := by decide +kernel
theorem dX3_give_19 : decode cX3_give 19 = .ok (.dup, 1) := by decide +kernel
theorem dX3_give_20 : decode cX3_give 20 = .ok (.ldc 76, 2) := by decide +kernel
theorem dX3_give_22 : decode cX3_give 22 = .ok (.invokespecial 23, 3) := by decide +kernel
theorem dX3_give_25 : decode cX3_give 25 = .ok (.athrow, 1) := by decide +kernel
theorem dX3_give_26 : decode cX3_give 26 = .ok (.aload_n 0, 1) := by decide +kernel
theorem dX3_give_27 : decode cX3_give 27 = .ok (.getfield 10, 3) := by decide +kernel
theorem dX3_give_30 : decode cX3_give 30 = .ok (.getfield 48, 3) := by decide +kernel
theorem dX3_give_33 : decode cX3_give 33 = .ok (.iload_n 1, 1) := by decide +kernel
theorem dX3_give_34 : decode cX3_give 34 = .ok (.iload_n 2, 1) := by decide +kernel
theorem dX3_give_35 : decode cX3_give 35 = .ok (.invokevirtual 78, 3) := by decide +kernel
theorem dX3_give_38 : decode cX3_give 38 = .ok (.aload_n 0, 1) := by decide +kernel
theorem dX3_give_39 : decode cX3_give 39 = .ok (.getfield 10, 3) := by decide +kernel
theorem dX3_give_42 : decode cX3_give 42 = .ok (.getfield 48, 3) := by decide +kernel
theorem dX3_give_45 : decode cX3_give 45 = .ok (.getfield 82, 3) := by decide +kernel
theorem dX3_give_48 : decode cX3_give 48 = .ok (.iload_n 1, 1) := by decide +kernel
theorem dX3_give_49 : decode cX3_give 49 = .ok (.iaload, 1) := by decide +kernel
theorem dX3_give_50 : decode cX3_give 50 = .ok (.ireturn, 1) := by decide +kernel
set_option maxRecDepth 20000 in
theorem ggX3_pawn_X3_requireSailor : GoodIn wsX3_pawn wsX3_requireSailor := goodIn_ca (goodIn_r _ [10, 11, 12, 3, 4, 13, 37, 38, 39, 40, 41, 42, 43, 44, 45, 46, 47, 48, 49, 50, 51, 52, 53, 54, 55, 56] (by decide +kernel) (by decide +kernel)) (goodIn_sub (fun _ h => List.mem_cons_of_mem _ (List.mem_append_right _ h)) (by decide +kernel))
set_option maxRecDepth 20000 in
theorem gX3_pawn_X3_requireSailor : GoodIn wsX3_pawn (wsV RX3 55 RX3 yX3_requireSailor wsX3_requireSailor) := goodIn_app (goodIn_of _ (by decide +kernel)) ggX3_pawn_X3_requireSailor
set_option maxRecDepth 20000 in
theorem ggX3_pawn_X2_hasBoots : GoodIn wsX3_pawn wsX2_hasBoots := goodIn_r _ [18, 19, 44, 45, 46, 47, 48, 49, 50, 51, 52, 53, 54, 55, 56] (by decide +kernel) (by decide +kernel)
set_option maxRecDepth 20000 in
theorem gX3_pawn_X2_hasBoots : GoodIn wsX3_pawn (wsV RX3 85 RX2 yX2_hasBoots wsX2_hasBoots) := goodIn_app (goodIn_of _ (by decide +kernel)) ggX3_pawn_X2_hasBoots
set_option maxRecDepth 20000 in
theorem ggX3_pawn_X1_pawnBoots : GoodIn wsX3_pawn wsX1_pawnBoots := goodIn_r _ [24, 25, 26, 27, 28, 29, 30, 17, 31, 32, 33, 34, 35, 36, 39, 40, 41, 42, 43, 44, 45, 46, 47, 48, 49, 50, 51, 52, 53, 54, 55, 56] (by decide +kernel) (by decide +kernel)
set_option maxRecDepth 20000 in
theorem gX3_pawn_X1_pawnBoots : GoodIn wsX3_pawn (wsV RX3 94 RX1 yX1_pawnBoots wsX1_pawnBoots) := goodIn_app (goodIn_of _ (by decide +kernel)) ggX3_pawn_X1_pawnBoots
theorem dX3_pawn_0 : decode cX3_pawn 0 = .ok (.aload_n 0, 1) := by decide +kernel
theorem dX3_pawn_1 : decode cX3_pawn 1 = .ok (.iload_n 1, 1) := by decide +kernel
theorem dX3_pawn_2 : decode cX3_pawn 2 = .ok (.invokevirtual 55, 3) := by decide +kernel
theorem dX3_pawn_5 : decode cX3_pawn 5 = .ok (.aload_n 0, 1) := by decide +kernel
theorem dX3_pawn_6 : decode cX3_pawn 6 = .ok (.getfield 10, 3) := by decide +kernel
theorem dX3_pawn_9 : decode cX3_pawn 9 = .ok (.getfield 48, 3) := by decide +kernel
theorem dX3_pawn_12 : decode cX3_pawn 12 = .ok (.iload_n 1, 1) := by decide +kernel
theorem dX3_pawn_13 : decode cX3_pawn 13 = .ok (.invokevirtual 85, 3) := by decide +kernel
theorem dX3_pawn_16 : decode cX3_pawn 16 = .ok (.ifCond .ne 13, 3) := by decide +kernel
theorem dX3_pawn_19 : decode cX3_pawn 19 = .ok (.new 89, 3) := by decide +kernel
theorem dX3_pawn_22 : decode cX3_pawn 22 = .ok (.dup, 1) := by decide +kernel
theorem dX3_pawn_23 : decode cX3_pawn 23 = .ok (.ldc 91, 2) := by decide +kernel
theorem dX3_pawn_25 : decode cX3_pawn 25 = .ok (.invokespecial 93, 3) := by decide +kernel
theorem dX3_pawn_28 : decode cX3_pawn 28 = .ok (.athrow, 1) := by decide +kernel
theorem dX3_pawn_29 : decode cX3_pawn 29 = .ok (.aload_n 0, 1) := by decide +kernel
theorem dX3_pawn_30 : decode cX3_pawn 30 = .ok (.getfield 10, 3) := by decide +kernel
theorem dX3_pawn_33 : decode cX3_pawn 33 = .ok (.iload_n 1, 1) := by decide +kernel
theorem dX3_pawn_34 : decode cX3_pawn 34 = .ok (.invokevirtual 94, 3) := by decide +kernel
theorem dX3_pawn_37 : decode cX3_pawn 37 = .ok (.aload_n 0, 1) := by decide +kernel
theorem dX3_pawn_38 : decode cX3_pawn 38 = .ok (.getfield 10, 3) := by decide +kernel
theorem dX3_pawn_41 : decode cX3_pawn 41 = .ok (.getfield 48, 3) := by decide +kernel
theorem dX3_pawn_44 : decode cX3_pawn 44 = .ok (.getfield 82, 3) := by decide +kernel
theorem dX3_pawn_47 : decode cX3_pawn 47 = .ok (.iload_n 1, 1) := by decide +kernel
theorem dX3_pawn_48 : decode cX3_pawn 48 = .ok (.iaload, 1) := by decide +kernel
theorem dX3_pawn_49 : decode cX3_pawn 49 = .ok (.ireturn, 1) := by decide +kernel
set_option maxRecDepth 20000 in
theorem ggX3_redeem_X3_requireSailor : GoodIn wsX3_redeem wsX3_requireSailor := goodIn_ca (goodIn_r _ [10, 11, 12, 3, 4, 13, 33, 34, 35, 36, 37, 38, 39, 40, 41, 42, 43, 44, 45, 46, 47, 48, 49, 50, 51, 52] (by decide +kernel) (by decide +kernel)) (goodIn_sub (fun _ h => List.mem_cons_of_mem _ (List.mem_append_right _ h)) (by decide +kernel))
set_option maxRecDepth 20000 in
theorem gX3_redeem_X3_requireSailor : GoodIn wsX3_redeem (wsV RX3 55 RX3 yX3_requireSailor wsX3_requireSailor) := goodIn_app (goodIn_of _ (by decide +kernel)) ggX3_redeem_X3_requireSailor
set_option maxRecDepth 20000 in
theorem ggX3_redeem_X1_canRedeemBoots : GoodIn wsX3_redeem wsX1_canRedeemBoots := goodIn_r _ [18, 19, 20, 21, 22, 23, 24, 25, 26, 27, 35, 36, 37, 38, 39, 40, 41, 42, 43, 44, 45, 46, 47, 48, 49, 50, 51, 52] (by decide +kernel) (by decide +kernel)
set_option maxRecDepth 20000 in
theorem gX3_redeem_X1_canRedeemBoots : GoodIn wsX3_redeem (wsV RX3 97 RX1 yX1_canRedeemBoots wsX1_canRedeemBoots) := goodIn_app (goodIn_of _ (by decide +kernel)) ggX3_redeem_X1_canRedeemBoots
set_option maxRecDepth 20000 in
theorem ggX3_redeem_X1_redeemBoots : GoodIn wsX3_redeem wsX1_redeemBoots := goodIn_r _ [31, 19, 20, 21, 32, 35, 36, 37, 38, 39, 40, 41, 42, 43, 44, 45, 46, 47, 48, 49, 50, 51, 52] (by decide +kernel) (by decide +kernel)
set_option maxRecDepth 20000 in
theorem gX3_redeem_X1_redeemBoots : GoodIn wsX3_redeem (wsV RX3 102 RX1 yX1_redeemBoots wsX1_redeemBoots) := goodIn_app (goodIn_of _ (by decide +kernel)) ggX3_redeem_X1_redeemBoots
theorem dX3_redeem_0 : decode cX3_redeem 0 = .ok (.aload_n 0, 1) := by decide +kernel
theorem dX3_redeem_1 : decode cX3_redeem 1 = .ok (.iload_n 1, 1) := by decide +kernel
theorem dX3_redeem_2 : decode cX3_redeem 2 = .ok (.invokevirtual 55, 3) := by decide +kernel
theorem dX3_redeem_5 : decode cX3_redeem 5 = .ok (.aload_n 0, 1) := by decide +kernel
theorem dX3_redeem_6 : decode cX3_redeem 6 = .ok (.getfield 10, 3) := by decide +kernel
theorem dX3_redeem_9 : decode cX3_redeem 9 = .ok (.iload_n 1, 1) := by decide +kernel
theorem dX3_redeem_10 : decode cX3_redeem 10 = .ok (.invokevirtual 97, 3) := by decide +kernel
theorem dX3_redeem_13 : decode cX3_redeem 13 = .ok (.ifCond .ne 13, 3) := by decide +kernel
theorem dX3_redeem_16 : decode cX3_redeem 16 = .ok (.new 89, 3) := by decide +kernel
theorem dX3_redeem_19 : decode cX3_redeem 19 = .ok (.dup, 1) := by decide +kernel
theorem dX3_redeem_20 : decode cX3_redeem 20 = .ok (.ldc 100, 2) := by decide +kernel
theorem dX3_redeem_22 : decode cX3_redeem 22 = .ok (.invokespecial 93, 3) := by decide +kernel
theorem dX3_redeem_25 : decode cX3_redeem 25 = .ok (.athrow, 1) := by decide +kernel
theorem dX3_redeem_26 : decode cX3_redeem 26 = .ok (.aload_n 0, 1) := by decide +kernel
theorem dX3_redeem_27 : decode cX3_redeem 27 = .ok (.getfield 10, 3) := by decide +kernel
theorem dX3_redeem_30 : decode cX3_redeem 30 = .ok (.iload_n 1, 1) := by decide +kernel
theorem dX3_redeem_31 : decode cX3_redeem 31 = .ok (.invokevirtual 102, 3) := by decide +kernel
theorem dX3_redeem_34 : decode cX3_redeem 34 = .ok (.aload_n 0, 1) := by decide +kernel
theorem dX3_redeem_35 : decode cX3_redeem 35 = .ok (.getfield 10, 3) := by decide +kernel
theorem dX3_redeem_38 : decode cX3_redeem 38 = .ok (.getfield 48, 3) := by decide +kernel
theorem dX3_redeem_41 : decode cX3_redeem 41 = .ok (.getfield 82, 3) := by decide +kernel
theorem dX3_redeem_44 : decode cX3_redeem 44 = .ok (.iload_n 1, 1) := by decide +kernel
theorem dX3_redeem_45 : decode cX3_redeem 45 = .ok (.iaload, 1) := by decide +kernel
theorem dX3_redeem_46 : decode cX3_redeem 46 = .ok (.ireturn, 1) := by decide +kernel
set_option maxRecDepth 20000 in
theorem ggX3_call_X3_requireSailor : GoodIn wsX3_call wsX3_requireSailor := goodIn_ca (goodIn_r _ [10, 11, 12, 3, 4, 13, 36, 37, 38, 39, 40, 41, 42, 43, 44, 45, 46, 47, 48, 49, 50, 51, 52, 53, 54, 55] (by decide +kernel) (by decide +kernel)) (goodIn_sub (fun _ h => List.mem_cons_of_mem _ (List.mem_append_right _ h)) (by decide +kernel))
set_option maxRecDepth 20000 in
theorem gX3_call_X3_requireSailor : GoodIn wsX3_call (wsV RX3 55 RX3 yX3_requireSailor wsX3_requireSailor) := goodIn_app (goodIn_of _ (by decide +kernel)) ggX3_call_X3_requireSailor
set_option maxRecDepth 20000 in
theorem ggX3_call_X2_isUp : GoodIn wsX3_call wsX2_isUp := goodIn_r _ [18, 19, 43, 44, 45, 46, 47, 48, 49, 50, 51, 52, 53, 54, 55] (by decide +kernel) (by decide +kernel)
set_option maxRecDepth 20000 in
theorem gX3_call_X2_isUp : GoodIn wsX3_call (wsV RX3 105 RX2 yX2_isUp wsX2_isUp) := goodIn_app (goodIn_of _ (by decide +kernel)) ggX3_call_X2_isUp
set_option maxRecDepth 20000 in
theorem ggX3_call_X1_getUp : GoodIn wsX3_call wsX1_getUp := goodIn_r _ [24, 25, 26, 27, 28, 29, 30, 31, 32, 33, 34, 35, 38, 39, 40, 41, 42, 43, 44, 45, 46, 47, 48, 49, 50, 51, 52, 53, 54, 55, 56, 57, 58, 59, 60, 61] (by decide +kernel) (by decide +kernel)
set_option maxRecDepth 20000 in
theorem gX3_call_X1_getUp : GoodIn wsX3_call (wsV RX3 113 RX1 yX1_getUp wsX1_getUp) := goodIn_app (goodIn_of _ (by decide +kernel)) ggX3_call_X1_getUp
theorem dX3_call_0 : decode cX3_call 0 = .ok (.aload_n 0, 1) := by decide +kernel
theorem dX3_call_1 : decode cX3_call 1 = .ok (.iload_n 1, 1) := by decide +kernel
theorem dX3_call_2 : decode cX3_call 2 = .ok (.invokevirtual 55, 3) := by decide +kernel
theorem dX3_call_5 : decode cX3_call 5 = .ok (.aload_n 0, 1) := by decide +kernel
theorem dX3_call_6 : decode cX3_call 6 = .ok (.getfield 10, 3) := by decide +kernel
theorem dX3_call_9 : decode cX3_call 9 = .ok (.getfield 48, 3) := by decide +kernel
theorem dX3_call_12 : decode cX3_call 12 = .ok (.iload_n 1, 1) := by decide +kernel
theorem dX3_call_13 : decode cX3_call 13 = .ok (.invokevirtual 105, 3) := by decide +kernel
theorem dX3_call_16 : decode cX3_call 16 = .ok (.ifCond .eq 13, 3) := by decide +kernel
theorem dX3_call_19 : decode cX3_call 19 = .ok (.new 89, 3) := by decide +kernel
theorem dX3_call_22 : decode cX3_call 22 = .ok (.dup, 1) := by decide +kernel
theorem dX3_call_23 : decode cX3_call 23 = .ok (.ldc 108, 2) := by decide +kernel
theorem dX3_call_25 : decode cX3_call 25 = .ok (.invokespecial 93, 3) := by decide +kernel
theorem dX3_call_28 : decode cX3_call 28 = .ok (.athrow, 1) := by decide +kernel
theorem dX3_call_29 : decode cX3_call 29 = .ok (.aload_n 0, 1) := by decide +kernel
theorem dX3_call_30 : decode cX3_call 30 = .ok (.getfield 10, 3) := by decide +kernel
theorem dX3_call_33 : decode cX3_call 33 = .ok (.getfield 48, 3) := by decide +kernel
theorem dX3_call_36 : decode cX3_call 36 = .ok (.getfield 110, 3) := by decide +kernel
theorem dX3_call_39 : decode cX3_call 39 = .ok (.iload_n 1, 1) := by decide +kernel
theorem dX3_call_40 : decode cX3_call 40 = .ok (.iaload, 1) := by decide +kernel
theorem dX3_call_41 : decode cX3_call 41 = .ok (.istore_n 2, 1) := by decide +kernel
theorem dX3_call_42 : decode cX3_call 42 = .ok (.aload_n 0, 1) := by decide +kernel
theorem dX3_call_43 : decode cX3_call 43 = .ok (.getfield 10, 3) := by decide +kernel
theorem dX3_call_46 : decode cX3_call 46 = .ok (.iload_n 1, 1) := by decide +kernel
theorem dX3_call_47 : decode cX3_call 47 = .ok (.invokevirtual 113, 3) := by decide +kernel
theorem dX3_call_50 : decode cX3_call 50 = .ok (.iload_n 2, 1) := by decide +kernel
theorem dX3_call_51 : decode cX3_call 51 = .ok (.ireturn, 1) := by decide +kernel
set_option maxRecDepth 20000 in
theorem ggX3_shift_X3_requireSailor : GoodIn wsX3_shift wsX3_requireSailor := goodIn_ca (goodIn_r _ [8, 9, 10, 1, 2, 11, 27, 28, 29, 30, 31, 32, 33, 34, 35, 36, 37, 38, 39, 40, 41, 42, 43, 44, 45, 46] (by decide +kernel) (by decide +kernel)) (goodIn_sub (fun _ h => List.mem_cons_of_mem _ (List.mem_append_left _ (List.mem_append_right _ h))) (by decide +kernel))
set_option maxRecDepth 20000 in
theorem gX3_shift_X3_requireSailor : GoodIn wsX3_shift (wsV RX3 55 RX3 yX3_requireSailor wsX3_requireSailor) := goodIn_app (goodIn_of _ (by decide +kernel)) ggX3_shift_X3_requireSailor
set_option maxRecDepth 20000 in
theorem ggX3_shift_X3_requireWatch : GoodIn wsX3_shift wsX3_requireWatch := goodIn_ca (goodIn_r _ [14, 9, 10] (by decide +kernel) (by decide +kernel)) (goodIn_sub (fun _ h => List.mem_cons_of_mem _ (List.mem_append_left _ (List.mem_append_right _ h))) (by decide +kernel))
set_option maxRecDepth 20000 in
theorem gX3_shift_X3_requireWatch : GoodIn wsX3_shift (va_wsS RX3 36 yX3_requireWatch wsX3_requireWatch) := goodIn_app (goodIn_of _ (by decide +kernel)) ggX3_shift_X3_requireWatch
set_option maxRecDepth 20000 in
theorem ggX3_shift_X3_requireUp : GoodIn wsX3_shift wsX3_requireUp := goodIn_ca (goodIn_r _ [18, 19, 20, 1, 2, 21, 22, 23, 24, 25, 26, 27, 28, 29, 30, 31, 32, 33, 34, 35, 36, 37, 38, 39, 40, 41, 42, 43, 44, 45, 46] (by decide +kernel) (by decide +kernel)) (goodIn_sub (fun _ h => List.mem_cons_of_mem _ (List.mem_append_right _ h)) (by decide +kernel))
set_option maxRecDepth 20000 in
theorem gX3_shift_X3_requireUp : GoodIn wsX3_shift (wsV RX3 116 RX3 yX3_requireUp wsX3_requireUp) := goodIn_app (goodIn_of _ (by decide +kernel)) ggX3_shift_X3_requireUp
theorem dX3_shift_0 : decode cX3_shift 0 = .ok (.aload_n 0, 1) := by decide +kernel
theorem dX3_shift_1 : decode cX3_shift 1 = .ok (.iload_n 1, 1) := by decide +kernel
theorem dX3_shift_2 : decode cX3_shift 2 = .ok (.invokevirtual 55, 3) := by decide +kernel
theorem dX3_shift_5 : decode cX3_shift 5 = .ok (.iload_n 2, 1) := by decide +kernel
theorem dX3_shift_6 : decode cX3_shift 6 = .ok (.invokestatic 36, 3) := by decide +kernel
theorem dX3_shift_9 : decode cX3_shift 9 = .ok (.aload_n 0, 1) := by decide +kernel
theorem dX3_shift_10 : decode cX3_shift 10 = .ok (.iload_n 1, 1) := by decide +kernel
theorem dX3_shift_11 : decode cX3_shift 11 = .ok (.invokevirtual 116, 3) := by decide +kernel
theorem dX3_shift_14 : decode cX3_shift 14 = .ok (.aload_n 0, 1) := by decide +kernel
theorem dX3_shift_15 : decode cX3_shift 15 = .ok (.getfield 10, 3) := by decide +kernel
theorem dX3_shift_18 : decode cX3_shift 18 = .ok (.getfield 48, 3) := by decide +kernel
theorem dX3_shift_21 : decode cX3_shift 21 = .ok (.getfield 119, 3) := by decide +kernel
theorem dX3_shift_24 : decode cX3_shift 24 = .ok (.iload_n 1, 1) := by decide +kernel
theorem dX3_shift_25 : decode cX3_shift 25 = .ok (.iaload, 1) := by decide +kernel
theorem dX3_shift_26 : decode cX3_shift 26 = .ok (.istore_n 3, 1) := by decide +kernel
theorem dX3_shift_27 : decode cX3_shift 27 = .ok (.aload_n 0, 1) := by decide +kernel
theorem dX3_shift_28 : decode cX3_shift 28 = .ok (.getfield 10, 3) := by decide +kernel
theorem dX3_shift_31 : decode cX3_shift 31 = .ok (.getfield 48, 3) := by decide +kernel
theorem dX3_shift_34 : decode cX3_shift 34 = .ok (.getfield 119, 3) := by decide +kernel
theorem dX3_shift_37 : decode cX3_shift 37 = .ok (.iload_n 1, 1) := by decide +kernel
theorem dX3_shift_38 : decode cX3_shift 38 = .ok (.iload_n 2, 1) := by decide +kernel
theorem dX3_shift_39 : decode cX3_shift 39 = .ok (.iastore, 1) := by decide +kernel
theorem dX3_shift_40 : decode cX3_shift 40 = .ok (.iload_n 3, 1) := by decide +kernel
theorem dX3_shift_41 : decode cX3_shift 41 = .ok (.ireturn, 1) := by decide +kernel
set_option maxRecDepth 20000 in
theorem ggX3_pass_X3_requireHours : GoodIn wsX3_pass wsX3_requireHours := goodIn_ca (goodIn_r _ [6, 7, 8] (by decide +kernel) (by decide +kernel)) (goodIn_sub (fun _ h => List.mem_cons_of_mem _ (List.mem_append_right _ h)) (by decide +kernel))
set_option maxRecDepth 20000 in
theorem gX3_pass_X3_requireHours : GoodIn wsX3_pass (va_wsS RX3 122 yX3_requireHours wsX3_requireHours) := goodIn_app (goodIn_of _ (by decide +kernel)) ggX3_pass_X3_requireHours
set_option maxRecDepth 20000 in
theorem ggX3_pass_X2_allFloors : GoodIn wsX3_pass wsX2_allFloors := goodIn_r _ [13, 14, 15, 16, 17, 12, 18, 19, 170, 171, 172, 173, 174, 175, 176, 177, 178, 179, 180, 181, 182] (by decide +kernel) (by decide +kernel)
set_option maxRecDepth 20000 in
theorem gX3_pass_X2_allFloors : GoodIn wsX3_pass (wsV RX3 125 RX2 yX2_allFloors wsX2_allFloors) := goodIn_app (goodIn_of _ (by decide +kernel)) ggX3_pass_X2_allFloors
set_option maxRecDepth 20000 in
theorem ggX3_pass_X1_goOn : GoodIn wsX3_pass wsX1_goOn := goodIn_r _ [24, 25, 26, 27, 28, 29, 30, 31, 32, 23, 33, 34, 35, 36, 37, 38, 12, 39, 40, 41, 42, 43, 44, 45, 46, 47, 48, 49, 50, 51, 52, 53, 54, 55, 56, 57, 58, 59, 60, 61, 62, 63, 64, 65, 66, 67, 68, 69, 70, 71, 72, 73, 74, 75, 76, 77, 78, 79, 80, 81, 82, 83, 84, 85, 86, 87, 88, 89, 90, 91, 92, 93, 94, 95, 96, 97, 98, 99, 100, 101, 102, 103, 104, 105, 106, 107, 108, 109, 110, 111, 112, 113, 114, 115, 116, 117, 118, 119, 120, 121, 122, 123, 124, 125, 126, 127, 128, 129, 130, 131, 132, 133, 134, 135, 136, 137, 138, 139, 140, 141, 142, 143, 144, 145, 146, 147, 14, 148, 149, 150, 151, 152, 153, 154, 155, 156, 157, 158, 159, 160, 161, 162, 165, 166, 167, 168, 169, 170, 171, 172, 173, 174, 175, 176, 177, 178, 179, 180, 181, 182, 183, 184, 185, 186, 187, 188] (by decide +kernel) (by decide +kernel)
set_option maxRecDepth 20000 in
theorem gX3_pass_X1_goOn : GoodIn wsX3_pass (wsV RX3 129 RX1 yX1_goOn wsX1_goOn) := goodIn_app (goodIn_of _ (by decide +kernel)) ggX3_pass_X1_goOn
theorem dX3_pass_0 : decode cX3_pass 0 = .ok (.iload_n 1, 1) := by decide +kernel
theorem dX3_pass_1 : decode cX3_pass 1 = .ok (.invokestatic 122, 3) := by decide +kernel
theorem dX3_pass_4 : decode cX3_pass 4 = .ok (.aload_n 0, 1) := by decide +kernel
theorem dX3_pass_5 : decode cX3_pass 5 = .ok (.getfield 10, 3) := by decide +kernel
theorem dX3_pass_8 : decode cX3_pass 8 = .ok (.getfield 48, 3) := by decide +kernel
theorem dX3_pass_11 : decode cX3_pass 11 = .ok (.invokevirtual 125, 3) := by decide +kernel
theorem dX3_pass_14 : decode cX3_pass 14 = .ok (.istore_n 2, 1) := by decide +kernel
theorem dX3_pass_15 : decode cX3_pass 15 = .ok (.aload_n 0, 1) := by decide +kernel
theorem dX3_pass_16 : decode cX3_pass 16 = .ok (.getfield 10, 3) := by decide +kernel
theorem dX3_pass_19 : decode cX3_pass 19 = .ok (.iload_n 1, 1) := by decide +kernel
theorem dX3_pass_20 : decode cX3_pass 20 = .ok (.invokevirtual 129, 3) := by decide +kernel
theorem dX3_pass_23 : decode cX3_pass 23 = .ok (.aload_n 0, 1) := by decide +kernel
theorem dX3_pass_24 : decode cX3_pass 24 = .ok (.getfield 10, 3) := by decide +kernel
theorem dX3_pass_27 : decode cX3_pass 27 = .ok (.getfield 48, 3) := by decide +kernel
theorem dX3_pass_30 : decode cX3_pass 30 = .ok (.invokevirtual 125, 3) := by decide +kernel
theorem dX3_pass_33 : decode cX3_pass 33 = .ok (.iload_n 2, 1) := by decide +kernel
theorem dX3_pass_34 : decode cX3_pass 34 = .ok (.isub, 1) := by decide +kernel
theorem dX3_pass_35 : decode cX3_pass 35 = .ok (.ireturn, 1) := by decide +kernel
set_option maxRecDepth 20000 in
theorem ggX3_told_X3_requireSailor : GoodIn wsX3_told wsX3_requireSailor := goodIn_ca (goodIn_r _ [20, 1, 2, 3, 4, 21, 22, 23, 24, 25, 26, 27, 28, 29, 30, 31, 32, 33, 34, 35, 36, 37, 38, 39, 40, 41] (by decide +kernel) (by decide +kernel)) (goodIn_sub (fun _ h => List.mem_cons_of_mem _ (List.mem_append_right _ h)) (by decide +kernel))
set_option maxRecDepth 20000 in
theorem gX3_told_X3_requireSailor : GoodIn wsX3_told (wsV RX3 55 RX3 yX3_requireSailor wsX3_requireSailor) := goodIn_app (goodIn_of _ (by decide +kernel)) ggX3_told_X3_requireSailor
theorem dX3_told_0 : decode cX3_told 0 = .ok (.aload_n 0, 1) := by decide +kernel
theorem dX3_told_1 : decode cX3_told 1 = .ok (.iload_n 1, 1) := by decide +kernel
theorem dX3_told_2 : decode cX3_told 2 = .ok (.invokevirtual 55, 3) := by decide +kernel
theorem dX3_told_5 : decode cX3_told 5 = .ok (.aload_n 0, 1) := by decide +kernel
theorem dX3_told_6 : decode cX3_told 6 = .ok (.getfield 10, 3) := by decide +kernel
theorem dX3_told_9 : decode cX3_told 9 = .ok (.getfield 48, 3) := by decide +kernel
theorem dX3_told_12 : decode cX3_told 12 = .ok (.astore_n 3, 1) := by decide +kernel
theorem dX3_told_13 : decode cX3_told 13 = .ok (.iload_n 2, 1) := by decide +kernel
theorem dX3_told_14 : decode cX3_told 14 = .ok (.tableswitch 135 0 10 #[58, 65, 72, 79, 86, 93, 100, 107, 114, 121, 128], 58) := by decide +kernel
theorem dX3_told_72 : decode cX3_told 72 = .ok (.aload_n 3, 1) := by decide +kernel
theorem dX3_told_73 : decode cX3_told 73 = .ok (.getfield 119, 3) := by decide +kernel
theorem dX3_told_76 : decode cX3_told 76 = .ok (.iload_n 1, 1) := by decide +kernel
theorem dX3_told_77 : decode cX3_told 77 = .ok (.iaload, 1) := by decide +kernel
theorem dX3_told_78 : decode cX3_told 78 = .ok (.ireturn, 1) := by decide +kernel
theorem dX3_told_79 : decode cX3_told 79 = .ok (.aload_n 3, 1) := by decide +kernel
theorem dX3_told_80 : decode cX3_told 80 = .ok (.getfield 132, 3) := by decide +kernel
theorem dX3_told_83 : decode cX3_told 83 = .ok (.iload_n 1, 1) := by decide +kernel
theorem dX3_told_84 : decode cX3_told 84 = .ok (.iaload, 1) := by decide +kernel
theorem dX3_told_85 : decode cX3_told 85 = .ok (.ireturn, 1) := by decide +kernel
theorem dX3_told_86 : decode cX3_told 86 = .ok (.aload_n 3, 1) := by decide +kernel
theorem dX3_told_87 : decode cX3_told 87 = .ok (.getfield 135, 3) := by decide +kernel
theorem dX3_told_90 : decode cX3_told 90 = .ok (.iload_n 1, 1) := by decide +kernel
theorem dX3_told_91 : decode cX3_told 91 = .ok (.iaload, 1) := by decide +kernel
theorem dX3_told_92 : decode cX3_told 92 = .ok (.ireturn, 1) := by decide +kernel
theorem dX3_told_93 : decode cX3_told 93 = .ok (.aload_n 3, 1) := by decide +kernel
theorem dX3_told_94 : decode cX3_told 94 = .ok (.getfield 82, 3) := by decide +kernel
theorem dX3_told_97 : decode cX3_told 97 = .ok (.iload_n 1, 1) := by decide +kernel
theorem dX3_told_98 : decode cX3_told 98 = .ok (.iaload, 1) := by decide +kernel
theorem dX3_told_99 : decode cX3_told 99 = .ok (.ireturn, 1) := by decide +kernel
theorem dX3_told_100 : decode cX3_told 100 = .ok (.aload_n 3, 1) := by decide +kernel
theorem dX3_told_101 : decode cX3_told 101 = .ok (.getfield 138, 3) := by decide +kernel
theorem dX3_told_104 : decode cX3_told 104 = .ok (.iload_n 1, 1) := by decide +kernel
theorem dX3_told_105 : decode cX3_told 105 = .ok (.iaload, 1) := by decide +kernel
theorem dX3_told_106 : decode cX3_told 106 = .ok (.ireturn, 1) := by decide +kernel
theorem dX3_told_107 : decode cX3_told 107 = .ok (.aload_n 3, 1) := by decide +kernel
theorem dX3_told_108 : decode cX3_told 108 = .ok (.getfield 61, 3) := by decide +kernel
theorem dX3_told_111 : decode cX3_told 111 = .ok (.iload_n 1, 1) := by decide +kernel
theorem dX3_told_112 : decode cX3_told 112 = .ok (.iaload, 1) := by decide +kernel
theorem dX3_told_113 : decode cX3_told 113 = .ok (.ireturn, 1) := by decide +kernel
theorem dX3_told_114 : decode cX3_told 114 = .ok (.aload_n 3, 1) := by decide +kernel
theorem dX3_told_115 : decode cX3_told 115 = .ok (.getfield 141, 3) := by decide +kernel
theorem dX3_told_118 : decode cX3_told 118 = .ok (.iload_n 1, 1) := by decide +kernel
theorem dX3_told_119 : decode cX3_told 119 = .ok (.iaload, 1) := by decide +kernel
theorem dX3_told_120 : decode cX3_told 120 = .ok (.ireturn, 1) := by decide +kernel
theorem dX3_told_121 : decode cX3_told 121 = .ok (.aload_n 3, 1) := by decide +kernel
theorem dX3_told_122 : decode cX3_told 122 = .ok (.getfield 110, 3) := by decide +kernel
theorem dX3_told_125 : decode cX3_told 125 = .ok (.iload_n 1, 1) := by decide +kernel
theorem dX3_told_126 : decode cX3_told 126 = .ok (.iaload, 1) := by decide +kernel
theorem dX3_told_127 : decode cX3_told 127 = .ok (.ireturn, 1) := by decide +kernel
theorem dX3_told_128 : decode cX3_told 128 = .ok (.aload_n 3, 1) := by decide +kernel
theorem dX3_told_129 : decode cX3_told 129 = .ok (.getfield 144, 3) := by decide +kernel
theorem dX3_told_132 : decode cX3_told 132 = .ok (.iload_n 1, 1) := by decide +kernel
theorem dX3_told_133 : decode cX3_told 133 = .ok (.iaload, 1) := by decide +kernel
theorem dX3_told_134 : decode cX3_told 134 = .ok (.ireturn, 1) := by decide +kernel
theorem dX3_told_135 : decode cX3_told 135 = .ok (.aload_n 3, 1) := by decide +kernel
theorem dX3_told_136 : decode cX3_told 136 = .ok (.getfield 147, 3) := by decide +kernel
theorem dX3_told_139 : decode cX3_told 139 = .ok (.iload_n 1, 1) := by decide +kernel
theorem dX3_told_140 : decode cX3_told 140 = .ok (.iaload, 1) := by decide +kernel
theorem dX3_told_141 : decode cX3_told 141 = .ok (.ireturn, 1) := by decide +kernel
theorem dX3_told_142 : decode cX3_told 142 = .ok (.aload_n 3, 1) := by decide +kernel
theorem dX3_told_143 : decode cX3_told 143 = .ok (.getfield 150, 3) := by decide +kernel
theorem dX3_told_146 : decode cX3_told 146 = .ok (.iload_n 1, 1) := by decide +kernel
theorem dX3_told_147 : decode cX3_told 147 = .ok (.iaload, 1) := by decide +kernel
theorem dX3_told_148 : decode cX3_told 148 = .ok (.ireturn, 1) := by decide +kernel
theorem dX3_told_149 : decode cX3_told 149 = .ok (.new 153, 3) := by decide +kernel
theorem dX3_told_152 : decode cX3_told 152 = .ok (.dup, 1) := by decide +kernel
theorem dX3_told_153 : decode cX3_told 153 = .ok (.ldc 155, 2) := by decide +kernel
theorem dX3_told_155 : decode cX3_told 155 = .ok (.invokespecial 157, 3) := by decide +kernel
theorem dX3_told_158 : decode cX3_told 158 = .ok (.athrow, 1) := by decide +kernel
set_option maxRecDepth 20000 in
theorem ggX3_about_X3_requireBed : GoodIn wsX3_about wsX3_requireBed := goodIn_ca (goodIn_r _ [14, 1, 2, 3, 4, 15, 16, 17, 18, 19, 20, 21, 22, 23, 24, 25, 26, 27, 28, 29, 30, 31, 32, 33] (by decide +kernel) (by decide +kernel)) (goodIn_sub (fun _ h => List.mem_cons_of_mem _ (List.mem_append_right _ h)) (by decide +kernel))
set_option maxRecDepth 20000 in
theorem gX3_about_X3_requireBed : GoodIn wsX3_about (wsV RX3 58 RX3 yX3_requireBed wsX3_requireBed) := goodIn_app (goodIn_of _ (by decide +kernel)) ggX3_about_X3_requireBed
theorem dX3_about_0 : decode cX3_about 0 = .ok (.aload_n 0, 1) := by decide +kernel
theorem dX3_about_1 : decode cX3_about 1 = .ok (.iload_n 1, 1) := by decide +kernel
theorem dX3_about_2 : decode cX3_about 2 = .ok (.invokevirtual 58, 3) := by decide +kernel
theorem dX3_about_5 : decode cX3_about 5 = .ok (.aload_n 0, 1) := by decide +kernel
theorem dX3_about_6 : decode cX3_about 6 = .ok (.getfield 10, 3) := by decide +kernel
theorem dX3_about_9 : decode cX3_about 9 = .ok (.getfield 26, 3) := by decide +kernel
theorem dX3_about_12 : decode cX3_about 12 = .ok (.astore_n 3, 1) := by decide +kernel
theorem dX3_about_13 : decode cX3_about 13 = .ok (.iload_n 2, 1) := by decide +kernel
theorem dX3_about_14 : decode cX3_about 14 = .ok (.tableswitch 69 0 4 #[34, 41, 48, 55, 62], 34) := by decide +kernel
theorem dX3_about_48 : decode cX3_about 48 = .ok (.aload_n 3, 1) := by decide +kernel
theorem dX3_about_49 : decode cX3_about 49 = .ok (.getfield 158, 3) := by decide +kernel
theorem dX3_about_52 : decode cX3_about 52 = .ok (.iload_n 1, 1) := by decide +kernel
theorem dX3_about_53 : decode cX3_about 53 = .ok (.iaload, 1) := by decide +kernel
theorem dX3_about_54 : decode cX3_about 54 = .ok (.ireturn, 1) := by decide +kernel
theorem dX3_about_55 : decode cX3_about 55 = .ok (.aload_n 3, 1) := by decide +kernel
theorem dX3_about_56 : decode cX3_about 56 = .ok (.getfield 161, 3) := by decide +kernel
theorem dX3_about_59 : decode cX3_about 59 = .ok (.iload_n 1, 1) := by decide +kernel
theorem dX3_about_60 : decode cX3_about 60 = .ok (.iaload, 1) := by decide +kernel
theorem dX3_about_61 : decode cX3_about 61 = .ok (.ireturn, 1) := by decide +kernel
theorem dX3_about_62 : decode cX3_about 62 = .ok (.aload_n 3, 1) := by decide +kernel
theorem dX3_about_63 : decode cX3_about 63 = .ok (.getfield 164, 3) := by decide +kernel
theorem dX3_about_66 : decode cX3_about 66 = .ok (.iload_n 1, 1) := by decide +kernel
theorem dX3_about_67 : decode cX3_about 67 = .ok (.iaload, 1) := by decide +kernel
theorem dX3_about_68 : decode cX3_about 68 = .ok (.ireturn, 1) := by decide +kernel
theorem dX3_about_69 : decode cX3_about 69 = .ok (.aload_n 3, 1) := by decide +kernel
theorem dX3_about_70 : decode cX3_about 70 = .ok (.getfield 167, 3) := by decide +kernel
theorem dX3_about_73 : decode cX3_about 73 = .ok (.iload_n 1, 1) := by decide +kernel
theorem dX3_about_74 : decode cX3_about 74 = .ok (.iaload, 1) := by decide +kernel
theorem dX3_about_75 : decode cX3_about 75 = .ok (.ireturn, 1) := by decide +kernel
theorem dX3_about_76 : decode cX3_about 76 = .ok (.aload_n 3, 1) := by decide +kernel
theorem dX3_about_77 : decode cX3_about 77 = .ok (.getfield 170, 3) := by decide +kernel
theorem dX3_about_80 : decode cX3_about 80 = .ok (.iload_n 1, 1) := by decide +kernel
theorem dX3_about_81 : decode cX3_about 81 = .ok (.iaload, 1) := by decide +kernel
theorem dX3_about_82 : decode cX3_about 82 = .ok (.ireturn, 1) := by decide +kernel
theorem dX3_about_83 : decode cX3_about 83 = .ok (.new 153, 3) := by decide +kernel
theorem dX3_about_86 : decode cX3_about 86 = .ok (.dup, 1) := by decide +kernel
theorem dX3_about_87 : decode cX3_about 87 = .ok (.ldc 173, 2) := by decide +kernel
theorem dX3_about_89 : decode cX3_about 89 = .ok (.invokespecial 157, 3) := by decide +kernel
theorem dX3_about_92 : decode cX3_about 92 = .ok (.athrow, 1) := by decide +kernel
set_option maxRecDepth 20000 in
theorem ggX3_count_X1_watchNow : GoodIn wsX3_count wsX1_watchNow := goodIn_r _ [15, 16, 40, 41, 42, 43, 44] (by decide +kernel) (by decide +kernel)
set_option maxRecDepth 20000 in
theorem gX3_count_X1_watchNow : GoodIn wsX3_count (wsV RX3 182 RX1 yX1_watchNow wsX1_watchNow) := goodIn_app (goodIn_of _ (by decide +kernel)) ggX3_count_X1_watchNow
set_option maxRecDepth 20000 in
theorem ggX3_count_X2_howManyAt : GoodIn wsX3_count wsX2_howManyAt := goodIn_r _ [21, 22, 23, 51, 52, 53, 54, 55, 56, 57, 58, 59, 60, 61, 62, 63] (by decide +kernel) (by decide +kernel)
set_option maxRecDepth 20000 in
theorem gX3_count_X2_howManyAt : GoodIn wsX3_count (wsV RX3 185 RX2 yX2_howManyAt wsX2_howManyAt) := goodIn_app (goodIn_of _ (by decide +kernel)) ggX3_count_X2_howManyAt
set_option maxRecDepth 20000 in
theorem ggX3_count_X2_allLate : GoodIn wsX3_count wsX2_allLate := goodIn_r _ [27, 28, 29, 30, 31, 20, 32, 22, 51, 52, 53, 54, 55, 56, 57, 58, 59, 60, 61, 62, 63] (by decide +kernel) (by decide +kernel)
set_option maxRecDepth 20000 in
theorem gX3_count_X2_allLate : GoodIn wsX3_count (wsV RX3 188 RX2 yX2_allLate wsX2_allLate) := goodIn_app (goodIn_of _ (by decide +kernel)) ggX3_count_X2_allLate
set_option maxRecDepth 20000 in
theorem ggX3_count_X2_allFloors : GoodIn wsX3_count wsX2_allFloors := goodIn_r _ [36, 37, 29, 30, 31, 20, 32, 22, 51, 52, 53, 54, 55, 56, 57, 58, 59, 60, 61, 62, 63] (by decide +kernel) (by decide +kernel)
set_option maxRecDepth 20000 in
theorem gX3_count_X2_allFloors : GoodIn wsX3_count (wsV RX3 125 RX2 yX2_allFloors wsX2_allFloors) := goodIn_app (goodIn_of _ (by decide +kernel)) ggX3_count_X2_allFloors
theorem dX3_count_0 : decode cX3_count 0 = .ok (.iload_n 1, 1) := by decide +kernel
theorem dX3_count_1 : decode cX3_count 1 = .ok (.tableswitch 155 0 9 #[55, 63, 74, 85, 93, 105, 117, 128, 139, 147], 55) := by decide +kernel
theorem dX3_count_56 : decode cX3_count 56 = .ok (.aload_n 0, 1) := by decide +kernel
theorem dX3_count_57 : decode cX3_count 57 = .ok (.getfield 10, 3) := by decide +kernel
theorem dX3_count_60 : decode cX3_count 60 = .ok (.getfield 175, 3) := by decide +kernel
theorem dX3_count_63 : decode cX3_count 63 = .ok (.ireturn, 1) := by decide +kernel
theorem dX3_count_64 : decode cX3_count 64 = .ok (.aload_n 0, 1) := by decide +kernel
theorem dX3_count_65 : decode cX3_count 65 = .ok (.getfield 10, 3) := by decide +kernel
theorem dX3_count_68 : decode cX3_count 68 = .ok (.getfield 26, 3) := by decide +kernel
theorem dX3_count_71 : decode cX3_count 71 = .ok (.getfield 178, 3) := by decide +kernel
theorem dX3_count_74 : decode cX3_count 74 = .ok (.ireturn, 1) := by decide +kernel
theorem dX3_count_75 : decode cX3_count 75 = .ok (.aload_n 0, 1) := by decide +kernel
theorem dX3_count_76 : decode cX3_count 76 = .ok (.getfield 10, 3) := by decide +kernel
theorem dX3_count_79 : decode cX3_count 79 = .ok (.getfield 48, 3) := by decide +kernel
theorem dX3_count_82 : decode cX3_count 82 = .ok (.getfield 181, 3) := by decide +kernel
theorem dX3_count_85 : decode cX3_count 85 = .ok (.ireturn, 1) := by decide +kernel
theorem dX3_count_86 : decode cX3_count 86 = .ok (.aload_n 0, 1) := by decide +kernel
theorem dX3_count_87 : decode cX3_count 87 = .ok (.getfield 10, 3) := by decide +kernel
theorem dX3_count_90 : decode cX3_count 90 = .ok (.invokevirtual 182, 3) := by decide +kernel
theorem dX3_count_93 : decode cX3_count 93 = .ok (.ireturn, 1) := by decide +kernel
theorem dX3_count_94 : decode cX3_count 94 = .ok (.aload_n 0, 1) := by decide +kernel
theorem dX3_count_95 : decode cX3_count 95 = .ok (.getfield 10, 3) := by decide +kernel
theorem dX3_count_98 : decode cX3_count 98 = .ok (.getfield 48, 3) := by decide +kernel
theorem dX3_count_101 : decode cX3_count 101 = .ok (.iconst 1, 1) := by decide +kernel
theorem dX3_count_102 : decode cX3_count 102 = .ok (.invokevirtual 185, 3) := by decide +kernel
theorem dX3_count_105 : decode cX3_count 105 = .ok (.ireturn, 1) := by decide +kernel
theorem dX3_count_106 : decode cX3_count 106 = .ok (.aload_n 0, 1) := by decide +kernel
theorem dX3_count_107 : decode cX3_count 107 = .ok (.getfield 10, 3) := by decide +kernel
theorem dX3_count_110 : decode cX3_count 110 = .ok (.getfield 48, 3) := by decide +kernel
theorem dX3_count_113 : decode cX3_count 113 = .ok (.iconst 2, 1) := by decide +kernel
theorem dX3_count_114 : decode cX3_count 114 = .ok (.invokevirtual 185, 3) := by decide +kernel
theorem dX3_count_117 : decode cX3_count 117 = .ok (.ireturn, 1) := by decide +kernel
theorem dX3_count_118 : decode cX3_count 118 = .ok (.aload_n 0, 1) := by decide +kernel
theorem dX3_count_119 : decode cX3_count 119 = .ok (.getfield 10, 3) := by decide +kernel
theorem dX3_count_122 : decode cX3_count 122 = .ok (.getfield 48, 3) := by decide +kernel
theorem dX3_count_125 : decode cX3_count 125 = .ok (.invokevirtual 188, 3) := by decide +kernel
theorem dX3_count_128 : decode cX3_count 128 = .ok (.ireturn, 1) := by decide +kernel
theorem dX3_count_129 : decode cX3_count 129 = .ok (.aload_n 0, 1) := by decide +kernel
theorem dX3_count_130 : decode cX3_count 130 = .ok (.getfield 10, 3) := by decide +kernel
theorem dX3_count_133 : decode cX3_count 133 = .ok (.getfield 48, 3) := by decide +kernel
theorem dX3_count_136 : decode cX3_count 136 = .ok (.invokevirtual 125, 3) := by decide +kernel
theorem dX3_count_139 : decode cX3_count 139 = .ok (.ireturn, 1) := by decide +kernel
theorem dX3_count_140 : decode cX3_count 140 = .ok (.aload_n 0, 1) := by decide +kernel
theorem dX3_count_141 : decode cX3_count 141 = .ok (.getfield 10, 3) := by decide +kernel
theorem dX3_count_144 : decode cX3_count 144 = .ok (.getfield 67, 3) := by decide +kernel
theorem dX3_count_147 : decode cX3_count 147 = .ok (.ireturn, 1) := by decide +kernel
theorem dX3_count_148 : decode cX3_count 148 = .ok (.aload_n 0, 1) := by decide +kernel
theorem dX3_count_149 : decode cX3_count 149 = .ok (.getfield 10, 3) := by decide +kernel
theorem dX3_count_152 : decode cX3_count 152 = .ok (.getfield 73, 3) := by decide +kernel
theorem dX3_count_155 : decode cX3_count 155 = .ok (.ireturn, 1) := by decide +kernel
theorem dX3_count_156 : decode cX3_count 156 = .ok (.new 153, 3) := by decide +kernel
theorem dX3_count_159 : decode cX3_count 159 = .ok (.dup, 1) := by decide +kernel
theorem dX3_count_160 : decode cX3_count 160 = .ok (.ldc 191, 2) := by decide +kernel
theorem dX3_count_162 : decode cX3_count 162 = .ok (.invokespecial 157, 3) := by decide +kernel
theorem dX3_count_165 : decode cX3_count 165 = .ok (.athrow, 1) := by decide +kernel
set_option maxRecDepth 20000 in
theorem ggX3_mean_X2_allRest : GoodIn wsX3_mean wsX2_allRest := goodIn_r _ [8, 9, 10, 11, 12, 7, 13, 14, 22, 23, 24, 25, 26, 27, 28, 29, 30, 31, 32, 33, 34] (by decide +kernel) (by decide +kernel)
set_option maxRecDepth 20000 in
theorem gX3_mean_X2_allRest : GoodIn wsX3_mean (wsV RX3 197 RX2 yX2_allRest wsX2_allRest) := goodIn_app (goodIn_of _ (by decide +kernel)) ggX3_mean_X2_allRest
theorem dX3_mean_0 : decode cX3_mean 0 = .ok (.aload_n 0, 1) := by decide +kernel
theorem dX3_mean_1 : decode cX3_mean 1 = .ok (.getfield 10, 3) := by decide +kernel
theorem dX3_mean_4 : decode cX3_mean 4 = .ok (.getfield 48, 3) := by decide +kernel
theorem dX3_mean_7 : decode cX3_mean 7 = .ok (.astore_n 1, 1) := by decide +kernel
theorem dX3_mean_8 : decode cX3_mean 8 = .ok (.aload_n 1, 1) := by decide +kernel
theorem dX3_mean_9 : decode cX3_mean 9 = .ok (.getfield 181, 3) := by decide +kernel
theorem dX3_mean_12 : decode cX3_mean 12 = .ok (.ifCond .gt 5, 3) := by decide +kernel
theorem dX3_mean_15 : decode cX3_mean 15 = .ok (.dconst 0, 1) := by decide +kernel
theorem dX3_mean_16 : decode cX3_mean 16 = .ok (.dreturn, 1) := by decide +kernel
theorem dX3_mean_17 : decode cX3_mean 17 = .ok (.aload_n 1, 1) := by decide +kernel
theorem dX3_mean_18 : decode cX3_mean 18 = .ok (.invokevirtual 197, 3) := by decide +kernel
theorem dX3_mean_21 : decode cX3_mean 21 = .ok (.i2d, 1) := by decide +kernel
theorem dX3_mean_22 : decode cX3_mean 22 = .ok (.aload_n 1, 1) := by decide +kernel
theorem dX3_mean_23 : decode cX3_mean 23 = .ok (.getfield 181, 3) := by decide +kernel
theorem dX3_mean_26 : decode cX3_mean 26 = .ok (.i2d, 1) := by decide +kernel
theorem dX3_mean_27 : decode cX3_mean 27 = .ok (.ddiv, 1) := by decide +kernel
theorem dX3_mean_28 : decode cX3_mean 28 = .ok (.dreturn, 1) := by decide +kernel
theorem dX3_requireSailor_0 : decode cX3_requireSailor 0 = .ok (.iload_n 1, 1) := by decide +kernel
theorem dX3_requireSailor_1 : decode cX3_requireSailor 1 = .ok (.ifCond .lt 17, 3) := by decide +kernel
theorem dX3_requireSailor_4 : decode cX3_requireSailor 4 = .ok (.iload_n 1, 1) := by decide +kernel
theorem dX3_requireSailor_5 : decode cX3_requireSailor 5 = .ok (.aload_n 0, 1) := by decide +kernel
theorem dX3_requireSailor_6 : decode cX3_requireSailor 6 = .ok (.getfield 10, 3) := by decide +kernel
theorem dX3_requireSailor_9 : decode cX3_requireSailor 9 = .ok (.getfield 48, 3) := by decide +kernel
theorem dX3_requireSailor_12 : decode cX3_requireSailor 12 = .ok (.getfield 181, 3) := by decide +kernel
theorem dX3_requireSailor_15 : decode cX3_requireSailor 15 = .ok (.if_icmp .lt 13, 3) := by decide +kernel
theorem dX3_requireSailor_18 : decode cX3_requireSailor 18 = .ok (.new 153, 3) := by decide +kernel
theorem dX3_requireSailor_21 : decode cX3_requireSailor 21 = .ok (.dup, 1) := by decide +kernel
theorem dX3_requireSailor_22 : decode cX3_requireSailor 22 = .ok (.ldc 214, 2) := by decide +kernel
theorem dX3_requireSailor_24 : decode cX3_requireSailor 24 = .ok (.invokespecial 157, 3) := by decide +kernel
theorem dX3_requireSailor_27 : decode cX3_requireSailor 27 = .ok (.athrow, 1) := by decide +kernel
theorem dX3_requireSailor_28 : decode cX3_requireSailor 28 = .ok (.return_, 1) := by decide +kernel
set_option maxRecDepth 20000 in
theorem ggX3_requireBed_X0_has : GoodIn wsX3_requireBed wsX0_has := goodIn_r _ [9, 10, 18, 19, 20, 21, 22, 23] (by decide +kernel) (by decide +kernel)
set_option maxRecDepth 20000 in
theorem gX3_requireBed_X0_has : GoodIn wsX3_requireBed (wsV RX3 216 RX0 yX0_has wsX0_has) := goodIn_app (goodIn_of _ (by decide +kernel)) ggX3_requireBed_X0_has
theorem dX3_requireBed_0 : decode cX3_requireBed 0 = .ok (.aload_n 0, 1) := by decide +kernel
theorem dX3_requireBed_1 : decode cX3_requireBed 1 = .ok (.getfield 10, 3) := by decide +kernel
theorem dX3_requireBed_4 : decode cX3_requireBed 4 = .ok (.getfield 26, 3) := by decide +kernel
theorem dX3_requireBed_7 : decode cX3_requireBed 7 = .ok (.iload_n 1, 1) := by decide +kernel
theorem dX3_requireBed_8 : decode cX3_requireBed 8 = .ok (.invokevirtual 216, 3) := by decide +kernel
theorem dX3_requireBed_11 : decode cX3_requireBed 11 = .ok (.ifCond .ne 13, 3) := by decide +kernel
theorem dX3_requireBed_14 : decode cX3_requireBed 14 = .ok (.new 153, 3) := by decide +kernel
theorem dX3_requireBed_17 : decode cX3_requireBed 17 = .ok (.dup, 1) := by decide +kernel
theorem dX3_requireBed_18 : decode cX3_requireBed 18 = .ok (.ldc 219, 2) := by decide +kernel
theorem dX3_requireBed_20 : decode cX3_requireBed 20 = .ok (.invokespecial 157, 3) := by decide +kernel
theorem dX3_requireBed_23 : decode cX3_requireBed 23 = .ok (.athrow, 1) := by decide +kernel
theorem dX3_requireBed_24 : decode cX3_requireBed 24 = .ok (.return_, 1) := by decide +kernel
theorem dX3_requireWatch_0 : decode cX3_requireWatch 0 = .ok (.iload_n 0, 1) := by decide +kernel
theorem dX3_requireWatch_1 : decode cX3_requireWatch 1 = .ok (.ifCond .lt 8, 3) := by decide +kernel
theorem dX3_requireWatch_4 : decode cX3_requireWatch 4 = .ok (.iload_n 0, 1) := by decide +kernel
theorem dX3_requireWatch_5 : decode cX3_requireWatch 5 = .ok (.iconst 3, 1) := by decide +kernel
theorem dX3_requireWatch_6 : decode cX3_requireWatch 6 = .ok (.if_icmp .lt 13, 3) := by decide +kernel
theorem dX3_requireWatch_9 : decode cX3_requireWatch 9 = .ok (.new 153, 3) := by decide +kernel
theorem dX3_requireWatch_12 : decode cX3_requireWatch 12 = .ok (.dup, 1) := by decide +kernel
theorem dX3_requireWatch_13 : decode cX3_requireWatch 13 = .ok (.ldc 221, 2) := by decide +kernel
theorem dX3_requireWatch_15 : decode cX3_requireWatch 15 = .ok (.invokespecial 157, 3) := by decide +kernel
theorem dX3_requireWatch_18 : decode cX3_requireWatch 18 = .ok (.athrow, 1) := by decide +kernel
theorem dX3_requireWatch_19 : decode cX3_requireWatch 19 = .ok (.return_, 1) := by decide +kernel
set_option maxRecDepth 20000 in
theorem ggX3_requireUp_X2_isUp : GoodIn wsX3_requireUp wsX2_isUp := goodIn_r _ [9, 10, 18, 19, 20, 21, 22, 23, 24, 25, 26, 27, 28, 29, 30] (by decide +kernel) (by decide +kernel)
set_option maxRecDepth 20000 in
theorem gX3_requireUp_X2_isUp : GoodIn wsX3_requireUp (wsV RX3 105 RX2 yX2_isUp wsX2_isUp) := goodIn_app (goodIn_of _ (by decide +kernel)) ggX3_requireUp_X2_isUp
theorem dX3_requireUp_0 : decode cX3_requireUp 0 = .ok (.aload_n 0, 1) := by decide +kernel
theorem dX3_requireUp_1 : decode cX3_requireUp 1 = .ok (.getfield 10, 3) := by decide +kernel
theorem dX3_requireUp_4 : decode cX3_requireUp 4 = .ok (.getfield 48, 3) := by decide +kernel
theorem dX3_requireUp_7 : decode cX3_requireUp 7 = .ok (.iload_n 1, 1) := by decide +kernel
theorem dX3_requireUp_8 : decode cX3_requireUp 8 = .ok (.invokevirtual 105, 3) := by decide +kernel
theorem dX3_requireUp_11 : decode cX3_requireUp 11 = .ok (.ifCond .ne 13, 3) := by decide +kernel
theorem dX3_requireUp_14 : decode cX3_requireUp 14 = .ok (.new 89, 3) := by decide +kernel
theorem dX3_requireUp_17 : decode cX3_requireUp 17 = .ok (.dup, 1) := by decide +kernel
theorem dX3_requireUp_18 : decode cX3_requireUp 18 = .ok (.ldc 223, 2) := by decide +kernel
theorem dX3_requireUp_20 : decode cX3_requireUp 20 = .ok (.invokespecial 93, 3) := by decide +kernel
theorem dX3_requireUp_23 : decode cX3_requireUp 23 = .ok (.athrow, 1) := by decide +kernel
theorem dX3_requireUp_24 : decode cX3_requireUp 24 = .ok (.return_, 1) := by decide +kernel
theorem dX3_requireHours_0 : decode cX3_requireHours 0 = .ok (.iload_n 0, 1) := by decide +kernel
theorem dX3_requireHours_1 : decode cX3_requireHours 1 = .ok (.iconst 1, 1) := by decide +kernel
theorem dX3_requireHours_2 : decode cX3_requireHours 2 = .ok (.if_icmp .lt 9, 3) := by decide +kernel
theorem dX3_requireHours_5 : decode cX3_requireHours 5 = .ok (.iload_n 0, 1) := by decide +kernel
theorem dX3_requireHours_6 : decode cX3_requireHours 6 = .ok (.bipush 72, 2) := by decide +kernel
theorem dX3_requireHours_8 : decode cX3_requireHours 8 = .ok (.if_icmp .le 13, 3) := by decide +kernel
theorem dX3_requireHours_11 : decode cX3_requireHours 11 = .ok (.new 19, 3) := by decide +kernel
theorem dX3_requireHours_14 : decode cX3_requireHours 14 = .ok (.dup, 1) := by decide +kernel
theorem dX3_requireHours_15 : decode cX3_requireHours 15 = .ok (.ldc 225, 2) := by decide +kernel
theorem dX3_requireHours_17 : decode cX3_requireHours 17 = .ok (.invokespecial 23, 3) := by decide +kernel
theorem dX3_requireHours_20 : decode cX3_requireHours 20 = .ok (.athrow, 1) := by decide +kernel
theorem dX3_requireHours_21 : decode cX3_requireHours 21 = .ok (.return_, 1) := by decide +kernel
end
section
/-! a world that is a part of another's: X ++ (Y ++ Z) -/
theorem fr_k {X Y Z : va_W} {k : Nat} {q : Nat × va_E} (h : Y[k]? = some q) : (X ++ (Y ++ Z))[X.length + k]? = some q := by
  have hl := (List.getElem?_eq_some_iff.mp h).1
  rw [List.getElem?_append_right (by omega), Nat.add_sub_cancel_left, List.getElem?_append_left hl]
  exact h
theorem fr_P {D : va_G} {cl : List vw_C} {X Y Z : va_W} {H : Heap} (h : va_P D cl (X ++ (Y ++ Z)) H) : va_P D cl Y H := fun _ q hk => h _ q (fr_k hk)
theorem fr_D {A : Nat → Prop} {X Y Z : va_W} (h : va_D A (X ++ (Y ++ Z))) : va_D A Y :=
  ⟨fun i j p q hi hj hpq => by have h1 := h.1 _ _ p q (fr_k hi) (fr_k hj) hpq; omega, fun _ q hk => h.2 _ q (fr_k hk)⟩
theorem fr_J {D : va_G} {cl : List vw_C} {X Y Z Y' : va_W} {A0 : Nat → Prop} {H H1 : Heap} (hP : va_P D cl (X ++ (Y ++ Z)) H) (hD : va_D A0 (X ++ (Y ++ Z))) (hkp : ∀ q : Nat, q < H.size → ¬ va_A Y H.size q → H1[q]? = H[q]?) (hF : ∀ q, va_A Y H.size q → A0 q) (hP1 : va_P D cl Y' H1) (hD1 : va_D (va_A Y H.size) Y') : va_P D cl (X ++ (Y' ++ Z)) H1 ∧ va_D A0 (X ++ (Y' ++ Z)) := by
  have kX : ∀ (k : Nat) (q : Nat × va_E), X[k]? = some q → (X ++ (Y ++ Z))[k]? = some q := fun k q hk => by
    rw [List.getElem?_append_left (List.getElem?_eq_some_iff.mp hk).1]; exact hk
  have kZ : ∀ (k : Nat) (q : Nat × va_E), Z[k]? = some q → (X ++ (Y ++ Z))[X.length + (Y.length + k)]? = some q := fun k q hk => by
    rw [List.getElem?_append_right (by omega), Nat.add_sub_cancel_left, List.getElem?_append_right (by omega), Nat.add_sub_cancel_left]; exact hk
  have ap : ∀ (i : Nat) (q : Nat × va_E), (X ++ (Y ++ Z))[i]? = some q → (i < X.length ∨ X.length + Y.length ≤ i) → q.1 < H.size ∧ ¬ va_A Y H.size q.1 := by
    intro i q hi ho
    have hl := (hP i q hi).lt
    refine ⟨hl, fun h => ?_⟩
    rcases h with ⟨k, e, h⟩ | h
    · have hkl := (List.getElem?_eq_some_iff.mp h).1
      have h2 := hD.1 i (X.length + k) q (q.1, e) hi (fr_k h) rfl
      omega
    · omega
  have aX : ∀ (k : Nat) (q : Nat × va_E), X[k]? = some q → q.1 < H.size ∧ ¬ va_A Y H.size q.1 := fun k q hk => ap k q (kX k q hk) (Or.inl (List.getElem?_eq_some_iff.mp hk).1)
  have aZ : ∀ (k : Nat) (q : Nat × va_E), Z[k]? = some q → q.1 < H.size ∧ ¬ va_A Y H.size q.1 := fun k q hk => ap _ q (kZ k q hk) (Or.inr (by omega))
  have dX : va_D A0 X := ⟨fun i j p q hi hj hpq => hD.1 i j p q (kX i p hi) (kX j q hj) hpq, fun k q hk => hD.2 k q (kX k q hk)⟩
  have dZ : va_D A0 Z := ⟨fun i j p q hi hj hpq => by have h2 := hD.1 _ _ p q (kZ i p hi) (kZ j q hj) hpq; omega, fun k q hk => hD.2 _ q (kZ k q hk)⟩
  refine ⟨va_P.app (fun k q hk => (hP k q (kX k q hk)).kept (hkp q.1 (aX k q hk).1 (aX k q hk).2)) (va_P.app hP1 (fun k q hk => (hP _ q (kZ k q hk)).kept (hkp q.1 (aZ k q hk).1 (aZ k q hk).2))), ?_⟩
  refine va_D.app dX (va_D.app (hD1.weaken (fun _ q _ h => hF q.1 h)) dZ ?_) ?_
  · intro i j p q hi hj hpq
    exact (aZ j q hj).2 (by rw [← hpq]; exact hD1.2 i p hi)
  · intro i j p q hi hj hpq
    by_cases hl : j < Y'.length
    · rw [List.getElem?_append_left hl] at hj
      exact (aX i p hi).2 (by rw [hpq]; exact hD1.2 j q hj)
    · rw [List.getElem?_append_right (by omega)] at hj
      have h2 := hD.1 _ _ p q (kX i p hi) (kZ _ q hj) hpq
      have h3 := (List.getElem?_eq_some_iff.mp hi).1
      omega
/-- one cell of a world is new, another is read: all else stays -/
theorem fr_set {D : va_G} {cl : List vw_C} {w : va_W} {A : Nat → Prop} {H H1 : Heap} {i k p q : Nat} {ep eq eq' : va_E} (hi : w[i]? = some (p, ep)) (hk : w[k]? = some (q, eq)) (hP : va_P D cl w H) (hD : va_D A w)
    (hkp : ∀ z : Nat, z < H.size → ¬ va_A [(p, ep), (q, eq)] H.size z → H1[z]? = H[z]?) (hP1 : va_P D cl [(p, ep), (q, eq')] H1) : va_P D cl (w.set k (q, eq')) H1 ∧ va_D A (w.set k (q, eq')) := by
  refine ⟨?_, hD.set hk⟩
  have hl := (List.getElem?_eq_some_iff.mp hk).1
  intro j x hj
  by_cases hjk : j = k
  · subst hjk
    rw [List.getElem?_set_self hl] at hj
    cases hj
    exact hP1 1 _ rfl
  · rw [List.getElem?_set_ne (Ne.symm hjk)] at hj
    by_cases hji : j = i
    · subst hji
      cases hi.symm.trans hj
      exact hP1 0 _ rfl
    · refine (hP j x hj).kept (hkp x.1 (hP j x hj).lt ?_)
      intro h
      rcases h with ⟨n, e, h⟩ | h
      · match n, h with
        | 0, h => cases h; exact hji (hD.1 j i x _ hj hi rfl)
        | 1, h => cases h; exact hjk (hD.1 j k x _ hj hk rfl)
        | n + 2, h => simp at h
      · exact absurd (hP j x hj).lt (Nat.not_lt.mpr h)
/-- a row's cell knows its numbers in its length alone -/
theorem fr_row {D : va_G} {cl : List vw_C} {H : Heap} {q n : Nat} {cA : ClassId} {f g : Nat → Int32} (h : ∀ j, j < n → f j = g j) (hP : va_at D cl (q, .inl (cA, n, .inl f)) H) : va_at D cl (q, .inl (cA, n, .inl g)) H := by
  have e : vp_cell cA (n, .inl f) = vp_cell cA (n, .inl g) := by
    rw [vp_cell_i, vp_cell_i]
    unfold arrV
    congr 2
    funext j
    show Value.int (f j.val) = Value.int (g j.val)
    rw [h j.val j.isLt]
  have h2 : H[q]? = some (vp_cell cA (n, .inl f)) := hP
  show H[q]? = some (vp_cell cA (n, .inl g))
  rw [← e]
  exact h2
/-! LAUNCH: what is given of the start and never changes: links between nest mates, the classes of the arrays of beds and of sailors -/
def zNest : List (String × Nat × MethodName × String) := [(RX3, 9, yX1_init, RX3), (RX1, 21, yX0_init, RX3), (RX1, 28, yX2_init, RX3), (RL, 27, yX4_init, RL), (RL, 43, yX5_init, RL), (RL, 122, yX6_init, RL)]
def zL (U : State) : Prop := True ∧ True ∧ (∀ q ∈ zNest, va_Nw (.methodLinkNest q.1 q.2.1 q.2.2.1 q.2.2.2) U) ∧ va_AO RX4 U ∧ va_AO RX5 U
theorem zL.warm {s U : State} (hW : s.WarmedH U.vm) (h : zL s) : zL U :=
  ⟨trivial, trivial, fun q hq => va_Nw.warmM hW (h.2.2.1 q hq), va_AO.moved hW.alike h.2.2.2.1, va_AO.moved hW.alike h.2.2.2.2⟩
def zPL (D : va_G) (tys : List (ClassId × FieldType)) (w : va_W) (sz : Nat) (U : State) : Prop := zPW D tys w sz U ∧ zL U
theorem zblL {D : va_G} {tys : List (ClassId × FieldType)} {w : va_W} {sz : Nat} (av : List Value) : FrameBlind (va_Pc av (zPL D tys w sz)) := fun a U g mk q =>
  ⟨q.1, (zbl av a U g mk ⟨q.1, q.2.1⟩).2, q.2.2.warm (State.WarmedH.refl U)⟩
theorem zprL {D : va_G} {tys : List (ClassId × FieldType)} {w : va_W} {H : Heap} {s : State} {A : Nat → Prop} {av : List Value} (hK : va_K D vwCl tys s) (hP : va_P D vwCl w H) (hD : va_D A w) (hL : zL s) : ∀ U : State, U.heap = H → s.WarmedH U.vm → va_Pc av (zPL D tys w H.size) av.toArray U := fun U hU hW =>
  ⟨rfl, (zpr (av := av) hK hP hD U hU hW).2, hL.warm hW⟩
/-- as zMV, zMI, over the launch's facts -/
abbrev zNV (l : Launch) (y : MethodName) (ws : List Cond) (rm : Room) (av : List Value) (D : va_G) (tys : List (ClassId × FieldType)) (w w1 : va_W) : Prop :=
  ∀ sz : Nat, Met l y ws rm (va_Pc av (zPL D tys w sz)) (va_Qv (fun (_ : Unit) => True) (fun _ t => zQW D tys w1 (va_A w sz) t) (va_A w sz)) 0 0 (va_A w sz)
/-- a method that only reads and answers nothing -/
abbrev zMQ (l : Launch) (y : MethodName) (ws : List Cond) (rm : Room) (av : List Value) (D : va_G) (tys : List (ClassId × FieldType)) (w : va_W) : Prop :=
  ∀ sz : Nat, Met l y ws rm (va_Pc av (zPW D tys w sz)) (va_Qv (fun (_ : Unit) => True) (fun _ _ => True) (fun _ => False)) 0 0 (fun _ => False)
section ZX
variable {p : Program} {l : Launch} {e : Env} {R : Room} {s : State} {m : MethodId} {args : Array Value} {below : List Frame} {meth : Method} {c : Code} {H : Heap} {locs : List Loc} {cells slots : Nat} {Q : State → Prop}
variable {pc : Nat} {ls : Array Slot} {rest st0 : List Value} {a : Array Value} {A0 : Nat → Prop} {H0 : Heap} {D : va_G} {tys : List (ClassId × FieldType)} {w w1 : va_W}
theorem zk_Q (hr : va_Run p l e R s m args below meth c H locs cells slots 0 0 (F0 m pc ls st0) rest (va_Qv (fun (_ : Unit) => True) (fun _ _ => True) (fun _ => False) a) (fun _ => False)) (hS : va_S A0 H0 H locs)
    (kk : ∀ (H1 : Heap) (locs1 : List Loc), (∀ w : va_W, va_P D vwCl w H → va_P D vwCl w H1) → va_S A0 H0 H1 locs1 → W p l e R s m args below meth c H1 locs1 cells slots Q (F0 m (pc + 3) ls rest)) : W p l e R s m args below meth c H locs cells slots Q (F0 m pc ls st0) := by
  refine va_callv hr hS (fun q _ h => h.elim) (fun q h => h.elim) (fun u t H1 locs1 ht hvm hw hB hz1 hk1 hS1 => ?_)
  exact kk H1 locs1 (fun w hP => hP.kept (fun k q hk => hk1 q.1 (hP k q hk).lt (fun z => z))) hS1
end ZX
end
section
def f_addB (σ : zS) (nb : Nat) (v : Int32) : zS := zs (zs (zs σ 1 nb v) 5 nb (-1)) 0 3 (nI (nb + 1))
def f_addS (σ : zS) (ns : Nat) (v1 v2 v3 v4 : Int32) : zS := zs (zs (zs (zs (zs (zs (zs (zs (zs σ 6 ns v1) 7 ns v2) 8 ns v3) 9 ns v4) 10 ns 1) 11 ns (-1)) 12 ns 0) 13 ns (-1)) 0 4 (nI (ns + 1))

set_option maxHeartbeats 4000000 in
set_option maxRecDepth 100000 in
theorem c_X0_add (l : Launch) (D : va_G) (cI : ClassId) (a : Nat → Nat) (σ : zS) (v : Int32) {nb ns h : Nat} (hC : zC σ nb ns h) (hb6 : nb < 6) : zMI l yX0_add wsX0_add ({ frames := 0, cells := 0, slots := 0, locals := 0 }) [.ref (a 1), .int v] D [(cI, .int)] (zw_H cI a σ) (zw_H cI a (f_addB σ nb v)) (fun r => r = nI nb) := by
  intro sz
  refine Met.ofW (cc := cX0_add) (maxL := 3) (ret := (some .int)) (by decide) rfl ?_
  intro p e s m args below meth c s₁ B hml hv
  obtain ⟨rfl, hsz, hP, hK, hD⟩ := hv
  have hx := B.exec
  have hb := B.bytes
  have hr := B.returns
  have hts := atoms_spec (ws := wsX0_add) B.pre
  have hown : s.vm.findClass RX0 = some m.cls := findClass_of_methodNamed B.named
  have hlocks := B.notSynchronized
  subst hsz
  have hD := hD.self (sz := s.heap.size)
  generalize hAe : va_A (zw_H cI a σ) s.heap.size = A at hD ⊢
  have hA : ∀ q : Nat, s.heap.size ≤ q → A q := fun q h => by rw [← hAe]; exact Or.inr h
  have hS : va_S A s.heap s.heap [] := va_S.rf
  have hP : va_P D vwCl (zw_H cI a σ) s.heap := hP
  have hl := lv_entry ([.ref (a 1), .int v]) (n := 3) (Nat.le_of_ble_eq_true rfl)
  rw [lg_entry_eq]
  generalize (lg_sl ([.ref (a 1), .int v]) ++ List.replicate (3 - (lg_sl ([.ref (a 1), .int v])).length) Slot.unset).toArray = ls at hl ⊢
  have hl : lv_has ls 3 [(0, .ref (a 1)), (1, .int v)] := hl
  have hf13 := hts (.fieldLink RX0 13 "HotBeds$Beds" "price" "[I") (by decide +kernel)
  have hf26 := hts (.fieldLink RX0 26 "HotBeds$Beds" "sleeper" "[I") (by decide +kernel)
  have hf7 := hts (.fieldLink RX0 7 "HotBeds$Beds" "size" "I") (by decide +kernel)
  have hinX0 : ∀ w ∈ u_ws RX0 TX0 6, w ∈ wsX0_add := by decide +kernel
  refine lv_aload_n hx hb dX0_add_0 rfl (lv_at hl 0 rfl) ?_
  refine va_get (D := D) (ci := 0) (v := .int (nI nb)) (C := RX0) (T := TX0) (N := 6) hx hb hts hinX0 hown hK hP 1 rfl rfl 0 (by decide) hf7 (fun _ h9 => h9) (congrArg (fun z => some (Value.int z)) hC.1) dX0_add_1 ?_
  refine lv_bipush (v := 6) hx hb dX0_add_4 (by decide) ?_
  refine lv_icmp_lt (tgt := 19) hx hb dX0_add_6 (by decide) (fun _ => ?_) (fun c => absurd (nI_lt (b := 6) hb6 (by decide)) c)
  refine lv_aload_n hx hb dX0_add_19 rfl (lv_at hl 0 rfl) ?_
  refine va_get (D := D) (ci := 0) (v := .int (nI nb)) (C := RX0) (T := TX0) (N := 6) hx hb hts hinX0 hown hK hP 1 rfl rfl 0 (by decide) hf7 (fun _ h9 => h9) (congrArg (fun z => some (Value.int z)) hC.1) dX0_add_20 ?_
  refine lv_istore_n (lv' := [(2, .int (nI nb)), (0, .ref (a 1)), (1, .int v)]) hx hb dX0_add_23 rfl hl (by decide) rfl (fun ls hl => ?_)
  refine lv_aload_n hx hb dX0_add_24 rfl (lv_at hl 1 rfl) ?_
  refine va_get (D := D) (ci := 0) (v := .ref (a 3)) (C := RX0) (T := TX0) (N := 6) hx hb hts hinX0 hown hK hP 1 rfl rfl 1 (by decide) hf13 (fun _ h9 => h9) rfl dX0_add_25 ?_
  refine lv_iload_n hx hb dX0_add_28 rfl (lv_at hl 0 rfl) ?_
  refine lv_iload_n hx hb dX0_add_29 rfl (lv_at hl 2 rfl) ?_
  refine zk_st hx hb hK hP hD hS 3 0 (zwq1 cI a _) rfl (k := nb) hb6 (by decide) (zws1 cI a _ _ _) dX0_add_30 (fun H locs hP hD hS => ?_)
  have hP : va_P D vwCl (zw_H cI a (zs σ 1 nb v)) H := hP
  have hD : va_D A (zw_H cI a (zs σ 1 nb v)) := hD
  refine lv_aload_n hx hb dX0_add_31 rfl (lv_at hl 1 rfl) ?_
  refine va_get (D := D) (ci := 0) (v := .ref (a 7)) (C := RX0) (T := TX0) (N := 6) hx hb hts hinX0 hown hK hP 1 rfl rfl 5 (by decide) hf26 (fun _ h9 => h9) rfl dX0_add_32 ?_
  refine lv_iload_n hx hb dX0_add_35 rfl (lv_at hl 0 rfl) ?_
  refine lv_iconst (v := (-1)) hx hb dX0_add_36 (by decide) ?_
  refine zk_st hx hb hK hP hD hS 7 0 (zwq5 cI a _) rfl (k := nb) hb6 (by decide) (zws5 cI a _ _ _) dX0_add_37 (fun H locs hP hD hS => ?_)
  have hP : va_P D vwCl (zw_H cI a (zs (zs σ 1 nb v) 5 nb (-1))) H := hP
  have hD : va_D A (zw_H cI a (zs (zs σ 1 nb v) 5 nb (-1))) := hD
  refine lv_aload_n hx hb dX0_add_38 rfl (lv_at hl 1 rfl) ?_
  refine lv_iload_n hx hb dX0_add_39 rfl (lv_at hl 0 rfl) ?_
  refine lv_iconst (v := 1) hx hb dX0_add_40 (by decide) ?_
  refine zk_add (x := nb) (y := 1) hx hb dX0_add_41 ?_
  refine va_put (D := D) (ci := 0) (v := .int (nI (nb + 1))) (ty := .int) (C := RX0) (T := TX0) (N := 6) hx hb hts hinX0 tyX0 tyX0_ok nmX0 hown hK hP hD hS 1 rfl rfl 0 (by decide) hf7 (fun _ h9 => h9)  rfl (by decide +kernel) rfl rfl (Nat.le_of_ble_eq_true rfl) dX0_add_42 (fun H locs hP hD hS => ?_)
  have hP : va_P D vwCl (zw_H cI a (zs (zs (zs σ 1 nb v) 5 nb (-1)) 0 3 (nI (nb + 1)))) H := hP
  have hD : va_D A (zw_H cI a (zs (zs (zs σ 1 nb v) 5 nb (-1)) 0 3 (nI (nb + 1)))) := hD
  refine lv_iload_n hx hb dX0_add_45 rfl (lv_at hl 0 rfl) ?_
  have e9 : f_addB σ nb v = zs (zs (zs σ 1 nb v) 5 nb (-1)) 0 3 (nI (nb + 1)) := by simp only [f_addB]
  have hP9 : va_P D vwCl (zw_H cI a (f_addB σ nb v)) H := by rw [e9]; exact hP
  have hD9 : va_D A (zw_H cI a (f_addB σ nb v)) := by rw [e9]; exact hD
  exact W.iret (v := nI nb) hx hb hr (fun t ht hW => ⟨⟨nI nb, (), rfl, rfl, by rw [ht]; exact hP9, va_K.moved hW.alike hK, hD9⟩, hS.F ht⟩) hS.2.2 dX0_add_46

set_option maxHeartbeats 4000000 in
set_option maxRecDepth 100000 in
theorem c_X2_add (l : Launch) (D : va_G) (cI : ClassId) (a : Nat → Nat) (σ : zS) (v1 v2 v3 v4 : Int32) {nb ns h : Nat} (hC : zC σ nb ns h) (hs10 : ns < 10) : zMI l yX2_add wsX2_add ({ frames := 0, cells := 0, slots := 0, locals := 0 }) [.ref (a 2), .int v1, .int v2, .int v3, .int v4] D [(cI, .int)] (zw_H cI a σ) (zw_H cI a (f_addS σ ns v1 v2 v3 v4)) (fun r => r = nI ns) := by
  intro sz
  refine Met.ofW (cc := cX2_add) (maxL := 6) (ret := (some .int)) (by decide) rfl ?_
  intro p e s m args below meth c s₁ B hml hv
  obtain ⟨rfl, hsz, hP, hK, hD⟩ := hv
  have hx := B.exec
  have hb := B.bytes
  have hr := B.returns
  have hts := atoms_spec (ws := wsX2_add) B.pre
  have hown : s.vm.findClass RX2 = some m.cls := findClass_of_methodNamed B.named
  have hlocks := B.notSynchronized
  subst hsz
  have hD := hD.self (sz := s.heap.size)
  generalize hAe : va_A (zw_H cI a σ) s.heap.size = A at hD ⊢
  have hA : ∀ q : Nat, s.heap.size ≤ q → A q := fun q h => by rw [← hAe]; exact Or.inr h
  have hS : va_S A s.heap s.heap [] := va_S.rf
  have hP : va_P D vwCl (zw_H cI a σ) s.heap := hP
  have hl := lv_entry ([.ref (a 2), .int v1, .int v2, .int v3, .int v4]) (n := 6) (Nat.le_of_ble_eq_true rfl)
  rw [lg_entry_eq]
  generalize (lg_sl ([.ref (a 2), .int v1, .int v2, .int v3, .int v4]) ++ List.replicate (6 - (lg_sl ([.ref (a 2), .int v1, .int v2, .int v3, .int v4])).length) Slot.unset).toArray = ls at hl ⊢
  have hl : lv_has ls 6 [(0, .ref (a 2)), (1, .int v1), (2, .int v2), (3, .int v3), (4, .int v4)] := hl
  have hf13 := hts (.fieldLink RX2 13 "HotBeds$Sailors" "watch" "[I") (by decide +kernel)
  have hf17 := hts (.fieldLink RX2 17 "HotBeds$Sailors" "heavy" "[I") (by decide +kernel)
  have hf20 := hts (.fieldLink RX2 20 "HotBeds$Sailors" "wage" "[I") (by decide +kernel)
  have hf23 := hts (.fieldLink RX2 23 "HotBeds$Sailors" "purse" "[I") (by decide +kernel)
  have hf26 := hts (.fieldLink RX2 26 "HotBeds$Sailors" "boots" "[I") (by decide +kernel)
  have hf29 := hts (.fieldLink RX2 29 "HotBeds$Sailors" "kept" "[I") (by decide +kernel)
  have hf32 := hts (.fieldLink RX2 32 "HotBeds$Sailors" "place" "[I") (by decide +kernel)
  have hf35 := hts (.fieldLink RX2 35 "HotBeds$Sailors" "bed" "[I") (by decide +kernel)
  have hf7 := hts (.fieldLink RX2 7 "HotBeds$Sailors" "size" "I") (by decide +kernel)
  have hinX2 : ∀ w ∈ u_ws RX2 TX2 13, w ∈ wsX2_add := by decide +kernel
  refine lv_aload_n hx hb dX2_add_0 rfl (lv_at hl 0 rfl) ?_
  refine va_get (D := D) (ci := 2) (v := .int (nI ns)) (C := RX2) (T := TX2) (N := 13) hx hb hts hinX2 hown hK hP 2 rfl rfl 0 (by decide) hf7 (fun _ h9 => h9) (congrArg (fun z => some (Value.int z)) hC.2.2.1) dX2_add_1 ?_
  refine lv_bipush (v := 10) hx hb dX2_add_4 (by decide) ?_
  refine lv_icmp_lt (tgt := 19) hx hb dX2_add_6 (by decide) (fun _ => ?_) (fun c => absurd (nI_lt (b := 10) hs10 (by decide)) c)
  refine lv_aload_n hx hb dX2_add_19 rfl (lv_at hl 0 rfl) ?_
  refine va_get (D := D) (ci := 2) (v := .int (nI ns)) (C := RX2) (T := TX2) (N := 13) hx hb hts hinX2 hown hK hP 2 rfl rfl 0 (by decide) hf7 (fun _ h9 => h9) (congrArg (fun z => some (Value.int z)) hC.2.2.1) dX2_add_20 ?_
  refine lv_istore (lv' := [(5, .int (nI ns)), (0, .ref (a 2)), (1, .int v1), (2, .int v2), (3, .int v3), (4, .int v4)]) hx hb dX2_add_23 hl (by decide) rfl (fun ls hl => ?_)
  refine lv_aload_n hx hb dX2_add_25 rfl (lv_at hl 1 rfl) ?_
  refine va_get (D := D) (ci := 2) (v := .ref (a 8)) (C := RX2) (T := TX2) (N := 13) hx hb hts hinX2 hown hK hP 2 rfl rfl 1 (by decide) hf13 (fun _ h9 => h9) rfl dX2_add_26 ?_
  refine lv_iload hx hb dX2_add_29 (lv_at hl 0 rfl) ?_
  refine lv_iload_n hx hb dX2_add_31 rfl (lv_at hl 2 rfl) ?_
  refine zk_st hx hb hK hP hD hS 8 0 (zwq6 cI a _) rfl (k := ns) hs10 (by decide) (zws6 cI a _ _ _) dX2_add_32 (fun H locs hP hD hS => ?_)
  have hP : va_P D vwCl (zw_H cI a (zs σ 6 ns v1)) H := hP
  have hD : va_D A (zw_H cI a (zs σ 6 ns v1)) := hD
  refine lv_aload_n hx hb dX2_add_33 rfl (lv_at hl 1 rfl) ?_
  refine va_get (D := D) (ci := 2) (v := .ref (a 9)) (C := RX2) (T := TX2) (N := 13) hx hb hts hinX2 hown hK hP 2 rfl rfl 2 (by decide) hf17 (fun _ h9 => h9) rfl dX2_add_34 ?_
  refine lv_iload hx hb dX2_add_37 (lv_at hl 0 rfl) ?_
  refine lv_iload_n hx hb dX2_add_39 rfl (lv_at hl 3 rfl) ?_
  refine zk_st hx hb hK hP hD hS 9 0 (zwq7 cI a _) rfl (k := ns) hs10 (by decide) (zws7 cI a _ _ _) dX2_add_40 (fun H locs hP hD hS => ?_)
  have hP : va_P D vwCl (zw_H cI a (zs (zs σ 6 ns v1) 7 ns v2)) H := hP
  have hD : va_D A (zw_H cI a (zs (zs σ 6 ns v1) 7 ns v2)) := hD
  refine lv_aload_n hx hb dX2_add_41 rfl (lv_at hl 1 rfl) ?_
  refine va_get (D := D) (ci := 2) (v := .ref (a 10)) (C := RX2) (T := TX2) (N := 13) hx hb hts hinX2 hown hK hP 2 rfl rfl 3 (by decide) hf20 (fun _ h9 => h9) rfl dX2_add_42 ?_
  refine lv_iload hx hb dX2_add_45 (lv_at hl 0 rfl) ?_
  refine lv_iload_n hx hb dX2_add_47 rfl (lv_at hl 4 rfl) ?_
  refine zk_st hx hb hK hP hD hS 10 0 (zwq8 cI a _) rfl (k := ns) hs10 (by decide) (zws8 cI a _ _ _) dX2_add_48 (fun H locs hP hD hS => ?_)
  have hP : va_P D vwCl (zw_H cI a (zs (zs (zs σ 6 ns v1) 7 ns v2) 8 ns v3)) H := hP
  have hD : va_D A (zw_H cI a (zs (zs (zs σ 6 ns v1) 7 ns v2) 8 ns v3)) := hD
  refine lv_aload_n hx hb dX2_add_49 rfl (lv_at hl 1 rfl) ?_
  refine va_get (D := D) (ci := 2) (v := .ref (a 11)) (C := RX2) (T := TX2) (N := 13) hx hb hts hinX2 hown hK hP 2 rfl rfl 4 (by decide) hf23 (fun _ h9 => h9) rfl dX2_add_50 ?_
  refine lv_iload hx hb dX2_add_53 (lv_at hl 0 rfl) ?_
  refine lv_iload hx hb dX2_add_55 (lv_at hl 5 rfl) ?_
  refine zk_st hx hb hK hP hD hS 11 0 (zwq9 cI a _) rfl (k := ns) hs10 (by decide) (zws9 cI a _ _ _) dX2_add_57 (fun H locs hP hD hS => ?_)
  have hP : va_P D vwCl (zw_H cI a (zs (zs (zs (zs σ 6 ns v1) 7 ns v2) 8 ns v3) 9 ns v4)) H := hP
  have hD : va_D A (zw_H cI a (zs (zs (zs (zs σ 6 ns v1) 7 ns v2) 8 ns v3) 9 ns v4)) := hD
  refine lv_aload_n hx hb dX2_add_58 rfl (lv_at hl 1 rfl) ?_
  refine va_get (D := D) (ci := 2) (v := .ref (a 12)) (C := RX2) (T := TX2) (N := 13) hx hb hts hinX2 hown hK hP 2 rfl rfl 5 (by decide) hf26 (fun _ h9 => h9) rfl dX2_add_59 ?_
  refine lv_iload hx hb dX2_add_62 (lv_at hl 0 rfl) ?_
  refine lv_iconst (v := 1) hx hb dX2_add_64 (by decide) ?_
  refine zk_st hx hb hK hP hD hS 12 0 (zwq10 cI a _) rfl (k := ns) hs10 (by decide) (zws10 cI a _ _ _) dX2_add_65 (fun H locs hP hD hS => ?_)
  have hP : va_P D vwCl (zw_H cI a (zs (zs (zs (zs (zs σ 6 ns v1) 7 ns v2) 8 ns v3) 9 ns v4) 10 ns 1)) H := hP
  have hD : va_D A (zw_H cI a (zs (zs (zs (zs (zs σ 6 ns v1) 7 ns v2) 8 ns v3) 9 ns v4) 10 ns 1)) := hD
  refine lv_aload_n hx hb dX2_add_66 rfl (lv_at hl 1 rfl) ?_
  refine va_get (D := D) (ci := 2) (v := .ref (a 13)) (C := RX2) (T := TX2) (N := 13) hx hb hts hinX2 hown hK hP 2 rfl rfl 6 (by decide) hf29 (fun _ h9 => h9) rfl dX2_add_67 ?_
  refine lv_iload hx hb dX2_add_70 (lv_at hl 0 rfl) ?_
  refine lv_iconst (v := (-1)) hx hb dX2_add_72 (by decide) ?_
  refine zk_st hx hb hK hP hD hS 13 0 (zwq11 cI a _) rfl (k := ns) hs10 (by decide) (zws11 cI a _ _ _) dX2_add_73 (fun H locs hP hD hS => ?_)
  have hP : va_P D vwCl (zw_H cI a (zs (zs (zs (zs (zs (zs σ 6 ns v1) 7 ns v2) 8 ns v3) 9 ns v4) 10 ns 1) 11 ns (-1))) H := hP
  have hD : va_D A (zw_H cI a (zs (zs (zs (zs (zs (zs σ 6 ns v1) 7 ns v2) 8 ns v3) 9 ns v4) 10 ns 1) 11 ns (-1))) := hD
  refine lv_aload_n hx hb dX2_add_74 rfl (lv_at hl 1 rfl) ?_
  refine va_get (D := D) (ci := 2) (v := .ref (a 14)) (C := RX2) (T := TX2) (N := 13) hx hb hts hinX2 hown hK hP 2 rfl rfl 7 (by decide) hf32 (fun _ h9 => h9) rfl dX2_add_75 ?_
  refine lv_iload hx hb dX2_add_78 (lv_at hl 0 rfl) ?_
  refine lv_iconst (v := 0) hx hb dX2_add_80 (by decide) ?_
  refine zk_st hx hb hK hP hD hS 14 0 (zwq12 cI a _) rfl (k := ns) hs10 (by decide) (zws12 cI a _ _ _) dX2_add_81 (fun H locs hP hD hS => ?_)
  have hP : va_P D vwCl (zw_H cI a (zs (zs (zs (zs (zs (zs (zs σ 6 ns v1) 7 ns v2) 8 ns v3) 9 ns v4) 10 ns 1) 11 ns (-1)) 12 ns 0)) H := hP
  have hD : va_D A (zw_H cI a (zs (zs (zs (zs (zs (zs (zs σ 6 ns v1) 7 ns v2) 8 ns v3) 9 ns v4) 10 ns 1) 11 ns (-1)) 12 ns 0)) := hD
  refine lv_aload_n hx hb dX2_add_82 rfl (lv_at hl 1 rfl) ?_
  refine va_get (D := D) (ci := 2) (v := .ref (a 15)) (C := RX2) (T := TX2) (N := 13) hx hb hts hinX2 hown hK hP 2 rfl rfl 8 (by decide) hf35 (fun _ h9 => h9) rfl dX2_add_83 ?_
  refine lv_iload hx hb dX2_add_86 (lv_at hl 0 rfl) ?_
  refine lv_iconst (v := (-1)) hx hb dX2_add_88 (by decide) ?_
  refine zk_st hx hb hK hP hD hS 15 0 (zwq13 cI a _) rfl (k := ns) hs10 (by decide) (zws13 cI a _ _ _) dX2_add_89 (fun H locs hP hD hS => ?_)
  have hP : va_P D vwCl (zw_H cI a (zs (zs (zs (zs (zs (zs (zs (zs σ 6 ns v1) 7 ns v2) 8 ns v3) 9 ns v4) 10 ns 1) 11 ns (-1)) 12 ns 0) 13 ns (-1))) H := hP
  have hD : va_D A (zw_H cI a (zs (zs (zs (zs (zs (zs (zs (zs σ 6 ns v1) 7 ns v2) 8 ns v3) 9 ns v4) 10 ns 1) 11 ns (-1)) 12 ns 0) 13 ns (-1))) := hD
  refine lv_aload_n hx hb dX2_add_90 rfl (lv_at hl 1 rfl) ?_
  refine lv_iload hx hb dX2_add_91 (lv_at hl 0 rfl) ?_
  refine lv_iconst (v := 1) hx hb dX2_add_93 (by decide) ?_
  refine zk_add (x := ns) (y := 1) hx hb dX2_add_94 ?_
  refine va_put (D := D) (ci := 2) (v := .int (nI (ns + 1))) (ty := .int) (C := RX2) (T := TX2) (N := 13) hx hb hts hinX2 tyX2 tyX2_ok nmX2 hown hK hP hD hS 2 rfl rfl 0 (by decide) hf7 (fun _ h9 => h9)  rfl (by decide +kernel) rfl rfl (Nat.le_of_ble_eq_true rfl) dX2_add_95 (fun H locs hP hD hS => ?_)
  have hP : va_P D vwCl (zw_H cI a (zs (zs (zs (zs (zs (zs (zs (zs (zs σ 6 ns v1) 7 ns v2) 8 ns v3) 9 ns v4) 10 ns 1) 11 ns (-1)) 12 ns 0) 13 ns (-1)) 0 4 (nI (ns + 1)))) H := hP
  have hD : va_D A (zw_H cI a (zs (zs (zs (zs (zs (zs (zs (zs (zs σ 6 ns v1) 7 ns v2) 8 ns v3) 9 ns v4) 10 ns 1) 11 ns (-1)) 12 ns 0) 13 ns (-1)) 0 4 (nI (ns + 1)))) := hD
  refine lv_iload hx hb dX2_add_98 (lv_at hl 0 rfl) ?_
  have e9 : f_addS σ ns v1 v2 v3 v4 = zs (zs (zs (zs (zs (zs (zs (zs (zs σ 6 ns v1) 7 ns v2) 8 ns v3) 9 ns v4) 10 ns 1) 11 ns (-1)) 12 ns 0) 13 ns (-1)) 0 4 (nI (ns + 1)) := by simp only [f_addS]
  have hP9 : va_P D vwCl (zw_H cI a (f_addS σ ns v1 v2 v3 v4)) H := by rw [e9]; exact hP
  have hD9 : va_D A (zw_H cI a (f_addS σ ns v1 v2 v3 v4)) := by rw [e9]; exact hD
  exact W.iret (v := nI ns) hx hb hr (fun t ht hW => ⟨⟨nI ns, (), rfl, rfl, by rw [ht]; exact hP9, va_K.moved hW.alike hK, hD9⟩, hS.F ht⟩) hS.2.2 dX2_add_100
end
section
/-- a new house's numbers -/
def zs0 : zS := fun r j => if r = 0 then (if j = 1 then 5 else if j = 2 then 6 else 0) else 0
def zw_X (cI : ClassId) (x : Nat) (a b : Nat → Nat) (σ τ : zS) : va_W := (x, .inr (3, [.ref (a 0), .ref (b 0)])) :: (zw_H cI a σ ++ zw_H cI b τ)
/-- of a method that makes cells -/
abbrev zMM {S : Type} (l : Launch) (y : MethodName) (ws : List Cond) (rm : Room) (av : List Value) (D : va_G) (tys : List (ClassId × FieldType)) (w : va_W) (post : S → Prop) (w1 : S → va_W) (mc ms : Nat) : Prop :=
  ∀ sz : Nat, Met l y ws rm (va_Pc av (zPL D tys w sz)) (va_Qv post (fun u t => zQW D tys (w1 u) (va_A w sz) t) (va_A w sz)) mc ms (va_A w sz)
section ZM
variable {p : Program} {l : Launch} {e : Env} {R : Room} {s : State} {m : MethodId} {args : Array Value} {below : List Frame} {meth : Method} {c : Code} {H : Heap} {locs : List Loc} {cells slots : Nat} {Q : State → Prop}
variable {pc : Nat} {ls : Array Slot} {rest st0 : List Value} {a : Array Value} {A A0 : Nat → Prop} {H0 : Heap} {D : va_G} {tys : List (ClassId × FieldType)} {w ws : va_W} {mc ms : Nat} {cc : ByteArray} {cl : List vw_C}
theorem zk_M {S : Type} {post : S → Prop} {w1 : S → va_W} (hr : va_Run p l e R s m args below meth c H locs cells slots mc ms (F0 m pc ls st0) rest (va_Qv post (fun u t => zQW D tys (w1 u) (va_A w H.size) t) (va_A w H.size) a) (va_A w H.size)) (hS : va_S A0 H0 H locs) (hF : ∀ q, va_A w H.size q → A0 q)
    (kk : ∀ (u : S) (H1 : Heap) (locs1 : List Loc), post u → (∀ q : Nat, q < H.size → ¬ va_A w H.size q → H1[q]? = H[q]?) → va_P D vwCl (w1 u) H1 → va_D (va_A w H.size) (w1 u) → va_S A0 H0 H1 locs1 → W p l e R s m args below meth c H1 locs1 (cells + mc) (slots + ms) Q (F0 m (pc + 3) ls rest)) : W p l e R s m args below meth c H locs cells slots Q (F0 m pc ls st0) := by
  refine va_callv hr hS (fun q _ h => hF q h) hF (fun u t H1 locs1 ht hvm hw hB hz1 hk1 hS1 => ?_)
  exact kk u H1 locs1 hw hk1 (by rw [← ht]; exact hB.1) hB.2.2 hS1
/-- a new int array, of the class that is known already -/
theorem zk_newI {cI : ClassId} (hexec : p.tables.exec = Jvm.exec) (hb : c.code = cc) (harr : (Cond.arrayClass .int).before args s = true) (hK : va_K D cl [(cI, .int)] s) (hP : va_P D cl ws H) (hD : va_D A ws) (hS : va_S A H0 H locs) (hA : ∀ q, H0.size ≤ q → A q)
    {n : Int32} {N' : Nat} (hn : ¬ n < 0) (hN : n.toNatClampNeg = N') (hbytes : N' * 4 ≤ 536870912) (hcells : cells + 1 ≤ R.cells) (hslots : slots + N' ≤ R.slots) (hdg : decode cc pc = .ok (.newarray .int, 2))
    (kk : ∀ (q : Nat) (H1 : Heap), va_P D cl (ws ++ [(q, .inl (cI, N', .inl (fun _ => 0)))]) H1 → va_D A (ws ++ [(q, .inl (cI, N', .inl (fun _ => 0)))]) → va_S A H0 H1 locs →
      W p l e R s m args below meth c H1 locs (cells + 1) (slots + N') Q (F0 m (pc + 2) ls (.ref q :: rest))) : W p l e R s m args below meth c H locs cells slots Q (F0 m pc ls (.int n :: rest)) := by
  refine va_newa (atype := .int) (ty := .int) (a0 := (N', .inl (fun _ => 0))) hexec hb harr rfl hK hP hD hS hA (fun _ => rfl) hn hN hbytes hcells hslots hdg (fun q cA H1 hK1 hP1 hD1 hS1 => ?_)
  have h1 : s.vm.findClass ("[" ++ FieldType.int.toString) = some cI := (hK.2 0 _ rfl).2
  have h2 : s.vm.findClass ("[" ++ FieldType.int.toString) = some cA := (hK1.2 1 (cA, .int) rfl).2
  have h3 : cA = cI := Option.some.inj (h2.symm.trans h1)
  subst h3
  exact kk q H1 hP1 hD1 hS1
end ZM
def zw_B (cI : ClassId) (u : Nat → Nat) : va_W := [(u 1, .inr (0, [.int 0, .ref (u 3), .ref (u 4), .ref (u 5), .ref (u 6), .ref (u 7)])), (u 3, .inl (cI, 6, .inl (fun _ => 0))), (u 4, .inl (cI, 6, .inl (fun _ => 0))), (u 5, .inl (cI, 6, .inl (fun _ => 0))), (u 6, .inl (cI, 6, .inl (fun _ => 0))), (u 7, .inl (cI, 6, .inl (fun _ => 0)))]
def zw_S (cI : ClassId) (u : Nat → Nat) : va_W := [(u 2, .inr (2, [.int 0, .ref (u 8), .ref (u 9), .ref (u 10), .ref (u 11), .ref (u 12), .ref (u 13), .ref (u 14), .ref (u 15), .ref (u 16), .ref (u 17), .ref (u 18), .ref (u 19)])), (u 8, .inl (cI, 10, .inl (fun _ => 0))), (u 9, .inl (cI, 10, .inl (fun _ => 0))), (u 10, .inl (cI, 10, .inl (fun _ => 0))), (u 11, .inl (cI, 10, .inl (fun _ => 0))), (u 12, .inl (cI, 10, .inl (fun _ => 0))), (u 13, .inl (cI, 10, .inl (fun _ => 0))), (u 14, .inl (cI, 10, .inl (fun _ => 0))), (u 15, .inl (cI, 10, .inl (fun _ => 0))), (u 16, .inl (cI, 10, .inl (fun _ => 0))), (u 17, .inl (cI, 10, .inl (fun _ => 0))), (u 18, .inl (cI, 10, .inl (fun _ => 0))), (u 19, .inl (cI, 10, .inl (fun _ => 0)))]

set_option maxHeartbeats 4000000 in
set_option maxRecDepth 100000 in
theorem c_X0_init (l : Launch) (D : va_G) (cI : ClassId) (h0 : Nat) : zMM (S := Nat → Nat) l yX0_init wsX0_init ({ frames := 1, cells := 5, slots := 30, locals := 12 }) [.ref h0] D [(cI, .int)] ([(h0, .inr (0, [.int 0, .null, .null, .null, .null, .null]))]) (fun u => u 1 = h0) (zw_B cI) 5 30 := by
  intro sz
  refine Met.ofW (cc := cX0_init) (maxL := 1) (ret := none) (by decide) rfl ?_
  intro p e s m args below meth c s₁ B hml hv
  obtain ⟨rfl, ⟨hsz, hP, hK, hD⟩, hL⟩ := hv
  have hx := B.exec
  have hb := B.bytes
  have hr := B.returns
  have hts := atoms_spec (ws := wsX0_init) B.pre
  have hown : s.vm.findClass RX0 = some m.cls := findClass_of_methodNamed B.named
  have hlocks := B.notSynchronized
  have hin : meth.name = "<init>" := (name_of_methodNamed B.named B.method).1
  subst hsz
  have hD := hD.self (sz := s.heap.size)
  generalize hAe : va_A ([(h0, .inr (0, [.int 0, .null, .null, .null, .null, .null]))]) s.heap.size = A at hD ⊢
  have hA : ∀ q : Nat, s.heap.size ≤ q → A q := fun q h => by rw [← hAe]; exact Or.inr h
  have hS : va_S A s.heap s.heap [] := va_S.rf
  have hP : va_P D vwCl ([(h0, .inr (0, [.int 0, .null, .null, .null, .null, .null]))]) s.heap := hP
  have hl := lv_entry ([.ref h0]) (n := 1) (Nat.le_of_ble_eq_true rfl)
  rw [lg_entry_eq]
  generalize (lg_sl ([.ref h0]) ++ List.replicate (1 - (lg_sl ([.ref h0])).length) Slot.unset).toArray = ls at hl ⊢
  have hl : lv_has ls 1 [(0, .ref h0)] := hl
  have hf13 := hts (.fieldLink RX0 13 "HotBeds$Beds" "price" "[I") (by decide +kernel)
  have hf17 := hts (.fieldLink RX0 17 "HotBeds$Beds" "warmth" "[I") (by decide +kernel)
  have hf20 := hts (.fieldLink RX0 20 "HotBeds$Beds" "entries" "[I") (by decide +kernel)
  have hf23 := hts (.fieldLink RX0 23 "HotBeds$Beds" "paid" "[I") (by decide +kernel)
  have hf26 := hts (.fieldLink RX0 26 "HotBeds$Beds" "sleeper" "[I") (by decide +kernel)
  have hf7 := hts (.fieldLink RX0 7 "HotBeds$Beds" "size" "I") (by decide +kernel)
  have hinX0 : ∀ w ∈ u_ws RX0 TX0 6, w ∈ wsX0_init := by decide +kernel
  have harr := hts (.arrayClass .int) (by decide +kernel)
  refine lv_aload_n hx hb dX0_init_0 rfl (lv_at hl 0 rfl) ?_
  refine W.objInit hx hb hown (hts (.methodLink RX0 1 objectInit) (by decide +kernel)) (hts (.instanceMethod objectInit) (by decide +kernel)) (hts _ (List.mem_of_getElem? (i := 3) rfl)) rfl (by rw [hml]; exact hl.1) rfl dX0_init_1 (Nat.le_of_ble_eq_true rfl) (Nat.le_of_ble_eq_true rfl) ?_
  refine W.eq (g2 := F0 m 4 ls []) rfl ?_
  refine lv_aload_n hx hb dX0_init_4 rfl (lv_at hl 0 rfl) ?_
  refine lv_iconst (v := 0) hx hb dX0_init_5 (by decide) ?_
  refine va_put (D := D) (ci := 0) (v := .int 0) (ty := .int) (C := RX0) (T := TX0) (N := 6) hx hb hts hinX0 tyX0 tyX0_ok nmX0 hown hK hP hD hS 0 rfl rfl 0 (by decide) hf7 (fun _ h9 => h9)  rfl (by decide +kernel) rfl rfl (Nat.le_of_ble_eq_true rfl) dX0_init_6 (fun H locs hP hD hS => ?_)
  have hP : va_P D vwCl ([(h0, .inr (0, [.int 0, .null, .null, .null, .null, .null]))]) H := hP
  have hD : va_D A ([(h0, .inr (0, [.int 0, .null, .null, .null, .null, .null]))]) := hD
  refine lv_aload_n hx hb dX0_init_9 rfl (lv_at hl 0 rfl) ?_
  refine lv_bipush (v := 6) hx hb dX0_init_10 (by decide) ?_
  refine zk_newI hx hb harr hK hP hD hS hA (N' := 6) (by decide) rfl (Nat.le_of_ble_eq_true rfl) (Nat.le_of_ble_eq_true rfl) (Nat.le_of_ble_eq_true rfl) dX0_init_12 (fun q_1 H hP hD hS => ?_)
  have hP : va_P D vwCl ([(h0, .inr (0, [.int 0, .null, .null, .null, .null, .null])), (q_1, .inl (cI, 6, .inl (fun _ => 0)))]) H := hP
  have hD : va_D A ([(h0, .inr (0, [.int 0, .null, .null, .null, .null, .null])), (q_1, .inl (cI, 6, .inl (fun _ => 0)))]) := hD
  refine W.widen (k := 1) (n := 6) (Nat.le_of_ble_eq_true rfl) (Nat.le_of_ble_eq_true rfl) ?_
  refine va_putF (D := D) (ci := 0) (v := .ref q_1) (ty := .array .int) (C := RX0) (T := TX0) (N := 6) hx hb hts hinX0 tyX0 tyX0_ok nmX0 hown hK hP hD hS 0 rfl rfl 1 (by decide) hf13 (fun _ h9 => h9) rfl hin rfl (by decide +kernel) rfl rfl (Nat.le_of_ble_eq_true rfl) dX0_init_14 (fun H locs hP hD hS => ?_)
  have hP : va_P D vwCl ([(h0, .inr (0, [.int 0, .ref q_1, .null, .null, .null, .null])), (q_1, .inl (cI, 6, .inl (fun _ => 0)))]) H := hP
  have hD : va_D A ([(h0, .inr (0, [.int 0, .ref q_1, .null, .null, .null, .null])), (q_1, .inl (cI, 6, .inl (fun _ => 0)))]) := hD
  refine lv_aload_n hx hb dX0_init_17 rfl (lv_at hl 0 rfl) ?_
  refine lv_bipush (v := 6) hx hb dX0_init_18 (by decide) ?_
  refine zk_newI hx hb harr hK hP hD hS hA (N' := 6) (by decide) rfl (Nat.le_of_ble_eq_true rfl) (Nat.le_of_ble_eq_true rfl) (Nat.le_of_ble_eq_true rfl) dX0_init_20 (fun q_2 H hP hD hS => ?_)
  have hP : va_P D vwCl ([(h0, .inr (0, [.int 0, .ref q_1, .null, .null, .null, .null])), (q_1, .inl (cI, 6, .inl (fun _ => 0))), (q_2, .inl (cI, 6, .inl (fun _ => 0)))]) H := hP
  have hD : va_D A ([(h0, .inr (0, [.int 0, .ref q_1, .null, .null, .null, .null])), (q_1, .inl (cI, 6, .inl (fun _ => 0))), (q_2, .inl (cI, 6, .inl (fun _ => 0)))]) := hD
  refine W.widen (k := 2) (n := 12) (Nat.le_of_ble_eq_true rfl) (Nat.le_of_ble_eq_true rfl) ?_
  refine va_putF (D := D) (ci := 0) (v := .ref q_2) (ty := .array .int) (C := RX0) (T := TX0) (N := 6) hx hb hts hinX0 tyX0 tyX0_ok nmX0 hown hK hP hD hS 0 rfl rfl 2 (by decide) hf17 (fun _ h9 => h9) rfl hin rfl (by decide +kernel) rfl rfl (Nat.le_of_ble_eq_true rfl) dX0_init_22 (fun H locs hP hD hS => ?_)
  have hP : va_P D vwCl ([(h0, .inr (0, [.int 0, .ref q_1, .ref q_2, .null, .null, .null])), (q_1, .inl (cI, 6, .inl (fun _ => 0))), (q_2, .inl (cI, 6, .inl (fun _ => 0)))]) H := hP
  have hD : va_D A ([(h0, .inr (0, [.int 0, .ref q_1, .ref q_2, .null, .null, .null])), (q_1, .inl (cI, 6, .inl (fun _ => 0))), (q_2, .inl (cI, 6, .inl (fun _ => 0)))]) := hD
  refine lv_aload_n hx hb dX0_init_25 rfl (lv_at hl 0 rfl) ?_
  refine lv_bipush (v := 6) hx hb dX0_init_26 (by decide) ?_
  refine zk_newI hx hb harr hK hP hD hS hA (N' := 6) (by decide) rfl (Nat.le_of_ble_eq_true rfl) (Nat.le_of_ble_eq_true rfl) (Nat.le_of_ble_eq_true rfl) dX0_init_28 (fun q_3 H hP hD hS => ?_)
  have hP : va_P D vwCl ([(h0, .inr (0, [.int 0, .ref q_1, .ref q_2, .null, .null, .null])), (q_1, .inl (cI, 6, .inl (fun _ => 0))), (q_2, .inl (cI, 6, .inl (fun _ => 0))), (q_3, .inl (cI, 6, .inl (fun _ => 0)))]) H := hP
  have hD : va_D A ([(h0, .inr (0, [.int 0, .ref q_1, .ref q_2, .null, .null, .null])), (q_1, .inl (cI, 6, .inl (fun _ => 0))), (q_2, .inl (cI, 6, .inl (fun _ => 0))), (q_3, .inl (cI, 6, .inl (fun _ => 0)))]) := hD
  refine W.widen (k := 3) (n := 18) (Nat.le_of_ble_eq_true rfl) (Nat.le_of_ble_eq_true rfl) ?_
  refine va_putF (D := D) (ci := 0) (v := .ref q_3) (ty := .array .int) (C := RX0) (T := TX0) (N := 6) hx hb hts hinX0 tyX0 tyX0_ok nmX0 hown hK hP hD hS 0 rfl rfl 3 (by decide) hf20 (fun _ h9 => h9) rfl hin rfl (by decide +kernel) rfl rfl (Nat.le_of_ble_eq_true rfl) dX0_init_30 (fun H locs hP hD hS => ?_)
  have hP : va_P D vwCl ([(h0, .inr (0, [.int 0, .ref q_1, .ref q_2, .ref q_3, .null, .null])), (q_1, .inl (cI, 6, .inl (fun _ => 0))), (q_2, .inl (cI, 6, .inl (fun _ => 0))), (q_3, .inl (cI, 6, .inl (fun _ => 0)))]) H := hP
  have hD : va_D A ([(h0, .inr (0, [.int 0, .ref q_1, .ref q_2, .ref q_3, .null, .null])), (q_1, .inl (cI, 6, .inl (fun _ => 0))), (q_2, .inl (cI, 6, .inl (fun _ => 0))), (q_3, .inl (cI, 6, .inl (fun _ => 0)))]) := hD
  refine lv_aload_n hx hb dX0_init_33 rfl (lv_at hl 0 rfl) ?_
  refine lv_bipush (v := 6) hx hb dX0_init_34 (by decide) ?_
  refine zk_newI hx hb harr hK hP hD hS hA (N' := 6) (by decide) rfl (Nat.le_of_ble_eq_true rfl) (Nat.le_of_ble_eq_true rfl) (Nat.le_of_ble_eq_true rfl) dX0_init_36 (fun q_4 H hP hD hS => ?_)
  have hP : va_P D vwCl ([(h0, .inr (0, [.int 0, .ref q_1, .ref q_2, .ref q_3, .null, .null])), (q_1, .inl (cI, 6, .inl (fun _ => 0))), (q_2, .inl (cI, 6, .inl (fun _ => 0))), (q_3, .inl (cI, 6, .inl (fun _ => 0))), (q_4, .inl (cI, 6, .inl (fun _ => 0)))]) H := hP
  have hD : va_D A ([(h0, .inr (0, [.int 0, .ref q_1, .ref q_2, .ref q_3, .null, .null])), (q_1, .inl (cI, 6, .inl (fun _ => 0))), (q_2, .inl (cI, 6, .inl (fun _ => 0))), (q_3, .inl (cI, 6, .inl (fun _ => 0))), (q_4, .inl (cI, 6, .inl (fun _ => 0)))]) := hD
  refine W.widen (k := 4) (n := 24) (Nat.le_of_ble_eq_true rfl) (Nat.le_of_ble_eq_true rfl) ?_
  refine va_putF (D := D) (ci := 0) (v := .ref q_4) (ty := .array .int) (C := RX0) (T := TX0) (N := 6) hx hb hts hinX0 tyX0 tyX0_ok nmX0 hown hK hP hD hS 0 rfl rfl 4 (by decide) hf23 (fun _ h9 => h9) rfl hin rfl (by decide +kernel) rfl rfl (Nat.le_of_ble_eq_true rfl) dX0_init_38 (fun H locs hP hD hS => ?_)
  have hP : va_P D vwCl ([(h0, .inr (0, [.int 0, .ref q_1, .ref q_2, .ref q_3, .ref q_4, .null])), (q_1, .inl (cI, 6, .inl (fun _ => 0))), (q_2, .inl (cI, 6, .inl (fun _ => 0))), (q_3, .inl (cI, 6, .inl (fun _ => 0))), (q_4, .inl (cI, 6, .inl (fun _ => 0)))]) H := hP
  have hD : va_D A ([(h0, .inr (0, [.int 0, .ref q_1, .ref q_2, .ref q_3, .ref q_4, .null])), (q_1, .inl (cI, 6, .inl (fun _ => 0))), (q_2, .inl (cI, 6, .inl (fun _ => 0))), (q_3, .inl (cI, 6, .inl (fun _ => 0))), (q_4, .inl (cI, 6, .inl (fun _ => 0)))]) := hD
  refine lv_aload_n hx hb dX0_init_41 rfl (lv_at hl 0 rfl) ?_
  refine lv_bipush (v := 6) hx hb dX0_init_42 (by decide) ?_
  refine zk_newI hx hb harr hK hP hD hS hA (N' := 6) (by decide) rfl (Nat.le_of_ble_eq_true rfl) (Nat.le_of_ble_eq_true rfl) (Nat.le_of_ble_eq_true rfl) dX0_init_44 (fun q_5 H hP hD hS => ?_)
  have hP : va_P D vwCl ([(h0, .inr (0, [.int 0, .ref q_1, .ref q_2, .ref q_3, .ref q_4, .null])), (q_1, .inl (cI, 6, .inl (fun _ => 0))), (q_2, .inl (cI, 6, .inl (fun _ => 0))), (q_3, .inl (cI, 6, .inl (fun _ => 0))), (q_4, .inl (cI, 6, .inl (fun _ => 0))), (q_5, .inl (cI, 6, .inl (fun _ => 0)))]) H := hP
  have hD : va_D A ([(h0, .inr (0, [.int 0, .ref q_1, .ref q_2, .ref q_3, .ref q_4, .null])), (q_1, .inl (cI, 6, .inl (fun _ => 0))), (q_2, .inl (cI, 6, .inl (fun _ => 0))), (q_3, .inl (cI, 6, .inl (fun _ => 0))), (q_4, .inl (cI, 6, .inl (fun _ => 0))), (q_5, .inl (cI, 6, .inl (fun _ => 0)))]) := hD
  refine W.widen (k := 5) (n := 30) (Nat.le_of_ble_eq_true rfl) (Nat.le_of_ble_eq_true rfl) ?_
  refine va_putF (D := D) (ci := 0) (v := .ref q_5) (ty := .array .int) (C := RX0) (T := TX0) (N := 6) hx hb hts hinX0 tyX0 tyX0_ok nmX0 hown hK hP hD hS 0 rfl rfl 5 (by decide) hf26 (fun _ h9 => h9) rfl hin rfl (by decide +kernel) rfl rfl (Nat.le_of_ble_eq_true rfl) dX0_init_46 (fun H locs hP hD hS => ?_)
  have hP : va_P D vwCl ([(h0, .inr (0, [.int 0, .ref q_1, .ref q_2, .ref q_3, .ref q_4, .ref q_5])), (q_1, .inl (cI, 6, .inl (fun _ => 0))), (q_2, .inl (cI, 6, .inl (fun _ => 0))), (q_3, .inl (cI, 6, .inl (fun _ => 0))), (q_4, .inl (cI, 6, .inl (fun _ => 0))), (q_5, .inl (cI, 6, .inl (fun _ => 0)))]) H := hP
  have hD : va_D A ([(h0, .inr (0, [.int 0, .ref q_1, .ref q_2, .ref q_3, .ref q_4, .ref q_5])), (q_1, .inl (cI, 6, .inl (fun _ => 0))), (q_2, .inl (cI, 6, .inl (fun _ => 0))), (q_3, .inl (cI, 6, .inl (fun _ => 0))), (q_4, .inl (cI, 6, .inl (fun _ => 0))), (q_5, .inl (cI, 6, .inl (fun _ => 0)))]) := hD
  have hP9 : va_P D vwCl (zw_B cI (fun k => if k = 3 then q_1 else if k = 4 then q_2 else if k = 5 then q_3 else if k = 6 then q_4 else if k = 7 then q_5 else h0)) H := hP
  have hD9 : va_D A (zw_B cI (fun k => if k = 3 then q_1 else if k = 4 then q_2 else if k = 5 then q_3 else if k = 6 then q_4 else if k = 7 then q_5 else h0)) := hD
  refine W.widen (k := 5) (n := 30) (Nat.le_of_ble_eq_true rfl) (Nat.le_of_ble_eq_true rfl) ?_
  exact W.vret hx hb hr (fun t ht hW => ⟨⟨(fun k => if k = 3 then q_1 else if k = 4 then q_2 else if k = 5 then q_3 else if k = 6 then q_4 else if k = 7 then q_5 else h0), rfl, rfl, by rw [ht]; exact hP9, va_K.moved hW.alike hK, hD9⟩, hS.F ht⟩) hS.2.2 dX0_init_49

set_option maxHeartbeats 4000000 in
set_option maxRecDepth 100000 in
theorem c_X2_init (l : Launch) (D : va_G) (cI : ClassId) (h0 : Nat) : zMM (S := Nat → Nat) l yX2_init wsX2_init ({ frames := 1, cells := 12, slots := 120, locals := 12 }) [.ref h0] D [(cI, .int)] ([(h0, .inr (2, [.int 0, .null, .null, .null, .null, .null, .null, .null, .null, .null, .null, .null, .null]))]) (fun u => u 2 = h0) (zw_S cI) 12 120 := by
  intro sz
  refine Met.ofW (cc := cX2_init) (maxL := 1) (ret := none) (by decide) rfl ?_
  intro p e s m args below meth c s₁ B hml hv
  obtain ⟨rfl, ⟨hsz, hP, hK, hD⟩, hL⟩ := hv
  have hx := B.exec
  have hb := B.bytes
  have hr := B.returns
  have hts := atoms_spec (ws := wsX2_init) B.pre
  have hown : s.vm.findClass RX2 = some m.cls := findClass_of_methodNamed B.named
  have hlocks := B.notSynchronized
  have hin : meth.name = "<init>" := (name_of_methodNamed B.named B.method).1
  subst hsz
  have hD := hD.self (sz := s.heap.size)
  generalize hAe : va_A ([(h0, .inr (2, [.int 0, .null, .null, .null, .null, .null, .null, .null, .null, .null, .null, .null, .null]))]) s.heap.size = A at hD ⊢
  have hA : ∀ q : Nat, s.heap.size ≤ q → A q := fun q h => by rw [← hAe]; exact Or.inr h
  have hS : va_S A s.heap s.heap [] := va_S.rf
  have hP : va_P D vwCl ([(h0, .inr (2, [.int 0, .null, .null, .null, .null, .null, .null, .null, .null, .null, .null, .null, .null]))]) s.heap := hP
  have hl := lv_entry ([.ref h0]) (n := 1) (Nat.le_of_ble_eq_true rfl)
  rw [lg_entry_eq]
  generalize (lg_sl ([.ref h0]) ++ List.replicate (1 - (lg_sl ([.ref h0])).length) Slot.unset).toArray = ls at hl ⊢
  have hl : lv_has ls 1 [(0, .ref h0)] := hl
  have hf13 := hts (.fieldLink RX2 13 "HotBeds$Sailors" "watch" "[I") (by decide +kernel)
  have hf17 := hts (.fieldLink RX2 17 "HotBeds$Sailors" "heavy" "[I") (by decide +kernel)
  have hf20 := hts (.fieldLink RX2 20 "HotBeds$Sailors" "wage" "[I") (by decide +kernel)
  have hf23 := hts (.fieldLink RX2 23 "HotBeds$Sailors" "purse" "[I") (by decide +kernel)
  have hf26 := hts (.fieldLink RX2 26 "HotBeds$Sailors" "boots" "[I") (by decide +kernel)
  have hf29 := hts (.fieldLink RX2 29 "HotBeds$Sailors" "kept" "[I") (by decide +kernel)
  have hf32 := hts (.fieldLink RX2 32 "HotBeds$Sailors" "place" "[I") (by decide +kernel)
  have hf35 := hts (.fieldLink RX2 35 "HotBeds$Sailors" "bed" "[I") (by decide +kernel)
  have hf38 := hts (.fieldLink RX2 38 "HotBeds$Sailors" "rest" "[I") (by decide +kernel)
  have hf41 := hts (.fieldLink RX2 41 "HotBeds$Sailors" "late" "[I") (by decide +kernel)
  have hf44 := hts (.fieldLink RX2 44 "HotBeds$Sailors" "lateSincePay" "[I") (by decide +kernel)
  have hf47 := hts (.fieldLink RX2 47 "HotBeds$Sailors" "floors" "[I") (by decide +kernel)
  have hf7 := hts (.fieldLink RX2 7 "HotBeds$Sailors" "size" "I") (by decide +kernel)
  have hinX2 : ∀ w ∈ u_ws RX2 TX2 13, w ∈ wsX2_init := by decide +kernel
  have harr := hts (.arrayClass .int) (by decide +kernel)
  refine lv_aload_n hx hb dX2_init_0 rfl (lv_at hl 0 rfl) ?_
  refine W.objInit hx hb hown (hts (.methodLink RX2 1 objectInit) (by decide +kernel)) (hts (.instanceMethod objectInit) (by decide +kernel)) (hts _ (List.mem_of_getElem? (i := 3) rfl)) rfl (by rw [hml]; exact hl.1) rfl dX2_init_1 (Nat.le_of_ble_eq_true rfl) (Nat.le_of_ble_eq_true rfl) ?_
  refine W.eq (g2 := F0 m 4 ls []) rfl ?_
  refine lv_aload_n hx hb dX2_init_4 rfl (lv_at hl 0 rfl) ?_
  refine lv_iconst (v := 0) hx hb dX2_init_5 (by decide) ?_
  refine va_put (D := D) (ci := 2) (v := .int 0) (ty := .int) (C := RX2) (T := TX2) (N := 13) hx hb hts hinX2 tyX2 tyX2_ok nmX2 hown hK hP hD hS 0 rfl rfl 0 (by decide) hf7 (fun _ h9 => h9)  rfl (by decide +kernel) rfl rfl (Nat.le_of_ble_eq_true rfl) dX2_init_6 (fun H locs hP hD hS => ?_)
  have hP : va_P D vwCl ([(h0, .inr (2, [.int 0, .null, .null, .null, .null, .null, .null, .null, .null, .null, .null, .null, .null]))]) H := hP
  have hD : va_D A ([(h0, .inr (2, [.int 0, .null, .null, .null, .null, .null, .null, .null, .null, .null, .null, .null, .null]))]) := hD
  refine lv_aload_n hx hb dX2_init_9 rfl (lv_at hl 0 rfl) ?_
  refine lv_bipush (v := 10) hx hb dX2_init_10 (by decide) ?_
  refine zk_newI hx hb harr hK hP hD hS hA (N' := 10) (by decide) rfl (Nat.le_of_ble_eq_true rfl) (Nat.le_of_ble_eq_true rfl) (Nat.le_of_ble_eq_true rfl) dX2_init_12 (fun q_1 H hP hD hS => ?_)
  have hP : va_P D vwCl ([(h0, .inr (2, [.int 0, .null, .null, .null, .null, .null, .null, .null, .null, .null, .null, .null, .null])), (q_1, .inl (cI, 10, .inl (fun _ => 0)))]) H := hP
  have hD : va_D A ([(h0, .inr (2, [.int 0, .null, .null, .null, .null, .null, .null, .null, .null, .null, .null, .null, .null])), (q_1, .inl (cI, 10, .inl (fun _ => 0)))]) := hD
  refine W.widen (k := 1) (n := 10) (Nat.le_of_ble_eq_true rfl) (Nat.le_of_ble_eq_true rfl) ?_
  refine va_putF (D := D) (ci := 2) (v := .ref q_1) (ty := .array .int) (C := RX2) (T := TX2) (N := 13) hx hb hts hinX2 tyX2 tyX2_ok nmX2 hown hK hP hD hS 0 rfl rfl 1 (by decide) hf13 (fun _ h9 => h9) rfl hin rfl (by decide +kernel) rfl rfl (Nat.le_of_ble_eq_true rfl) dX2_init_14 (fun H locs hP hD hS => ?_)
  have hP : va_P D vwCl ([(h0, .inr (2, [.int 0, .ref q_1, .null, .null, .null, .null, .null, .null, .null, .null, .null, .null, .null])), (q_1, .inl (cI, 10, .inl (fun _ => 0)))]) H := hP
  have hD : va_D A ([(h0, .inr (2, [.int 0, .ref q_1, .null, .null, .null, .null, .null, .null, .null, .null, .null, .null, .null])), (q_1, .inl (cI, 10, .inl (fun _ => 0)))]) := hD
  refine lv_aload_n hx hb dX2_init_17 rfl (lv_at hl 0 rfl) ?_
  refine lv_bipush (v := 10) hx hb dX2_init_18 (by decide) ?_
  refine zk_newI hx hb harr hK hP hD hS hA (N' := 10) (by decide) rfl (Nat.le_of_ble_eq_true rfl) (Nat.le_of_ble_eq_true rfl) (Nat.le_of_ble_eq_true rfl) dX2_init_20 (fun q_2 H hP hD hS => ?_)
  have hP : va_P D vwCl ([(h0, .inr (2, [.int 0, .ref q_1, .null, .null, .null, .null, .null, .null, .null, .null, .null, .null, .null])), (q_1, .inl (cI, 10, .inl (fun _ => 0))), (q_2, .inl (cI, 10, .inl (fun _ => 0)))]) H := hP
  have hD : va_D A ([(h0, .inr (2, [.int 0, .ref q_1, .null, .null, .null, .null, .null, .null, .null, .null, .null, .null, .null])), (q_1, .inl (cI, 10, .inl (fun _ => 0))), (q_2, .inl (cI, 10, .inl (fun _ => 0)))]) := hD
  refine W.widen (k := 2) (n := 20) (Nat.le_of_ble_eq_true rfl) (Nat.le_of_ble_eq_true rfl) ?_
  refine va_putF (D := D) (ci := 2) (v := .ref q_2) (ty := .array .int) (C := RX2) (T := TX2) (N := 13) hx hb hts hinX2 tyX2 tyX2_ok nmX2 hown hK hP hD hS 0 rfl rfl 2 (by decide) hf17 (fun _ h9 => h9) rfl hin rfl (by decide +kernel) rfl rfl (Nat.le_of_ble_eq_true rfl) dX2_init_22 (fun H locs hP hD hS => ?_)
  have hP : va_P D vwCl ([(h0, .inr (2, [.int 0, .ref q_1, .ref q_2, .null, .null, .null, .null, .null, .null, .null, .null, .null, .null])), (q_1, .inl (cI, 10, .inl (fun _ => 0))), (q_2, .inl (cI, 10, .inl (fun _ => 0)))]) H := hP
  have hD : va_D A ([(h0, .inr (2, [.int 0, .ref q_1, .ref q_2, .null, .null, .null, .null, .null, .null, .null, .null, .null, .null])), (q_1, .inl (cI, 10, .inl (fun _ => 0))), (q_2, .inl (cI, 10, .inl (fun _ => 0)))]) := hD
  refine lv_aload_n hx hb dX2_init_25 rfl (lv_at hl 0 rfl) ?_
  refine lv_bipush (v := 10) hx hb dX2_init_26 (by decide) ?_
  refine zk_newI hx hb harr hK hP hD hS hA (N' := 10) (by decide) rfl (Nat.le_of_ble_eq_true rfl) (Nat.le_of_ble_eq_true rfl) (Nat.le_of_ble_eq_true rfl) dX2_init_28 (fun q_3 H hP hD hS => ?_)
  have hP : va_P D vwCl ([(h0, .inr (2, [.int 0, .ref q_1, .ref q_2, .null, .null, .null, .null, .null, .null, .null, .null, .null, .null])), (q_1, .inl (cI, 10, .inl (fun _ => 0))), (q_2, .inl (cI, 10, .inl (fun _ => 0))), (q_3, .inl (cI, 10, .inl (fun _ => 0)))]) H := hP
  have hD : va_D A ([(h0, .inr (2, [.int 0, .ref q_1, .ref q_2, .null, .null, .null, .null, .null, .null, .null, .null, .null, .null])), (q_1, .inl (cI, 10, .inl (fun _ => 0))), (q_2, .inl (cI, 10, .inl (fun _ => 0))), (q_3, .inl (cI, 10, .inl (fun _ => 0)))]) := hD
  refine W.widen (k := 3) (n := 30) (Nat.le_of_ble_eq_true rfl) (Nat.le_of_ble_eq_true rfl) ?_
  refine va_putF (D := D) (ci := 2) (v := .ref q_3) (ty := .array .int) (C := RX2) (T := TX2) (N := 13) hx hb hts hinX2 tyX2 tyX2_ok nmX2 hown hK hP hD hS 0 rfl rfl 3 (by decide) hf20 (fun _ h9 => h9) rfl hin rfl (by decide +kernel) rfl rfl (Nat.le_of_ble_eq_true rfl) dX2_init_30 (fun H locs hP hD hS => ?_)
  have hP : va_P D vwCl ([(h0, .inr (2, [.int 0, .ref q_1, .ref q_2, .ref q_3, .null, .null, .null, .null, .null, .null, .null, .null, .null])), (q_1, .inl (cI, 10, .inl (fun _ => 0))), (q_2, .inl (cI, 10, .inl (fun _ => 0))), (q_3, .inl (cI, 10, .inl (fun _ => 0)))]) H := hP
  have hD : va_D A ([(h0, .inr (2, [.int 0, .ref q_1, .ref q_2, .ref q_3, .null, .null, .null, .null, .null, .null, .null, .null, .null])), (q_1, .inl (cI, 10, .inl (fun _ => 0))), (q_2, .inl (cI, 10, .inl (fun _ => 0))), (q_3, .inl (cI, 10, .inl (fun _ => 0)))]) := hD
  refine lv_aload_n hx hb dX2_init_33 rfl (lv_at hl 0 rfl) ?_
  refine lv_bipush (v := 10) hx hb dX2_init_34 (by decide) ?_
  refine zk_newI hx hb harr hK hP hD hS hA (N' := 10) (by decide) rfl (Nat.le_of_ble_eq_true rfl) (Nat.le_of_ble_eq_true rfl) (Nat.le_of_ble_eq_true rfl) dX2_init_36 (fun q_4 H hP hD hS => ?_)
  have hP : va_P D vwCl ([(h0, .inr (2, [.int 0, .ref q_1, .ref q_2, .ref q_3, .null, .null, .null, .null, .null, .null, .null, .null, .null])), (q_1, .inl (cI, 10, .inl (fun _ => 0))), (q_2, .inl (cI, 10, .inl (fun _ => 0))), (q_3, .inl (cI, 10, .inl (fun _ => 0))), (q_4, .inl (cI, 10, .inl (fun _ => 0)))]) H := hP
  have hD : va_D A ([(h0, .inr (2, [.int 0, .ref q_1, .ref q_2, .ref q_3, .null, .null, .null, .null, .null, .null, .null, .null, .null])), (q_1, .inl (cI, 10, .inl (fun _ => 0))), (q_2, .inl (cI, 10, .inl (fun _ => 0))), (q_3, .inl (cI, 10, .inl (fun _ => 0))), (q_4, .inl (cI, 10, .inl (fun _ => 0)))]) := hD
  refine W.widen (k := 4) (n := 40) (Nat.le_of_ble_eq_true rfl) (Nat.le_of_ble_eq_true rfl) ?_
  refine va_putF (D := D) (ci := 2) (v := .ref q_4) (ty := .array .int) (C := RX2) (T := TX2) (N := 13) hx hb hts hinX2 tyX2 tyX2_ok nmX2 hown hK hP hD hS 0 rfl rfl 4 (by decide) hf23 (fun _ h9 => h9) rfl hin rfl (by decide +kernel) rfl rfl (Nat.le_of_ble_eq_true rfl) dX2_init_38 (fun H locs hP hD hS => ?_)
  have hP : va_P D vwCl ([(h0, .inr (2, [.int 0, .ref q_1, .ref q_2, .ref q_3, .ref q_4, .null, .null, .null, .null, .null, .null, .null, .null])), (q_1, .inl (cI, 10, .inl (fun _ => 0))), (q_2, .inl (cI, 10, .inl (fun _ => 0))), (q_3, .inl (cI, 10, .inl (fun _ => 0))), (q_4, .inl (cI, 10, .inl (fun _ => 0)))]) H := hP
  have hD : va_D A ([(h0, .inr (2, [.int 0, .ref q_1, .ref q_2, .ref q_3, .ref q_4, .null, .null, .null, .null, .null, .null, .null, .null])), (q_1, .inl (cI, 10, .inl (fun _ => 0))), (q_2, .inl (cI, 10, .inl (fun _ => 0))), (q_3, .inl (cI, 10, .inl (fun _ => 0))), (q_4, .inl (cI, 10, .inl (fun _ => 0)))]) := hD
  refine lv_aload_n hx hb dX2_init_41 rfl (lv_at hl 0 rfl) ?_
  refine lv_bipush (v := 10) hx hb dX2_init_42 (by decide) ?_
  refine zk_newI hx hb harr hK hP hD hS hA (N' := 10) (by decide) rfl (Nat.le_of_ble_eq_true rfl) (Nat.le_of_ble_eq_true rfl) (Nat.le_of_ble_eq_true rfl) dX2_init_44 (fun q_5 H hP hD hS => ?_)
  have hP : va_P D vwCl ([(h0, .inr (2, [.int 0, .ref q_1, .ref q_2, .ref q_3, .ref q_4, .null, .null, .null, .null, .null, .null, .null, .null])), (q_1, .inl (cI, 10, .inl (fun _ => 0))), (q_2, .inl (cI, 10, .inl (fun _ => 0))), (q_3, .inl (cI, 10, .inl (fun _ => 0))), (q_4, .inl (cI, 10, .inl (fun _ => 0))), (q_5, .inl (cI, 10, .inl (fun _ => 0)))]) H := hP
  have hD : va_D A ([(h0, .inr (2, [.int 0, .ref q_1, .ref q_2, .ref q_3, .ref q_4, .null, .null, .null, .null, .null, .null, .null, .null])), (q_1, .inl (cI, 10, .inl (fun _ => 0))), (q_2, .inl (cI, 10, .inl (fun _ => 0))), (q_3, .inl (cI, 10, .inl (fun _ => 0))), (q_4, .inl (cI, 10, .inl (fun _ => 0))), (q_5, .inl (cI, 10, .inl (fun _ => 0)))]) := hD
  refine W.widen (k := 5) (n := 50) (Nat.le_of_ble_eq_true rfl) (Nat.le_of_ble_eq_true rfl) ?_
  refine va_putF (D := D) (ci := 2) (v := .ref q_5) (ty := .array .int) (C := RX2) (T := TX2) (N := 13) hx hb hts hinX2 tyX2 tyX2_ok nmX2 hown hK hP hD hS 0 rfl rfl 5 (by decide) hf26 (fun _ h9 => h9) rfl hin rfl (by decide +kernel) rfl rfl (Nat.le_of_ble_eq_true rfl) dX2_init_46 (fun H locs hP hD hS => ?_)
  have hP : va_P D vwCl ([(h0, .inr (2, [.int 0, .ref q_1, .ref q_2, .ref q_3, .ref q_4, .ref q_5, .null, .null, .null, .null, .null, .null, .null])), (q_1, .inl (cI, 10, .inl (fun _ => 0))), (q_2, .inl (cI, 10, .inl (fun _ => 0))), (q_3, .inl (cI, 10, .inl (fun _ => 0))), (q_4, .inl (cI, 10, .inl (fun _ => 0))), (q_5, .inl (cI, 10, .inl (fun _ => 0)))]) H := hP
  have hD : va_D A ([(h0, .inr (2, [.int 0, .ref q_1, .ref q_2, .ref q_3, .ref q_4, .ref q_5, .null, .null, .null, .null, .null, .null, .null])), (q_1, .inl (cI, 10, .inl (fun _ => 0))), (q_2, .inl (cI, 10, .inl (fun _ => 0))), (q_3, .inl (cI, 10, .inl (fun _ => 0))), (q_4, .inl (cI, 10, .inl (fun _ => 0))), (q_5, .inl (cI, 10, .inl (fun _ => 0)))]) := hD
  refine lv_aload_n hx hb dX2_init_49 rfl (lv_at hl 0 rfl) ?_
  refine lv_bipush (v := 10) hx hb dX2_init_50 (by decide) ?_
  refine zk_newI hx hb harr hK hP hD hS hA (N' := 10) (by decide) rfl (Nat.le_of_ble_eq_true rfl) (Nat.le_of_ble_eq_true rfl) (Nat.le_of_ble_eq_true rfl) dX2_init_52 (fun q_6 H hP hD hS => ?_)
  have hP : va_P D vwCl ([(h0, .inr (2, [.int 0, .ref q_1, .ref q_2, .ref q_3, .ref q_4, .ref q_5, .null, .null, .null, .null, .null, .null, .null])), (q_1, .inl (cI, 10, .inl (fun _ => 0))), (q_2, .inl (cI, 10, .inl (fun _ => 0))), (q_3, .inl (cI, 10, .inl (fun _ => 0))), (q_4, .inl (cI, 10, .inl (fun _ => 0))), (q_5, .inl (cI, 10, .inl (fun _ => 0))), (q_6, .inl (cI, 10, .inl (fun _ => 0)))]) H := hP
  have hD : va_D A ([(h0, .inr (2, [.int 0, .ref q_1, .ref q_2, .ref q_3, .ref q_4, .ref q_5, .null, .null, .null, .null, .null, .null, .null])), (q_1, .inl (cI, 10, .inl (fun _ => 0))), (q_2, .inl (cI, 10, .inl (fun _ => 0))), (q_3, .inl (cI, 10, .inl (fun _ => 0))), (q_4, .inl (cI, 10, .inl (fun _ => 0))), (q_5, .inl (cI, 10, .inl (fun _ => 0))), (q_6, .inl (cI, 10, .inl (fun _ => 0)))]) := hD
  refine W.widen (k := 6) (n := 60) (Nat.le_of_ble_eq_true rfl) (Nat.le_of_ble_eq_true rfl) ?_
  refine va_putF (D := D) (ci := 2) (v := .ref q_6) (ty := .array .int) (C := RX2) (T := TX2) (N := 13) hx hb hts hinX2 tyX2 tyX2_ok nmX2 hown hK hP hD hS 0 rfl rfl 6 (by decide) hf29 (fun _ h9 => h9) rfl hin rfl (by decide +kernel) rfl rfl (Nat.le_of_ble_eq_true rfl) dX2_init_54 (fun H locs hP hD hS => ?_)
  have hP : va_P D vwCl ([(h0, .inr (2, [.int 0, .ref q_1, .ref q_2, .ref q_3, .ref q_4, .ref q_5, .ref q_6, .null, .null, .null, .null, .null, .null])), (q_1, .inl (cI, 10, .inl (fun _ => 0))), (q_2, .inl (cI, 10, .inl (fun _ => 0))), (q_3, .inl (cI, 10, .inl (fun _ => 0))), (q_4, .inl (cI, 10, .inl (fun _ => 0))), (q_5, .inl (cI, 10, .inl (fun _ => 0))), (q_6, .inl (cI, 10, .inl (fun _ => 0)))]) H := hP
  have hD : va_D A ([(h0, .inr (2, [.int 0, .ref q_1, .ref q_2, .ref q_3, .ref q_4, .ref q_5, .ref q_6, .null, .null, .null, .null, .null, .null])), (q_1, .inl (cI, 10, .inl (fun _ => 0))), (q_2, .inl (cI, 10, .inl (fun _ => 0))), (q_3, .inl (cI, 10, .inl (fun _ => 0))), (q_4, .inl (cI, 10, .inl (fun _ => 0))), (q_5, .inl (cI, 10, .inl (fun _ => 0))), (q_6, .inl (cI, 10, .inl (fun _ => 0)))]) := hD
  refine lv_aload_n hx hb dX2_init_57 rfl (lv_at hl 0 rfl) ?_
  refine lv_bipush (v := 10) hx hb dX2_init_58 (by decide) ?_
  refine zk_newI hx hb harr hK hP hD hS hA (N' := 10) (by decide) rfl (Nat.le_of_ble_eq_true rfl) (Nat.le_of_ble_eq_true rfl) (Nat.le_of_ble_eq_true rfl) dX2_init_60 (fun q_7 H hP hD hS => ?_)
  have hP : va_P D vwCl ([(h0, .inr (2, [.int 0, .ref q_1, .ref q_2, .ref q_3, .ref q_4, .ref q_5, .ref q_6, .null, .null, .null, .null, .null, .null])), (q_1, .inl (cI, 10, .inl (fun _ => 0))), (q_2, .inl (cI, 10, .inl (fun _ => 0))), (q_3, .inl (cI, 10, .inl (fun _ => 0))), (q_4, .inl (cI, 10, .inl (fun _ => 0))), (q_5, .inl (cI, 10, .inl (fun _ => 0))), (q_6, .inl (cI, 10, .inl (fun _ => 0))), (q_7, .inl (cI, 10, .inl (fun _ => 0)))]) H := hP
  have hD : va_D A ([(h0, .inr (2, [.int 0, .ref q_1, .ref q_2, .ref q_3, .ref q_4, .ref q_5, .ref q_6, .null, .null, .null, .null, .null, .null])), (q_1, .inl (cI, 10, .inl (fun _ => 0))), (q_2, .inl (cI, 10, .inl (fun _ => 0))), (q_3, .inl (cI, 10, .inl (fun _ => 0))), (q_4, .inl (cI, 10, .inl (fun _ => 0))), (q_5, .inl (cI, 10, .inl (fun _ => 0))), (q_6, .inl (cI, 10, .inl (fun _ => 0))), (q_7, .inl (cI, 10, .inl (fun _ => 0)))]) := hD
  refine W.widen (k := 7) (n := 70) (Nat.le_of_ble_eq_true rfl) (Nat.le_of_ble_eq_true rfl) ?_
  refine va_putF (D := D) (ci := 2) (v := .ref q_7) (ty := .array .int) (C := RX2) (T := TX2) (N := 13) hx hb hts hinX2 tyX2 tyX2_ok nmX2 hown hK hP hD hS 0 rfl rfl 7 (by decide) hf32 (fun _ h9 => h9) rfl hin rfl (by decide +kernel) rfl rfl (Nat.le_of_ble_eq_true rfl) dX2_init_62 (fun H locs hP hD hS => ?_)
  have hP : va_P D vwCl ([(h0, .inr (2, [.int 0, .ref q_1, .ref q_2, .ref q_3, .ref q_4, .ref q_5, .ref q_6, .ref q_7, .null, .null, .null, .null, .null])), (q_1, .inl (cI, 10, .inl (fun _ => 0))), (q_2, .inl (cI, 10, .inl (fun _ => 0))), (q_3, .inl (cI, 10, .inl (fun _ => 0))), (q_4, .inl (cI, 10, .inl (fun _ => 0))), (q_5, .inl (cI, 10, .inl (fun _ => 0))), (q_6, .inl (cI, 10, .inl (fun _ => 0))), (q_7, .inl (cI, 10, .inl (fun _ => 0)))]) H := hP
  have hD : va_D A ([(h0, .inr (2, [.int 0, .ref q_1, .ref q_2, .ref q_3, .ref q_4, .ref q_5, .ref q_6, .ref q_7, .null, .null, .null, .null, .null])), (q_1, .inl (cI, 10, .inl (fun _ => 0))), (q_2, .inl (cI, 10, .inl (fun _ => 0))), (q_3, .inl (cI, 10, .inl (fun _ => 0))), (q_4, .inl (cI, 10, .inl (fun _ => 0))), (q_5, .inl (cI, 10, .inl (fun _ => 0))), (q_6, .inl (cI, 10, .inl (fun _ => 0))), (q_7, .inl (cI, 10, .inl (fun _ => 0)))]) := hD
  refine lv_aload_n hx hb dX2_init_65 rfl (lv_at hl 0 rfl) ?_
  refine lv_bipush (v := 10) hx hb dX2_init_66 (by decide) ?_
  refine zk_newI hx hb harr hK hP hD hS hA (N' := 10) (by decide) rfl (Nat.le_of_ble_eq_true rfl) (Nat.le_of_ble_eq_true rfl) (Nat.le_of_ble_eq_true rfl) dX2_init_68 (fun q_8 H hP hD hS => ?_)
  have hP : va_P D vwCl ([(h0, .inr (2, [.int 0, .ref q_1, .ref q_2, .ref q_3, .ref q_4, .ref q_5, .ref q_6, .ref q_7, .null, .null, .null, .null, .null])), (q_1, .inl (cI, 10, .inl (fun _ => 0))), (q_2, .inl (cI, 10, .inl (fun _ => 0))), (q_3, .inl (cI, 10, .inl (fun _ => 0))), (q_4, .inl (cI, 10, .inl (fun _ => 0))), (q_5, .inl (cI, 10, .inl (fun _ => 0))), (q_6, .inl (cI, 10, .inl (fun _ => 0))), (q_7, .inl (cI, 10, .inl (fun _ => 0))), (q_8, .inl (cI, 10, .inl (fun _ => 0)))]) H := hP
  have hD : va_D A ([(h0, .inr (2, [.int 0, .ref q_1, .ref q_2, .ref q_3, .ref q_4, .ref q_5, .ref q_6, .ref q_7, .null, .null, .null, .null, .null])), (q_1, .inl (cI, 10, .inl (fun _ => 0))), (q_2, .inl (cI, 10, .inl (fun _ => 0))), (q_3, .inl (cI, 10, .inl (fun _ => 0))), (q_4, .inl (cI, 10, .inl (fun _ => 0))), (q_5, .inl (cI, 10, .inl (fun _ => 0))), (q_6, .inl (cI, 10, .inl (fun _ => 0))), (q_7, .inl (cI, 10, .inl (fun _ => 0))), (q_8, .inl (cI, 10, .inl (fun _ => 0)))]) := hD
  refine W.widen (k := 8) (n := 80) (Nat.le_of_ble_eq_true rfl) (Nat.le_of_ble_eq_true rfl) ?_
  refine va_putF (D := D) (ci := 2) (v := .ref q_8) (ty := .array .int) (C := RX2) (T := TX2) (N := 13) hx hb hts hinX2 tyX2 tyX2_ok nmX2 hown hK hP hD hS 0 rfl rfl 8 (by decide) hf35 (fun _ h9 => h9) rfl hin rfl (by decide +kernel) rfl rfl (Nat.le_of_ble_eq_true rfl) dX2_init_70 (fun H locs hP hD hS => ?_)
  have hP : va_P D vwCl ([(h0, .inr (2, [.int 0, .ref q_1, .ref q_2, .ref q_3, .ref q_4, .ref q_5, .ref q_6, .ref q_7, .ref q_8, .null, .null, .null, .null])), (q_1, .inl (cI, 10, .inl (fun _ => 0))), (q_2, .inl (cI, 10, .inl (fun _ => 0))), (q_3, .inl (cI, 10, .inl (fun _ => 0))), (q_4, .inl (cI, 10, .inl (fun _ => 0))), (q_5, .inl (cI, 10, .inl (fun _ => 0))), (q_6, .inl (cI, 10, .inl (fun _ => 0))), (q_7, .inl (cI, 10, .inl (fun _ => 0))), (q_8, .inl (cI, 10, .inl (fun _ => 0)))]) H := hP
  have hD : va_D A ([(h0, .inr (2, [.int 0, .ref q_1, .ref q_2, .ref q_3, .ref q_4, .ref q_5, .ref q_6, .ref q_7, .ref q_8, .null, .null, .null, .null])), (q_1, .inl (cI, 10, .inl (fun _ => 0))), (q_2, .inl (cI, 10, .inl (fun _ => 0))), (q_3, .inl (cI, 10, .inl (fun _ => 0))), (q_4, .inl (cI, 10, .inl (fun _ => 0))), (q_5, .inl (cI, 10, .inl (fun _ => 0))), (q_6, .inl (cI, 10, .inl (fun _ => 0))), (q_7, .inl (cI, 10, .inl (fun _ => 0))), (q_8, .inl (cI, 10, .inl (fun _ => 0)))]) := hD
  refine lv_aload_n hx hb dX2_init_73 rfl (lv_at hl 0 rfl) ?_
  refine lv_bipush (v := 10) hx hb dX2_init_74 (by decide) ?_
  refine zk_newI hx hb harr hK hP hD hS hA (N' := 10) (by decide) rfl (Nat.le_of_ble_eq_true rfl) (Nat.le_of_ble_eq_true rfl) (Nat.le_of_ble_eq_true rfl) dX2_init_76 (fun q_9 H hP hD hS => ?_)
  have hP : va_P D vwCl ([(h0, .inr (2, [.int 0, .ref q_1, .ref q_2, .ref q_3, .ref q_4, .ref q_5, .ref q_6, .ref q_7, .ref q_8, .null, .null, .null, .null])), (q_1, .inl (cI, 10, .inl (fun _ => 0))), (q_2, .inl (cI, 10, .inl (fun _ => 0))), (q_3, .inl (cI, 10, .inl (fun _ => 0))), (q_4, .inl (cI, 10, .inl (fun _ => 0))), (q_5, .inl (cI, 10, .inl (fun _ => 0))), (q_6, .inl (cI, 10, .inl (fun _ => 0))), (q_7, .inl (cI, 10, .inl (fun _ => 0))), (q_8, .inl (cI, 10, .inl (fun _ => 0))), (q_9, .inl (cI, 10, .inl (fun _ => 0)))]) H := hP
  have hD : va_D A ([(h0, .inr (2, [.int 0, .ref q_1, .ref q_2, .ref q_3, .ref q_4, .ref q_5, .ref q_6, .ref q_7, .ref q_8, .null, .null, .null, .null])), (q_1, .inl (cI, 10, .inl (fun _ => 0))), (q_2, .inl (cI, 10, .inl (fun _ => 0))), (q_3, .inl (cI, 10, .inl (fun _ => 0))), (q_4, .inl (cI, 10, .inl (fun _ => 0))), (q_5, .inl (cI, 10, .inl (fun _ => 0))), (q_6, .inl (cI, 10, .inl (fun _ => 0))), (q_7, .inl (cI, 10, .inl (fun _ => 0))), (q_8, .inl (cI, 10, .inl (fun _ => 0))), (q_9, .inl (cI, 10, .inl (fun _ => 0)))]) := hD
  refine W.widen (k := 9) (n := 90) (Nat.le_of_ble_eq_true rfl) (Nat.le_of_ble_eq_true rfl) ?_
  refine va_putF (D := D) (ci := 2) (v := .ref q_9) (ty := .array .int) (C := RX2) (T := TX2) (N := 13) hx hb hts hinX2 tyX2 tyX2_ok nmX2 hown hK hP hD hS 0 rfl rfl 9 (by decide) hf38 (fun _ h9 => h9) rfl hin rfl (by decide +kernel) rfl rfl (Nat.le_of_ble_eq_true rfl) dX2_init_78 (fun H locs hP hD hS => ?_)
  have hP : va_P D vwCl ([(h0, .inr (2, [.int 0, .ref q_1, .ref q_2, .ref q_3, .ref q_4, .ref q_5, .ref q_6, .ref q_7, .ref q_8, .ref q_9, .null, .null, .null])), (q_1, .inl (cI, 10, .inl (fun _ => 0))), (q_2, .inl (cI, 10, .inl (fun _ => 0))), (q_3, .inl (cI, 10, .inl (fun _ => 0))), (q_4, .inl (cI, 10, .inl (fun _ => 0))), (q_5, .inl (cI, 10, .inl (fun _ => 0))), (q_6, .inl (cI, 10, .inl (fun _ => 0))), (q_7, .inl (cI, 10, .inl (fun _ => 0))), (q_8, .inl (cI, 10, .inl (fun _ => 0))), (q_9, .inl (cI, 10, .inl (fun _ => 0)))]) H := hP
  have hD : va_D A ([(h0, .inr (2, [.int 0, .ref q_1, .ref q_2, .ref q_3, .ref q_4, .ref q_5, .ref q_6, .ref q_7, .ref q_8, .ref q_9, .null, .null, .null])), (q_1, .inl (cI, 10, .inl (fun _ => 0))), (q_2, .inl (cI, 10, .inl (fun _ => 0))), (q_3, .inl (cI, 10, .inl (fun _ => 0))), (q_4, .inl (cI, 10, .inl (fun _ => 0))), (q_5, .inl (cI, 10, .inl (fun _ => 0))), (q_6, .inl (cI, 10, .inl (fun _ => 0))), (q_7, .inl (cI, 10, .inl (fun _ => 0))), (q_8, .inl (cI, 10, .inl (fun _ => 0))), (q_9, .inl (cI, 10, .inl (fun _ => 0)))]) := hD
  refine lv_aload_n hx hb dX2_init_81 rfl (lv_at hl 0 rfl) ?_
  refine lv_bipush (v := 10) hx hb dX2_init_82 (by decide) ?_
  refine zk_newI hx hb harr hK hP hD hS hA (N' := 10) (by decide) rfl (Nat.le_of_ble_eq_true rfl) (Nat.le_of_ble_eq_true rfl) (Nat.le_of_ble_eq_true rfl) dX2_init_84 (fun q_10 H hP hD hS => ?_)
  have hP : va_P D vwCl ([(h0, .inr (2, [.int 0, .ref q_1, .ref q_2, .ref q_3, .ref q_4, .ref q_5, .ref q_6, .ref q_7, .ref q_8, .ref q_9, .null, .null, .null])), (q_1, .inl (cI, 10, .inl (fun _ => 0))), (q_2, .inl (cI, 10, .inl (fun _ => 0))), (q_3, .inl (cI, 10, .inl (fun _ => 0))), (q_4, .inl (cI, 10, .inl (fun _ => 0))), (q_5, .inl (cI, 10, .inl (fun _ => 0))), (q_6, .inl (cI, 10, .inl (fun _ => 0))), (q_7, .inl (cI, 10, .inl (fun _ => 0))), (q_8, .inl (cI, 10, .inl (fun _ => 0))), (q_9, .inl (cI, 10, .inl (fun _ => 0))), (q_10, .inl (cI, 10, .inl (fun _ => 0)))]) H := hP
  have hD : va_D A ([(h0, .inr (2, [.int 0, .ref q_1, .ref q_2, .ref q_3, .ref q_4, .ref q_5, .ref q_6, .ref q_7, .ref q_8, .ref q_9, .null, .null, .null])), (q_1, .inl (cI, 10, .inl (fun _ => 0))), (q_2, .inl (cI, 10, .inl (fun _ => 0))), (q_3, .inl (cI, 10, .inl (fun _ => 0))), (q_4, .inl (cI, 10, .inl (fun _ => 0))), (q_5, .inl (cI, 10, .inl (fun _ => 0))), (q_6, .inl (cI, 10, .inl (fun _ => 0))), (q_7, .inl (cI, 10, .inl (fun _ => 0))), (q_8, .inl (cI, 10, .inl (fun _ => 0))), (q_9, .inl (cI, 10, .inl (fun _ => 0))), (q_10, .inl (cI, 10, .inl (fun _ => 0)))]) := hD
  refine W.widen (k := 10) (n := 100) (Nat.le_of_ble_eq_true rfl) (Nat.le_of_ble_eq_true rfl) ?_
  refine va_putF (D := D) (ci := 2) (v := .ref q_10) (ty := .array .int) (C := RX2) (T := TX2) (N := 13) hx hb hts hinX2 tyX2 tyX2_ok nmX2 hown hK hP hD hS 0 rfl rfl 10 (by decide) hf41 (fun _ h9 => h9) rfl hin rfl (by decide +kernel) rfl rfl (Nat.le_of_ble_eq_true rfl) dX2_init_86 (fun H locs hP hD hS => ?_)
  have hP : va_P D vwCl ([(h0, .inr (2, [.int 0, .ref q_1, .ref q_2, .ref q_3, .ref q_4, .ref q_5, .ref q_6, .ref q_7, .ref q_8, .ref q_9, .ref q_10, .null, .null])), (q_1, .inl (cI, 10, .inl (fun _ => 0))), (q_2, .inl (cI, 10, .inl (fun _ => 0))), (q_3, .inl (cI, 10, .inl (fun _ => 0))), (q_4, .inl (cI, 10, .inl (fun _ => 0))), (q_5, .inl (cI, 10, .inl (fun _ => 0))), (q_6, .inl (cI, 10, .inl (fun _ => 0))), (q_7, .inl (cI, 10, .inl (fun _ => 0))), (q_8, .inl (cI, 10, .inl (fun _ => 0))), (q_9, .inl (cI, 10, .inl (fun _ => 0))), (q_10, .inl (cI, 10, .inl (fun _ => 0)))]) H := hP
  have hD : va_D A ([(h0, .inr (2, [.int 0, .ref q_1, .ref q_2, .ref q_3, .ref q_4, .ref q_5, .ref q_6, .ref q_7, .ref q_8, .ref q_9, .ref q_10, .null, .null])), (q_1, .inl (cI, 10, .inl (fun _ => 0))), (q_2, .inl (cI, 10, .inl (fun _ => 0))), (q_3, .inl (cI, 10, .inl (fun _ => 0))), (q_4, .inl (cI, 10, .inl (fun _ => 0))), (q_5, .inl (cI, 10, .inl (fun _ => 0))), (q_6, .inl (cI, 10, .inl (fun _ => 0))), (q_7, .inl (cI, 10, .inl (fun _ => 0))), (q_8, .inl (cI, 10, .inl (fun _ => 0))), (q_9, .inl (cI, 10, .inl (fun _ => 0))), (q_10, .inl (cI, 10, .inl (fun _ => 0)))]) := hD
  refine lv_aload_n hx hb dX2_init_89 rfl (lv_at hl 0 rfl) ?_
  refine lv_bipush (v := 10) hx hb dX2_init_90 (by decide) ?_
  refine zk_newI hx hb harr hK hP hD hS hA (N' := 10) (by decide) rfl (Nat.le_of_ble_eq_true rfl) (Nat.le_of_ble_eq_true rfl) (Nat.le_of_ble_eq_true rfl) dX2_init_92 (fun q_11 H hP hD hS => ?_)
  have hP : va_P D vwCl ([(h0, .inr (2, [.int 0, .ref q_1, .ref q_2, .ref q_3, .ref q_4, .ref q_5, .ref q_6, .ref q_7, .ref q_8, .ref q_9, .ref q_10, .null, .null])), (q_1, .inl (cI, 10, .inl (fun _ => 0))), (q_2, .inl (cI, 10, .inl (fun _ => 0))), (q_3, .inl (cI, 10, .inl (fun _ => 0))), (q_4, .inl (cI, 10, .inl (fun _ => 0))), (q_5, .inl (cI, 10, .inl (fun _ => 0))), (q_6, .inl (cI, 10, .inl (fun _ => 0))), (q_7, .inl (cI, 10, .inl (fun _ => 0))), (q_8, .inl (cI, 10, .inl (fun _ => 0))), (q_9, .inl (cI, 10, .inl (fun _ => 0))), (q_10, .inl (cI, 10, .inl (fun _ => 0))), (q_11, .inl (cI, 10, .inl (fun _ => 0)))]) H := hP
  have hD : va_D A ([(h0, .inr (2, [.int 0, .ref q_1, .ref q_2, .ref q_3, .ref q_4, .ref q_5, .ref q_6, .ref q_7, .ref q_8, .ref q_9, .ref q_10, .null, .null])), (q_1, .inl (cI, 10, .inl (fun _ => 0))), (q_2, .inl (cI, 10, .inl (fun _ => 0))), (q_3, .inl (cI, 10, .inl (fun _ => 0))), (q_4, .inl (cI, 10, .inl (fun _ => 0))), (q_5, .inl (cI, 10, .inl (fun _ => 0))), (q_6, .inl (cI, 10, .inl (fun _ => 0))), (q_7, .inl (cI, 10, .inl (fun _ => 0))), (q_8, .inl (cI, 10, .inl (fun _ => 0))), (q_9, .inl (cI, 10, .inl (fun _ => 0))), (q_10, .inl (cI, 10, .inl (fun _ => 0))), (q_11, .inl (cI, 10, .inl (fun _ => 0)))]) := hD
  refine W.widen (k := 11) (n := 110) (Nat.le_of_ble_eq_true rfl) (Nat.le_of_ble_eq_true rfl) ?_
  refine va_putF (D := D) (ci := 2) (v := .ref q_11) (ty := .array .int) (C := RX2) (T := TX2) (N := 13) hx hb hts hinX2 tyX2 tyX2_ok nmX2 hown hK hP hD hS 0 rfl rfl 11 (by decide) hf44 (fun _ h9 => h9) rfl hin rfl (by decide +kernel) rfl rfl (Nat.le_of_ble_eq_true rfl) dX2_init_94 (fun H locs hP hD hS => ?_)
  have hP : va_P D vwCl ([(h0, .inr (2, [.int 0, .ref q_1, .ref q_2, .ref q_3, .ref q_4, .ref q_5, .ref q_6, .ref q_7, .ref q_8, .ref q_9, .ref q_10, .ref q_11, .null])), (q_1, .inl (cI, 10, .inl (fun _ => 0))), (q_2, .inl (cI, 10, .inl (fun _ => 0))), (q_3, .inl (cI, 10, .inl (fun _ => 0))), (q_4, .inl (cI, 10, .inl (fun _ => 0))), (q_5, .inl (cI, 10, .inl (fun _ => 0))), (q_6, .inl (cI, 10, .inl (fun _ => 0))), (q_7, .inl (cI, 10, .inl (fun _ => 0))), (q_8, .inl (cI, 10, .inl (fun _ => 0))), (q_9, .inl (cI, 10, .inl (fun _ => 0))), (q_10, .inl (cI, 10, .inl (fun _ => 0))), (q_11, .inl (cI, 10, .inl (fun _ => 0)))]) H := hP
  have hD : va_D A ([(h0, .inr (2, [.int 0, .ref q_1, .ref q_2, .ref q_3, .ref q_4, .ref q_5, .ref q_6, .ref q_7, .ref q_8, .ref q_9, .ref q_10, .ref q_11, .null])), (q_1, .inl (cI, 10, .inl (fun _ => 0))), (q_2, .inl (cI, 10, .inl (fun _ => 0))), (q_3, .inl (cI, 10, .inl (fun _ => 0))), (q_4, .inl (cI, 10, .inl (fun _ => 0))), (q_5, .inl (cI, 10, .inl (fun _ => 0))), (q_6, .inl (cI, 10, .inl (fun _ => 0))), (q_7, .inl (cI, 10, .inl (fun _ => 0))), (q_8, .inl (cI, 10, .inl (fun _ => 0))), (q_9, .inl (cI, 10, .inl (fun _ => 0))), (q_10, .inl (cI, 10, .inl (fun _ => 0))), (q_11, .inl (cI, 10, .inl (fun _ => 0)))]) := hD
  refine lv_aload_n hx hb dX2_init_97 rfl (lv_at hl 0 rfl) ?_
  refine lv_bipush (v := 10) hx hb dX2_init_98 (by decide) ?_
  refine zk_newI hx hb harr hK hP hD hS hA (N' := 10) (by decide) rfl (Nat.le_of_ble_eq_true rfl) (Nat.le_of_ble_eq_true rfl) (Nat.le_of_ble_eq_true rfl) dX2_init_100 (fun q_12 H hP hD hS => ?_)
  have hP : va_P D vwCl ([(h0, .inr (2, [.int 0, .ref q_1, .ref q_2, .ref q_3, .ref q_4, .ref q_5, .ref q_6, .ref q_7, .ref q_8, .ref q_9, .ref q_10, .ref q_11, .null])), (q_1, .inl (cI, 10, .inl (fun _ => 0))), (q_2, .inl (cI, 10, .inl (fun _ => 0))), (q_3, .inl (cI, 10, .inl (fun _ => 0))), (q_4, .inl (cI, 10, .inl (fun _ => 0))), (q_5, .inl (cI, 10, .inl (fun _ => 0))), (q_6, .inl (cI, 10, .inl (fun _ => 0))), (q_7, .inl (cI, 10, .inl (fun _ => 0))), (q_8, .inl (cI, 10, .inl (fun _ => 0))), (q_9, .inl (cI, 10, .inl (fun _ => 0))), (q_10, .inl (cI, 10, .inl (fun _ => 0))), (q_11, .inl (cI, 10, .inl (fun _ => 0))), (q_12, .inl (cI, 10, .inl (fun _ => 0)))]) H := hP
  have hD : va_D A ([(h0, .inr (2, [.int 0, .ref q_1, .ref q_2, .ref q_3, .ref q_4, .ref q_5, .ref q_6, .ref q_7, .ref q_8, .ref q_9, .ref q_10, .ref q_11, .null])), (q_1, .inl (cI, 10, .inl (fun _ => 0))), (q_2, .inl (cI, 10, .inl (fun _ => 0))), (q_3, .inl (cI, 10, .inl (fun _ => 0))), (q_4, .inl (cI, 10, .inl (fun _ => 0))), (q_5, .inl (cI, 10, .inl (fun _ => 0))), (q_6, .inl (cI, 10, .inl (fun _ => 0))), (q_7, .inl (cI, 10, .inl (fun _ => 0))), (q_8, .inl (cI, 10, .inl (fun _ => 0))), (q_9, .inl (cI, 10, .inl (fun _ => 0))), (q_10, .inl (cI, 10, .inl (fun _ => 0))), (q_11, .inl (cI, 10, .inl (fun _ => 0))), (q_12, .inl (cI, 10, .inl (fun _ => 0)))]) := hD
  refine W.widen (k := 12) (n := 120) (Nat.le_of_ble_eq_true rfl) (Nat.le_of_ble_eq_true rfl) ?_
  refine va_putF (D := D) (ci := 2) (v := .ref q_12) (ty := .array .int) (C := RX2) (T := TX2) (N := 13) hx hb hts hinX2 tyX2 tyX2_ok nmX2 hown hK hP hD hS 0 rfl rfl 12 (by decide) hf47 (fun _ h9 => h9) rfl hin rfl (by decide +kernel) rfl rfl (Nat.le_of_ble_eq_true rfl) dX2_init_102 (fun H locs hP hD hS => ?_)
  have hP : va_P D vwCl ([(h0, .inr (2, [.int 0, .ref q_1, .ref q_2, .ref q_3, .ref q_4, .ref q_5, .ref q_6, .ref q_7, .ref q_8, .ref q_9, .ref q_10, .ref q_11, .ref q_12])), (q_1, .inl (cI, 10, .inl (fun _ => 0))), (q_2, .inl (cI, 10, .inl (fun _ => 0))), (q_3, .inl (cI, 10, .inl (fun _ => 0))), (q_4, .inl (cI, 10, .inl (fun _ => 0))), (q_5, .inl (cI, 10, .inl (fun _ => 0))), (q_6, .inl (cI, 10, .inl (fun _ => 0))), (q_7, .inl (cI, 10, .inl (fun _ => 0))), (q_8, .inl (cI, 10, .inl (fun _ => 0))), (q_9, .inl (cI, 10, .inl (fun _ => 0))), (q_10, .inl (cI, 10, .inl (fun _ => 0))), (q_11, .inl (cI, 10, .inl (fun _ => 0))), (q_12, .inl (cI, 10, .inl (fun _ => 0)))]) H := hP
  have hD : va_D A ([(h0, .inr (2, [.int 0, .ref q_1, .ref q_2, .ref q_3, .ref q_4, .ref q_5, .ref q_6, .ref q_7, .ref q_8, .ref q_9, .ref q_10, .ref q_11, .ref q_12])), (q_1, .inl (cI, 10, .inl (fun _ => 0))), (q_2, .inl (cI, 10, .inl (fun _ => 0))), (q_3, .inl (cI, 10, .inl (fun _ => 0))), (q_4, .inl (cI, 10, .inl (fun _ => 0))), (q_5, .inl (cI, 10, .inl (fun _ => 0))), (q_6, .inl (cI, 10, .inl (fun _ => 0))), (q_7, .inl (cI, 10, .inl (fun _ => 0))), (q_8, .inl (cI, 10, .inl (fun _ => 0))), (q_9, .inl (cI, 10, .inl (fun _ => 0))), (q_10, .inl (cI, 10, .inl (fun _ => 0))), (q_11, .inl (cI, 10, .inl (fun _ => 0))), (q_12, .inl (cI, 10, .inl (fun _ => 0)))]) := hD
  have hP9 : va_P D vwCl (zw_S cI (fun k => if k = 8 then q_1 else if k = 9 then q_2 else if k = 10 then q_3 else if k = 11 then q_4 else if k = 12 then q_5 else if k = 13 then q_6 else if k = 14 then q_7 else if k = 15 then q_8 else if k = 16 then q_9 else if k = 17 then q_10 else if k = 18 then q_11 else if k = 19 then q_12 else h0)) H := hP
  have hD9 : va_D A (zw_S cI (fun k => if k = 8 then q_1 else if k = 9 then q_2 else if k = 10 then q_3 else if k = 11 then q_4 else if k = 12 then q_5 else if k = 13 then q_6 else if k = 14 then q_7 else if k = 15 then q_8 else if k = 16 then q_9 else if k = 17 then q_10 else if k = 18 then q_11 else if k = 19 then q_12 else h0)) := hD
  refine W.widen (k := 12) (n := 120) (Nat.le_of_ble_eq_true rfl) (Nat.le_of_ble_eq_true rfl) ?_
  exact W.vret hx hb hr (fun t ht hW => ⟨⟨(fun k => if k = 8 then q_1 else if k = 9 then q_2 else if k = 10 then q_3 else if k = 11 then q_4 else if k = 12 then q_5 else if k = 13 then q_6 else if k = 14 then q_7 else if k = 15 then q_8 else if k = 16 then q_9 else if k = 17 then q_10 else if k = 18 then q_11 else if k = 19 then q_12 else h0), rfl, rfl, by rw [ht]; exact hP9, va_K.moved hW.alike hK, hD9⟩, hS.F ht⟩) hS.2.2 dX2_init_105

set_option maxHeartbeats 4000000 in
set_option maxRecDepth 100000 in
theorem c_X1_init (l : Launch) (D : va_G) (cI : ClassId) (h0 : Nat) : zMM (S := Nat → Nat) l yX1_init wsX1_init ({ frames := 2, cells := 19, slots := 169, locals := 32 }) [.ref h0] D [(cI, .int)] ([(h0, .inr (1, [.int 0, .int 0, .int 0, .null, .null]))]) (fun u => u 0 = h0) (fun u => zw_H cI u zs0) 19 169 := by
  intro sz
  refine Met.ofW (cc := cX1_init) (maxL := 1) (ret := none) (by decide) rfl ?_
  intro p e s m args below meth c s₁ B hml hv
  obtain ⟨rfl, ⟨hsz, hP, hK, hD⟩, hL⟩ := hv
  have hx := B.exec
  have hb := B.bytes
  have hr := B.returns
  have hts := atoms_spec (ws := wsX1_init) B.pre
  have hown : s.vm.findClass RX1 = some m.cls := findClass_of_methodNamed B.named
  have hlocks := B.notSynchronized
  have hin : meth.name = "<init>" := (name_of_methodNamed B.named B.method).1
  subst hsz
  have hD := hD.self (sz := s.heap.size)
  generalize hAe : va_A ([(h0, .inr (1, [.int 0, .int 0, .int 0, .null, .null]))]) s.heap.size = A at hD ⊢
  have hA : ∀ q : Nat, s.heap.size ≤ q → A q := fun q h => by rw [← hAe]; exact Or.inr h
  have hS : va_S A s.heap s.heap [] := va_S.rf
  have hP : va_P D vwCl ([(h0, .inr (1, [.int 0, .int 0, .int 0, .null, .null]))]) s.heap := hP
  have hl := lv_entry ([.ref h0]) (n := 1) (Nat.le_of_ble_eq_true rfl)
  rw [lg_entry_eq]
  generalize (lg_sl ([.ref h0]) ++ List.replicate (1 - (lg_sl ([.ref h0])).length) Slot.unset).toArray = ls at hl ⊢
  have hl : lv_has ls 1 [(0, .ref h0)] := hl
  have hf13 := hts (.fieldLink RX1 13 "HotBeds$House" "bell" "I") (by decide +kernel)
  have hf16 := hts (.fieldLink RX1 16 "HotBeds$House" "pawn" "I") (by decide +kernel)
  have hf22 := hts (.fieldLink RX1 22 "HotBeds$House" "beds" "LHotBeds$Beds;") (by decide +kernel)
  have hf29 := hts (.fieldLink RX1 29 "HotBeds$House" "sailors" "LHotBeds$Sailors;") (by decide +kernel)
  have hf7 := hts (.fieldLink RX1 7 "HotBeds$House" "hour" "I") (by decide +kernel)
  have hinX0 : ∀ w ∈ u_ws RX0 TX0 6, w ∈ wsX1_init := by decide +kernel
  have hinX1 : ∀ w ∈ u_ws RX1 TX1 5, w ∈ wsX1_init := by decide +kernel
  have hinX2 : ∀ w ∈ u_ws RX2 TX2 13, w ∈ wsX1_init := by decide +kernel
  refine lv_aload_n hx hb dX1_init_0 rfl (lv_at hl 0 rfl) ?_
  refine W.objInit hx hb hown (hts (.methodLink RX1 1 objectInit) (by decide +kernel)) (hts (.instanceMethod objectInit) (by decide +kernel)) (hts _ (List.mem_of_getElem? (i := 3) rfl)) rfl (by rw [hml]; exact hl.1) rfl dX1_init_1 (Nat.le_of_ble_eq_true rfl) (Nat.le_of_ble_eq_true rfl) ?_
  refine W.eq (g2 := F0 m 4 ls []) rfl ?_
  refine lv_aload_n hx hb dX1_init_4 rfl (lv_at hl 0 rfl) ?_
  refine lv_iconst (v := 0) hx hb dX1_init_5 (by decide) ?_
  refine va_put (D := D) (ci := 1) (v := .int 0) (ty := .int) (C := RX1) (T := TX1) (N := 5) hx hb hts hinX1 tyX1 tyX1_ok nmX1 hown hK hP hD hS 0 rfl rfl 0 (by decide) hf7 (fun _ h9 => h9)  rfl (by decide +kernel) rfl rfl (Nat.le_of_ble_eq_true rfl) dX1_init_6 (fun H locs hP hD hS => ?_)
  have hP : va_P D vwCl ([(h0, .inr (1, [.int 0, .int 0, .int 0, .null, .null]))]) H := hP
  have hD : va_D A ([(h0, .inr (1, [.int 0, .int 0, .int 0, .null, .null]))]) := hD
  refine lv_aload_n hx hb dX1_init_9 rfl (lv_at hl 0 rfl) ?_
  refine lv_iconst (v := 5) hx hb dX1_init_10 (by decide) ?_
  refine va_put (D := D) (ci := 1) (v := .int 5) (ty := .int) (C := RX1) (T := TX1) (N := 5) hx hb hts hinX1 tyX1 tyX1_ok nmX1 hown hK hP hD hS 0 rfl rfl 1 (by decide) hf13 (fun _ h9 => h9)  rfl (by decide +kernel) rfl rfl (Nat.le_of_ble_eq_true rfl) dX1_init_11 (fun H locs hP hD hS => ?_)
  have hP : va_P D vwCl ([(h0, .inr (1, [.int 0, .int 5, .int 0, .null, .null]))]) H := hP
  have hD : va_D A ([(h0, .inr (1, [.int 0, .int 5, .int 0, .null, .null]))]) := hD
  refine lv_aload_n hx hb dX1_init_14 rfl (lv_at hl 0 rfl) ?_
  refine lv_bipush (v := 6) hx hb dX1_init_15 (by decide) ?_
  refine va_put (D := D) (ci := 1) (v := .int 6) (ty := .int) (C := RX1) (T := TX1) (N := 5) hx hb hts hinX1 tyX1 tyX1_ok nmX1 hown hK hP hD hS 0 rfl rfl 2 (by decide) hf16 (fun _ h9 => h9)  rfl (by decide +kernel) rfl rfl (Nat.le_of_ble_eq_true rfl) dX1_init_17 (fun H locs hP hD hS => ?_)
  have hP : va_P D vwCl ([(h0, .inr (1, [.int 0, .int 5, .int 6, .null, .null]))]) H := hP
  have hD : va_D A ([(h0, .inr (1, [.int 0, .int 5, .int 6, .null, .null]))]) := hD
  refine lv_aload_n hx hb dX1_init_20 rfl (lv_at hl 0 rfl) ?_
  refine va_new (ci := 0) (fs := [.int 0, .null, .null, .null, .null, .null]) (C := RX0) (T := TX0) (N := 6) hx hb hts hinX0 tyX0 tyX0_ok hown (hts (.classLink RX1 19 RX0) (by decide +kernel)) (hts (.instantiable RX0 6) (by decide +kernel)) (hts (.initialized RX0) (by decide +kernel)) hK hP hD hS hA rfl (fun j hj => by rcases (show j = 0 ∨ j = 1 ∨ j = 2 ∨ j = 3 ∨ j = 4 ∨ j = 5 by omega) with rfl | rfl | rfl | rfl | rfl | rfl <;> rfl) (Nat.le_of_ble_eq_true rfl) (Nat.le_of_ble_eq_true rfl) dX1_init_21 (fun q_1 H hP hD hS => ?_)
  have hP : va_P D vwCl ([(h0, .inr (1, [.int 0, .int 5, .int 6, .null, .null])), (q_1, .inr (0, [.int 0, .null, .null, .null, .null, .null]))]) H := hP
  have hD : va_D A ([(h0, .inr (1, [.int 0, .int 5, .int 6, .null, .null])), (q_1, .inr (0, [.int 0, .null, .null, .null, .null, .null]))]) := hD
  refine W.widen (k := 1) (n := 6) (Nat.le_of_ble_eq_true rfl) (Nat.le_of_ble_eq_true rfl) ?_
  refine lv_dup hx hb dX1_init_24 rfl ?_
  have hPc := hP.sub (ws' := [(q_1, .inr (0, [.int 0, .null, .null, .null, .null, .null]))]) [1] rfl
  have hDc := hD.sub (ws' := [(q_1, .inr (0, [.int 0, .null, .null, .null, .null, .null]))]) [1] (by decide) rfl
  have hF := zfree hDc hS hA
  refine zk_M (va_runIN (host := RX3) (As := []) (rest := [.ref q_1, .ref h0]) ⟨hx, hb, hml, hown, hts⟩ (c_X0_init l D cI q_1 _) ⟨va_cnB 0 hts gX1_init_X0_init_n21 rfl rfl rfl (hL.2.2.1 (RX1, 21, yX0_init, RX3) (by decide +kernel)) (hts (.initialized RX0) (by decide +kernel)) zdX0_init.2 ⟨Nat.le_of_ble_eq_true rfl, Nat.le_of_ble_eq_true rfl⟩, rfl, hts (.instanceMethod yX0_init) (by decide +kernel)⟩ ⟨zblL _, zprL hK hPc hDc hL⟩ rfl rfl hl.1 rfl (lv_room (Nat.le_of_ble_eq_true rfl)) dX1_init_25 ⟨Nat.le_of_ble_eq_true rfl, Nat.le_of_ble_eq_true rfl⟩) hS hF (fun u_2 H locs hw hkp hP1 hD1 hS => ?_)
  subst hw
  obtain ⟨hP, hD⟩ := va_join (wr := [(h0, .inr (1, [.int 0, .int 5, .int 6, .null, .null]))]) hP hD [1] [0] rfl rfl (by decide) (by decide) hkp hF hP1 hD1
  have hP : va_P D vwCl ([(h0, .inr (1, [.int 0, .int 5, .int 6, .null, .null])), (u_2 1, .inr (0, [.int 0, .ref (u_2 3), .ref (u_2 4), .ref (u_2 5), .ref (u_2 6), .ref (u_2 7)])), (u_2 3, .inl (cI, 6, .inl (fun _ => 0))), (u_2 4, .inl (cI, 6, .inl (fun _ => 0))), (u_2 5, .inl (cI, 6, .inl (fun _ => 0))), (u_2 6, .inl (cI, 6, .inl (fun _ => 0))), (u_2 7, .inl (cI, 6, .inl (fun _ => 0)))]) H := hP
  have hD : va_D A ([(h0, .inr (1, [.int 0, .int 5, .int 6, .null, .null])), (u_2 1, .inr (0, [.int 0, .ref (u_2 3), .ref (u_2 4), .ref (u_2 5), .ref (u_2 6), .ref (u_2 7)])), (u_2 3, .inl (cI, 6, .inl (fun _ => 0))), (u_2 4, .inl (cI, 6, .inl (fun _ => 0))), (u_2 5, .inl (cI, 6, .inl (fun _ => 0))), (u_2 6, .inl (cI, 6, .inl (fun _ => 0))), (u_2 7, .inl (cI, 6, .inl (fun _ => 0)))]) := hD
  refine W.widen (k := 6) (n := 36) (Nat.le_of_ble_eq_true rfl) (Nat.le_of_ble_eq_true rfl) ?_
  refine va_putF (D := D) (ci := 1) (v := .ref (u_2 1)) (ty := .object "HotBeds$Beds") (C := RX1) (T := TX1) (N := 5) hx hb hts hinX1 tyX1 tyX1_ok nmX1 hown hK hP hD hS 0 rfl rfl 3 (by decide) hf22 (fun _ h9 => h9) rfl hin rfl (by decide +kernel) rfl rfl (Nat.le_of_ble_eq_true rfl) dX1_init_28 (fun H locs hP hD hS => ?_)
  have hP : va_P D vwCl ([(h0, .inr (1, [.int 0, .int 5, .int 6, .ref (u_2 1), .null])), (u_2 1, .inr (0, [.int 0, .ref (u_2 3), .ref (u_2 4), .ref (u_2 5), .ref (u_2 6), .ref (u_2 7)])), (u_2 3, .inl (cI, 6, .inl (fun _ => 0))), (u_2 4, .inl (cI, 6, .inl (fun _ => 0))), (u_2 5, .inl (cI, 6, .inl (fun _ => 0))), (u_2 6, .inl (cI, 6, .inl (fun _ => 0))), (u_2 7, .inl (cI, 6, .inl (fun _ => 0)))]) H := hP
  have hD : va_D A ([(h0, .inr (1, [.int 0, .int 5, .int 6, .ref (u_2 1), .null])), (u_2 1, .inr (0, [.int 0, .ref (u_2 3), .ref (u_2 4), .ref (u_2 5), .ref (u_2 6), .ref (u_2 7)])), (u_2 3, .inl (cI, 6, .inl (fun _ => 0))), (u_2 4, .inl (cI, 6, .inl (fun _ => 0))), (u_2 5, .inl (cI, 6, .inl (fun _ => 0))), (u_2 6, .inl (cI, 6, .inl (fun _ => 0))), (u_2 7, .inl (cI, 6, .inl (fun _ => 0)))]) := hD
  refine lv_aload_n hx hb dX1_init_31 rfl (lv_at hl 0 rfl) ?_
  refine va_new (ci := 2) (fs := [.int 0, .null, .null, .null, .null, .null, .null, .null, .null, .null, .null, .null, .null]) (C := RX2) (T := TX2) (N := 13) hx hb hts hinX2 tyX2 tyX2_ok hown (hts (.classLink RX1 26 RX2) (by decide +kernel)) (hts (.instantiable RX2 13) (by decide +kernel)) (hts (.initialized RX2) (by decide +kernel)) hK hP hD hS hA rfl (fun j hj => by rcases (show j = 0 ∨ j = 1 ∨ j = 2 ∨ j = 3 ∨ j = 4 ∨ j = 5 ∨ j = 6 ∨ j = 7 ∨ j = 8 ∨ j = 9 ∨ j = 10 ∨ j = 11 ∨ j = 12 by omega) with rfl | rfl | rfl | rfl | rfl | rfl | rfl | rfl | rfl | rfl | rfl | rfl | rfl <;> rfl) (Nat.le_of_ble_eq_true rfl) (Nat.le_of_ble_eq_true rfl) dX1_init_32 (fun q_3 H hP hD hS => ?_)
  have hP : va_P D vwCl ([(h0, .inr (1, [.int 0, .int 5, .int 6, .ref (u_2 1), .null])), (u_2 1, .inr (0, [.int 0, .ref (u_2 3), .ref (u_2 4), .ref (u_2 5), .ref (u_2 6), .ref (u_2 7)])), (u_2 3, .inl (cI, 6, .inl (fun _ => 0))), (u_2 4, .inl (cI, 6, .inl (fun _ => 0))), (u_2 5, .inl (cI, 6, .inl (fun _ => 0))), (u_2 6, .inl (cI, 6, .inl (fun _ => 0))), (u_2 7, .inl (cI, 6, .inl (fun _ => 0))), (q_3, .inr (2, [.int 0, .null, .null, .null, .null, .null, .null, .null, .null, .null, .null, .null, .null]))]) H := hP
  have hD : va_D A ([(h0, .inr (1, [.int 0, .int 5, .int 6, .ref (u_2 1), .null])), (u_2 1, .inr (0, [.int 0, .ref (u_2 3), .ref (u_2 4), .ref (u_2 5), .ref (u_2 6), .ref (u_2 7)])), (u_2 3, .inl (cI, 6, .inl (fun _ => 0))), (u_2 4, .inl (cI, 6, .inl (fun _ => 0))), (u_2 5, .inl (cI, 6, .inl (fun _ => 0))), (u_2 6, .inl (cI, 6, .inl (fun _ => 0))), (u_2 7, .inl (cI, 6, .inl (fun _ => 0))), (q_3, .inr (2, [.int 0, .null, .null, .null, .null, .null, .null, .null, .null, .null, .null, .null, .null]))]) := hD
  refine W.widen (k := 7) (n := 49) (Nat.le_of_ble_eq_true rfl) (Nat.le_of_ble_eq_true rfl) ?_
  refine lv_dup hx hb dX1_init_35 rfl ?_
  have hPc := hP.sub (ws' := [(q_3, .inr (2, [.int 0, .null, .null, .null, .null, .null, .null, .null, .null, .null, .null, .null, .null]))]) [7] rfl
  have hDc := hD.sub (ws' := [(q_3, .inr (2, [.int 0, .null, .null, .null, .null, .null, .null, .null, .null, .null, .null, .null, .null]))]) [7] (by decide) rfl
  have hF := zfree hDc hS hA
  refine zk_M (va_runIN (host := RX3) (As := []) (rest := [.ref q_3, .ref h0]) ⟨hx, hb, hml, hown, hts⟩ (c_X2_init l D cI q_3 _) ⟨va_cnB 0 hts gX1_init_X2_init_n28 rfl rfl rfl (hL.2.2.1 (RX1, 28, yX2_init, RX3) (by decide +kernel)) (hts (.initialized RX2) (by decide +kernel)) zdX2_init.2 ⟨Nat.le_of_ble_eq_true rfl, Nat.le_of_ble_eq_true rfl⟩, rfl, hts (.instanceMethod yX2_init) (by decide +kernel)⟩ ⟨zblL _, zprL hK hPc hDc hL⟩ rfl rfl hl.1 rfl (lv_room (Nat.le_of_ble_eq_true rfl)) dX1_init_36 ⟨Nat.le_of_ble_eq_true rfl, Nat.le_of_ble_eq_true rfl⟩) hS hF (fun u_4 H locs hw hkp hP1 hD1 hS => ?_)
  subst hw
  obtain ⟨hP, hD⟩ := va_join (wr := [(h0, .inr (1, [.int 0, .int 5, .int 6, .ref (u_2 1), .null])), (u_2 1, .inr (0, [.int 0, .ref (u_2 3), .ref (u_2 4), .ref (u_2 5), .ref (u_2 6), .ref (u_2 7)])), (u_2 3, .inl (cI, 6, .inl (fun _ => 0))), (u_2 4, .inl (cI, 6, .inl (fun _ => 0))), (u_2 5, .inl (cI, 6, .inl (fun _ => 0))), (u_2 6, .inl (cI, 6, .inl (fun _ => 0))), (u_2 7, .inl (cI, 6, .inl (fun _ => 0)))]) hP hD [7] [0, 1, 2, 3, 4, 5, 6] rfl rfl (by decide) (by decide) hkp hF hP1 hD1
  have hP : va_P D vwCl ([(h0, .inr (1, [.int 0, .int 5, .int 6, .ref (u_2 1), .null])), (u_2 1, .inr (0, [.int 0, .ref (u_2 3), .ref (u_2 4), .ref (u_2 5), .ref (u_2 6), .ref (u_2 7)])), (u_2 3, .inl (cI, 6, .inl (fun _ => 0))), (u_2 4, .inl (cI, 6, .inl (fun _ => 0))), (u_2 5, .inl (cI, 6, .inl (fun _ => 0))), (u_2 6, .inl (cI, 6, .inl (fun _ => 0))), (u_2 7, .inl (cI, 6, .inl (fun _ => 0))), (u_4 2, .inr (2, [.int 0, .ref (u_4 8), .ref (u_4 9), .ref (u_4 10), .ref (u_4 11), .ref (u_4 12), .ref (u_4 13), .ref (u_4 14), .ref (u_4 15), .ref (u_4 16), .ref (u_4 17), .ref (u_4 18), .ref (u_4 19)])), (u_4 8, .inl (cI, 10, .inl (fun _ => 0))), (u_4 9, .inl (cI, 10, .inl (fun _ => 0))), (u_4 10, .inl (cI, 10, .inl (fun _ => 0))), (u_4 11, .inl (cI, 10, .inl (fun _ => 0))), (u_4 12, .inl (cI, 10, .inl (fun _ => 0))), (u_4 13, .inl (cI, 10, .inl (fun _ => 0))), (u_4 14, .inl (cI, 10, .inl (fun _ => 0))), (u_4 15, .inl (cI, 10, .inl (fun _ => 0))), (u_4 16, .inl (cI, 10, .inl (fun _ => 0))), (u_4 17, .inl (cI, 10, .inl (fun _ => 0))), (u_4 18, .inl (cI, 10, .inl (fun _ => 0))), (u_4 19, .inl (cI, 10, .inl (fun _ => 0)))]) H := hP
  have hD : va_D A ([(h0, .inr (1, [.int 0, .int 5, .int 6, .ref (u_2 1), .null])), (u_2 1, .inr (0, [.int 0, .ref (u_2 3), .ref (u_2 4), .ref (u_2 5), .ref (u_2 6), .ref (u_2 7)])), (u_2 3, .inl (cI, 6, .inl (fun _ => 0))), (u_2 4, .inl (cI, 6, .inl (fun _ => 0))), (u_2 5, .inl (cI, 6, .inl (fun _ => 0))), (u_2 6, .inl (cI, 6, .inl (fun _ => 0))), (u_2 7, .inl (cI, 6, .inl (fun _ => 0))), (u_4 2, .inr (2, [.int 0, .ref (u_4 8), .ref (u_4 9), .ref (u_4 10), .ref (u_4 11), .ref (u_4 12), .ref (u_4 13), .ref (u_4 14), .ref (u_4 15), .ref (u_4 16), .ref (u_4 17), .ref (u_4 18), .ref (u_4 19)])), (u_4 8, .inl (cI, 10, .inl (fun _ => 0))), (u_4 9, .inl (cI, 10, .inl (fun _ => 0))), (u_4 10, .inl (cI, 10, .inl (fun _ => 0))), (u_4 11, .inl (cI, 10, .inl (fun _ => 0))), (u_4 12, .inl (cI, 10, .inl (fun _ => 0))), (u_4 13, .inl (cI, 10, .inl (fun _ => 0))), (u_4 14, .inl (cI, 10, .inl (fun _ => 0))), (u_4 15, .inl (cI, 10, .inl (fun _ => 0))), (u_4 16, .inl (cI, 10, .inl (fun _ => 0))), (u_4 17, .inl (cI, 10, .inl (fun _ => 0))), (u_4 18, .inl (cI, 10, .inl (fun _ => 0))), (u_4 19, .inl (cI, 10, .inl (fun _ => 0)))]) := hD
  refine W.widen (k := 19) (n := 169) (Nat.le_of_ble_eq_true rfl) (Nat.le_of_ble_eq_true rfl) ?_
  refine va_putF (D := D) (ci := 1) (v := .ref (u_4 2)) (ty := .object "HotBeds$Sailors") (C := RX1) (T := TX1) (N := 5) hx hb hts hinX1 tyX1 tyX1_ok nmX1 hown hK hP hD hS 0 rfl rfl 4 (by decide) hf29 (fun _ h9 => h9) rfl hin rfl (by decide +kernel) rfl rfl (Nat.le_of_ble_eq_true rfl) dX1_init_39 (fun H locs hP hD hS => ?_)
  have hP : va_P D vwCl ([(h0, .inr (1, [.int 0, .int 5, .int 6, .ref (u_2 1), .ref (u_4 2)])), (u_2 1, .inr (0, [.int 0, .ref (u_2 3), .ref (u_2 4), .ref (u_2 5), .ref (u_2 6), .ref (u_2 7)])), (u_2 3, .inl (cI, 6, .inl (fun _ => 0))), (u_2 4, .inl (cI, 6, .inl (fun _ => 0))), (u_2 5, .inl (cI, 6, .inl (fun _ => 0))), (u_2 6, .inl (cI, 6, .inl (fun _ => 0))), (u_2 7, .inl (cI, 6, .inl (fun _ => 0))), (u_4 2, .inr (2, [.int 0, .ref (u_4 8), .ref (u_4 9), .ref (u_4 10), .ref (u_4 11), .ref (u_4 12), .ref (u_4 13), .ref (u_4 14), .ref (u_4 15), .ref (u_4 16), .ref (u_4 17), .ref (u_4 18), .ref (u_4 19)])), (u_4 8, .inl (cI, 10, .inl (fun _ => 0))), (u_4 9, .inl (cI, 10, .inl (fun _ => 0))), (u_4 10, .inl (cI, 10, .inl (fun _ => 0))), (u_4 11, .inl (cI, 10, .inl (fun _ => 0))), (u_4 12, .inl (cI, 10, .inl (fun _ => 0))), (u_4 13, .inl (cI, 10, .inl (fun _ => 0))), (u_4 14, .inl (cI, 10, .inl (fun _ => 0))), (u_4 15, .inl (cI, 10, .inl (fun _ => 0))), (u_4 16, .inl (cI, 10, .inl (fun _ => 0))), (u_4 17, .inl (cI, 10, .inl (fun _ => 0))), (u_4 18, .inl (cI, 10, .inl (fun _ => 0))), (u_4 19, .inl (cI, 10, .inl (fun _ => 0)))]) H := hP
  have hD : va_D A ([(h0, .inr (1, [.int 0, .int 5, .int 6, .ref (u_2 1), .ref (u_4 2)])), (u_2 1, .inr (0, [.int 0, .ref (u_2 3), .ref (u_2 4), .ref (u_2 5), .ref (u_2 6), .ref (u_2 7)])), (u_2 3, .inl (cI, 6, .inl (fun _ => 0))), (u_2 4, .inl (cI, 6, .inl (fun _ => 0))), (u_2 5, .inl (cI, 6, .inl (fun _ => 0))), (u_2 6, .inl (cI, 6, .inl (fun _ => 0))), (u_2 7, .inl (cI, 6, .inl (fun _ => 0))), (u_4 2, .inr (2, [.int 0, .ref (u_4 8), .ref (u_4 9), .ref (u_4 10), .ref (u_4 11), .ref (u_4 12), .ref (u_4 13), .ref (u_4 14), .ref (u_4 15), .ref (u_4 16), .ref (u_4 17), .ref (u_4 18), .ref (u_4 19)])), (u_4 8, .inl (cI, 10, .inl (fun _ => 0))), (u_4 9, .inl (cI, 10, .inl (fun _ => 0))), (u_4 10, .inl (cI, 10, .inl (fun _ => 0))), (u_4 11, .inl (cI, 10, .inl (fun _ => 0))), (u_4 12, .inl (cI, 10, .inl (fun _ => 0))), (u_4 13, .inl (cI, 10, .inl (fun _ => 0))), (u_4 14, .inl (cI, 10, .inl (fun _ => 0))), (u_4 15, .inl (cI, 10, .inl (fun _ => 0))), (u_4 16, .inl (cI, 10, .inl (fun _ => 0))), (u_4 17, .inl (cI, 10, .inl (fun _ => 0))), (u_4 18, .inl (cI, 10, .inl (fun _ => 0))), (u_4 19, .inl (cI, 10, .inl (fun _ => 0)))]) := hD
  have hP9 : va_P D vwCl (zw_H cI (fun k => if k = 0 then h0 else if k = 2 ∨ 8 ≤ k then u_4 k else u_2 k) zs0) H := hP.sub [0, 1, 7, 2, 3, 4, 5, 6, 8, 9, 10, 11, 12, 13, 14, 15, 16, 17, 18, 19] rfl
  have hD9 : va_D A (zw_H cI (fun k => if k = 0 then h0 else if k = 2 ∨ 8 ≤ k then u_4 k else u_2 k) zs0) := hD.sub [0, 1, 7, 2, 3, 4, 5, 6, 8, 9, 10, 11, 12, 13, 14, 15, 16, 17, 18, 19] (by decide) rfl
  refine W.widen (k := 19) (n := 169) (Nat.le_of_ble_eq_true rfl) (Nat.le_of_ble_eq_true rfl) ?_
  exact W.vret hx hb hr (fun t ht hW => ⟨⟨(fun k => if k = 0 then h0 else if k = 2 ∨ 8 ≤ k then u_4 k else u_2 k), rfl, rfl, by rw [ht]; exact hP9, va_K.moved hW.alike hK, hD9⟩, hS.F ht⟩) hS.2.2 dX1_init_42

set_option maxHeartbeats 4000000 in
set_option maxRecDepth 100000 in
theorem c_X3_init (l : Launch) (D : va_G) (cI : ClassId) (h0 : Nat) : zMM (S := (Nat → Nat) × (Nat → Nat)) l yX3_init wsX3_init ({ frames := 3, cells := 40, slots := 348, locals := 52 }) [.ref h0] D [(cI, .int)] ([(h0, .inr (3, [.null, .null]))]) (fun _ => True) (fun u => zw_X cI h0 u.1 u.2 zs0 zs0) 40 348 := by
  intro sz
  refine Met.ofW (cc := cX3_init) (maxL := 1) (ret := none) (by decide) rfl ?_
  intro p e s m args below meth c s₁ B hml hv
  obtain ⟨rfl, ⟨hsz, hP, hK, hD⟩, hL⟩ := hv
  have hx := B.exec
  have hb := B.bytes
  have hr := B.returns
  have hts := atoms_spec (ws := wsX3_init) B.pre
  have hown : s.vm.findClass RX3 = some m.cls := findClass_of_methodNamed B.named
  have hlocks := B.notSynchronized
  have hin : meth.name = "<init>" := (name_of_methodNamed B.named B.method).1
  subst hsz
  have hD := hD.self (sz := s.heap.size)
  generalize hAe : va_A ([(h0, .inr (3, [.null, .null]))]) s.heap.size = A at hD ⊢
  have hA : ∀ q : Nat, s.heap.size ≤ q → A q := fun q h => by rw [← hAe]; exact Or.inr h
  have hS : va_S A s.heap s.heap [] := va_S.rf
  have hP : va_P D vwCl ([(h0, .inr (3, [.null, .null]))]) s.heap := hP
  have hl := lv_entry ([.ref h0]) (n := 1) (Nat.le_of_ble_eq_true rfl)
  rw [lg_entry_eq]
  generalize (lg_sl ([.ref h0]) ++ List.replicate (1 - (lg_sl ([.ref h0])).length) Slot.unset).toArray = ls at hl ⊢
  have hl : lv_has ls 1 [(0, .ref h0)] := hl
  have hf10 := hts (.fieldLink RX3 10 "HotBeds" "house" "LHotBeds$House;") (by decide +kernel)
  have hf16 := hts (.fieldLink RX3 16 "HotBeds" "trial" "LHotBeds$House;") (by decide +kernel)
  have hinX1 : ∀ w ∈ u_ws RX1 TX1 5, w ∈ wsX3_init := by decide +kernel
  have hinX3 : ∀ w ∈ u_ws RX3 TX3 2, w ∈ wsX3_init := by decide +kernel
  refine lv_aload_n hx hb dX3_init_0 rfl (lv_at hl 0 rfl) ?_
  refine W.objInit hx hb hown (hts (.methodLink RX3 1 objectInit) (by decide +kernel)) (hts (.instanceMethod objectInit) (by decide +kernel)) (hts _ (List.mem_of_getElem? (i := 3) rfl)) rfl (by rw [hml]; exact hl.1) rfl dX3_init_1 (Nat.le_of_ble_eq_true rfl) (Nat.le_of_ble_eq_true rfl) ?_
  refine W.eq (g2 := F0 m 4 ls []) rfl ?_
  refine lv_aload_n hx hb dX3_init_4 rfl (lv_at hl 0 rfl) ?_
  refine va_new (ci := 1) (fs := [.int 0, .int 0, .int 0, .null, .null]) (C := RX1) (T := TX1) (N := 5) hx hb hts hinX1 tyX1 tyX1_ok hown (hts (.classLink RX3 7 RX1) (by decide +kernel)) (hts (.instantiable RX1 5) (by decide +kernel)) (hts (.initialized RX1) (by decide +kernel)) hK hP hD hS hA rfl (fun j hj => by rcases (show j = 0 ∨ j = 1 ∨ j = 2 ∨ j = 3 ∨ j = 4 by omega) with rfl | rfl | rfl | rfl | rfl <;> rfl) (Nat.le_of_ble_eq_true rfl) (Nat.le_of_ble_eq_true rfl) dX3_init_5 (fun q_1 H hP hD hS => ?_)
  have hP : va_P D vwCl ([(h0, .inr (3, [.null, .null])), (q_1, .inr (1, [.int 0, .int 0, .int 0, .null, .null]))]) H := hP
  have hD : va_D A ([(h0, .inr (3, [.null, .null])), (q_1, .inr (1, [.int 0, .int 0, .int 0, .null, .null]))]) := hD
  refine W.widen (k := 1) (n := 5) (Nat.le_of_ble_eq_true rfl) (Nat.le_of_ble_eq_true rfl) ?_
  refine lv_dup hx hb dX3_init_8 rfl ?_
  have hPc := hP.sub (ws' := [(q_1, .inr (1, [.int 0, .int 0, .int 0, .null, .null]))]) [1] rfl
  have hDc := hD.sub (ws' := [(q_1, .inr (1, [.int 0, .int 0, .int 0, .null, .null]))]) [1] (by decide) rfl
  have hF := zfree hDc hS hA
  refine zk_M (va_runIN (host := RX3) (As := []) (rest := [.ref q_1, .ref h0]) ⟨hx, hb, hml, hown, hts⟩ (c_X1_init l D cI q_1 _) ⟨va_cnB 0 hts gX3_init_X1_init_n9 rfl rfl rfl (hL.2.2.1 (RX3, 9, yX1_init, RX3) (by decide +kernel)) (hts (.initialized RX1) (by decide +kernel)) zdX1_init.2 ⟨Nat.le_of_ble_eq_true rfl, Nat.le_of_ble_eq_true rfl⟩, rfl, hts (.instanceMethod yX1_init) (by decide +kernel)⟩ ⟨zblL _, zprL hK hPc hDc hL⟩ rfl rfl hl.1 rfl (lv_room (Nat.le_of_ble_eq_true rfl)) dX3_init_9 ⟨Nat.le_of_ble_eq_true rfl, Nat.le_of_ble_eq_true rfl⟩) hS hF (fun u_2 H locs hw hkp hP1 hD1 hS => ?_)
  subst hw
  obtain ⟨hP, hD⟩ := va_join (wr := [(h0, .inr (3, [.null, .null]))]) hP hD [1] [0] rfl rfl (by decide) (by decide) hkp hF hP1 hD1
  have hP : va_P D vwCl ([(h0, .inr (3, [.null, .null])), (u_2 0, .inr (1, [.int (zs0 0 0), .int (zs0 0 1), .int (zs0 0 2), .ref (u_2 1), .ref (u_2 2)])), (u_2 1, .inr (0, [.int (zs0 0 3), .ref (u_2 3), .ref (u_2 4), .ref (u_2 5), .ref (u_2 6), .ref (u_2 7)])), (u_2 2, .inr (2, [.int (zs0 0 4), .ref (u_2 8), .ref (u_2 9), .ref (u_2 10), .ref (u_2 11), .ref (u_2 12), .ref (u_2 13), .ref (u_2 14), .ref (u_2 15), .ref (u_2 16), .ref (u_2 17), .ref (u_2 18), .ref (u_2 19)])), (u_2 3, .inl (cI, 6, .inl (zs0 1))), (u_2 4, .inl (cI, 6, .inl (zs0 2))), (u_2 5, .inl (cI, 6, .inl (zs0 3))), (u_2 6, .inl (cI, 6, .inl (zs0 4))), (u_2 7, .inl (cI, 6, .inl (zs0 5))), (u_2 8, .inl (cI, 10, .inl (zs0 6))), (u_2 9, .inl (cI, 10, .inl (zs0 7))), (u_2 10, .inl (cI, 10, .inl (zs0 8))), (u_2 11, .inl (cI, 10, .inl (zs0 9))), (u_2 12, .inl (cI, 10, .inl (zs0 10))), (u_2 13, .inl (cI, 10, .inl (zs0 11))), (u_2 14, .inl (cI, 10, .inl (zs0 12))), (u_2 15, .inl (cI, 10, .inl (zs0 13))), (u_2 16, .inl (cI, 10, .inl (zs0 14))), (u_2 17, .inl (cI, 10, .inl (zs0 15))), (u_2 18, .inl (cI, 10, .inl (zs0 16))), (u_2 19, .inl (cI, 10, .inl (zs0 17)))]) H := hP
  have hD : va_D A ([(h0, .inr (3, [.null, .null])), (u_2 0, .inr (1, [.int (zs0 0 0), .int (zs0 0 1), .int (zs0 0 2), .ref (u_2 1), .ref (u_2 2)])), (u_2 1, .inr (0, [.int (zs0 0 3), .ref (u_2 3), .ref (u_2 4), .ref (u_2 5), .ref (u_2 6), .ref (u_2 7)])), (u_2 2, .inr (2, [.int (zs0 0 4), .ref (u_2 8), .ref (u_2 9), .ref (u_2 10), .ref (u_2 11), .ref (u_2 12), .ref (u_2 13), .ref (u_2 14), .ref (u_2 15), .ref (u_2 16), .ref (u_2 17), .ref (u_2 18), .ref (u_2 19)])), (u_2 3, .inl (cI, 6, .inl (zs0 1))), (u_2 4, .inl (cI, 6, .inl (zs0 2))), (u_2 5, .inl (cI, 6, .inl (zs0 3))), (u_2 6, .inl (cI, 6, .inl (zs0 4))), (u_2 7, .inl (cI, 6, .inl (zs0 5))), (u_2 8, .inl (cI, 10, .inl (zs0 6))), (u_2 9, .inl (cI, 10, .inl (zs0 7))), (u_2 10, .inl (cI, 10, .inl (zs0 8))), (u_2 11, .inl (cI, 10, .inl (zs0 9))), (u_2 12, .inl (cI, 10, .inl (zs0 10))), (u_2 13, .inl (cI, 10, .inl (zs0 11))), (u_2 14, .inl (cI, 10, .inl (zs0 12))), (u_2 15, .inl (cI, 10, .inl (zs0 13))), (u_2 16, .inl (cI, 10, .inl (zs0 14))), (u_2 17, .inl (cI, 10, .inl (zs0 15))), (u_2 18, .inl (cI, 10, .inl (zs0 16))), (u_2 19, .inl (cI, 10, .inl (zs0 17)))]) := hD
  refine W.widen (k := 20) (n := 174) (Nat.le_of_ble_eq_true rfl) (Nat.le_of_ble_eq_true rfl) ?_
  refine va_putF (D := D) (ci := 3) (v := .ref (u_2 0)) (ty := .object "HotBeds$House") (C := RX3) (T := TX3) (N := 2) hx hb hts hinX3 tyX3 tyX3_ok nmX3 hown hK hP hD hS 0 rfl rfl 0 (by decide) hf10 (fun _ h9 => h9) rfl hin rfl (by decide +kernel) rfl rfl (Nat.le_of_ble_eq_true rfl) dX3_init_12 (fun H locs hP hD hS => ?_)
  have hP : va_P D vwCl ([(h0, .inr (3, [.ref (u_2 0), .null])), (u_2 0, .inr (1, [.int (zs0 0 0), .int (zs0 0 1), .int (zs0 0 2), .ref (u_2 1), .ref (u_2 2)])), (u_2 1, .inr (0, [.int (zs0 0 3), .ref (u_2 3), .ref (u_2 4), .ref (u_2 5), .ref (u_2 6), .ref (u_2 7)])), (u_2 2, .inr (2, [.int (zs0 0 4), .ref (u_2 8), .ref (u_2 9), .ref (u_2 10), .ref (u_2 11), .ref (u_2 12), .ref (u_2 13), .ref (u_2 14), .ref (u_2 15), .ref (u_2 16), .ref (u_2 17), .ref (u_2 18), .ref (u_2 19)])), (u_2 3, .inl (cI, 6, .inl (zs0 1))), (u_2 4, .inl (cI, 6, .inl (zs0 2))), (u_2 5, .inl (cI, 6, .inl (zs0 3))), (u_2 6, .inl (cI, 6, .inl (zs0 4))), (u_2 7, .inl (cI, 6, .inl (zs0 5))), (u_2 8, .inl (cI, 10, .inl (zs0 6))), (u_2 9, .inl (cI, 10, .inl (zs0 7))), (u_2 10, .inl (cI, 10, .inl (zs0 8))), (u_2 11, .inl (cI, 10, .inl (zs0 9))), (u_2 12, .inl (cI, 10, .inl (zs0 10))), (u_2 13, .inl (cI, 10, .inl (zs0 11))), (u_2 14, .inl (cI, 10, .inl (zs0 12))), (u_2 15, .inl (cI, 10, .inl (zs0 13))), (u_2 16, .inl (cI, 10, .inl (zs0 14))), (u_2 17, .inl (cI, 10, .inl (zs0 15))), (u_2 18, .inl (cI, 10, .inl (zs0 16))), (u_2 19, .inl (cI, 10, .inl (zs0 17)))]) H := hP
  have hD : va_D A ([(h0, .inr (3, [.ref (u_2 0), .null])), (u_2 0, .inr (1, [.int (zs0 0 0), .int (zs0 0 1), .int (zs0 0 2), .ref (u_2 1), .ref (u_2 2)])), (u_2 1, .inr (0, [.int (zs0 0 3), .ref (u_2 3), .ref (u_2 4), .ref (u_2 5), .ref (u_2 6), .ref (u_2 7)])), (u_2 2, .inr (2, [.int (zs0 0 4), .ref (u_2 8), .ref (u_2 9), .ref (u_2 10), .ref (u_2 11), .ref (u_2 12), .ref (u_2 13), .ref (u_2 14), .ref (u_2 15), .ref (u_2 16), .ref (u_2 17), .ref (u_2 18), .ref (u_2 19)])), (u_2 3, .inl (cI, 6, .inl (zs0 1))), (u_2 4, .inl (cI, 6, .inl (zs0 2))), (u_2 5, .inl (cI, 6, .inl (zs0 3))), (u_2 6, .inl (cI, 6, .inl (zs0 4))), (u_2 7, .inl (cI, 6, .inl (zs0 5))), (u_2 8, .inl (cI, 10, .inl (zs0 6))), (u_2 9, .inl (cI, 10, .inl (zs0 7))), (u_2 10, .inl (cI, 10, .inl (zs0 8))), (u_2 11, .inl (cI, 10, .inl (zs0 9))), (u_2 12, .inl (cI, 10, .inl (zs0 10))), (u_2 13, .inl (cI, 10, .inl (zs0 11))), (u_2 14, .inl (cI, 10, .inl (zs0 12))), (u_2 15, .inl (cI, 10, .inl (zs0 13))), (u_2 16, .inl (cI, 10, .inl (zs0 14))), (u_2 17, .inl (cI, 10, .inl (zs0 15))), (u_2 18, .inl (cI, 10, .inl (zs0 16))), (u_2 19, .inl (cI, 10, .inl (zs0 17)))]) := hD
  refine lv_aload_n hx hb dX3_init_15 rfl (lv_at hl 0 rfl) ?_
  refine va_new (ci := 1) (fs := [.int 0, .int 0, .int 0, .null, .null]) (C := RX1) (T := TX1) (N := 5) hx hb hts hinX1 tyX1 tyX1_ok hown (hts (.classLink RX3 7 RX1) (by decide +kernel)) (hts (.instantiable RX1 5) (by decide +kernel)) (hts (.initialized RX1) (by decide +kernel)) hK hP hD hS hA rfl (fun j hj => by rcases (show j = 0 ∨ j = 1 ∨ j = 2 ∨ j = 3 ∨ j = 4 by omega) with rfl | rfl | rfl | rfl | rfl <;> rfl) (Nat.le_of_ble_eq_true rfl) (Nat.le_of_ble_eq_true rfl) dX3_init_16 (fun q_3 H hP hD hS => ?_)
  have hP : va_P D vwCl ([(h0, .inr (3, [.ref (u_2 0), .null])), (u_2 0, .inr (1, [.int (zs0 0 0), .int (zs0 0 1), .int (zs0 0 2), .ref (u_2 1), .ref (u_2 2)])), (u_2 1, .inr (0, [.int (zs0 0 3), .ref (u_2 3), .ref (u_2 4), .ref (u_2 5), .ref (u_2 6), .ref (u_2 7)])), (u_2 2, .inr (2, [.int (zs0 0 4), .ref (u_2 8), .ref (u_2 9), .ref (u_2 10), .ref (u_2 11), .ref (u_2 12), .ref (u_2 13), .ref (u_2 14), .ref (u_2 15), .ref (u_2 16), .ref (u_2 17), .ref (u_2 18), .ref (u_2 19)])), (u_2 3, .inl (cI, 6, .inl (zs0 1))), (u_2 4, .inl (cI, 6, .inl (zs0 2))), (u_2 5, .inl (cI, 6, .inl (zs0 3))), (u_2 6, .inl (cI, 6, .inl (zs0 4))), (u_2 7, .inl (cI, 6, .inl (zs0 5))), (u_2 8, .inl (cI, 10, .inl (zs0 6))), (u_2 9, .inl (cI, 10, .inl (zs0 7))), (u_2 10, .inl (cI, 10, .inl (zs0 8))), (u_2 11, .inl (cI, 10, .inl (zs0 9))), (u_2 12, .inl (cI, 10, .inl (zs0 10))), (u_2 13, .inl (cI, 10, .inl (zs0 11))), (u_2 14, .inl (cI, 10, .inl (zs0 12))), (u_2 15, .inl (cI, 10, .inl (zs0 13))), (u_2 16, .inl (cI, 10, .inl (zs0 14))), (u_2 17, .inl (cI, 10, .inl (zs0 15))), (u_2 18, .inl (cI, 10, .inl (zs0 16))), (u_2 19, .inl (cI, 10, .inl (zs0 17))), (q_3, .inr (1, [.int 0, .int 0, .int 0, .null, .null]))]) H := hP
  have hD : va_D A ([(h0, .inr (3, [.ref (u_2 0), .null])), (u_2 0, .inr (1, [.int (zs0 0 0), .int (zs0 0 1), .int (zs0 0 2), .ref (u_2 1), .ref (u_2 2)])), (u_2 1, .inr (0, [.int (zs0 0 3), .ref (u_2 3), .ref (u_2 4), .ref (u_2 5), .ref (u_2 6), .ref (u_2 7)])), (u_2 2, .inr (2, [.int (zs0 0 4), .ref (u_2 8), .ref (u_2 9), .ref (u_2 10), .ref (u_2 11), .ref (u_2 12), .ref (u_2 13), .ref (u_2 14), .ref (u_2 15), .ref (u_2 16), .ref (u_2 17), .ref (u_2 18), .ref (u_2 19)])), (u_2 3, .inl (cI, 6, .inl (zs0 1))), (u_2 4, .inl (cI, 6, .inl (zs0 2))), (u_2 5, .inl (cI, 6, .inl (zs0 3))), (u_2 6, .inl (cI, 6, .inl (zs0 4))), (u_2 7, .inl (cI, 6, .inl (zs0 5))), (u_2 8, .inl (cI, 10, .inl (zs0 6))), (u_2 9, .inl (cI, 10, .inl (zs0 7))), (u_2 10, .inl (cI, 10, .inl (zs0 8))), (u_2 11, .inl (cI, 10, .inl (zs0 9))), (u_2 12, .inl (cI, 10, .inl (zs0 10))), (u_2 13, .inl (cI, 10, .inl (zs0 11))), (u_2 14, .inl (cI, 10, .inl (zs0 12))), (u_2 15, .inl (cI, 10, .inl (zs0 13))), (u_2 16, .inl (cI, 10, .inl (zs0 14))), (u_2 17, .inl (cI, 10, .inl (zs0 15))), (u_2 18, .inl (cI, 10, .inl (zs0 16))), (u_2 19, .inl (cI, 10, .inl (zs0 17))), (q_3, .inr (1, [.int 0, .int 0, .int 0, .null, .null]))]) := hD
  refine W.widen (k := 21) (n := 179) (Nat.le_of_ble_eq_true rfl) (Nat.le_of_ble_eq_true rfl) ?_
  refine lv_dup hx hb dX3_init_19 rfl ?_
  have hPc := hP.sub (ws' := [(q_3, .inr (1, [.int 0, .int 0, .int 0, .null, .null]))]) [21] rfl
  have hDc := hD.sub (ws' := [(q_3, .inr (1, [.int 0, .int 0, .int 0, .null, .null]))]) [21] (by decide) rfl
  have hF := zfree hDc hS hA
  refine zk_M (va_runIN (host := RX3) (As := []) (rest := [.ref q_3, .ref h0]) ⟨hx, hb, hml, hown, hts⟩ (c_X1_init l D cI q_3 _) ⟨va_cnB 0 hts gX3_init_X1_init_n9 rfl rfl rfl (hL.2.2.1 (RX3, 9, yX1_init, RX3) (by decide +kernel)) (hts (.initialized RX1) (by decide +kernel)) zdX1_init.2 ⟨Nat.le_of_ble_eq_true rfl, Nat.le_of_ble_eq_true rfl⟩, rfl, hts (.instanceMethod yX1_init) (by decide +kernel)⟩ ⟨zblL _, zprL hK hPc hDc hL⟩ rfl rfl hl.1 rfl (lv_room (Nat.le_of_ble_eq_true rfl)) dX3_init_20 ⟨Nat.le_of_ble_eq_true rfl, Nat.le_of_ble_eq_true rfl⟩) hS hF (fun u_4 H locs hw hkp hP1 hD1 hS => ?_)
  subst hw
  obtain ⟨hP, hD⟩ := va_join (wr := [(h0, .inr (3, [.ref (u_2 0), .null])), (u_2 0, .inr (1, [.int (zs0 0 0), .int (zs0 0 1), .int (zs0 0 2), .ref (u_2 1), .ref (u_2 2)])), (u_2 1, .inr (0, [.int (zs0 0 3), .ref (u_2 3), .ref (u_2 4), .ref (u_2 5), .ref (u_2 6), .ref (u_2 7)])), (u_2 2, .inr (2, [.int (zs0 0 4), .ref (u_2 8), .ref (u_2 9), .ref (u_2 10), .ref (u_2 11), .ref (u_2 12), .ref (u_2 13), .ref (u_2 14), .ref (u_2 15), .ref (u_2 16), .ref (u_2 17), .ref (u_2 18), .ref (u_2 19)])), (u_2 3, .inl (cI, 6, .inl (zs0 1))), (u_2 4, .inl (cI, 6, .inl (zs0 2))), (u_2 5, .inl (cI, 6, .inl (zs0 3))), (u_2 6, .inl (cI, 6, .inl (zs0 4))), (u_2 7, .inl (cI, 6, .inl (zs0 5))), (u_2 8, .inl (cI, 10, .inl (zs0 6))), (u_2 9, .inl (cI, 10, .inl (zs0 7))), (u_2 10, .inl (cI, 10, .inl (zs0 8))), (u_2 11, .inl (cI, 10, .inl (zs0 9))), (u_2 12, .inl (cI, 10, .inl (zs0 10))), (u_2 13, .inl (cI, 10, .inl (zs0 11))), (u_2 14, .inl (cI, 10, .inl (zs0 12))), (u_2 15, .inl (cI, 10, .inl (zs0 13))), (u_2 16, .inl (cI, 10, .inl (zs0 14))), (u_2 17, .inl (cI, 10, .inl (zs0 15))), (u_2 18, .inl (cI, 10, .inl (zs0 16))), (u_2 19, .inl (cI, 10, .inl (zs0 17)))]) hP hD [21] [0, 1, 2, 3, 4, 5, 6, 7, 8, 9, 10, 11, 12, 13, 14, 15, 16, 17, 18, 19, 20] rfl rfl (by decide) (by decide) hkp hF hP1 hD1
  have hP : va_P D vwCl ([(h0, .inr (3, [.ref (u_2 0), .null])), (u_2 0, .inr (1, [.int (zs0 0 0), .int (zs0 0 1), .int (zs0 0 2), .ref (u_2 1), .ref (u_2 2)])), (u_2 1, .inr (0, [.int (zs0 0 3), .ref (u_2 3), .ref (u_2 4), .ref (u_2 5), .ref (u_2 6), .ref (u_2 7)])), (u_2 2, .inr (2, [.int (zs0 0 4), .ref (u_2 8), .ref (u_2 9), .ref (u_2 10), .ref (u_2 11), .ref (u_2 12), .ref (u_2 13), .ref (u_2 14), .ref (u_2 15), .ref (u_2 16), .ref (u_2 17), .ref (u_2 18), .ref (u_2 19)])), (u_2 3, .inl (cI, 6, .inl (zs0 1))), (u_2 4, .inl (cI, 6, .inl (zs0 2))), (u_2 5, .inl (cI, 6, .inl (zs0 3))), (u_2 6, .inl (cI, 6, .inl (zs0 4))), (u_2 7, .inl (cI, 6, .inl (zs0 5))), (u_2 8, .inl (cI, 10, .inl (zs0 6))), (u_2 9, .inl (cI, 10, .inl (zs0 7))), (u_2 10, .inl (cI, 10, .inl (zs0 8))), (u_2 11, .inl (cI, 10, .inl (zs0 9))), (u_2 12, .inl (cI, 10, .inl (zs0 10))), (u_2 13, .inl (cI, 10, .inl (zs0 11))), (u_2 14, .inl (cI, 10, .inl (zs0 12))), (u_2 15, .inl (cI, 10, .inl (zs0 13))), (u_2 16, .inl (cI, 10, .inl (zs0 14))), (u_2 17, .inl (cI, 10, .inl (zs0 15))), (u_2 18, .inl (cI, 10, .inl (zs0 16))), (u_2 19, .inl (cI, 10, .inl (zs0 17))), (u_4 0, .inr (1, [.int (zs0 0 0), .int (zs0 0 1), .int (zs0 0 2), .ref (u_4 1), .ref (u_4 2)])), (u_4 1, .inr (0, [.int (zs0 0 3), .ref (u_4 3), .ref (u_4 4), .ref (u_4 5), .ref (u_4 6), .ref (u_4 7)])), (u_4 2, .inr (2, [.int (zs0 0 4), .ref (u_4 8), .ref (u_4 9), .ref (u_4 10), .ref (u_4 11), .ref (u_4 12), .ref (u_4 13), .ref (u_4 14), .ref (u_4 15), .ref (u_4 16), .ref (u_4 17), .ref (u_4 18), .ref (u_4 19)])), (u_4 3, .inl (cI, 6, .inl (zs0 1))), (u_4 4, .inl (cI, 6, .inl (zs0 2))), (u_4 5, .inl (cI, 6, .inl (zs0 3))), (u_4 6, .inl (cI, 6, .inl (zs0 4))), (u_4 7, .inl (cI, 6, .inl (zs0 5))), (u_4 8, .inl (cI, 10, .inl (zs0 6))), (u_4 9, .inl (cI, 10, .inl (zs0 7))), (u_4 10, .inl (cI, 10, .inl (zs0 8))), (u_4 11, .inl (cI, 10, .inl (zs0 9))), (u_4 12, .inl (cI, 10, .inl (zs0 10))), (u_4 13, .inl (cI, 10, .inl (zs0 11))), (u_4 14, .inl (cI, 10, .inl (zs0 12))), (u_4 15, .inl (cI, 10, .inl (zs0 13))), (u_4 16, .inl (cI, 10, .inl (zs0 14))), (u_4 17, .inl (cI, 10, .inl (zs0 15))), (u_4 18, .inl (cI, 10, .inl (zs0 16))), (u_4 19, .inl (cI, 10, .inl (zs0 17)))]) H := hP
  have hD : va_D A ([(h0, .inr (3, [.ref (u_2 0), .null])), (u_2 0, .inr (1, [.int (zs0 0 0), .int (zs0 0 1), .int (zs0 0 2), .ref (u_2 1), .ref (u_2 2)])), (u_2 1, .inr (0, [.int (zs0 0 3), .ref (u_2 3), .ref (u_2 4), .ref (u_2 5), .ref (u_2 6), .ref (u_2 7)])), (u_2 2, .inr (2, [.int (zs0 0 4), .ref (u_2 8), .ref (u_2 9), .ref (u_2 10), .ref (u_2 11), .ref (u_2 12), .ref (u_2 13), .ref (u_2 14), .ref (u_2 15), .ref (u_2 16), .ref (u_2 17), .ref (u_2 18), .ref (u_2 19)])), (u_2 3, .inl (cI, 6, .inl (zs0 1))), (u_2 4, .inl (cI, 6, .inl (zs0 2))), (u_2 5, .inl (cI, 6, .inl (zs0 3))), (u_2 6, .inl (cI, 6, .inl (zs0 4))), (u_2 7, .inl (cI, 6, .inl (zs0 5))), (u_2 8, .inl (cI, 10, .inl (zs0 6))), (u_2 9, .inl (cI, 10, .inl (zs0 7))), (u_2 10, .inl (cI, 10, .inl (zs0 8))), (u_2 11, .inl (cI, 10, .inl (zs0 9))), (u_2 12, .inl (cI, 10, .inl (zs0 10))), (u_2 13, .inl (cI, 10, .inl (zs0 11))), (u_2 14, .inl (cI, 10, .inl (zs0 12))), (u_2 15, .inl (cI, 10, .inl (zs0 13))), (u_2 16, .inl (cI, 10, .inl (zs0 14))), (u_2 17, .inl (cI, 10, .inl (zs0 15))), (u_2 18, .inl (cI, 10, .inl (zs0 16))), (u_2 19, .inl (cI, 10, .inl (zs0 17))), (u_4 0, .inr (1, [.int (zs0 0 0), .int (zs0 0 1), .int (zs0 0 2), .ref (u_4 1), .ref (u_4 2)])), (u_4 1, .inr (0, [.int (zs0 0 3), .ref (u_4 3), .ref (u_4 4), .ref (u_4 5), .ref (u_4 6), .ref (u_4 7)])), (u_4 2, .inr (2, [.int (zs0 0 4), .ref (u_4 8), .ref (u_4 9), .ref (u_4 10), .ref (u_4 11), .ref (u_4 12), .ref (u_4 13), .ref (u_4 14), .ref (u_4 15), .ref (u_4 16), .ref (u_4 17), .ref (u_4 18), .ref (u_4 19)])), (u_4 3, .inl (cI, 6, .inl (zs0 1))), (u_4 4, .inl (cI, 6, .inl (zs0 2))), (u_4 5, .inl (cI, 6, .inl (zs0 3))), (u_4 6, .inl (cI, 6, .inl (zs0 4))), (u_4 7, .inl (cI, 6, .inl (zs0 5))), (u_4 8, .inl (cI, 10, .inl (zs0 6))), (u_4 9, .inl (cI, 10, .inl (zs0 7))), (u_4 10, .inl (cI, 10, .inl (zs0 8))), (u_4 11, .inl (cI, 10, .inl (zs0 9))), (u_4 12, .inl (cI, 10, .inl (zs0 10))), (u_4 13, .inl (cI, 10, .inl (zs0 11))), (u_4 14, .inl (cI, 10, .inl (zs0 12))), (u_4 15, .inl (cI, 10, .inl (zs0 13))), (u_4 16, .inl (cI, 10, .inl (zs0 14))), (u_4 17, .inl (cI, 10, .inl (zs0 15))), (u_4 18, .inl (cI, 10, .inl (zs0 16))), (u_4 19, .inl (cI, 10, .inl (zs0 17)))]) := hD
  refine W.widen (k := 40) (n := 348) (Nat.le_of_ble_eq_true rfl) (Nat.le_of_ble_eq_true rfl) ?_
  refine va_putF (D := D) (ci := 3) (v := .ref (u_4 0)) (ty := .object "HotBeds$House") (C := RX3) (T := TX3) (N := 2) hx hb hts hinX3 tyX3 tyX3_ok nmX3 hown hK hP hD hS 0 rfl rfl 1 (by decide) hf16 (fun _ h9 => h9) rfl hin rfl (by decide +kernel) rfl rfl (Nat.le_of_ble_eq_true rfl) dX3_init_23 (fun H locs hP hD hS => ?_)
  have hP : va_P D vwCl ([(h0, .inr (3, [.ref (u_2 0), .ref (u_4 0)])), (u_2 0, .inr (1, [.int (zs0 0 0), .int (zs0 0 1), .int (zs0 0 2), .ref (u_2 1), .ref (u_2 2)])), (u_2 1, .inr (0, [.int (zs0 0 3), .ref (u_2 3), .ref (u_2 4), .ref (u_2 5), .ref (u_2 6), .ref (u_2 7)])), (u_2 2, .inr (2, [.int (zs0 0 4), .ref (u_2 8), .ref (u_2 9), .ref (u_2 10), .ref (u_2 11), .ref (u_2 12), .ref (u_2 13), .ref (u_2 14), .ref (u_2 15), .ref (u_2 16), .ref (u_2 17), .ref (u_2 18), .ref (u_2 19)])), (u_2 3, .inl (cI, 6, .inl (zs0 1))), (u_2 4, .inl (cI, 6, .inl (zs0 2))), (u_2 5, .inl (cI, 6, .inl (zs0 3))), (u_2 6, .inl (cI, 6, .inl (zs0 4))), (u_2 7, .inl (cI, 6, .inl (zs0 5))), (u_2 8, .inl (cI, 10, .inl (zs0 6))), (u_2 9, .inl (cI, 10, .inl (zs0 7))), (u_2 10, .inl (cI, 10, .inl (zs0 8))), (u_2 11, .inl (cI, 10, .inl (zs0 9))), (u_2 12, .inl (cI, 10, .inl (zs0 10))), (u_2 13, .inl (cI, 10, .inl (zs0 11))), (u_2 14, .inl (cI, 10, .inl (zs0 12))), (u_2 15, .inl (cI, 10, .inl (zs0 13))), (u_2 16, .inl (cI, 10, .inl (zs0 14))), (u_2 17, .inl (cI, 10, .inl (zs0 15))), (u_2 18, .inl (cI, 10, .inl (zs0 16))), (u_2 19, .inl (cI, 10, .inl (zs0 17))), (u_4 0, .inr (1, [.int (zs0 0 0), .int (zs0 0 1), .int (zs0 0 2), .ref (u_4 1), .ref (u_4 2)])), (u_4 1, .inr (0, [.int (zs0 0 3), .ref (u_4 3), .ref (u_4 4), .ref (u_4 5), .ref (u_4 6), .ref (u_4 7)])), (u_4 2, .inr (2, [.int (zs0 0 4), .ref (u_4 8), .ref (u_4 9), .ref (u_4 10), .ref (u_4 11), .ref (u_4 12), .ref (u_4 13), .ref (u_4 14), .ref (u_4 15), .ref (u_4 16), .ref (u_4 17), .ref (u_4 18), .ref (u_4 19)])), (u_4 3, .inl (cI, 6, .inl (zs0 1))), (u_4 4, .inl (cI, 6, .inl (zs0 2))), (u_4 5, .inl (cI, 6, .inl (zs0 3))), (u_4 6, .inl (cI, 6, .inl (zs0 4))), (u_4 7, .inl (cI, 6, .inl (zs0 5))), (u_4 8, .inl (cI, 10, .inl (zs0 6))), (u_4 9, .inl (cI, 10, .inl (zs0 7))), (u_4 10, .inl (cI, 10, .inl (zs0 8))), (u_4 11, .inl (cI, 10, .inl (zs0 9))), (u_4 12, .inl (cI, 10, .inl (zs0 10))), (u_4 13, .inl (cI, 10, .inl (zs0 11))), (u_4 14, .inl (cI, 10, .inl (zs0 12))), (u_4 15, .inl (cI, 10, .inl (zs0 13))), (u_4 16, .inl (cI, 10, .inl (zs0 14))), (u_4 17, .inl (cI, 10, .inl (zs0 15))), (u_4 18, .inl (cI, 10, .inl (zs0 16))), (u_4 19, .inl (cI, 10, .inl (zs0 17)))]) H := hP
  have hD : va_D A ([(h0, .inr (3, [.ref (u_2 0), .ref (u_4 0)])), (u_2 0, .inr (1, [.int (zs0 0 0), .int (zs0 0 1), .int (zs0 0 2), .ref (u_2 1), .ref (u_2 2)])), (u_2 1, .inr (0, [.int (zs0 0 3), .ref (u_2 3), .ref (u_2 4), .ref (u_2 5), .ref (u_2 6), .ref (u_2 7)])), (u_2 2, .inr (2, [.int (zs0 0 4), .ref (u_2 8), .ref (u_2 9), .ref (u_2 10), .ref (u_2 11), .ref (u_2 12), .ref (u_2 13), .ref (u_2 14), .ref (u_2 15), .ref (u_2 16), .ref (u_2 17), .ref (u_2 18), .ref (u_2 19)])), (u_2 3, .inl (cI, 6, .inl (zs0 1))), (u_2 4, .inl (cI, 6, .inl (zs0 2))), (u_2 5, .inl (cI, 6, .inl (zs0 3))), (u_2 6, .inl (cI, 6, .inl (zs0 4))), (u_2 7, .inl (cI, 6, .inl (zs0 5))), (u_2 8, .inl (cI, 10, .inl (zs0 6))), (u_2 9, .inl (cI, 10, .inl (zs0 7))), (u_2 10, .inl (cI, 10, .inl (zs0 8))), (u_2 11, .inl (cI, 10, .inl (zs0 9))), (u_2 12, .inl (cI, 10, .inl (zs0 10))), (u_2 13, .inl (cI, 10, .inl (zs0 11))), (u_2 14, .inl (cI, 10, .inl (zs0 12))), (u_2 15, .inl (cI, 10, .inl (zs0 13))), (u_2 16, .inl (cI, 10, .inl (zs0 14))), (u_2 17, .inl (cI, 10, .inl (zs0 15))), (u_2 18, .inl (cI, 10, .inl (zs0 16))), (u_2 19, .inl (cI, 10, .inl (zs0 17))), (u_4 0, .inr (1, [.int (zs0 0 0), .int (zs0 0 1), .int (zs0 0 2), .ref (u_4 1), .ref (u_4 2)])), (u_4 1, .inr (0, [.int (zs0 0 3), .ref (u_4 3), .ref (u_4 4), .ref (u_4 5), .ref (u_4 6), .ref (u_4 7)])), (u_4 2, .inr (2, [.int (zs0 0 4), .ref (u_4 8), .ref (u_4 9), .ref (u_4 10), .ref (u_4 11), .ref (u_4 12), .ref (u_4 13), .ref (u_4 14), .ref (u_4 15), .ref (u_4 16), .ref (u_4 17), .ref (u_4 18), .ref (u_4 19)])), (u_4 3, .inl (cI, 6, .inl (zs0 1))), (u_4 4, .inl (cI, 6, .inl (zs0 2))), (u_4 5, .inl (cI, 6, .inl (zs0 3))), (u_4 6, .inl (cI, 6, .inl (zs0 4))), (u_4 7, .inl (cI, 6, .inl (zs0 5))), (u_4 8, .inl (cI, 10, .inl (zs0 6))), (u_4 9, .inl (cI, 10, .inl (zs0 7))), (u_4 10, .inl (cI, 10, .inl (zs0 8))), (u_4 11, .inl (cI, 10, .inl (zs0 9))), (u_4 12, .inl (cI, 10, .inl (zs0 10))), (u_4 13, .inl (cI, 10, .inl (zs0 11))), (u_4 14, .inl (cI, 10, .inl (zs0 12))), (u_4 15, .inl (cI, 10, .inl (zs0 13))), (u_4 16, .inl (cI, 10, .inl (zs0 14))), (u_4 17, .inl (cI, 10, .inl (zs0 15))), (u_4 18, .inl (cI, 10, .inl (zs0 16))), (u_4 19, .inl (cI, 10, .inl (zs0 17)))]) := hD
  have hP9 : va_P D vwCl (zw_X cI h0 u_2 u_4 zs0 zs0) H := hP
  have hD9 : va_D A (zw_X cI h0 u_2 u_4 zs0 zs0) := hD
  refine W.widen (k := 40) (n := 348) (Nat.le_of_ble_eq_true rfl) (Nat.le_of_ble_eq_true rfl) ?_
  exact W.vret hx hb hr (fun t ht hW => ⟨⟨(u_2, u_4), rfl, trivial, by rw [ht]; exact hP9, va_K.moved hW.alike hK, hD9⟩, hS.F ht⟩) hS.2.2 dX3_init_26
end
section
/-! what a call asks of a name -/
theorem zdX0_add : yX0_add.cls = RX0 ∧ yX0_add.cls ≠ "java/lang/invoke/MethodHandle" ∧ yX0_add.cls ≠ "java/lang/invoke/VarHandle" ∧ (parseMethodDescriptor yX0_add.desc).map (fun d => d.parameters.length) = some 1 := by decide +kernel
theorem zdX1_goOn : yX1_goOn.cls = RX1 ∧ yX1_goOn.cls ≠ "java/lang/invoke/MethodHandle" ∧ yX1_goOn.cls ≠ "java/lang/invoke/VarHandle" ∧ (parseMethodDescriptor yX1_goOn.desc).map (fun d => d.parameters.length) = some 1 := by decide +kernel
theorem zdX2_add : yX2_add.cls = RX2 ∧ yX2_add.cls ≠ "java/lang/invoke/MethodHandle" ∧ yX2_add.cls ≠ "java/lang/invoke/VarHandle" ∧ (parseMethodDescriptor yX2_add.desc).map (fun d => d.parameters.length) = some 4 := by decide +kernel
theorem zdX2_allFloors : yX2_allFloors.cls = RX2 ∧ yX2_allFloors.cls ≠ "java/lang/invoke/MethodHandle" ∧ yX2_allFloors.cls ≠ "java/lang/invoke/VarHandle" ∧ (parseMethodDescriptor yX2_allFloors.desc).map (fun d => d.parameters.length) = some 0 := by decide +kernel
theorem zdX3_requireBed : yX3_requireBed.cls = RX3 ∧ yX3_requireBed.cls ≠ "java/lang/invoke/MethodHandle" ∧ yX3_requireBed.cls ≠ "java/lang/invoke/VarHandle" ∧ (parseMethodDescriptor yX3_requireBed.desc).map (fun d => d.parameters.length) = some 1 := by decide +kernel
theorem zdX3_requireHours : yX3_requireHours.cls = RX3 ∧ yX3_requireHours.cls ≠ "java/lang/invoke/MethodHandle" ∧ yX3_requireHours.cls ≠ "java/lang/invoke/VarHandle" ∧ (parseMethodDescriptor yX3_requireHours.desc).map (fun d => d.parameters.length) = some 1 := by decide +kernel
theorem zdX3_requireSailor : yX3_requireSailor.cls = RX3 ∧ yX3_requireSailor.cls ≠ "java/lang/invoke/MethodHandle" ∧ yX3_requireSailor.cls ≠ "java/lang/invoke/VarHandle" ∧ (parseMethodDescriptor yX3_requireSailor.desc).map (fun d => d.parameters.length) = some 1 := by decide +kernel
theorem zdX3_requireUp : yX3_requireUp.cls = RX3 ∧ yX3_requireUp.cls ≠ "java/lang/invoke/MethodHandle" ∧ yX3_requireUp.cls ≠ "java/lang/invoke/VarHandle" ∧ (parseMethodDescriptor yX3_requireUp.desc).map (fun d => d.parameters.length) = some 1 := by decide +kernel
theorem zdX3_requireWatch : yX3_requireWatch.cls = RX3 ∧ yX3_requireWatch.cls ≠ "java/lang/invoke/MethodHandle" ∧ yX3_requireWatch.cls ≠ "java/lang/invoke/VarHandle" ∧ (parseMethodDescriptor yX3_requireWatch.desc).map (fun d => d.parameters.length) = some 1 := by decide +kernel
end
section
theorem zP0 {D : va_G} {cl : List vw_C} {H : Heap} : va_P D cl [] H := fun k q h => by simp at h
theorem zD0 {A : Nat → Prop} : va_D A [] := ⟨fun i j p q h => by simp at h, fun k q h => by simp at h⟩
section ZXW
variable {D : va_G} {cl : List vw_C} {cI : ClassId} {x : Nat} {a b : Nat → Nat} {σ τ σ1 τ1 : zS} {H H1 : Heap} {A A0 : Nat → Prop}
theorem zxb (cI : ClassId) (x : Nat) (a b : Nat → Nat) (σ τ : zS) : zw_X cI x a b σ τ = ((x, .inr (3, [.ref (a 0), .ref (b 0)])) :: zw_H cI a σ) ++ (zw_H cI b τ ++ []) := by simp [zw_X]
theorem zxa_P (h : va_P D cl (zw_X cI x a b σ τ) H) : va_P D cl (zw_H cI a σ) H := fr_P (X := [(x, .inr (3, [.ref (a 0), .ref (b 0)]))]) (Z := zw_H cI b τ) h
theorem zxa_D (h : va_D A (zw_X cI x a b σ τ)) : va_D A (zw_H cI a σ) := fr_D (X := [(x, .inr (3, [.ref (a 0), .ref (b 0)]))]) (Z := zw_H cI b τ) h
theorem zxa_J (hP : va_P D cl (zw_X cI x a b σ τ) H) (hD : va_D A0 (zw_X cI x a b σ τ)) (hkp : ∀ q : Nat, q < H.size → ¬ va_A (zw_H cI a σ) H.size q → H1[q]? = H[q]?) (hF : ∀ q, va_A (zw_H cI a σ) H.size q → A0 q) (hP1 : va_P D cl (zw_H cI a σ1) H1) (hD1 : va_D (va_A (zw_H cI a σ) H.size) (zw_H cI a σ1)) : va_P D cl (zw_X cI x a b σ1 τ) H1 ∧ va_D A0 (zw_X cI x a b σ1 τ) :=
  fr_J (X := [(x, .inr (3, [.ref (a 0), .ref (b 0)]))]) (Z := zw_H cI b τ) hP hD hkp hF hP1 hD1
theorem zxb_P (h : va_P D cl (zw_X cI x a b σ τ) H) : va_P D cl (zw_H cI b τ) H := by rw [zxb] at h; exact fr_P h
theorem zxb_D (h : va_D A (zw_X cI x a b σ τ)) : va_D A (zw_H cI b τ) := by rw [zxb] at h; exact fr_D h
theorem zxb_J (hP : va_P D cl (zw_X cI x a b σ τ) H) (hD : va_D A0 (zw_X cI x a b σ τ)) (hkp : ∀ q : Nat, q < H.size → ¬ va_A (zw_H cI b τ) H.size q → H1[q]? = H[q]?) (hF : ∀ q, va_A (zw_H cI b τ) H.size q → A0 q) (hP1 : va_P D cl (zw_H cI b τ1) H1) (hD1 : va_D (va_A (zw_H cI b τ) H.size) (zw_H cI b τ1)) : va_P D cl (zw_X cI x a b σ τ1) H1 ∧ va_D A0 (zw_X cI x a b σ τ1) := by
  rw [zxb] at hP hD ⊢
  exact fr_J hP hD hkp hF hP1 hD1
end ZXW
/-- of one that looks ahead: the trial house is another behind it -/
abbrev zME (l : Launch) (y : MethodName) (ws : List Cond) (rm : Room) (av : List Value) (D : va_G) (tys : List (ClassId × FieldType)) (w : va_W) (w1 : zS → va_W) (post : Int32 → Prop) : Prop :=
  ∀ sz : Nat, Met l y ws rm (va_Pc av (zPL D tys w sz)) (va_Qi (fun (r : Int32) (_ : zS) => post r) (fun u t => zQW D tys (w1 u) (va_A w sz) t) (va_A w sz)) 0 0 (va_A w sz)
abbrev zMRl (l : Launch) (y : MethodName) (ws : List Cond) (rm : Room) (av : List Value) (D : va_G) (tys : List (ClassId × FieldType)) (w : va_W) (post : Int64 → Prop) : Prop :=
  ∀ sz : Nat, Met l y ws rm (va_Pc av (zPW D tys w sz)) (va_Ql (fun (r : Int64) (_ : Unit) => post r) (fun _ _ => True) (fun _ => False)) 0 0 (fun _ => False)
/-! WHAT THE FACE ANSWERS -/
abbrev f_sail (σ : zS) (v : Int32) : Prop := ¬ v < 0 ∧ v < σ 0 4
def q_row (w : Nat) : Nat := if w = 10 then 17 else w + 6
def q_cnt (σ : zS) (nb ns h w : Nat) : Int32 := if w = 0 then nI h else if w = 1 then nI nb else if w = 2 then nI ns else if w = 3 then nI (h % 24 / 8) else if w = 4 then f_many (σ 12) 1 ns else if w = 5 then f_many (σ 12) 2 ns else if w = 6 then f_sum (σ 15) ns else if w = 7 then f_sum (σ 17) ns else if w = 8 then σ 0 1 else σ 0 2
def q_find (f : Nat → Int32) (v : Int32) : Nat → Nat → Int32
  | _, 0 => -1
  | i, n + 1 => if f i = v then nI i else q_find f v (i + 1) n
def q_adv (f : Nat → Int32) : Nat → Int32 × Int32
  | 0 => (0, -1)
  | w + 1 => if f w ≤ (q_adv f w).2 then q_adv f w else (nI w, f w)
def q_unt (σ : zS) (nb ns h k i : Nat) : Int32 := f_hours σ nb ns h i 12 k
def q_qui (σ : zS) (nb ns h i : Nat) : Int32 := f_sum (f_hours (zs σ 0 1 (nI i)) nb ns h 48 15) ns
def q_wat (σ : zS) (nb ns h k w : Nat) : Int32 := f_hours (zs σ 6 k (nI w)) nb ns h 48 14 k
def q_fold (f : Nat → Int32) : Nat → Int64 → Int64
  | 0, d => d
  | n + 1, d => q_fold f n d * 31 + (f n).toInt64
def q_folds (f : Nat → Nat → Int32) (m : Nat) : Nat → Int64 → Int64
  | 0, d => d
  | n + 1, d => q_fold (f n) m (q_folds f m n d)
def q_dig (σ : zS) (nb ns h : Nat) : Int64 := q_folds (fun k w => σ (q_row w) k) 11 ns (q_folds (fun b w => σ (w + 1) b) 5 nb (q_fold (fun w => q_cnt σ nb ns h w) 10 1783))
theorem zC.bell {σ : zS} {nb ns h : Nat} (hC : zC σ nb ns h) (v : Int32) : zC (zs σ 0 1 v) nb ns h := hC
theorem zC.wat {σ : zS} {nb ns h : Nat} (hC : zC σ nb ns h) (k : Nat) {w : Nat} (hw : w < 3) : zC (zs σ 6 k (nI w)) nb ns h := ⟨hC.1, hC.2.1, hC.2.2.1, hC.2.2.2.1, hC.2.2.2.2.1, hC.2.2.2.2.2.1, fun j hj => by
  by_cases e : j = k
  · exact ⟨w, hw, by rw [e, zs_eq]⟩
  · obtain ⟨w', h1, h2⟩ := hC.2.2.2.2.2.2 j hj
    exact ⟨w', h1, by rw [zs_ne _ _ e]; exact h2⟩⟩

theorem zn_m1 {k : Nat} (hk : k < 2 ^ 31) : ¬ nI k = -1 := fun z => by
  have h := nI_pos hk
  rw [z] at h
  exact h (by decide)
theorem zhas_k {σ : zS} {nb ns h k : Nat} (hC : zC σ nb ns h) (hk : k < nb) : f_has σ (nI k) := by
  have hnb := hC.2.1
  refine ⟨nI_pos (by omega), ?_⟩
  rw [hC.1]
  exact nI_ge hk (by omega)
end
section
set_option maxHeartbeats 4000000 in
set_option maxRecDepth 100000 in
theorem c_X3_requireSailor (l : Launch) (D : va_G) (cI : ClassId) (x : Nat) (a b : Nat → Nat) (σ τ : zS) {k : Nat} {nb ns h : Nat} (hC : zC σ nb ns h) (hk : k < ns) : zMQ l yX3_requireSailor wsX3_requireSailor ({ frames := 0, cells := 0, slots := 0, locals := 0 }) [.ref x, .int (nI k)] D [(cI, .int)] (zw_X cI x a b σ (τ))  := by
  intro sz
  refine Met.ofW (cc := cX3_requireSailor) (maxL := 2) (ret := none) (by decide) rfl ?_
  intro p e s m args below meth c s₁ B hml hv
  obtain ⟨rfl, hsz, hP, hK, hD⟩ := hv
  have hx := B.exec
  have hb := B.bytes
  have hr := B.returns
  have hts := atoms_spec (ws := wsX3_requireSailor) B.pre
  have hown : s.vm.findClass RX3 = some m.cls := findClass_of_methodNamed B.named
  have hlocks := B.notSynchronized
  have hS : va_S (fun _ => False) s.heap s.heap [] := va_S.rf
  have hP : va_P D vwCl (zw_X cI x a b σ (τ)) s.heap := hP
  have hl := lv_entry ([.ref x, .int (nI k)]) (n := 2) (Nat.le_of_ble_eq_true rfl)
  rw [lg_entry_eq]
  generalize (lg_sl ([.ref x, .int (nI k)]) ++ List.replicate (2 - (lg_sl ([.ref x, .int (nI k)])).length) Slot.unset).toArray = ls at hl ⊢
  have hl : lv_has ls 2 [(0, .ref x), (1, .int (nI k))] := hl
  have hf10 := hts (.fieldLink RX3 10 "HotBeds" "house" "LHotBeds$House;") (by decide +kernel)
  have hf181 := hts (.fieldLink RX3 181 "HotBeds$Sailors" "size" "I") (by decide +kernel)
  have hf48 := hts (.fieldLink RX3 48 "HotBeds$House" "sailors" "LHotBeds$Sailors;") (by decide +kernel)
  have hinX1 : ∀ w ∈ u_ws RX1 TX1 5, w ∈ wsX3_requireSailor := by decide +kernel
  have hinX2 : ∀ w ∈ u_ws RX2 TX2 13, w ∈ wsX3_requireSailor := by decide +kernel
  have hinX3 : ∀ w ∈ u_ws RX3 TX3 2, w ∈ wsX3_requireSailor := by decide +kernel
  have hnb := hC.2.1
  have hns := hC.2.2.2.1
  have hh := hC.2.2.2.2.2.1
  refine lv_iload_n hx hb dX3_requireSailor_0 rfl (lv_at hl 1 rfl) ?_
  refine lv_if_lt (tgt := 18) hx hb dX3_requireSailor_1 (by decide) (fun c => absurd c (nI_pos (by omega))) (fun _ => ?_)
  refine lv_iload_n hx hb dX3_requireSailor_4 rfl (lv_at hl 1 rfl) ?_
  refine lv_aload_n hx hb dX3_requireSailor_5 rfl (lv_at hl 0 rfl) ?_
  refine va_get (D := D) (ci := 3) (v := .ref (a 0)) (C := RX3) (T := TX3) (N := 2) hx hb hts hinX3 hown hK hP 0 rfl rfl 0 (by decide) hf10 (fun _ h9 => h9) rfl dX3_requireSailor_6 ?_
  refine va_get (D := D) (ci := 1) (v := .ref (a 2)) (C := RX1) (T := TX1) (N := 5) hx hb hts hinX1 hown hK hP 1 rfl rfl 4 (by decide) hf48 (fun _ h9 => h9) rfl dX3_requireSailor_9 ?_
  refine va_get (D := D) (ci := 2) (v := .int (nI ns)) (C := RX2) (T := TX2) (N := 13) hx hb hts hinX2 hown hK hP 3 rfl rfl 0 (by decide) hf181 (fun _ h9 => h9) (congrArg (fun z => some (Value.int z)) hC.2.2.1) dX3_requireSailor_12 ?_
  refine lv_icmp_lt (tgt := 28) hx hb dX3_requireSailor_15 (by decide) (fun _ => ?_) (fun c => absurd (nI_lt hk (by omega)) c)
  exact W.vret hx hb hr (fun t ht hW => ⟨⟨(), rfl, trivial, trivial⟩, hS.F ht⟩) hS.2.2 dX3_requireSailor_28

set_option maxHeartbeats 4000000 in
set_option maxRecDepth 100000 in
theorem c_X3_requireBed (l : Launch) (D : va_G) (cI : ClassId) (x : Nat) (a b : Nat → Nat) (σ τ : zS) {k : Nat} {nb ns h : Nat} (hC : zC σ nb ns h) (hkb : k < nb) : zMQ l yX3_requireBed wsX3_requireBed ({ frames := 1, cells := 0, slots := 0, locals := 21 }) [.ref x, .int (nI k)] D [(cI, .int)] (zw_X cI x a b σ (τ))  := by
  intro sz
  refine Met.ofW (cc := cX3_requireBed) (maxL := 2) (ret := none) (by decide) rfl ?_
  intro p e s m args below meth c s₁ B hml hv
  obtain ⟨rfl, hsz, hP, hK, hD⟩ := hv
  have hx := B.exec
  have hb := B.bytes
  have hr := B.returns
  have hts := atoms_spec (ws := wsX3_requireBed) B.pre
  have hown : s.vm.findClass RX3 = some m.cls := findClass_of_methodNamed B.named
  have hlocks := B.notSynchronized
  have hS : va_S (fun _ => False) s.heap s.heap [] := va_S.rf
  have hP : va_P D vwCl (zw_X cI x a b σ (τ)) s.heap := hP
  have hl := lv_entry ([.ref x, .int (nI k)]) (n := 2) (Nat.le_of_ble_eq_true rfl)
  rw [lg_entry_eq]
  generalize (lg_sl ([.ref x, .int (nI k)]) ++ List.replicate (2 - (lg_sl ([.ref x, .int (nI k)])).length) Slot.unset).toArray = ls at hl ⊢
  have hl : lv_has ls 2 [(0, .ref x), (1, .int (nI k))] := hl
  have hf10 := hts (.fieldLink RX3 10 "HotBeds" "house" "LHotBeds$House;") (by decide +kernel)
  have hf26 := hts (.fieldLink RX3 26 "HotBeds$House" "beds" "LHotBeds$Beds;") (by decide +kernel)
  have hinX1 : ∀ w ∈ u_ws RX1 TX1 5, w ∈ wsX3_requireBed := by decide +kernel
  have hinX3 : ∀ w ∈ u_ws RX3 TX3 2, w ∈ wsX3_requireBed := by decide +kernel
  have hnb := hC.2.1
  have hns := hC.2.2.2.1
  have hh := hC.2.2.2.2.2.1
  refine lv_aload_n hx hb dX3_requireBed_0 rfl (lv_at hl 0 rfl) ?_
  refine va_get (D := D) (ci := 3) (v := .ref (a 0)) (C := RX3) (T := TX3) (N := 2) hx hb hts hinX3 hown hK hP 0 rfl rfl 0 (by decide) hf10 (fun _ h9 => h9) rfl dX3_requireBed_1 ?_
  refine va_get (D := D) (ci := 1) (v := .ref (a 1)) (C := RX1) (T := TX1) (N := 5) hx hb hts hinX1 hown hK hP 1 rfl rfl 3 (by decide) hf26 (fun _ h9 => h9) rfl dX3_requireBed_4 ?_
  refine lv_iload_n hx hb dX3_requireBed_7 rfl (lv_at hl 1 rfl) ?_
  refine zk_R (D := D) (va_runV (As := [.int (nI k)]) (rest := []) ⟨hx, hb, hml, hown, hts⟩ (c_X0_has l D cI a σ (nI k) _) (cwV 1 hts gX3_requireBed_X0_has rfl rfl rfl zdX0_has ⟨Nat.le_of_ble_eq_true rfl, Nat.le_of_ble_eq_true rfl⟩) ⟨zbl _, va_recv hK (zxa_P hP) (ci := 0) (q0 := 1) rfl rfl, zpr hK (zxa_P hP) (zxa_D hD)⟩ rfl rfl hl.1 rfl (lv_room (Nat.le_of_ble_eq_true rfl)) dX3_requireBed_8 ⟨Nat.zero_le _, Nat.zero_le _⟩) hS (fun r_1 H locs hw hkp hS => ?_)
  have hP := hkp _ hP
  rcases hw with ⟨c_2, rfl⟩ | ⟨c_2, rfl⟩
  · refine lv_if_ne (tgt := 24) hx hb dX3_requireBed_11 (by decide) (fun _ => ?_) (fun c => absurd c (by decide))
    exact W.vret hx hb hr (fun t ht hW => ⟨⟨(), rfl, trivial, trivial⟩, hS.F ht⟩) hS.2.2 dX3_requireBed_24
  · exact absurd (zhas_k hC hkb) c_2

set_option maxHeartbeats 4000000 in
set_option maxRecDepth 100000 in
theorem c_X3_requireWatch (l : Launch) (D : va_G) (cI : ClassId) (v : Int32) (h1 : ¬ v < 0) (h2 : v < 3) : zMQ l yX3_requireWatch wsX3_requireWatch ({ frames := 0, cells := 0, slots := 0, locals := 0 }) [.int v] D [(cI, .int)] ([])  := by
  intro sz
  refine Met.ofW (cc := cX3_requireWatch) (maxL := 1) (ret := none) (by decide) rfl ?_
  intro p e s m args below meth c s₁ B hml hv
  obtain ⟨rfl, hsz, hP, hK, hD⟩ := hv
  have hx := B.exec
  have hb := B.bytes
  have hr := B.returns
  have hts := atoms_spec (ws := wsX3_requireWatch) B.pre
  have hown : s.vm.findClass RX3 = some m.cls := findClass_of_methodNamed B.named
  have hlocks := B.notSynchronized
  have hS : va_S (fun _ => False) s.heap s.heap [] := va_S.rf
  have hP : va_P D vwCl ([]) s.heap := hP
  have hl := lv_entry ([.int v]) (n := 1) (Nat.le_of_ble_eq_true rfl)
  rw [lg_entry_eq]
  generalize (lg_sl ([.int v]) ++ List.replicate (1 - (lg_sl ([.int v])).length) Slot.unset).toArray = ls at hl ⊢
  have hl : lv_has ls 1 [(0, .int v)] := hl
  refine lv_iload_n hx hb dX3_requireWatch_0 rfl (lv_at hl 0 rfl) ?_
  refine lv_if_lt (tgt := 9) hx hb dX3_requireWatch_1 (by decide) (fun c => absurd c (h1)) (fun _ => ?_)
  refine lv_iload_n hx hb dX3_requireWatch_4 rfl (lv_at hl 0 rfl) ?_
  refine lv_iconst (v := 3) hx hb dX3_requireWatch_5 (by decide) ?_
  refine lv_icmp_lt (tgt := 19) hx hb dX3_requireWatch_6 (by decide) (fun _ => ?_) (fun c => absurd (h2) c)
  exact W.vret hx hb hr (fun t ht hW => ⟨⟨(), rfl, trivial, trivial⟩, hS.F ht⟩) hS.2.2 dX3_requireWatch_19

set_option maxHeartbeats 4000000 in
set_option maxRecDepth 100000 in
theorem c_X3_requireHours (l : Launch) (D : va_G) (cI : ClassId) (v : Int32) (h1 : ¬ v < 1) (h2 : v ≤ 72) : zMQ l yX3_requireHours wsX3_requireHours ({ frames := 0, cells := 0, slots := 0, locals := 0 }) [.int v] D [(cI, .int)] ([])  := by
  intro sz
  refine Met.ofW (cc := cX3_requireHours) (maxL := 1) (ret := none) (by decide) rfl ?_
  intro p e s m args below meth c s₁ B hml hv
  obtain ⟨rfl, hsz, hP, hK, hD⟩ := hv
  have hx := B.exec
  have hb := B.bytes
  have hr := B.returns
  have hts := atoms_spec (ws := wsX3_requireHours) B.pre
  have hown : s.vm.findClass RX3 = some m.cls := findClass_of_methodNamed B.named
  have hlocks := B.notSynchronized
  have hS : va_S (fun _ => False) s.heap s.heap [] := va_S.rf
  have hP : va_P D vwCl ([]) s.heap := hP
  have hl := lv_entry ([.int v]) (n := 1) (Nat.le_of_ble_eq_true rfl)
  rw [lg_entry_eq]
  generalize (lg_sl ([.int v]) ++ List.replicate (1 - (lg_sl ([.int v])).length) Slot.unset).toArray = ls at hl ⊢
  have hl : lv_has ls 1 [(0, .int v)] := hl
  refine lv_iload_n hx hb dX3_requireHours_0 rfl (lv_at hl 0 rfl) ?_
  refine lv_iconst (v := 1) hx hb dX3_requireHours_1 (by decide) ?_
  refine lv_icmp_lt (tgt := 11) hx hb dX3_requireHours_2 (by decide) (fun c => absurd c (h1)) (fun _ => ?_)
  refine lv_iload_n hx hb dX3_requireHours_5 rfl (lv_at hl 0 rfl) ?_
  refine lv_bipush (v := 72) hx hb dX3_requireHours_6 (by decide) ?_
  refine lv_icmp_le (tgt := 21) hx hb dX3_requireHours_8 (by decide) (fun _ => ?_) (fun c => absurd (h2) c)
  exact W.vret hx hb hr (fun t ht hW => ⟨⟨(), rfl, trivial, trivial⟩, hS.F ht⟩) hS.2.2 dX3_requireHours_21

set_option maxHeartbeats 4000000 in
set_option maxRecDepth 100000 in
theorem c_X3_requireUp (l : Launch) (D : va_G) (cI : ClassId) (x : Nat) (a b : Nat → Nat) (σ τ : zS) {k : Nat} {nb ns h : Nat} (hC : zC σ nb ns h) (hk : k < ns) (hup : σ 12 k = 0) : zMQ l yX3_requireUp wsX3_requireUp ({ frames := 1, cells := 0, slots := 0, locals := 21 }) [.ref x, .int (nI k)] D [(cI, .int)] (zw_X cI x a b σ (τ))  := by
  intro sz
  refine Met.ofW (cc := cX3_requireUp) (maxL := 2) (ret := none) (by decide) rfl ?_
  intro p e s m args below meth c s₁ B hml hv
  obtain ⟨rfl, hsz, hP, hK, hD⟩ := hv
  have hx := B.exec
  have hb := B.bytes
  have hr := B.returns
  have hts := atoms_spec (ws := wsX3_requireUp) B.pre
  have hown : s.vm.findClass RX3 = some m.cls := findClass_of_methodNamed B.named
  have hlocks := B.notSynchronized
  have hS : va_S (fun _ => False) s.heap s.heap [] := va_S.rf
  have hP : va_P D vwCl (zw_X cI x a b σ (τ)) s.heap := hP
  have hl := lv_entry ([.ref x, .int (nI k)]) (n := 2) (Nat.le_of_ble_eq_true rfl)
  rw [lg_entry_eq]
  generalize (lg_sl ([.ref x, .int (nI k)]) ++ List.replicate (2 - (lg_sl ([.ref x, .int (nI k)])).length) Slot.unset).toArray = ls at hl ⊢
  have hl : lv_has ls 2 [(0, .ref x), (1, .int (nI k))] := hl
  have hf10 := hts (.fieldLink RX3 10 "HotBeds" "house" "LHotBeds$House;") (by decide +kernel)
  have hf48 := hts (.fieldLink RX3 48 "HotBeds$House" "sailors" "LHotBeds$Sailors;") (by decide +kernel)
  have hinX1 : ∀ w ∈ u_ws RX1 TX1 5, w ∈ wsX3_requireUp := by decide +kernel
  have hinX3 : ∀ w ∈ u_ws RX3 TX3 2, w ∈ wsX3_requireUp := by decide +kernel
  have hnb := hC.2.1
  have hns := hC.2.2.2.1
  have hh := hC.2.2.2.2.2.1
  refine lv_aload_n hx hb dX3_requireUp_0 rfl (lv_at hl 0 rfl) ?_
  refine va_get (D := D) (ci := 3) (v := .ref (a 0)) (C := RX3) (T := TX3) (N := 2) hx hb hts hinX3 hown hK hP 0 rfl rfl 0 (by decide) hf10 (fun _ h9 => h9) rfl dX3_requireUp_1 ?_
  refine va_get (D := D) (ci := 1) (v := .ref (a 2)) (C := RX1) (T := TX1) (N := 5) hx hb hts hinX1 hown hK hP 1 rfl rfl 4 (by decide) hf48 (fun _ h9 => h9) rfl dX3_requireUp_4 ?_
  refine lv_iload_n hx hb dX3_requireUp_7 rfl (lv_at hl 1 rfl) ?_
  refine zk_R (D := D) (va_runV (As := [.int (nI k)]) (rest := []) ⟨hx, hb, hml, hown, hts⟩ (c_X2_isUp l D cI a σ (k := k) (by omega) _) (cwV 1 hts gX3_requireUp_X2_isUp rfl rfl rfl zdX2_isUp ⟨Nat.le_of_ble_eq_true rfl, Nat.le_of_ble_eq_true rfl⟩) ⟨zbl _, va_recv hK (zxa_P hP) (ci := 2) (q0 := 2) rfl rfl, zpr hK (zxa_P hP) (zxa_D hD)⟩ rfl rfl hl.1 rfl (lv_room (Nat.le_of_ble_eq_true rfl)) dX3_requireUp_8 ⟨Nat.zero_le _, Nat.zero_le _⟩) hS (fun r_1 H locs hw hkp hS => ?_)
  have hP := hkp _ hP
  rcases hw with ⟨c_2, rfl⟩ | ⟨c_2, rfl⟩
  · refine lv_if_ne (tgt := 24) hx hb dX3_requireUp_11 (by decide) (fun _ => ?_) (fun c => absurd c (by decide))
    exact W.vret hx hb hr (fun t ht hW => ⟨⟨(), rfl, trivial, trivial⟩, hS.F ht⟩) hS.2.2 dX3_requireUp_24
  · exact absurd (hup) c_2

set_option maxHeartbeats 4000000 in
set_option maxRecDepth 100000 in
theorem c_X3_bed (l : Launch) (D : va_G) (cI : ClassId) (x : Nat) (a b : Nat → Nat) (σ τ : zS) (v : Int32) {nb ns h : Nat} (hC : zC σ nb ns h) (h1 : ¬ v < 0) (h2 : v ≤ 9) (hb6 : nb < 6) : zMI l yX3_bed wsX3_bed ({ frames := 1, cells := 0, slots := 0, locals := 22 }) [.ref x, .int v] D [(cI, .int)] (zw_X cI x a b σ (τ)) (zw_X cI x a b (f_addB σ nb v) (τ)) (fun r => r = nI nb) := by
  intro sz
  refine Met.ofW (cc := cX3_bed) (maxL := 2) (ret := (some .int)) (by decide) rfl ?_
  intro p e s m args below meth c s₁ B hml hv
  obtain ⟨rfl, hsz, hP, hK, hD⟩ := hv
  have hx := B.exec
  have hb := B.bytes
  have hr := B.returns
  have hts := atoms_spec (ws := wsX3_bed) B.pre
  have hown : s.vm.findClass RX3 = some m.cls := findClass_of_methodNamed B.named
  have hlocks := B.notSynchronized
  subst hsz
  have hD := hD.self (sz := s.heap.size)
  generalize hAe : va_A (zw_X cI x a b σ (τ)) s.heap.size = A at hD ⊢
  have hA : ∀ q : Nat, s.heap.size ≤ q → A q := fun q h => by rw [← hAe]; exact Or.inr h
  have hS : va_S A s.heap s.heap [] := va_S.rf
  have hP : va_P D vwCl (zw_X cI x a b σ (τ)) s.heap := hP
  have hl := lv_entry ([.ref x, .int v]) (n := 2) (Nat.le_of_ble_eq_true rfl)
  rw [lg_entry_eq]
  generalize (lg_sl ([.ref x, .int v]) ++ List.replicate (2 - (lg_sl ([.ref x, .int v])).length) Slot.unset).toArray = ls at hl ⊢
  have hl : lv_has ls 2 [(0, .ref x), (1, .int v)] := hl
  have hf10 := hts (.fieldLink RX3 10 "HotBeds" "house" "LHotBeds$House;") (by decide +kernel)
  have hf26 := hts (.fieldLink RX3 26 "HotBeds$House" "beds" "LHotBeds$Beds;") (by decide +kernel)
  have hinX1 : ∀ w ∈ u_ws RX1 TX1 5, w ∈ wsX3_bed := by decide +kernel
  have hinX3 : ∀ w ∈ u_ws RX3 TX3 2, w ∈ wsX3_bed := by decide +kernel
  have hnb := hC.2.1
  have hns := hC.2.2.2.1
  have hh := hC.2.2.2.2.2.1
  refine lv_iload_n hx hb dX3_bed_0 rfl (lv_at hl 1 rfl) ?_
  refine lv_if_lt (tgt := 10) hx hb dX3_bed_1 (by decide) (fun c => absurd c (h1)) (fun _ => ?_)
  refine lv_iload_n hx hb dX3_bed_4 rfl (lv_at hl 1 rfl) ?_
  refine lv_bipush (v := 9) hx hb dX3_bed_5 (by decide) ?_
  refine lv_icmp_le (tgt := 20) hx hb dX3_bed_7 (by decide) (fun _ => ?_) (fun c => absurd (h2) c)
  refine lv_aload_n hx hb dX3_bed_20 rfl (lv_at hl 0 rfl) ?_
  refine va_get (D := D) (ci := 3) (v := .ref (a 0)) (C := RX3) (T := TX3) (N := 2) hx hb hts hinX3 hown hK hP 0 rfl rfl 0 (by decide) hf10 (fun _ h9 => h9) rfl dX3_bed_21 ?_
  refine va_get (D := D) (ci := 1) (v := .ref (a 1)) (C := RX1) (T := TX1) (N := 5) hx hb hts hinX1 hown hK hP 1 rfl rfl 3 (by decide) hf26 (fun _ h9 => h9) rfl dX3_bed_24 ?_
  refine lv_iload_n hx hb dX3_bed_27 rfl (lv_at hl 1 rfl) ?_
  have hF := zfree (zxa_D hD) hS hA
  refine zk_I (va_runV (As := [.int v]) (rest := []) ⟨hx, hb, hml, hown, hts⟩ (c_X0_add l D cI a σ v hC hb6 _) (cwV 1 hts gX3_bed_X0_add rfl rfl rfl zdX0_add ⟨Nat.le_of_ble_eq_true rfl, Nat.le_of_ble_eq_true rfl⟩) ⟨zbl _, va_recv hK (zxa_P hP) (ci := 0) (q0 := 1) rfl rfl, zpr hK (zxa_P hP) (zxa_D hD)⟩ rfl rfl hl.1 rfl (lv_room (Nat.le_of_ble_eq_true rfl)) dX3_bed_28 ⟨Nat.zero_le _, Nat.zero_le _⟩) hS hF (fun r_3 H locs hw hkp hP1 hD1 hS => ?_)
  obtain ⟨hP, hD⟩ := zxa_J hP hD hkp hF hP1 hD1
  have hP : va_P D vwCl (zw_X cI x a b (f_addB σ nb v) (τ)) H := hP
  have hD : va_D A (zw_X cI x a b (f_addB σ nb v) (τ)) := hD
  subst hw
  have hP9 := hP
  have hD9 := hD
  exact W.iret (v := nI nb) hx hb hr (fun t ht hW => ⟨⟨nI nb, (), rfl, rfl, by rw [ht]; exact hP9, va_K.moved hW.alike hK, hD9⟩, hS.F ht⟩) hS.2.2 dX3_bed_31

set_option maxHeartbeats 4000000 in
set_option maxRecDepth 100000 in
theorem c_X3_sailor (l : Launch) (D : va_G) (cI : ClassId) (x : Nat) (a b : Nat → Nat) (σ τ : zS) (v1 v2 v3 v4 : Int32) {nb ns h : Nat} (hC : zC σ nb ns h) (hw1 : ¬ v1 < 0) (hw2 : v1 < 3) (h1 : ¬ v2 < 0) (h2 : v2 ≤ 9) (h3 : ¬ v3 < 0) (h4 : v3 ≤ 20) (h5 : ¬ v4 < 0) (h6 : v4 ≤ 99) (hs10 : ns < 10) : zMI l yX3_sailor wsX3_sailor ({ frames := 1, cells := 0, slots := 0, locals := 25 }) [.ref x, .int v1, .int v2, .int v3, .int v4] D [(cI, .int)] (zw_X cI x a b σ (τ)) (zw_X cI x a b (f_addS σ ns v1 v2 v3 v4) (τ)) (fun r => r = nI ns) := by
  intro sz
  refine Met.ofW (cc := cX3_sailor) (maxL := 5) (ret := (some .int)) (by decide) rfl ?_
  intro p e s m args below meth c s₁ B hml hv
  obtain ⟨rfl, hsz, hP, hK, hD⟩ := hv
  have hx := B.exec
  have hb := B.bytes
  have hr := B.returns
  have hts := atoms_spec (ws := wsX3_sailor) B.pre
  have hown : s.vm.findClass RX3 = some m.cls := findClass_of_methodNamed B.named
  have hlocks := B.notSynchronized
  subst hsz
  have hD := hD.self (sz := s.heap.size)
  generalize hAe : va_A (zw_X cI x a b σ (τ)) s.heap.size = A at hD ⊢
  have hA : ∀ q : Nat, s.heap.size ≤ q → A q := fun q h => by rw [← hAe]; exact Or.inr h
  have hS : va_S A s.heap s.heap [] := va_S.rf
  have hP : va_P D vwCl (zw_X cI x a b σ (τ)) s.heap := hP
  have hl := lv_entry ([.ref x, .int v1, .int v2, .int v3, .int v4]) (n := 5) (Nat.le_of_ble_eq_true rfl)
  rw [lg_entry_eq]
  generalize (lg_sl ([.ref x, .int v1, .int v2, .int v3, .int v4]) ++ List.replicate (5 - (lg_sl ([.ref x, .int v1, .int v2, .int v3, .int v4])).length) Slot.unset).toArray = ls at hl ⊢
  have hl : lv_has ls 5 [(0, .ref x), (1, .int v1), (2, .int v2), (3, .int v3), (4, .int v4)] := hl
  have hf10 := hts (.fieldLink RX3 10 "HotBeds" "house" "LHotBeds$House;") (by decide +kernel)
  have hf48 := hts (.fieldLink RX3 48 "HotBeds$House" "sailors" "LHotBeds$Sailors;") (by decide +kernel)
  have hinX1 : ∀ w ∈ u_ws RX1 TX1 5, w ∈ wsX3_sailor := by decide +kernel
  have hinX3 : ∀ w ∈ u_ws RX3 TX3 2, w ∈ wsX3_sailor := by decide +kernel
  have hnb := hC.2.1
  have hns := hC.2.2.2.1
  have hh := hC.2.2.2.2.2.1
  refine lv_iload_n hx hb dX3_sailor_0 rfl (lv_at hl 1 rfl) ?_
  refine zk_Q (D := D) (va_runS (As := [.int v1]) (rest := []) ⟨hx, hb, hml, hown, hts⟩ (c_X3_requireWatch l D cI v1 hw1 hw2 _) (va_cwS 1 hts gX3_sailor_X3_requireWatch rfl rfl rfl zdX3_requireWatch.2 ⟨Nat.le_of_ble_eq_true rfl, Nat.le_of_ble_eq_true rfl⟩) ⟨zbl _, zpr hK zP0 (zD0 (A := fun _ => True))⟩ rfl rfl hl.1 rfl (lv_room (Nat.le_of_ble_eq_true rfl)) dX3_sailor_1 ⟨Nat.zero_le _, Nat.zero_le _⟩) hS (fun H locs hkp hS => ?_)
  have hP := hkp _ hP
  refine lv_iload_n hx hb dX3_sailor_4 rfl (lv_at hl 2 rfl) ?_
  refine lv_if_lt (tgt := 14) hx hb dX3_sailor_5 (by decide) (fun c => absurd c (h1)) (fun _ => ?_)
  refine lv_iload_n hx hb dX3_sailor_8 rfl (lv_at hl 2 rfl) ?_
  refine lv_bipush (v := 9) hx hb dX3_sailor_9 (by decide) ?_
  refine lv_icmp_le (tgt := 24) hx hb dX3_sailor_11 (by decide) (fun _ => ?_) (fun c => absurd (h2) c)
  refine lv_iload_n hx hb dX3_sailor_24 rfl (lv_at hl 3 rfl) ?_
  refine lv_if_lt (tgt := 34) hx hb dX3_sailor_25 (by decide) (fun c => absurd c (h3)) (fun _ => ?_)
  refine lv_iload_n hx hb dX3_sailor_28 rfl (lv_at hl 3 rfl) ?_
  refine lv_bipush (v := 20) hx hb dX3_sailor_29 (by decide) ?_
  refine lv_icmp_le (tgt := 44) hx hb dX3_sailor_31 (by decide) (fun _ => ?_) (fun c => absurd (h4) c)
  refine lv_iload hx hb dX3_sailor_44 (lv_at hl 4 rfl) ?_
  refine lv_if_lt (tgt := 56) hx hb dX3_sailor_46 (by decide) (fun c => absurd c (h5)) (fun _ => ?_)
  refine lv_iload hx hb dX3_sailor_49 (lv_at hl 4 rfl) ?_
  refine lv_bipush (v := 99) hx hb dX3_sailor_51 (by decide) ?_
  refine lv_icmp_le (tgt := 66) hx hb dX3_sailor_53 (by decide) (fun _ => ?_) (fun c => absurd (h6) c)
  refine lv_aload_n hx hb dX3_sailor_66 rfl (lv_at hl 0 rfl) ?_
  refine va_get (D := D) (ci := 3) (v := .ref (a 0)) (C := RX3) (T := TX3) (N := 2) hx hb hts hinX3 hown hK hP 0 rfl rfl 0 (by decide) hf10 (fun _ h9 => h9) rfl dX3_sailor_67 ?_
  refine va_get (D := D) (ci := 1) (v := .ref (a 2)) (C := RX1) (T := TX1) (N := 5) hx hb hts hinX1 hown hK hP 1 rfl rfl 4 (by decide) hf48 (fun _ h9 => h9) rfl dX3_sailor_70 ?_
  refine lv_iload_n hx hb dX3_sailor_73 rfl (lv_at hl 1 rfl) ?_
  refine lv_iload_n hx hb dX3_sailor_74 rfl (lv_at hl 2 rfl) ?_
  refine lv_iload_n hx hb dX3_sailor_75 rfl (lv_at hl 3 rfl) ?_
  refine lv_iload hx hb dX3_sailor_76 (lv_at hl 4 rfl) ?_
  have hF := zfree (zxa_D hD) hS hA
  refine zk_I (va_runV (As := [.int v1, .int v2, .int v3, .int v4]) (rest := []) ⟨hx, hb, hml, hown, hts⟩ (c_X2_add l D cI a σ v1 v2 v3 v4 hC hs10 _) (cwV 4 hts gX3_sailor_X2_add rfl rfl rfl zdX2_add ⟨Nat.le_of_ble_eq_true rfl, Nat.le_of_ble_eq_true rfl⟩) ⟨zbl _, va_recv hK (zxa_P hP) (ci := 2) (q0 := 2) rfl rfl, zpr hK (zxa_P hP) (zxa_D hD)⟩ rfl rfl hl.1 rfl (lv_room (Nat.le_of_ble_eq_true rfl)) dX3_sailor_78 ⟨Nat.zero_le _, Nat.zero_le _⟩) hS hF (fun r_7 H locs hw hkp hP1 hD1 hS => ?_)
  obtain ⟨hP, hD⟩ := zxa_J hP hD hkp hF hP1 hD1
  have hP : va_P D vwCl (zw_X cI x a b (f_addS σ ns v1 v2 v3 v4) (τ)) H := hP
  have hD : va_D A (zw_X cI x a b (f_addS σ ns v1 v2 v3 v4) (τ)) := hD
  subst hw
  have hP9 := hP
  have hD9 := hD
  exact W.iret (v := nI ns) hx hb hr (fun t ht hW => ⟨⟨nI ns, (), rfl, rfl, by rw [ht]; exact hP9, va_K.moved hW.alike hK, hD9⟩, hS.F ht⟩) hS.2.2 dX3_sailor_81

set_option maxHeartbeats 4000000 in
set_option maxRecDepth 100000 in
theorem c_X3_keep (l : Launch) (D : va_G) (cI : ClassId) (x : Nat) (a b : Nat → Nat) (σ τ : zS) {k : Nat} {nb ns h : Nat} (hC : zC σ nb ns h) (hk : k < ns) (v : Int32) (hv : v = -1 ∨ ∃ b9, b9 < nb ∧ v = nI b9) : zMI l yX3_keep wsX3_keep ({ frames := 2, cells := 0, slots := 0, locals := 42 }) [.ref x, .int (nI k), .int v] D [(cI, .int)] (zw_X cI x a b σ (τ)) (zw_X cI x a b (zs σ 11 k v) (τ)) (fun r => r = σ 11 k) := by
  intro sz
  refine Met.ofW (cc := cX3_keep) (maxL := 4) (ret := (some .int)) (by decide) rfl ?_
  intro p e s m args below meth c s₁ B hml hv
  obtain ⟨rfl, hsz, hP, hK, hD⟩ := hv
  have hx := B.exec
  have hb := B.bytes
  have hr := B.returns
  have hts := atoms_spec (ws := wsX3_keep) B.pre
  have hown : s.vm.findClass RX3 = some m.cls := findClass_of_methodNamed B.named
  have hlocks := B.notSynchronized
  subst hsz
  have hD := hD.self (sz := s.heap.size)
  generalize hAe : va_A (zw_X cI x a b σ (τ)) s.heap.size = A at hD ⊢
  have hA : ∀ q : Nat, s.heap.size ≤ q → A q := fun q h => by rw [← hAe]; exact Or.inr h
  have hS : va_S A s.heap s.heap [] := va_S.rf
  have hP : va_P D vwCl (zw_X cI x a b σ (τ)) s.heap := hP
  have hl := lv_entry ([.ref x, .int (nI k), .int v]) (n := 4) (Nat.le_of_ble_eq_true rfl)
  rw [lg_entry_eq]
  generalize (lg_sl ([.ref x, .int (nI k), .int v]) ++ List.replicate (4 - (lg_sl ([.ref x, .int (nI k), .int v])).length) Slot.unset).toArray = ls at hl ⊢
  have hl : lv_has ls 4 [(0, .ref x), (1, .int (nI k)), (2, .int v)] := hl
  have hf10 := hts (.fieldLink RX3 10 "HotBeds" "house" "LHotBeds$House;") (by decide +kernel)
  have hf48 := hts (.fieldLink RX3 48 "HotBeds$House" "sailors" "LHotBeds$Sailors;") (by decide +kernel)
  have hf61 := hts (.fieldLink RX3 61 "HotBeds$Sailors" "kept" "[I") (by decide +kernel)
  have hinX1 : ∀ w ∈ u_ws RX1 TX1 5, w ∈ wsX3_keep := by decide +kernel
  have hinX2 : ∀ w ∈ u_ws RX2 TX2 13, w ∈ wsX3_keep := by decide +kernel
  have hinX3 : ∀ w ∈ u_ws RX3 TX3 2, w ∈ wsX3_keep := by decide +kernel
  have hnb := hC.2.1
  have hns := hC.2.2.2.1
  have hh := hC.2.2.2.2.2.1
  rcases hv with rfl | ⟨k9, hkb, rfl⟩
  · refine lv_aload_n hx hb dX3_keep_0 rfl (lv_at hl 0 rfl) ?_
    refine lv_iload_n hx hb dX3_keep_1 rfl (lv_at hl 1 rfl) ?_
    refine zk_Q (D := D) (va_runV (As := [.int (nI k)]) (rest := []) ⟨hx, hb, hml, hown, hts⟩ (c_X3_requireSailor l D cI x a b σ (τ) hC hk _) (cwV 1 hts gX3_keep_X3_requireSailor rfl rfl rfl zdX3_requireSailor ⟨Nat.le_of_ble_eq_true rfl, Nat.le_of_ble_eq_true rfl⟩) ⟨zbl _, va_recv hK hP (ci := 3) (q0 := 0) rfl rfl, zpr hK hP hD⟩ rfl rfl hl.1 rfl (lv_room (Nat.le_of_ble_eq_true rfl)) dX3_keep_2 ⟨Nat.zero_le _, Nat.zero_le _⟩) hS (fun H locs hkp hS => ?_)
    have hP := hkp _ hP
    refine lv_iload_n hx hb dX3_keep_5 rfl (lv_at hl 2 rfl) ?_
    refine lv_iconst (v := (-1)) hx hb dX3_keep_6 (by decide) ?_
    refine lv_icmp_eq (tgt := 15) hx hb dX3_keep_7 (by decide) (fun _ => ?_) (fun c => absurd (by decide) c)
    refine lv_aload_n hx hb dX3_keep_15 rfl (lv_at hl 0 rfl) ?_
    refine va_get (D := D) (ci := 3) (v := .ref (a 0)) (C := RX3) (T := TX3) (N := 2) hx hb hts hinX3 hown hK hP 0 rfl rfl 0 (by decide) hf10 (fun _ h9 => h9) rfl dX3_keep_16 ?_
    refine va_get (D := D) (ci := 1) (v := .ref (a 2)) (C := RX1) (T := TX1) (N := 5) hx hb hts hinX1 hown hK hP 1 rfl rfl 4 (by decide) hf48 (fun _ h9 => h9) rfl dX3_keep_19 ?_
    refine va_get (D := D) (ci := 2) (v := .ref (a 13)) (C := RX2) (T := TX2) (N := 13) hx hb hts hinX2 hown hK hP 3 rfl rfl 6 (by decide) hf61 (fun _ h9 => h9) rfl dX3_keep_22 ?_
    refine lv_iload_n hx hb dX3_keep_25 rfl (lv_at hl 1 rfl) ?_
    refine zk_ld hx hb hK hP 14 0 rfl rfl (k := k) (by omega) (by decide) (v := σ 11 k) rfl dX3_keep_26 ?_
    refine lv_istore_n (lv' := [(3, .int (σ 11 k)), (0, .ref x), (1, .int (nI k)), (2, .int (-1))]) hx hb dX3_keep_27 rfl hl (by decide) rfl (fun ls hl => ?_)
    refine lv_aload_n hx hb dX3_keep_28 rfl (lv_at hl 1 rfl) ?_
    refine va_get (D := D) (ci := 3) (v := .ref (a 0)) (C := RX3) (T := TX3) (N := 2) hx hb hts hinX3 hown hK hP 0 rfl rfl 0 (by decide) hf10 (fun _ h9 => h9) rfl dX3_keep_29 ?_
    refine va_get (D := D) (ci := 1) (v := .ref (a 2)) (C := RX1) (T := TX1) (N := 5) hx hb hts hinX1 hown hK hP 1 rfl rfl 4 (by decide) hf48 (fun _ h9 => h9) rfl dX3_keep_32 ?_
    refine va_get (D := D) (ci := 2) (v := .ref (a 13)) (C := RX2) (T := TX2) (N := 13) hx hb hts hinX2 hown hK hP 3 rfl rfl 6 (by decide) hf61 (fun _ h9 => h9) rfl dX3_keep_35 ?_
    refine lv_iload_n hx hb dX3_keep_38 rfl (lv_at hl 2 rfl) ?_
    refine lv_iload_n hx hb dX3_keep_39 rfl (lv_at hl 3 rfl) ?_
    refine zk_st hx hb hK hP hD hS 14 0 rfl rfl (k := k) (by omega) (by decide) (w1 := zw_X cI x a b (zs σ 11 k (-1)) (τ)) rfl dX3_keep_40 (fun H locs hP hD hS => ?_)
    have hP : va_P D vwCl (zw_X cI x a b (zs σ 11 k (-1)) (τ)) H := hP
    have hD : va_D A (zw_X cI x a b (zs σ 11 k (-1)) (τ)) := hD
    refine lv_iload_n hx hb dX3_keep_41 rfl (lv_at hl 0 rfl) ?_
    have hP9 := hP
    have hD9 := hD
    exact W.iret (v := σ 11 k) hx hb hr (fun t ht hW => ⟨⟨σ 11 k, (), rfl, rfl, by rw [ht]; exact hP9, va_K.moved hW.alike hK, hD9⟩, hS.F ht⟩) hS.2.2 dX3_keep_42
  · refine lv_aload_n hx hb dX3_keep_0 rfl (lv_at hl 0 rfl) ?_
    refine lv_iload_n hx hb dX3_keep_1 rfl (lv_at hl 1 rfl) ?_
    refine zk_Q (D := D) (va_runV (As := [.int (nI k)]) (rest := []) ⟨hx, hb, hml, hown, hts⟩ (c_X3_requireSailor l D cI x a b σ (τ) hC hk _) (cwV 1 hts gX3_keep_X3_requireSailor rfl rfl rfl zdX3_requireSailor ⟨Nat.le_of_ble_eq_true rfl, Nat.le_of_ble_eq_true rfl⟩) ⟨zbl _, va_recv hK hP (ci := 3) (q0 := 0) rfl rfl, zpr hK hP hD⟩ rfl rfl hl.1 rfl (lv_room (Nat.le_of_ble_eq_true rfl)) dX3_keep_2 ⟨Nat.zero_le _, Nat.zero_le _⟩) hS (fun H locs hkp hS => ?_)
    have hP := hkp _ hP
    refine lv_iload_n hx hb dX3_keep_5 rfl (lv_at hl 2 rfl) ?_
    refine lv_iconst (v := (-1)) hx hb dX3_keep_6 (by decide) ?_
    refine lv_icmp_eq (tgt := 15) hx hb dX3_keep_7 (by decide) (fun c => absurd c (zn_m1 (by omega))) (fun _ => ?_)
    refine lv_aload_n hx hb dX3_keep_10 rfl (lv_at hl 0 rfl) ?_
    refine lv_iload_n hx hb dX3_keep_11 rfl (lv_at hl 2 rfl) ?_
    refine zk_Q (D := D) (va_runV (As := [.int (nI k9)]) (rest := []) ⟨hx, hb, hml, hown, hts⟩ (c_X3_requireBed l D cI x a b σ (τ) hC hkb _) (cwV 1 hts gX3_keep_X3_requireBed rfl rfl rfl zdX3_requireBed ⟨Nat.le_of_ble_eq_true rfl, Nat.le_of_ble_eq_true rfl⟩) ⟨zbl _, va_recv hK hP (ci := 3) (q0 := 0) rfl rfl, zpr hK hP hD⟩ rfl rfl hl.1 rfl (lv_room (Nat.le_of_ble_eq_true rfl)) dX3_keep_12 ⟨Nat.zero_le _, Nat.zero_le _⟩) hS (fun H locs hkp hS => ?_)
    have hP := hkp _ hP
    refine lv_aload_n hx hb dX3_keep_15 rfl (lv_at hl 0 rfl) ?_
    refine va_get (D := D) (ci := 3) (v := .ref (a 0)) (C := RX3) (T := TX3) (N := 2) hx hb hts hinX3 hown hK hP 0 rfl rfl 0 (by decide) hf10 (fun _ h9 => h9) rfl dX3_keep_16 ?_
    refine va_get (D := D) (ci := 1) (v := .ref (a 2)) (C := RX1) (T := TX1) (N := 5) hx hb hts hinX1 hown hK hP 1 rfl rfl 4 (by decide) hf48 (fun _ h9 => h9) rfl dX3_keep_19 ?_
    refine va_get (D := D) (ci := 2) (v := .ref (a 13)) (C := RX2) (T := TX2) (N := 13) hx hb hts hinX2 hown hK hP 3 rfl rfl 6 (by decide) hf61 (fun _ h9 => h9) rfl dX3_keep_22 ?_
    refine lv_iload_n hx hb dX3_keep_25 rfl (lv_at hl 1 rfl) ?_
    refine zk_ld hx hb hK hP 14 0 rfl rfl (k := k) (by omega) (by decide) (v := σ 11 k) rfl dX3_keep_26 ?_
    refine lv_istore_n (lv' := [(3, .int (σ 11 k)), (0, .ref x), (1, .int (nI k)), (2, .int (nI k9))]) hx hb dX3_keep_27 rfl hl (by decide) rfl (fun ls hl => ?_)
    refine lv_aload_n hx hb dX3_keep_28 rfl (lv_at hl 1 rfl) ?_
    refine va_get (D := D) (ci := 3) (v := .ref (a 0)) (C := RX3) (T := TX3) (N := 2) hx hb hts hinX3 hown hK hP 0 rfl rfl 0 (by decide) hf10 (fun _ h9 => h9) rfl dX3_keep_29 ?_
    refine va_get (D := D) (ci := 1) (v := .ref (a 2)) (C := RX1) (T := TX1) (N := 5) hx hb hts hinX1 hown hK hP 1 rfl rfl 4 (by decide) hf48 (fun _ h9 => h9) rfl dX3_keep_32 ?_
    refine va_get (D := D) (ci := 2) (v := .ref (a 13)) (C := RX2) (T := TX2) (N := 13) hx hb hts hinX2 hown hK hP 3 rfl rfl 6 (by decide) hf61 (fun _ h9 => h9) rfl dX3_keep_35 ?_
    refine lv_iload_n hx hb dX3_keep_38 rfl (lv_at hl 2 rfl) ?_
    refine lv_iload_n hx hb dX3_keep_39 rfl (lv_at hl 3 rfl) ?_
    refine zk_st hx hb hK hP hD hS 14 0 rfl rfl (k := k) (by omega) (by decide) (w1 := zw_X cI x a b (zs σ 11 k (nI k9)) (τ)) rfl dX3_keep_40 (fun H locs hP hD hS => ?_)
    have hP : va_P D vwCl (zw_X cI x a b (zs σ 11 k (nI k9)) (τ)) H := hP
    have hD : va_D A (zw_X cI x a b (zs σ 11 k (nI k9)) (τ)) := hD
    refine lv_iload_n hx hb dX3_keep_41 rfl (lv_at hl 0 rfl) ?_
    have hP9 := hP
    have hD9 := hD
    exact W.iret (v := σ 11 k) hx hb hr (fun t ht hW => ⟨⟨σ 11 k, (), rfl, rfl, by rw [ht]; exact hP9, va_K.moved hW.alike hK, hD9⟩, hS.F ht⟩) hS.2.2 dX3_keep_42

set_option maxHeartbeats 4000000 in
set_option maxRecDepth 100000 in
theorem c_X3_setBell (l : Launch) (D : va_G) (cI : ClassId) (x : Nat) (a b : Nat → Nat) (σ τ : zS) (v : Int32) (h1 : ¬ v < 0) (h2 : v ≤ 9) : zMI l yX3_setBell wsX3_setBell ({ frames := 0, cells := 0, slots := 0, locals := 0 }) [.ref x, .int v] D [(cI, .int)] (zw_X cI x a b σ (τ)) (zw_X cI x a b (zs σ 0 1 v) (τ)) (fun r => r = σ 0 1) := by
  intro sz
  refine Met.ofW (cc := cX3_setBell) (maxL := 3) (ret := (some .int)) (by decide) rfl ?_
  intro p e s m args below meth c s₁ B hml hv
  obtain ⟨rfl, hsz, hP, hK, hD⟩ := hv
  have hx := B.exec
  have hb := B.bytes
  have hr := B.returns
  have hts := atoms_spec (ws := wsX3_setBell) B.pre
  have hown : s.vm.findClass RX3 = some m.cls := findClass_of_methodNamed B.named
  have hlocks := B.notSynchronized
  subst hsz
  have hD := hD.self (sz := s.heap.size)
  generalize hAe : va_A (zw_X cI x a b σ (τ)) s.heap.size = A at hD ⊢
  have hA : ∀ q : Nat, s.heap.size ≤ q → A q := fun q h => by rw [← hAe]; exact Or.inr h
  have hS : va_S A s.heap s.heap [] := va_S.rf
  have hP : va_P D vwCl (zw_X cI x a b σ (τ)) s.heap := hP
  have hl := lv_entry ([.ref x, .int v]) (n := 3) (Nat.le_of_ble_eq_true rfl)
  rw [lg_entry_eq]
  generalize (lg_sl ([.ref x, .int v]) ++ List.replicate (3 - (lg_sl ([.ref x, .int v])).length) Slot.unset).toArray = ls at hl ⊢
  have hl : lv_has ls 3 [(0, .ref x), (1, .int v)] := hl
  have hf10 := hts (.fieldLink RX3 10 "HotBeds" "house" "LHotBeds$House;") (by decide +kernel)
  have hf67 := hts (.fieldLink RX3 67 "HotBeds$House" "bell" "I") (by decide +kernel)
  have hinX1 : ∀ w ∈ u_ws RX1 TX1 5, w ∈ wsX3_setBell := by decide +kernel
  have hinX3 : ∀ w ∈ u_ws RX3 TX3 2, w ∈ wsX3_setBell := by decide +kernel
  refine lv_iload_n hx hb dX3_setBell_0 rfl (lv_at hl 1 rfl) ?_
  refine lv_if_lt (tgt := 10) hx hb dX3_setBell_1 (by decide) (fun c => absurd c (h1)) (fun _ => ?_)
  refine lv_iload_n hx hb dX3_setBell_4 rfl (lv_at hl 1 rfl) ?_
  refine lv_bipush (v := 9) hx hb dX3_setBell_5 (by decide) ?_
  refine lv_icmp_le (tgt := 20) hx hb dX3_setBell_7 (by decide) (fun _ => ?_) (fun c => absurd (h2) c)
  refine lv_aload_n hx hb dX3_setBell_20 rfl (lv_at hl 0 rfl) ?_
  refine va_get (D := D) (ci := 3) (v := .ref (a 0)) (C := RX3) (T := TX3) (N := 2) hx hb hts hinX3 hown hK hP 0 rfl rfl 0 (by decide) hf10 (fun _ h9 => h9) rfl dX3_setBell_21 ?_
  refine va_get (D := D) (ci := 1) (v := .int (σ 0 1)) (C := RX1) (T := TX1) (N := 5) hx hb hts hinX1 hown hK hP 1 rfl rfl 1 (by decide) hf67 (fun _ h9 => h9) rfl dX3_setBell_24 ?_
  refine lv_istore_n (lv' := [(2, .int (σ 0 1)), (0, .ref x), (1, .int v)]) hx hb dX3_setBell_27 rfl hl (by decide) rfl (fun ls hl => ?_)
  refine lv_aload_n hx hb dX3_setBell_28 rfl (lv_at hl 1 rfl) ?_
  refine va_get (D := D) (ci := 3) (v := .ref (a 0)) (C := RX3) (T := TX3) (N := 2) hx hb hts hinX3 hown hK hP 0 rfl rfl 0 (by decide) hf10 (fun _ h9 => h9) rfl dX3_setBell_29 ?_
  refine lv_iload_n hx hb dX3_setBell_32 rfl (lv_at hl 2 rfl) ?_
  refine va_put (D := D) (ci := 1) (v := .int v) (ty := .int) (C := RX1) (T := TX1) (N := 5) hx hb hts hinX1 tyX1 tyX1_ok nmX1 hown hK hP hD hS 1 rfl rfl 1 (by decide) hf67 (fun _ h9 => h9)  rfl (by decide +kernel) rfl rfl (Nat.le_of_ble_eq_true rfl) dX3_setBell_33 (fun H locs hP hD hS => ?_)
  have hP : va_P D vwCl (zw_X cI x a b (zs σ 0 1 v) (τ)) H := hP
  have hD : va_D A (zw_X cI x a b (zs σ 0 1 v) (τ)) := hD
  refine lv_iload_n hx hb dX3_setBell_36 rfl (lv_at hl 0 rfl) ?_
  have hP9 := hP
  have hD9 := hD
  exact W.iret (v := σ 0 1) hx hb hr (fun t ht hW => ⟨⟨σ 0 1, (), rfl, rfl, by rw [ht]; exact hP9, va_K.moved hW.alike hK, hD9⟩, hS.F ht⟩) hS.2.2 dX3_setBell_37

set_option maxHeartbeats 4000000 in
set_option maxRecDepth 100000 in
theorem c_X3_setPawn (l : Launch) (D : va_G) (cI : ClassId) (x : Nat) (a b : Nat → Nat) (σ τ : zS) (v : Int32) (h1 : ¬ v < 1) (h2 : v ≤ 20) : zMI l yX3_setPawn wsX3_setPawn ({ frames := 0, cells := 0, slots := 0, locals := 0 }) [.ref x, .int v] D [(cI, .int)] (zw_X cI x a b σ (τ)) (zw_X cI x a b (zs σ 0 2 v) (τ)) (fun r => r = σ 0 2) := by
  intro sz
  refine Met.ofW (cc := cX3_setPawn) (maxL := 3) (ret := (some .int)) (by decide) rfl ?_
  intro p e s m args below meth c s₁ B hml hv
  obtain ⟨rfl, hsz, hP, hK, hD⟩ := hv
  have hx := B.exec
  have hb := B.bytes
  have hr := B.returns
  have hts := atoms_spec (ws := wsX3_setPawn) B.pre
  have hown : s.vm.findClass RX3 = some m.cls := findClass_of_methodNamed B.named
  have hlocks := B.notSynchronized
  subst hsz
  have hD := hD.self (sz := s.heap.size)
  generalize hAe : va_A (zw_X cI x a b σ (τ)) s.heap.size = A at hD ⊢
  have hA : ∀ q : Nat, s.heap.size ≤ q → A q := fun q h => by rw [← hAe]; exact Or.inr h
  have hS : va_S A s.heap s.heap [] := va_S.rf
  have hP : va_P D vwCl (zw_X cI x a b σ (τ)) s.heap := hP
  have hl := lv_entry ([.ref x, .int v]) (n := 3) (Nat.le_of_ble_eq_true rfl)
  rw [lg_entry_eq]
  generalize (lg_sl ([.ref x, .int v]) ++ List.replicate (3 - (lg_sl ([.ref x, .int v])).length) Slot.unset).toArray = ls at hl ⊢
  have hl : lv_has ls 3 [(0, .ref x), (1, .int v)] := hl
  have hf10 := hts (.fieldLink RX3 10 "HotBeds" "house" "LHotBeds$House;") (by decide +kernel)
  have hf73 := hts (.fieldLink RX3 73 "HotBeds$House" "pawn" "I") (by decide +kernel)
  have hinX1 : ∀ w ∈ u_ws RX1 TX1 5, w ∈ wsX3_setPawn := by decide +kernel
  have hinX3 : ∀ w ∈ u_ws RX3 TX3 2, w ∈ wsX3_setPawn := by decide +kernel
  refine lv_iload_n hx hb dX3_setPawn_0 rfl (lv_at hl 1 rfl) ?_
  refine lv_iconst (v := 1) hx hb dX3_setPawn_1 (by decide) ?_
  refine lv_icmp_lt (tgt := 11) hx hb dX3_setPawn_2 (by decide) (fun c => absurd c (h1)) (fun _ => ?_)
  refine lv_iload_n hx hb dX3_setPawn_5 rfl (lv_at hl 1 rfl) ?_
  refine lv_bipush (v := 20) hx hb dX3_setPawn_6 (by decide) ?_
  refine lv_icmp_le (tgt := 21) hx hb dX3_setPawn_8 (by decide) (fun _ => ?_) (fun c => absurd (h2) c)
  refine lv_aload_n hx hb dX3_setPawn_21 rfl (lv_at hl 0 rfl) ?_
  refine va_get (D := D) (ci := 3) (v := .ref (a 0)) (C := RX3) (T := TX3) (N := 2) hx hb hts hinX3 hown hK hP 0 rfl rfl 0 (by decide) hf10 (fun _ h9 => h9) rfl dX3_setPawn_22 ?_
  refine va_get (D := D) (ci := 1) (v := .int (σ 0 2)) (C := RX1) (T := TX1) (N := 5) hx hb hts hinX1 hown hK hP 1 rfl rfl 2 (by decide) hf73 (fun _ h9 => h9) rfl dX3_setPawn_25 ?_
  refine lv_istore_n (lv' := [(2, .int (σ 0 2)), (0, .ref x), (1, .int v)]) hx hb dX3_setPawn_28 rfl hl (by decide) rfl (fun ls hl => ?_)
  refine lv_aload_n hx hb dX3_setPawn_29 rfl (lv_at hl 1 rfl) ?_
  refine va_get (D := D) (ci := 3) (v := .ref (a 0)) (C := RX3) (T := TX3) (N := 2) hx hb hts hinX3 hown hK hP 0 rfl rfl 0 (by decide) hf10 (fun _ h9 => h9) rfl dX3_setPawn_30 ?_
  refine lv_iload_n hx hb dX3_setPawn_33 rfl (lv_at hl 2 rfl) ?_
  refine va_put (D := D) (ci := 1) (v := .int v) (ty := .int) (C := RX1) (T := TX1) (N := 5) hx hb hts hinX1 tyX1 tyX1_ok nmX1 hown hK hP hD hS 1 rfl rfl 2 (by decide) hf73 (fun _ h9 => h9)  rfl (by decide +kernel) rfl rfl (Nat.le_of_ble_eq_true rfl) dX3_setPawn_34 (fun H locs hP hD hS => ?_)
  have hP : va_P D vwCl (zw_X cI x a b (zs σ 0 2 v) (τ)) H := hP
  have hD : va_D A (zw_X cI x a b (zs σ 0 2 v) (τ)) := hD
  refine lv_iload_n hx hb dX3_setPawn_37 rfl (lv_at hl 0 rfl) ?_
  have hP9 := hP
  have hD9 := hD
  exact W.iret (v := σ 0 2) hx hb hr (fun t ht hW => ⟨⟨σ 0 2, (), rfl, rfl, by rw [ht]; exact hP9, va_K.moved hW.alike hK, hD9⟩, hS.F ht⟩) hS.2.2 dX3_setPawn_38

set_option maxHeartbeats 4000000 in
set_option maxRecDepth 100000 in
theorem c_X3_give (l : Launch) (D : va_G) (cI : ClassId) (x : Nat) (a b : Nat → Nat) (σ τ : zS) {k : Nat} {nb ns h : Nat} (hC : zC σ nb ns h) (hk : k < ns) (v : Int32) (h1 : ¬ v < 1) (h2 : v ≤ 99) : zMI l yX3_give wsX3_give ({ frames := 2, cells := 0, slots := 0, locals := 37 }) [.ref x, .int (nI k), .int v] D [(cI, .int)] (zw_X cI x a b σ (τ)) (zw_X cI x a b (f_earn σ k v) (τ)) (fun r => r = (f_earn σ k v) 9 k) := by
  intro sz
  refine Met.ofW (cc := cX3_give) (maxL := 3) (ret := (some .int)) (by decide) rfl ?_
  intro p e s m args below meth c s₁ B hml hv
  obtain ⟨rfl, hsz, hP, hK, hD⟩ := hv
  have hx := B.exec
  have hb := B.bytes
  have hr := B.returns
  have hts := atoms_spec (ws := wsX3_give) B.pre
  have hown : s.vm.findClass RX3 = some m.cls := findClass_of_methodNamed B.named
  have hlocks := B.notSynchronized
  subst hsz
  have hD := hD.self (sz := s.heap.size)
  generalize hAe : va_A (zw_X cI x a b σ (τ)) s.heap.size = A at hD ⊢
  have hA : ∀ q : Nat, s.heap.size ≤ q → A q := fun q h => by rw [← hAe]; exact Or.inr h
  have hS : va_S A s.heap s.heap [] := va_S.rf
  have hP : va_P D vwCl (zw_X cI x a b σ (τ)) s.heap := hP
  have hl := lv_entry ([.ref x, .int (nI k), .int v]) (n := 3) (Nat.le_of_ble_eq_true rfl)
  rw [lg_entry_eq]
  generalize (lg_sl ([.ref x, .int (nI k), .int v]) ++ List.replicate (3 - (lg_sl ([.ref x, .int (nI k), .int v])).length) Slot.unset).toArray = ls at hl ⊢
  have hl : lv_has ls 3 [(0, .ref x), (1, .int (nI k)), (2, .int v)] := hl
  have hf10 := hts (.fieldLink RX3 10 "HotBeds" "house" "LHotBeds$House;") (by decide +kernel)
  have hf48 := hts (.fieldLink RX3 48 "HotBeds$House" "sailors" "LHotBeds$Sailors;") (by decide +kernel)
  have hf82 := hts (.fieldLink RX3 82 "HotBeds$Sailors" "purse" "[I") (by decide +kernel)
  have hinX1 : ∀ w ∈ u_ws RX1 TX1 5, w ∈ wsX3_give := by decide +kernel
  have hinX2 : ∀ w ∈ u_ws RX2 TX2 13, w ∈ wsX3_give := by decide +kernel
  have hinX3 : ∀ w ∈ u_ws RX3 TX3 2, w ∈ wsX3_give := by decide +kernel
  have hnb := hC.2.1
  have hns := hC.2.2.2.1
  have hh := hC.2.2.2.2.2.1
  refine lv_aload_n hx hb dX3_give_0 rfl (lv_at hl 0 rfl) ?_
  refine lv_iload_n hx hb dX3_give_1 rfl (lv_at hl 1 rfl) ?_
  refine zk_Q (D := D) (va_runV (As := [.int (nI k)]) (rest := []) ⟨hx, hb, hml, hown, hts⟩ (c_X3_requireSailor l D cI x a b σ (τ) hC hk _) (cwV 1 hts gX3_give_X3_requireSailor rfl rfl rfl zdX3_requireSailor ⟨Nat.le_of_ble_eq_true rfl, Nat.le_of_ble_eq_true rfl⟩) ⟨zbl _, va_recv hK hP (ci := 3) (q0 := 0) rfl rfl, zpr hK hP hD⟩ rfl rfl hl.1 rfl (lv_room (Nat.le_of_ble_eq_true rfl)) dX3_give_2 ⟨Nat.zero_le _, Nat.zero_le _⟩) hS (fun H locs hkp hS => ?_)
  have hP := hkp _ hP
  refine lv_iload_n hx hb dX3_give_5 rfl (lv_at hl 2 rfl) ?_
  refine lv_iconst (v := 1) hx hb dX3_give_6 (by decide) ?_
  refine lv_icmp_lt (tgt := 16) hx hb dX3_give_7 (by decide) (fun c => absurd c (h1)) (fun _ => ?_)
  refine lv_iload_n hx hb dX3_give_10 rfl (lv_at hl 2 rfl) ?_
  refine lv_bipush (v := 99) hx hb dX3_give_11 (by decide) ?_
  refine lv_icmp_le (tgt := 26) hx hb dX3_give_13 (by decide) (fun _ => ?_) (fun c => absurd (h2) c)
  refine lv_aload_n hx hb dX3_give_26 rfl (lv_at hl 0 rfl) ?_
  refine va_get (D := D) (ci := 3) (v := .ref (a 0)) (C := RX3) (T := TX3) (N := 2) hx hb hts hinX3 hown hK hP 0 rfl rfl 0 (by decide) hf10 (fun _ h9 => h9) rfl dX3_give_27 ?_
  refine va_get (D := D) (ci := 1) (v := .ref (a 2)) (C := RX1) (T := TX1) (N := 5) hx hb hts hinX1 hown hK hP 1 rfl rfl 4 (by decide) hf48 (fun _ h9 => h9) rfl dX3_give_30 ?_
  refine lv_iload_n hx hb dX3_give_33 rfl (lv_at hl 1 rfl) ?_
  refine lv_iload_n hx hb dX3_give_34 rfl (lv_at hl 2 rfl) ?_
  have hF := zfree (zxa_D hD) hS hA
  refine zk_V (va_runV (As := [.int (nI k), .int v]) (rest := []) ⟨hx, hb, hml, hown, hts⟩ (c_X2_earn l D cI a σ (k := k) (by omega) v _) (cwV 2 hts gX3_give_X2_earn rfl rfl rfl zdX2_earn ⟨Nat.le_of_ble_eq_true rfl, Nat.le_of_ble_eq_true rfl⟩) ⟨zbl _, va_recv hK (zxa_P hP) (ci := 2) (q0 := 2) rfl rfl, zpr hK (zxa_P hP) (zxa_D hD)⟩ rfl rfl hl.1 rfl (lv_room (Nat.le_of_ble_eq_true rfl)) dX3_give_35 ⟨Nat.zero_le _, Nat.zero_le _⟩) hS hF (fun H locs hkp hP1 hD1 hS => ?_)
  obtain ⟨hP, hD⟩ := zxa_J hP hD hkp hF hP1 hD1
  have hP : va_P D vwCl (zw_X cI x a b (f_earn σ k v) (τ)) H := hP
  have hD : va_D A (zw_X cI x a b (f_earn σ k v) (τ)) := hD
  refine lv_aload_n hx hb dX3_give_38 rfl (lv_at hl 0 rfl) ?_
  refine va_get (D := D) (ci := 3) (v := .ref (a 0)) (C := RX3) (T := TX3) (N := 2) hx hb hts hinX3 hown hK hP 0 rfl rfl 0 (by decide) hf10 (fun _ h9 => h9) rfl dX3_give_39 ?_
  refine va_get (D := D) (ci := 1) (v := .ref (a 2)) (C := RX1) (T := TX1) (N := 5) hx hb hts hinX1 hown hK hP 1 rfl rfl 4 (by decide) hf48 (fun _ h9 => h9) rfl dX3_give_42 ?_
  refine va_get (D := D) (ci := 2) (v := .ref (a 11)) (C := RX2) (T := TX2) (N := 13) hx hb hts hinX2 hown hK hP 3 rfl rfl 4 (by decide) hf82 (fun _ h9 => h9) rfl dX3_give_45 ?_
  refine lv_iload_n hx hb dX3_give_48 rfl (lv_at hl 1 rfl) ?_
  refine zk_ld hx hb hK hP 12 0 rfl rfl (k := k) (by omega) (by decide) (v := (f_earn σ k v) 9 k) rfl dX3_give_49 ?_
  have hP9 := hP
  have hD9 := hD
  exact W.iret (v := (f_earn σ k v) 9 k) hx hb hr (fun t ht hW => ⟨⟨(f_earn σ k v) 9 k, (), rfl, rfl, by rw [ht]; exact hP9, va_K.moved hW.alike hK, hD9⟩, hS.F ht⟩) hS.2.2 dX3_give_50

set_option maxHeartbeats 4000000 in
set_option maxRecDepth 100000 in
theorem c_X3_pawn (l : Launch) (D : va_G) (cI : ClassId) (x : Nat) (a b : Nat → Nat) (σ τ : zS) {k : Nat} {nb ns h : Nat} (hC : zC σ nb ns h) (hk : k < ns) (hbo : σ 10 k = 1) : zMI l yX3_pawn wsX3_pawn ({ frames := 3, cells := 0, slots := 0, locals := 58 }) [.ref x, .int (nI k)] D [(cI, .int)] (zw_X cI x a b σ (τ)) (zw_X cI x a b (f_pawnB σ k) (τ)) (fun r => r = (f_pawnB σ k) 9 k) := by
  intro sz
  refine Met.ofW (cc := cX3_pawn) (maxL := 2) (ret := (some .int)) (by decide) rfl ?_
  intro p e s m args below meth c s₁ B hml hv
  obtain ⟨rfl, hsz, hP, hK, hD⟩ := hv
  have hx := B.exec
  have hb := B.bytes
  have hr := B.returns
  have hts := atoms_spec (ws := wsX3_pawn) B.pre
  have hown : s.vm.findClass RX3 = some m.cls := findClass_of_methodNamed B.named
  have hlocks := B.notSynchronized
  subst hsz
  have hD := hD.self (sz := s.heap.size)
  generalize hAe : va_A (zw_X cI x a b σ (τ)) s.heap.size = A at hD ⊢
  have hA : ∀ q : Nat, s.heap.size ≤ q → A q := fun q h => by rw [← hAe]; exact Or.inr h
  have hS : va_S A s.heap s.heap [] := va_S.rf
  have hP : va_P D vwCl (zw_X cI x a b σ (τ)) s.heap := hP
  have hl := lv_entry ([.ref x, .int (nI k)]) (n := 2) (Nat.le_of_ble_eq_true rfl)
  rw [lg_entry_eq]
  generalize (lg_sl ([.ref x, .int (nI k)]) ++ List.replicate (2 - (lg_sl ([.ref x, .int (nI k)])).length) Slot.unset).toArray = ls at hl ⊢
  have hl : lv_has ls 2 [(0, .ref x), (1, .int (nI k))] := hl
  have hf10 := hts (.fieldLink RX3 10 "HotBeds" "house" "LHotBeds$House;") (by decide +kernel)
  have hf48 := hts (.fieldLink RX3 48 "HotBeds$House" "sailors" "LHotBeds$Sailors;") (by decide +kernel)
  have hf82 := hts (.fieldLink RX3 82 "HotBeds$Sailors" "purse" "[I") (by decide +kernel)
  have hinX1 : ∀ w ∈ u_ws RX1 TX1 5, w ∈ wsX3_pawn := by decide +kernel
  have hinX2 : ∀ w ∈ u_ws RX2 TX2 13, w ∈ wsX3_pawn := by decide +kernel
  have hinX3 : ∀ w ∈ u_ws RX3 TX3 2, w ∈ wsX3_pawn := by decide +kernel
  have hnb := hC.2.1
  have hns := hC.2.2.2.1
  have hh := hC.2.2.2.2.2.1
  refine lv_aload_n hx hb dX3_pawn_0 rfl (lv_at hl 0 rfl) ?_
  refine lv_iload_n hx hb dX3_pawn_1 rfl (lv_at hl 1 rfl) ?_
  refine zk_Q (D := D) (va_runV (As := [.int (nI k)]) (rest := []) ⟨hx, hb, hml, hown, hts⟩ (c_X3_requireSailor l D cI x a b σ (τ) hC hk _) (cwV 1 hts gX3_pawn_X3_requireSailor rfl rfl rfl zdX3_requireSailor ⟨Nat.le_of_ble_eq_true rfl, Nat.le_of_ble_eq_true rfl⟩) ⟨zbl _, va_recv hK hP (ci := 3) (q0 := 0) rfl rfl, zpr hK hP hD⟩ rfl rfl hl.1 rfl (lv_room (Nat.le_of_ble_eq_true rfl)) dX3_pawn_2 ⟨Nat.zero_le _, Nat.zero_le _⟩) hS (fun H locs hkp hS => ?_)
  have hP := hkp _ hP
  refine lv_aload_n hx hb dX3_pawn_5 rfl (lv_at hl 0 rfl) ?_
  refine va_get (D := D) (ci := 3) (v := .ref (a 0)) (C := RX3) (T := TX3) (N := 2) hx hb hts hinX3 hown hK hP 0 rfl rfl 0 (by decide) hf10 (fun _ h9 => h9) rfl dX3_pawn_6 ?_
  refine va_get (D := D) (ci := 1) (v := .ref (a 2)) (C := RX1) (T := TX1) (N := 5) hx hb hts hinX1 hown hK hP 1 rfl rfl 4 (by decide) hf48 (fun _ h9 => h9) rfl dX3_pawn_9 ?_
  refine lv_iload_n hx hb dX3_pawn_12 rfl (lv_at hl 1 rfl) ?_
  refine zk_R (D := D) (va_runV (As := [.int (nI k)]) (rest := []) ⟨hx, hb, hml, hown, hts⟩ (c_X2_hasBoots l D cI a σ (k := k) (by omega) _) (cwV 1 hts gX3_pawn_X2_hasBoots rfl rfl rfl zdX2_hasBoots ⟨Nat.le_of_ble_eq_true rfl, Nat.le_of_ble_eq_true rfl⟩) ⟨zbl _, va_recv hK (zxa_P hP) (ci := 2) (q0 := 2) rfl rfl, zpr hK (zxa_P hP) (zxa_D hD)⟩ rfl rfl hl.1 rfl (lv_room (Nat.le_of_ble_eq_true rfl)) dX3_pawn_13 ⟨Nat.zero_le _, Nat.zero_le _⟩) hS (fun r_1 H locs hw hkp hS => ?_)
  have hP := hkp _ hP
  rcases hw with ⟨c_2, rfl⟩ | ⟨c_2, rfl⟩
  · refine lv_if_ne (tgt := 29) hx hb dX3_pawn_16 (by decide) (fun _ => ?_) (fun c => absurd c (by decide))
    refine lv_aload_n hx hb dX3_pawn_29 rfl (lv_at hl 0 rfl) ?_
    refine va_get (D := D) (ci := 3) (v := .ref (a 0)) (C := RX3) (T := TX3) (N := 2) hx hb hts hinX3 hown hK hP 0 rfl rfl 0 (by decide) hf10 (fun _ h9 => h9) rfl dX3_pawn_30 ?_
    refine lv_iload_n hx hb dX3_pawn_33 rfl (lv_at hl 1 rfl) ?_
    have hF := zfree (zxa_D hD) hS hA
    refine zk_V (va_runV (As := [.int (nI k)]) (rest := []) ⟨hx, hb, hml, hown, hts⟩ (c_X1_pawnBoots l D cI a σ (k := k) (by omega) _) (cwV 1 hts gX3_pawn_X1_pawnBoots rfl rfl rfl zdX1_pawnBoots ⟨Nat.le_of_ble_eq_true rfl, Nat.le_of_ble_eq_true rfl⟩) ⟨zbl _, va_recv hK (zxa_P hP) (ci := 1) (q0 := 0) rfl rfl, zpr hK (zxa_P hP) (zxa_D hD)⟩ rfl rfl hl.1 rfl (lv_room (Nat.le_of_ble_eq_true rfl)) dX3_pawn_34 ⟨Nat.zero_le _, Nat.zero_le _⟩) hS hF (fun H locs hkp hP1 hD1 hS => ?_)
    obtain ⟨hP, hD⟩ := zxa_J hP hD hkp hF hP1 hD1
    have hP : va_P D vwCl (zw_X cI x a b (f_pawnB σ k) (τ)) H := hP
    have hD : va_D A (zw_X cI x a b (f_pawnB σ k) (τ)) := hD
    refine lv_aload_n hx hb dX3_pawn_37 rfl (lv_at hl 0 rfl) ?_
    refine va_get (D := D) (ci := 3) (v := .ref (a 0)) (C := RX3) (T := TX3) (N := 2) hx hb hts hinX3 hown hK hP 0 rfl rfl 0 (by decide) hf10 (fun _ h9 => h9) rfl dX3_pawn_38 ?_
    refine va_get (D := D) (ci := 1) (v := .ref (a 2)) (C := RX1) (T := TX1) (N := 5) hx hb hts hinX1 hown hK hP 1 rfl rfl 4 (by decide) hf48 (fun _ h9 => h9) rfl dX3_pawn_41 ?_
    refine va_get (D := D) (ci := 2) (v := .ref (a 11)) (C := RX2) (T := TX2) (N := 13) hx hb hts hinX2 hown hK hP 3 rfl rfl 4 (by decide) hf82 (fun _ h9 => h9) rfl dX3_pawn_44 ?_
    refine lv_iload_n hx hb dX3_pawn_47 rfl (lv_at hl 1 rfl) ?_
    refine zk_ld hx hb hK hP 12 0 rfl rfl (k := k) (by omega) (by decide) (v := (f_pawnB σ k) 9 k) rfl dX3_pawn_48 ?_
    have hP9 := hP
    have hD9 := hD
    exact W.iret (v := (f_pawnB σ k) 9 k) hx hb hr (fun t ht hW => ⟨⟨(f_pawnB σ k) 9 k, (), rfl, rfl, by rw [ht]; exact hP9, va_K.moved hW.alike hK, hD9⟩, hS.F ht⟩) hS.2.2 dX3_pawn_49
  · exact absurd (hbo) c_2

set_option maxHeartbeats 4000000 in
set_option maxRecDepth 100000 in
theorem c_X3_redeem (l : Launch) (D : va_G) (cI : ClassId) (x : Nat) (a b : Nat → Nat) (σ τ : zS) {k : Nat} {nb ns h : Nat} (hC : zC σ nb ns h) (hk : k < ns) (hcan : f_can σ k) : zMI l yX3_redeem wsX3_redeem ({ frames := 2, cells := 0, slots := 0, locals := 42 }) [.ref x, .int (nI k)] D [(cI, .int)] (zw_X cI x a b σ (τ)) (zw_X cI x a b (f_red σ k) (τ)) (fun r => r = (f_red σ k) 9 k) := by
  intro sz
  refine Met.ofW (cc := cX3_redeem) (maxL := 2) (ret := (some .int)) (by decide) rfl ?_
  intro p e s m args below meth c s₁ B hml hv
  obtain ⟨rfl, hsz, hP, hK, hD⟩ := hv
  have hx := B.exec
  have hb := B.bytes
  have hr := B.returns
  have hts := atoms_spec (ws := wsX3_redeem) B.pre
  have hown : s.vm.findClass RX3 = some m.cls := findClass_of_methodNamed B.named
  have hlocks := B.notSynchronized
  subst hsz
  have hD := hD.self (sz := s.heap.size)
  generalize hAe : va_A (zw_X cI x a b σ (τ)) s.heap.size = A at hD ⊢
  have hA : ∀ q : Nat, s.heap.size ≤ q → A q := fun q h => by rw [← hAe]; exact Or.inr h
  have hS : va_S A s.heap s.heap [] := va_S.rf
  have hP : va_P D vwCl (zw_X cI x a b σ (τ)) s.heap := hP
  have hl := lv_entry ([.ref x, .int (nI k)]) (n := 2) (Nat.le_of_ble_eq_true rfl)
  rw [lg_entry_eq]
  generalize (lg_sl ([.ref x, .int (nI k)]) ++ List.replicate (2 - (lg_sl ([.ref x, .int (nI k)])).length) Slot.unset).toArray = ls at hl ⊢
  have hl : lv_has ls 2 [(0, .ref x), (1, .int (nI k))] := hl
  have hf10 := hts (.fieldLink RX3 10 "HotBeds" "house" "LHotBeds$House;") (by decide +kernel)
  have hf48 := hts (.fieldLink RX3 48 "HotBeds$House" "sailors" "LHotBeds$Sailors;") (by decide +kernel)
  have hf82 := hts (.fieldLink RX3 82 "HotBeds$Sailors" "purse" "[I") (by decide +kernel)
  have hinX1 : ∀ w ∈ u_ws RX1 TX1 5, w ∈ wsX3_redeem := by decide +kernel
  have hinX2 : ∀ w ∈ u_ws RX2 TX2 13, w ∈ wsX3_redeem := by decide +kernel
  have hinX3 : ∀ w ∈ u_ws RX3 TX3 2, w ∈ wsX3_redeem := by decide +kernel
  have hnb := hC.2.1
  have hns := hC.2.2.2.1
  have hh := hC.2.2.2.2.2.1
  refine lv_aload_n hx hb dX3_redeem_0 rfl (lv_at hl 0 rfl) ?_
  refine lv_iload_n hx hb dX3_redeem_1 rfl (lv_at hl 1 rfl) ?_
  refine zk_Q (D := D) (va_runV (As := [.int (nI k)]) (rest := []) ⟨hx, hb, hml, hown, hts⟩ (c_X3_requireSailor l D cI x a b σ (τ) hC hk _) (cwV 1 hts gX3_redeem_X3_requireSailor rfl rfl rfl zdX3_requireSailor ⟨Nat.le_of_ble_eq_true rfl, Nat.le_of_ble_eq_true rfl⟩) ⟨zbl _, va_recv hK hP (ci := 3) (q0 := 0) rfl rfl, zpr hK hP hD⟩ rfl rfl hl.1 rfl (lv_room (Nat.le_of_ble_eq_true rfl)) dX3_redeem_2 ⟨Nat.zero_le _, Nat.zero_le _⟩) hS (fun H locs hkp hS => ?_)
  have hP := hkp _ hP
  refine lv_aload_n hx hb dX3_redeem_5 rfl (lv_at hl 0 rfl) ?_
  refine va_get (D := D) (ci := 3) (v := .ref (a 0)) (C := RX3) (T := TX3) (N := 2) hx hb hts hinX3 hown hK hP 0 rfl rfl 0 (by decide) hf10 (fun _ h9 => h9) rfl dX3_redeem_6 ?_
  refine lv_iload_n hx hb dX3_redeem_9 rfl (lv_at hl 1 rfl) ?_
  refine zk_R (D := D) (va_runV (As := [.int (nI k)]) (rest := []) ⟨hx, hb, hml, hown, hts⟩ (c_X1_canRedeemBoots l D cI a σ (k := k) (by omega) _) (cwV 1 hts gX3_redeem_X1_canRedeemBoots rfl rfl rfl zdX1_canRedeemBoots ⟨Nat.le_of_ble_eq_true rfl, Nat.le_of_ble_eq_true rfl⟩) ⟨zbl _, va_recv hK (zxa_P hP) (ci := 1) (q0 := 0) rfl rfl, zpr hK (zxa_P hP) (zxa_D hD)⟩ rfl rfl hl.1 rfl (lv_room (Nat.le_of_ble_eq_true rfl)) dX3_redeem_10 ⟨Nat.zero_le _, Nat.zero_le _⟩) hS (fun r_1 H locs hw hkp hS => ?_)
  have hP := hkp _ hP
  rcases hw with ⟨c_2, rfl⟩ | ⟨c_2, rfl⟩
  · refine lv_if_ne (tgt := 26) hx hb dX3_redeem_13 (by decide) (fun _ => ?_) (fun c => absurd c (by decide))
    refine lv_aload_n hx hb dX3_redeem_26 rfl (lv_at hl 0 rfl) ?_
    refine va_get (D := D) (ci := 3) (v := .ref (a 0)) (C := RX3) (T := TX3) (N := 2) hx hb hts hinX3 hown hK hP 0 rfl rfl 0 (by decide) hf10 (fun _ h9 => h9) rfl dX3_redeem_27 ?_
    refine lv_iload_n hx hb dX3_redeem_30 rfl (lv_at hl 1 rfl) ?_
    have hF := zfree (zxa_D hD) hS hA
    refine zk_V (va_runV (As := [.int (nI k)]) (rest := []) ⟨hx, hb, hml, hown, hts⟩ (c_X1_redeemBoots l D cI a σ (k := k) (by omega) _) (cwV 1 hts gX3_redeem_X1_redeemBoots rfl rfl rfl zdX1_redeemBoots ⟨Nat.le_of_ble_eq_true rfl, Nat.le_of_ble_eq_true rfl⟩) ⟨zbl _, va_recv hK (zxa_P hP) (ci := 1) (q0 := 0) rfl rfl, zpr hK (zxa_P hP) (zxa_D hD)⟩ rfl rfl hl.1 rfl (lv_room (Nat.le_of_ble_eq_true rfl)) dX3_redeem_31 ⟨Nat.zero_le _, Nat.zero_le _⟩) hS hF (fun H locs hkp hP1 hD1 hS => ?_)
    obtain ⟨hP, hD⟩ := zxa_J hP hD hkp hF hP1 hD1
    have hP : va_P D vwCl (zw_X cI x a b (f_red σ k) (τ)) H := hP
    have hD : va_D A (zw_X cI x a b (f_red σ k) (τ)) := hD
    have hC := hC.to (f_red_0 σ k) (f_red_6 σ k)
    refine lv_aload_n hx hb dX3_redeem_34 rfl (lv_at hl 0 rfl) ?_
    refine va_get (D := D) (ci := 3) (v := .ref (a 0)) (C := RX3) (T := TX3) (N := 2) hx hb hts hinX3 hown hK hP 0 rfl rfl 0 (by decide) hf10 (fun _ h9 => h9) rfl dX3_redeem_35 ?_
    refine va_get (D := D) (ci := 1) (v := .ref (a 2)) (C := RX1) (T := TX1) (N := 5) hx hb hts hinX1 hown hK hP 1 rfl rfl 4 (by decide) hf48 (fun _ h9 => h9) rfl dX3_redeem_38 ?_
    refine va_get (D := D) (ci := 2) (v := .ref (a 11)) (C := RX2) (T := TX2) (N := 13) hx hb hts hinX2 hown hK hP 3 rfl rfl 4 (by decide) hf82 (fun _ h9 => h9) rfl dX3_redeem_41 ?_
    refine lv_iload_n hx hb dX3_redeem_44 rfl (lv_at hl 1 rfl) ?_
    refine zk_ld hx hb hK hP 12 0 rfl rfl (k := k) (by omega) (by decide) (v := (f_red σ k) 9 k) rfl dX3_redeem_45 ?_
    have hP9 := hP
    have hD9 := hD
    exact W.iret (v := (f_red σ k) 9 k) hx hb hr (fun t ht hW => ⟨⟨(f_red σ k) 9 k, (), rfl, rfl, by rw [ht]; exact hP9, va_K.moved hW.alike hK, hD9⟩, hS.F ht⟩) hS.2.2 dX3_redeem_46
  · exact absurd (hcan) c_2

set_option maxHeartbeats 4000000 in
set_option maxRecDepth 100000 in
theorem c_X3_call (l : Launch) (D : va_G) (cI : ClassId) (x : Nat) (a b : Nat → Nat) (σ τ : zS) {k : Nat} {nb ns h : Nat} (hC : zC σ nb ns h) (hk : k < ns) (hup : ¬ σ 12 k = 0) : zMI l yX3_call wsX3_call ({ frames := 2, cells := 0, slots := 0, locals := 43 }) [.ref x, .int (nI k)] D [(cI, .int)] (zw_X cI x a b σ (τ)) (zw_X cI x a b (f_getUp σ k) (τ)) (fun r => r = σ 13 k) := by
  intro sz
  refine Met.ofW (cc := cX3_call) (maxL := 3) (ret := (some .int)) (by decide) rfl ?_
  intro p e s m args below meth c s₁ B hml hv
  obtain ⟨rfl, hsz, hP, hK, hD⟩ := hv
  have hx := B.exec
  have hb := B.bytes
  have hr := B.returns
  have hts := atoms_spec (ws := wsX3_call) B.pre
  have hown : s.vm.findClass RX3 = some m.cls := findClass_of_methodNamed B.named
  have hlocks := B.notSynchronized
  subst hsz
  have hD := hD.self (sz := s.heap.size)
  generalize hAe : va_A (zw_X cI x a b σ (τ)) s.heap.size = A at hD ⊢
  have hA : ∀ q : Nat, s.heap.size ≤ q → A q := fun q h => by rw [← hAe]; exact Or.inr h
  have hS : va_S A s.heap s.heap [] := va_S.rf
  have hP : va_P D vwCl (zw_X cI x a b σ (τ)) s.heap := hP
  have hl := lv_entry ([.ref x, .int (nI k)]) (n := 3) (Nat.le_of_ble_eq_true rfl)
  rw [lg_entry_eq]
  generalize (lg_sl ([.ref x, .int (nI k)]) ++ List.replicate (3 - (lg_sl ([.ref x, .int (nI k)])).length) Slot.unset).toArray = ls at hl ⊢
  have hl : lv_has ls 3 [(0, .ref x), (1, .int (nI k))] := hl
  have hf10 := hts (.fieldLink RX3 10 "HotBeds" "house" "LHotBeds$House;") (by decide +kernel)
  have hf110 := hts (.fieldLink RX3 110 "HotBeds$Sailors" "bed" "[I") (by decide +kernel)
  have hf48 := hts (.fieldLink RX3 48 "HotBeds$House" "sailors" "LHotBeds$Sailors;") (by decide +kernel)
  have hinX1 : ∀ w ∈ u_ws RX1 TX1 5, w ∈ wsX3_call := by decide +kernel
  have hinX2 : ∀ w ∈ u_ws RX2 TX2 13, w ∈ wsX3_call := by decide +kernel
  have hinX3 : ∀ w ∈ u_ws RX3 TX3 2, w ∈ wsX3_call := by decide +kernel
  have hnb := hC.2.1
  have hns := hC.2.2.2.1
  have hh := hC.2.2.2.2.2.1
  refine lv_aload_n hx hb dX3_call_0 rfl (lv_at hl 0 rfl) ?_
  refine lv_iload_n hx hb dX3_call_1 rfl (lv_at hl 1 rfl) ?_
  refine zk_Q (D := D) (va_runV (As := [.int (nI k)]) (rest := []) ⟨hx, hb, hml, hown, hts⟩ (c_X3_requireSailor l D cI x a b σ (τ) hC hk _) (cwV 1 hts gX3_call_X3_requireSailor rfl rfl rfl zdX3_requireSailor ⟨Nat.le_of_ble_eq_true rfl, Nat.le_of_ble_eq_true rfl⟩) ⟨zbl _, va_recv hK hP (ci := 3) (q0 := 0) rfl rfl, zpr hK hP hD⟩ rfl rfl hl.1 rfl (lv_room (Nat.le_of_ble_eq_true rfl)) dX3_call_2 ⟨Nat.zero_le _, Nat.zero_le _⟩) hS (fun H locs hkp hS => ?_)
  have hP := hkp _ hP
  refine lv_aload_n hx hb dX3_call_5 rfl (lv_at hl 0 rfl) ?_
  refine va_get (D := D) (ci := 3) (v := .ref (a 0)) (C := RX3) (T := TX3) (N := 2) hx hb hts hinX3 hown hK hP 0 rfl rfl 0 (by decide) hf10 (fun _ h9 => h9) rfl dX3_call_6 ?_
  refine va_get (D := D) (ci := 1) (v := .ref (a 2)) (C := RX1) (T := TX1) (N := 5) hx hb hts hinX1 hown hK hP 1 rfl rfl 4 (by decide) hf48 (fun _ h9 => h9) rfl dX3_call_9 ?_
  refine lv_iload_n hx hb dX3_call_12 rfl (lv_at hl 1 rfl) ?_
  refine zk_R (D := D) (va_runV (As := [.int (nI k)]) (rest := []) ⟨hx, hb, hml, hown, hts⟩ (c_X2_isUp l D cI a σ (k := k) (by omega) _) (cwV 1 hts gX3_call_X2_isUp rfl rfl rfl zdX2_isUp ⟨Nat.le_of_ble_eq_true rfl, Nat.le_of_ble_eq_true rfl⟩) ⟨zbl _, va_recv hK (zxa_P hP) (ci := 2) (q0 := 2) rfl rfl, zpr hK (zxa_P hP) (zxa_D hD)⟩ rfl rfl hl.1 rfl (lv_room (Nat.le_of_ble_eq_true rfl)) dX3_call_13 ⟨Nat.zero_le _, Nat.zero_le _⟩) hS (fun r_1 H locs hw hkp hS => ?_)
  have hP := hkp _ hP
  rcases hw with ⟨c_2, rfl⟩ | ⟨c_2, rfl⟩
  · exact absurd c_2 (hup)
  · refine lv_if_eq (tgt := 29) hx hb dX3_call_16 (by decide) (fun _ => ?_) (fun c => absurd (by decide) c)
    refine lv_aload_n hx hb dX3_call_29 rfl (lv_at hl 0 rfl) ?_
    refine va_get (D := D) (ci := 3) (v := .ref (a 0)) (C := RX3) (T := TX3) (N := 2) hx hb hts hinX3 hown hK hP 0 rfl rfl 0 (by decide) hf10 (fun _ h9 => h9) rfl dX3_call_30 ?_
    refine va_get (D := D) (ci := 1) (v := .ref (a 2)) (C := RX1) (T := TX1) (N := 5) hx hb hts hinX1 hown hK hP 1 rfl rfl 4 (by decide) hf48 (fun _ h9 => h9) rfl dX3_call_33 ?_
    refine va_get (D := D) (ci := 2) (v := .ref (a 15)) (C := RX2) (T := TX2) (N := 13) hx hb hts hinX2 hown hK hP 3 rfl rfl 8 (by decide) hf110 (fun _ h9 => h9) rfl dX3_call_36 ?_
    refine lv_iload_n hx hb dX3_call_39 rfl (lv_at hl 1 rfl) ?_
    refine zk_ld hx hb hK hP 16 0 rfl rfl (k := k) (by omega) (by decide) (v := σ 13 k) rfl dX3_call_40 ?_
    refine lv_istore_n (lv' := [(2, .int (σ 13 k)), (0, .ref x), (1, .int (nI k))]) hx hb dX3_call_41 rfl hl (by decide) rfl (fun ls hl => ?_)
    refine lv_aload_n hx hb dX3_call_42 rfl (lv_at hl 1 rfl) ?_
    refine va_get (D := D) (ci := 3) (v := .ref (a 0)) (C := RX3) (T := TX3) (N := 2) hx hb hts hinX3 hown hK hP 0 rfl rfl 0 (by decide) hf10 (fun _ h9 => h9) rfl dX3_call_43 ?_
    refine lv_iload_n hx hb dX3_call_46 rfl (lv_at hl 2 rfl) ?_
    have hF := zfree (zxa_D hD) hS hA
    refine zk_V (va_runV (As := [.int (nI k)]) (rest := []) ⟨hx, hb, hml, hown, hts⟩ (c_X1_getUp l D cI a σ (k := k) (by omega) hC _) (cwV 1 hts gX3_call_X1_getUp rfl rfl rfl zdX1_getUp ⟨Nat.le_of_ble_eq_true rfl, Nat.le_of_ble_eq_true rfl⟩) ⟨zbl _, va_recv hK (zxa_P hP) (ci := 1) (q0 := 0) rfl rfl, zpr hK (zxa_P hP) (zxa_D hD)⟩ rfl rfl hl.1 rfl (lv_room (Nat.le_of_ble_eq_true rfl)) dX3_call_47 ⟨Nat.zero_le _, Nat.zero_le _⟩) hS hF (fun H locs hkp hP1 hD1 hS => ?_)
    obtain ⟨hP, hD⟩ := zxa_J hP hD hkp hF hP1 hD1
    have hP : va_P D vwCl (zw_X cI x a b (f_getUp σ k) (τ)) H := hP
    have hD : va_D A (zw_X cI x a b (f_getUp σ k) (τ)) := hD
    refine lv_iload_n hx hb dX3_call_50 rfl (lv_at hl 0 rfl) ?_
    have hP9 := hP
    have hD9 := hD
    exact W.iret (v := σ 13 k) hx hb hr (fun t ht hW => ⟨⟨σ 13 k, (), rfl, rfl, by rw [ht]; exact hP9, va_K.moved hW.alike hK, hD9⟩, hS.F ht⟩) hS.2.2 dX3_call_51

set_option maxHeartbeats 4000000 in
set_option maxRecDepth 100000 in
theorem c_X3_shift (l : Launch) (D : va_G) (cI : ClassId) (x : Nat) (a b : Nat → Nat) (σ τ : zS) {k : Nat} {nb ns h : Nat} (hC : zC σ nb ns h) (hk : k < ns) (v : Int32) (hw1 : ¬ v < 0) (hw2 : v < 3) (hup : σ 12 k = 0) : zMI l yX3_shift wsX3_shift ({ frames := 2, cells := 0, slots := 0, locals := 42 }) [.ref x, .int (nI k), .int v] D [(cI, .int)] (zw_X cI x a b σ (τ)) (zw_X cI x a b (zs σ 6 k v) (τ)) (fun r => r = σ 6 k) := by
  intro sz
  refine Met.ofW (cc := cX3_shift) (maxL := 4) (ret := (some .int)) (by decide) rfl ?_
  intro p e s m args below meth c s₁ B hml hv
  obtain ⟨rfl, hsz, hP, hK, hD⟩ := hv
  have hx := B.exec
  have hb := B.bytes
  have hr := B.returns
  have hts := atoms_spec (ws := wsX3_shift) B.pre
  have hown : s.vm.findClass RX3 = some m.cls := findClass_of_methodNamed B.named
  have hlocks := B.notSynchronized
  subst hsz
  have hD := hD.self (sz := s.heap.size)
  generalize hAe : va_A (zw_X cI x a b σ (τ)) s.heap.size = A at hD ⊢
  have hA : ∀ q : Nat, s.heap.size ≤ q → A q := fun q h => by rw [← hAe]; exact Or.inr h
  have hS : va_S A s.heap s.heap [] := va_S.rf
  have hP : va_P D vwCl (zw_X cI x a b σ (τ)) s.heap := hP
  have hl := lv_entry ([.ref x, .int (nI k), .int v]) (n := 4) (Nat.le_of_ble_eq_true rfl)
  rw [lg_entry_eq]
  generalize (lg_sl ([.ref x, .int (nI k), .int v]) ++ List.replicate (4 - (lg_sl ([.ref x, .int (nI k), .int v])).length) Slot.unset).toArray = ls at hl ⊢
  have hl : lv_has ls 4 [(0, .ref x), (1, .int (nI k)), (2, .int v)] := hl
  have hf10 := hts (.fieldLink RX3 10 "HotBeds" "house" "LHotBeds$House;") (by decide +kernel)
  have hf119 := hts (.fieldLink RX3 119 "HotBeds$Sailors" "watch" "[I") (by decide +kernel)
  have hf48 := hts (.fieldLink RX3 48 "HotBeds$House" "sailors" "LHotBeds$Sailors;") (by decide +kernel)
  have hinX1 : ∀ w ∈ u_ws RX1 TX1 5, w ∈ wsX3_shift := by decide +kernel
  have hinX2 : ∀ w ∈ u_ws RX2 TX2 13, w ∈ wsX3_shift := by decide +kernel
  have hinX3 : ∀ w ∈ u_ws RX3 TX3 2, w ∈ wsX3_shift := by decide +kernel
  have hnb := hC.2.1
  have hns := hC.2.2.2.1
  have hh := hC.2.2.2.2.2.1
  refine lv_aload_n hx hb dX3_shift_0 rfl (lv_at hl 0 rfl) ?_
  refine lv_iload_n hx hb dX3_shift_1 rfl (lv_at hl 1 rfl) ?_
  refine zk_Q (D := D) (va_runV (As := [.int (nI k)]) (rest := []) ⟨hx, hb, hml, hown, hts⟩ (c_X3_requireSailor l D cI x a b σ (τ) hC hk _) (cwV 1 hts gX3_shift_X3_requireSailor rfl rfl rfl zdX3_requireSailor ⟨Nat.le_of_ble_eq_true rfl, Nat.le_of_ble_eq_true rfl⟩) ⟨zbl _, va_recv hK hP (ci := 3) (q0 := 0) rfl rfl, zpr hK hP hD⟩ rfl rfl hl.1 rfl (lv_room (Nat.le_of_ble_eq_true rfl)) dX3_shift_2 ⟨Nat.zero_le _, Nat.zero_le _⟩) hS (fun H locs hkp hS => ?_)
  have hP := hkp _ hP
  refine lv_iload_n hx hb dX3_shift_5 rfl (lv_at hl 2 rfl) ?_
  refine zk_Q (D := D) (va_runS (As := [.int v]) (rest := []) ⟨hx, hb, hml, hown, hts⟩ (c_X3_requireWatch l D cI v hw1 hw2 _) (va_cwS 1 hts gX3_shift_X3_requireWatch rfl rfl rfl zdX3_requireWatch.2 ⟨Nat.le_of_ble_eq_true rfl, Nat.le_of_ble_eq_true rfl⟩) ⟨zbl _, zpr hK zP0 (zD0 (A := fun _ => True))⟩ rfl rfl hl.1 rfl (lv_room (Nat.le_of_ble_eq_true rfl)) dX3_shift_6 ⟨Nat.zero_le _, Nat.zero_le _⟩) hS (fun H locs hkp hS => ?_)
  have hP := hkp _ hP
  refine lv_aload_n hx hb dX3_shift_9 rfl (lv_at hl 0 rfl) ?_
  refine lv_iload_n hx hb dX3_shift_10 rfl (lv_at hl 1 rfl) ?_
  refine zk_Q (D := D) (va_runV (As := [.int (nI k)]) (rest := []) ⟨hx, hb, hml, hown, hts⟩ (c_X3_requireUp l D cI x a b σ (τ) hC hk hup _) (cwV 1 hts gX3_shift_X3_requireUp rfl rfl rfl zdX3_requireUp ⟨Nat.le_of_ble_eq_true rfl, Nat.le_of_ble_eq_true rfl⟩) ⟨zbl _, va_recv hK hP (ci := 3) (q0 := 0) rfl rfl, zpr hK hP hD⟩ rfl rfl hl.1 rfl (lv_room (Nat.le_of_ble_eq_true rfl)) dX3_shift_11 ⟨Nat.zero_le _, Nat.zero_le _⟩) hS (fun H locs hkp hS => ?_)
  have hP := hkp _ hP
  refine lv_aload_n hx hb dX3_shift_14 rfl (lv_at hl 0 rfl) ?_
  refine va_get (D := D) (ci := 3) (v := .ref (a 0)) (C := RX3) (T := TX3) (N := 2) hx hb hts hinX3 hown hK hP 0 rfl rfl 0 (by decide) hf10 (fun _ h9 => h9) rfl dX3_shift_15 ?_
  refine va_get (D := D) (ci := 1) (v := .ref (a 2)) (C := RX1) (T := TX1) (N := 5) hx hb hts hinX1 hown hK hP 1 rfl rfl 4 (by decide) hf48 (fun _ h9 => h9) rfl dX3_shift_18 ?_
  refine va_get (D := D) (ci := 2) (v := .ref (a 8)) (C := RX2) (T := TX2) (N := 13) hx hb hts hinX2 hown hK hP 3 rfl rfl 1 (by decide) hf119 (fun _ h9 => h9) rfl dX3_shift_21 ?_
  refine lv_iload_n hx hb dX3_shift_24 rfl (lv_at hl 1 rfl) ?_
  refine zk_ld hx hb hK hP 9 0 rfl rfl (k := k) (by omega) (by decide) (v := σ 6 k) rfl dX3_shift_25 ?_
  refine lv_istore_n (lv' := [(3, .int (σ 6 k)), (0, .ref x), (1, .int (nI k)), (2, .int v)]) hx hb dX3_shift_26 rfl hl (by decide) rfl (fun ls hl => ?_)
  refine lv_aload_n hx hb dX3_shift_27 rfl (lv_at hl 1 rfl) ?_
  refine va_get (D := D) (ci := 3) (v := .ref (a 0)) (C := RX3) (T := TX3) (N := 2) hx hb hts hinX3 hown hK hP 0 rfl rfl 0 (by decide) hf10 (fun _ h9 => h9) rfl dX3_shift_28 ?_
  refine va_get (D := D) (ci := 1) (v := .ref (a 2)) (C := RX1) (T := TX1) (N := 5) hx hb hts hinX1 hown hK hP 1 rfl rfl 4 (by decide) hf48 (fun _ h9 => h9) rfl dX3_shift_31 ?_
  refine va_get (D := D) (ci := 2) (v := .ref (a 8)) (C := RX2) (T := TX2) (N := 13) hx hb hts hinX2 hown hK hP 3 rfl rfl 1 (by decide) hf119 (fun _ h9 => h9) rfl dX3_shift_34 ?_
  refine lv_iload_n hx hb dX3_shift_37 rfl (lv_at hl 2 rfl) ?_
  refine lv_iload_n hx hb dX3_shift_38 rfl (lv_at hl 3 rfl) ?_
  refine zk_st hx hb hK hP hD hS 9 0 rfl rfl (k := k) (by omega) (by decide) (w1 := zw_X cI x a b (zs σ 6 k v) (τ)) rfl dX3_shift_39 (fun H locs hP hD hS => ?_)
  have hP : va_P D vwCl (zw_X cI x a b (zs σ 6 k v) (τ)) H := hP
  have hD : va_D A (zw_X cI x a b (zs σ 6 k v) (τ)) := hD
  refine lv_iload_n hx hb dX3_shift_40 rfl (lv_at hl 0 rfl) ?_
  have hP9 := hP
  have hD9 := hD
  exact W.iret (v := σ 6 k) hx hb hr (fun t ht hW => ⟨⟨σ 6 k, (), rfl, rfl, by rw [ht]; exact hP9, va_K.moved hW.alike hK, hD9⟩, hS.F ht⟩) hS.2.2 dX3_shift_41

set_option maxHeartbeats 4000000 in
set_option maxRecDepth 100000 in
theorem c_X3_pass (l : Launch) (D : va_G) (cI : ClassId) (x : Nat) (a b : Nat → Nat) (σ τ : zS) {n : Nat} {nb ns h : Nat} (hC : zC σ nb ns h) (hw1 : ¬ nI n < 1) (hw2 : nI n ≤ 72) (hn : h + n < 2 ^ 30) : zMI l yX3_pass wsX3_pass ({ frames := 7, cells := 0, slots := 0, locals := 149 }) [.ref x, .int (nI n)] D [(cI, .int)] (zw_X cI x a b σ (τ)) (zw_X cI x a b (f_hours σ nb ns h n) (τ)) (fun r => r = f_sum ((f_hours σ nb ns h n) 17) ns - f_sum (σ 17) ns) := by
  intro sz
  refine Met.ofW (cc := cX3_pass) (maxL := 3) (ret := (some .int)) (by decide) rfl ?_
  intro p e s m args below meth c s₁ B hml hv
  obtain ⟨rfl, hsz, hP, hK, hD⟩ := hv
  have hx := B.exec
  have hb := B.bytes
  have hr := B.returns
  have hts := atoms_spec (ws := wsX3_pass) B.pre
  have hown : s.vm.findClass RX3 = some m.cls := findClass_of_methodNamed B.named
  have hlocks := B.notSynchronized
  subst hsz
  have hD := hD.self (sz := s.heap.size)
  generalize hAe : va_A (zw_X cI x a b σ (τ)) s.heap.size = A at hD ⊢
  have hA : ∀ q : Nat, s.heap.size ≤ q → A q := fun q h => by rw [← hAe]; exact Or.inr h
  have hS : va_S A s.heap s.heap [] := va_S.rf
  have hP : va_P D vwCl (zw_X cI x a b σ (τ)) s.heap := hP
  have hl := lv_entry ([.ref x, .int (nI n)]) (n := 3) (Nat.le_of_ble_eq_true rfl)
  rw [lg_entry_eq]
  generalize (lg_sl ([.ref x, .int (nI n)]) ++ List.replicate (3 - (lg_sl ([.ref x, .int (nI n)])).length) Slot.unset).toArray = ls at hl ⊢
  have hl : lv_has ls 3 [(0, .ref x), (1, .int (nI n))] := hl
  have hf10 := hts (.fieldLink RX3 10 "HotBeds" "house" "LHotBeds$House;") (by decide +kernel)
  have hf48 := hts (.fieldLink RX3 48 "HotBeds$House" "sailors" "LHotBeds$Sailors;") (by decide +kernel)
  have hinX1 : ∀ w ∈ u_ws RX1 TX1 5, w ∈ wsX3_pass := by decide +kernel
  have hinX3 : ∀ w ∈ u_ws RX3 TX3 2, w ∈ wsX3_pass := by decide +kernel
  have hnb := hC.2.1
  have hns := hC.2.2.2.1
  have hh := hC.2.2.2.2.2.1
  refine lv_iload_n hx hb dX3_pass_0 rfl (lv_at hl 1 rfl) ?_
  refine zk_Q (D := D) (va_runS (As := [.int (nI n)]) (rest := []) ⟨hx, hb, hml, hown, hts⟩ (c_X3_requireHours l D cI (nI n) hw1 hw2 _) (va_cwS 1 hts gX3_pass_X3_requireHours rfl rfl rfl zdX3_requireHours.2 ⟨Nat.le_of_ble_eq_true rfl, Nat.le_of_ble_eq_true rfl⟩) ⟨zbl _, zpr hK zP0 (zD0 (A := fun _ => True))⟩ rfl rfl hl.1 rfl (lv_room (Nat.le_of_ble_eq_true rfl)) dX3_pass_1 ⟨Nat.zero_le _, Nat.zero_le _⟩) hS (fun H locs hkp hS => ?_)
  have hP := hkp _ hP
  refine lv_aload_n hx hb dX3_pass_4 rfl (lv_at hl 0 rfl) ?_
  refine va_get (D := D) (ci := 3) (v := .ref (a 0)) (C := RX3) (T := TX3) (N := 2) hx hb hts hinX3 hown hK hP 0 rfl rfl 0 (by decide) hf10 (fun _ h9 => h9) rfl dX3_pass_5 ?_
  refine va_get (D := D) (ci := 1) (v := .ref (a 2)) (C := RX1) (T := TX1) (N := 5) hx hb hts hinX1 hown hK hP 1 rfl rfl 4 (by decide) hf48 (fun _ h9 => h9) rfl dX3_pass_8 ?_
  refine zk_R (D := D) (va_runV (As := []) (rest := []) ⟨hx, hb, hml, hown, hts⟩ (c_X2_allFloors l D cI a σ hC _) (cwV 0 hts gX3_pass_X2_allFloors rfl rfl rfl zdX2_allFloors ⟨Nat.le_of_ble_eq_true rfl, Nat.le_of_ble_eq_true rfl⟩) ⟨zbl _, va_recv hK (zxa_P hP) (ci := 2) (q0 := 2) rfl rfl, zpr hK (zxa_P hP) (zxa_D hD)⟩ rfl rfl hl.1 rfl (lv_room (Nat.le_of_ble_eq_true rfl)) dX3_pass_11 ⟨Nat.zero_le _, Nat.zero_le _⟩) hS (fun r_1 H locs hw hkp hS => ?_)
  have hP := hkp _ hP
  subst hw
  refine lv_istore_n (lv' := [(2, .int (f_sum (σ 17) ns)), (0, .ref x), (1, .int (nI n))]) hx hb dX3_pass_14 rfl hl (by decide) rfl (fun ls hl => ?_)
  refine lv_aload_n hx hb dX3_pass_15 rfl (lv_at hl 1 rfl) ?_
  refine va_get (D := D) (ci := 3) (v := .ref (a 0)) (C := RX3) (T := TX3) (N := 2) hx hb hts hinX3 hown hK hP 0 rfl rfl 0 (by decide) hf10 (fun _ h9 => h9) rfl dX3_pass_16 ?_
  refine lv_iload_n hx hb dX3_pass_19 rfl (lv_at hl 2 rfl) ?_
  have hF := zfree (zxa_D hD) hS hA
  refine zk_V (va_runV (As := [.int (nI n)]) (rest := []) ⟨hx, hb, hml, hown, hts⟩ (c_X1_goOn l D cI a σ (n := n) hC hn _) (cwV 1 hts gX3_pass_X1_goOn rfl rfl rfl zdX1_goOn ⟨Nat.le_of_ble_eq_true rfl, Nat.le_of_ble_eq_true rfl⟩) ⟨zbl _, va_recv hK (zxa_P hP) (ci := 1) (q0 := 0) rfl rfl, zpr hK (zxa_P hP) (zxa_D hD)⟩ rfl rfl hl.1 rfl (lv_room (Nat.le_of_ble_eq_true rfl)) dX3_pass_20 ⟨Nat.zero_le _, Nat.zero_le _⟩) hS hF (fun H locs hkp hP1 hD1 hS => ?_)
  obtain ⟨hP, hD⟩ := zxa_J hP hD hkp hF hP1 hD1
  have hP : va_P D vwCl (zw_X cI x a b (f_hours σ nb ns h n) (τ)) H := hP
  have hD : va_D A (zw_X cI x a b (f_hours σ nb ns h n) (τ)) := hD
  have hC := hC.hours n hn
  refine lv_aload_n hx hb dX3_pass_23 rfl (lv_at hl 1 rfl) ?_
  refine va_get (D := D) (ci := 3) (v := .ref (a 0)) (C := RX3) (T := TX3) (N := 2) hx hb hts hinX3 hown hK hP 0 rfl rfl 0 (by decide) hf10 (fun _ h9 => h9) rfl dX3_pass_24 ?_
  refine va_get (D := D) (ci := 1) (v := .ref (a 2)) (C := RX1) (T := TX1) (N := 5) hx hb hts hinX1 hown hK hP 1 rfl rfl 4 (by decide) hf48 (fun _ h9 => h9) rfl dX3_pass_27 ?_
  refine zk_R (D := D) (va_runV (As := []) (rest := []) ⟨hx, hb, hml, hown, hts⟩ (c_X2_allFloors l D cI a (f_hours σ nb ns h n) hC _) (cwV 0 hts gX3_pass_X2_allFloors rfl rfl rfl zdX2_allFloors ⟨Nat.le_of_ble_eq_true rfl, Nat.le_of_ble_eq_true rfl⟩) ⟨zbl _, va_recv hK (zxa_P hP) (ci := 2) (q0 := 2) rfl rfl, zpr hK (zxa_P hP) (zxa_D hD)⟩ rfl rfl hl.1 rfl (lv_room (Nat.le_of_ble_eq_true rfl)) dX3_pass_30 ⟨Nat.zero_le _, Nat.zero_le _⟩) hS (fun r_2 H locs hw hkp hS => ?_)
  have hP := hkp _ hP
  subst hw
  refine lv_iload_n hx hb dX3_pass_33 rfl (lv_at hl 0 rfl) ?_
  refine lv_isub hx hb dX3_pass_34 ?_
  have hP9 := hP
  have hD9 := hD
  exact W.iret (v := (f_sum ((f_hours σ nb ns h n) 17) ns) - (f_sum (σ 17) ns)) hx hb hr (fun t ht hW => ⟨⟨(f_sum ((f_hours σ nb ns h n) 17) ns) - (f_sum (σ 17) ns), (), rfl, rfl, by rw [ht]; exact hP9, va_K.moved hW.alike hK, hD9⟩, hS.F ht⟩) hS.2.2 dX3_pass_35
end
section
/-! what a call asks of a name -/
theorem zdX2_allLate : yX2_allLate.cls = RX2 ∧ yX2_allLate.cls ≠ "java/lang/invoke/MethodHandle" ∧ yX2_allLate.cls ≠ "java/lang/invoke/VarHandle" ∧ (parseMethodDescriptor yX2_allLate.desc).map (fun d => d.parameters.length) = some 0 := by decide +kernel
theorem zdX2_howManyAt : yX2_howManyAt.cls = RX2 ∧ yX2_howManyAt.cls ≠ "java/lang/invoke/MethodHandle" ∧ yX2_howManyAt.cls ≠ "java/lang/invoke/VarHandle" ∧ (parseMethodDescriptor yX2_howManyAt.desc).map (fun d => d.parameters.length) = some 1 := by decide +kernel
theorem zdX3_about : yX3_about.cls = RX3 ∧ yX3_about.cls ≠ "java/lang/invoke/MethodHandle" ∧ yX3_about.cls ≠ "java/lang/invoke/VarHandle" ∧ (parseMethodDescriptor yX3_about.desc).map (fun d => d.parameters.length) = some 2 := by decide +kernel
theorem zdX3_count : yX3_count.cls = RX3 ∧ yX3_count.cls ≠ "java/lang/invoke/MethodHandle" ∧ yX3_count.cls ≠ "java/lang/invoke/VarHandle" ∧ (parseMethodDescriptor yX3_count.desc).map (fun d => d.parameters.length) = some 1 := by decide +kernel
theorem zdX3_told : yX3_told.cls = RX3 ∧ yX3_told.cls ≠ "java/lang/invoke/MethodHandle" ∧ yX3_told.cls ≠ "java/lang/invoke/VarHandle" ∧ (parseMethodDescriptor yX3_told.desc).map (fun d => d.parameters.length) = some 2 := by decide +kernel
end
section
set_option maxHeartbeats 4000000 in
set_option maxRecDepth 100000 in
theorem c_X3_told (l : Launch) (D : va_G) (cI : ClassId) (x : Nat) (a b : Nat → Nat) (σ τ : zS) {k w : Nat} {nb ns h : Nat} (hC : zC σ nb ns h) (hk : k < ns) (hw10 : w ≤ 10) : zMR l yX3_told wsX3_told ({ frames := 1, cells := 0, slots := 0, locals := 21 }) [.ref x, .int (nI k), .int (nI w)] D [(cI, .int)] (zw_X cI x a b σ (τ)) (fun r => r = σ (q_row w) k) := by
  intro sz
  refine Met.ofW (cc := cX3_told) (maxL := 4) (ret := (some .int)) (by decide) rfl ?_
  intro p e s m args below meth c s₁ B hml hv
  obtain ⟨rfl, hsz, hP, hK, hD⟩ := hv
  have hx := B.exec
  have hb := B.bytes
  have hr := B.returns
  have hts := atoms_spec (ws := wsX3_told) B.pre
  have hown : s.vm.findClass RX3 = some m.cls := findClass_of_methodNamed B.named
  have hlocks := B.notSynchronized
  have hS : va_S (fun _ => False) s.heap s.heap [] := va_S.rf
  have hP : va_P D vwCl (zw_X cI x a b σ (τ)) s.heap := hP
  have hl := lv_entry ([.ref x, .int (nI k), .int (nI w)]) (n := 4) (Nat.le_of_ble_eq_true rfl)
  rw [lg_entry_eq]
  generalize (lg_sl ([.ref x, .int (nI k), .int (nI w)]) ++ List.replicate (4 - (lg_sl ([.ref x, .int (nI k), .int (nI w)])).length) Slot.unset).toArray = ls at hl ⊢
  have hl : lv_has ls 4 [(0, .ref x), (1, .int (nI k)), (2, .int (nI w))] := hl
  have hf10 := hts (.fieldLink RX3 10 "HotBeds" "house" "LHotBeds$House;") (by decide +kernel)
  have hf110 := hts (.fieldLink RX3 110 "HotBeds$Sailors" "bed" "[I") (by decide +kernel)
  have hf119 := hts (.fieldLink RX3 119 "HotBeds$Sailors" "watch" "[I") (by decide +kernel)
  have hf132 := hts (.fieldLink RX3 132 "HotBeds$Sailors" "heavy" "[I") (by decide +kernel)
  have hf135 := hts (.fieldLink RX3 135 "HotBeds$Sailors" "wage" "[I") (by decide +kernel)
  have hf138 := hts (.fieldLink RX3 138 "HotBeds$Sailors" "boots" "[I") (by decide +kernel)
  have hf141 := hts (.fieldLink RX3 141 "HotBeds$Sailors" "place" "[I") (by decide +kernel)
  have hf144 := hts (.fieldLink RX3 144 "HotBeds$Sailors" "rest" "[I") (by decide +kernel)
  have hf147 := hts (.fieldLink RX3 147 "HotBeds$Sailors" "late" "[I") (by decide +kernel)
  have hf150 := hts (.fieldLink RX3 150 "HotBeds$Sailors" "floors" "[I") (by decide +kernel)
  have hf48 := hts (.fieldLink RX3 48 "HotBeds$House" "sailors" "LHotBeds$Sailors;") (by decide +kernel)
  have hf61 := hts (.fieldLink RX3 61 "HotBeds$Sailors" "kept" "[I") (by decide +kernel)
  have hf82 := hts (.fieldLink RX3 82 "HotBeds$Sailors" "purse" "[I") (by decide +kernel)
  have hinX1 : ∀ w ∈ u_ws RX1 TX1 5, w ∈ wsX3_told := by decide +kernel
  have hinX2 : ∀ w ∈ u_ws RX2 TX2 13, w ∈ wsX3_told := by decide +kernel
  have hinX3 : ∀ w ∈ u_ws RX3 TX3 2, w ∈ wsX3_told := by decide +kernel
  have hnb := hC.2.1
  have hns := hC.2.2.2.1
  have hh := hC.2.2.2.2.2.1
  refine lv_aload_n hx hb dX3_told_0 rfl (lv_at hl 0 rfl) ?_
  refine lv_iload_n hx hb dX3_told_1 rfl (lv_at hl 1 rfl) ?_
  refine zk_Q (D := D) (va_runV (As := [.int (nI k)]) (rest := []) ⟨hx, hb, hml, hown, hts⟩ (c_X3_requireSailor l D cI x a b σ (τ) hC hk _) (cwV 1 hts gX3_told_X3_requireSailor rfl rfl rfl zdX3_requireSailor ⟨Nat.le_of_ble_eq_true rfl, Nat.le_of_ble_eq_true rfl⟩) ⟨zbl _, va_recv hK hP (ci := 3) (q0 := 0) rfl rfl, zpr hK hP hD⟩ rfl rfl hl.1 rfl (lv_room (Nat.le_of_ble_eq_true rfl)) dX3_told_2 ⟨Nat.zero_le _, Nat.zero_le _⟩) hS (fun H locs hkp hS => ?_)
  have hP := hkp _ hP
  refine lv_aload_n hx hb dX3_told_5 rfl (lv_at hl 0 rfl) ?_
  refine va_get (D := D) (ci := 3) (v := .ref (a 0)) (C := RX3) (T := TX3) (N := 2) hx hb hts hinX3 hown hK hP 0 rfl rfl 0 (by decide) hf10 (fun _ h9 => h9) rfl dX3_told_6 ?_
  refine va_get (D := D) (ci := 1) (v := .ref (a 2)) (C := RX1) (T := TX1) (N := 5) hx hb hts hinX1 hown hK hP 1 rfl rfl 4 (by decide) hf48 (fun _ h9 => h9) rfl dX3_told_9 ?_
  refine lv_astore_n (lv' := [(3, .ref (a 2)), (0, .ref x), (1, .int (nI k)), (2, .int (nI w))]) hx hb dX3_told_12 rfl hl (by decide) rfl (fun ls hl => ?_)
  refine lv_iload_n hx hb dX3_told_13 rfl (lv_at hl 3 rfl) ?_
  rcases (show w = 0 ∨ w = 1 ∨ w = 2 ∨ w = 3 ∨ w = 4 ∨ w = 5 ∨ w = 6 ∨ w = 7 ∨ w = 8 ∨ w = 9 ∨ w = 10 by omega) with rfl | rfl | rfl | rfl | rfl | rfl | rfl | rfl | rfl | rfl | rfl
  · refine lv_tableIn hx hb dX3_told_14 (by decide) (by decide) (off := 58) (by decide) (tgt := 72) (by decide) ?_
    refine lv_aload_n hx hb dX3_told_72 rfl (lv_at hl 0 rfl) ?_
    refine va_get (D := D) (ci := 2) (v := .ref (a 8)) (C := RX2) (T := TX2) (N := 13) hx hb hts hinX2 hown hK hP 3 rfl rfl 1 (by decide) hf119 (fun _ h9 => h9) rfl dX3_told_73 ?_
    refine lv_iload_n hx hb dX3_told_76 rfl (lv_at hl 2 rfl) ?_
    refine zk_ld hx hb hK hP 9 0 rfl rfl (k := k) (by omega) (by decide) (v := σ 6 k) rfl dX3_told_77 ?_
    exact W.iret (v := σ 6 k) hx hb hr (fun t ht hW => ⟨⟨σ 6 k, (), rfl, rfl, trivial⟩, hS.F ht⟩) hS.2.2 dX3_told_78
  · refine lv_tableIn hx hb dX3_told_14 (by decide) (by decide) (off := 65) (by decide) (tgt := 79) (by decide) ?_
    refine lv_aload_n hx hb dX3_told_79 rfl (lv_at hl 0 rfl) ?_
    refine va_get (D := D) (ci := 2) (v := .ref (a 9)) (C := RX2) (T := TX2) (N := 13) hx hb hts hinX2 hown hK hP 3 rfl rfl 2 (by decide) hf132 (fun _ h9 => h9) rfl dX3_told_80 ?_
    refine lv_iload_n hx hb dX3_told_83 rfl (lv_at hl 2 rfl) ?_
    refine zk_ld hx hb hK hP 10 0 rfl rfl (k := k) (by omega) (by decide) (v := σ 7 k) rfl dX3_told_84 ?_
    exact W.iret (v := σ 7 k) hx hb hr (fun t ht hW => ⟨⟨σ 7 k, (), rfl, rfl, trivial⟩, hS.F ht⟩) hS.2.2 dX3_told_85
  · refine lv_tableIn hx hb dX3_told_14 (by decide) (by decide) (off := 72) (by decide) (tgt := 86) (by decide) ?_
    refine lv_aload_n hx hb dX3_told_86 rfl (lv_at hl 0 rfl) ?_
    refine va_get (D := D) (ci := 2) (v := .ref (a 10)) (C := RX2) (T := TX2) (N := 13) hx hb hts hinX2 hown hK hP 3 rfl rfl 3 (by decide) hf135 (fun _ h9 => h9) rfl dX3_told_87 ?_
    refine lv_iload_n hx hb dX3_told_90 rfl (lv_at hl 2 rfl) ?_
    refine zk_ld hx hb hK hP 11 0 rfl rfl (k := k) (by omega) (by decide) (v := σ 8 k) rfl dX3_told_91 ?_
    exact W.iret (v := σ 8 k) hx hb hr (fun t ht hW => ⟨⟨σ 8 k, (), rfl, rfl, trivial⟩, hS.F ht⟩) hS.2.2 dX3_told_92
  · refine lv_tableIn hx hb dX3_told_14 (by decide) (by decide) (off := 79) (by decide) (tgt := 93) (by decide) ?_
    refine lv_aload_n hx hb dX3_told_93 rfl (lv_at hl 0 rfl) ?_
    refine va_get (D := D) (ci := 2) (v := .ref (a 11)) (C := RX2) (T := TX2) (N := 13) hx hb hts hinX2 hown hK hP 3 rfl rfl 4 (by decide) hf82 (fun _ h9 => h9) rfl dX3_told_94 ?_
    refine lv_iload_n hx hb dX3_told_97 rfl (lv_at hl 2 rfl) ?_
    refine zk_ld hx hb hK hP 12 0 rfl rfl (k := k) (by omega) (by decide) (v := σ 9 k) rfl dX3_told_98 ?_
    exact W.iret (v := σ 9 k) hx hb hr (fun t ht hW => ⟨⟨σ 9 k, (), rfl, rfl, trivial⟩, hS.F ht⟩) hS.2.2 dX3_told_99
  · refine lv_tableIn hx hb dX3_told_14 (by decide) (by decide) (off := 86) (by decide) (tgt := 100) (by decide) ?_
    refine lv_aload_n hx hb dX3_told_100 rfl (lv_at hl 0 rfl) ?_
    refine va_get (D := D) (ci := 2) (v := .ref (a 12)) (C := RX2) (T := TX2) (N := 13) hx hb hts hinX2 hown hK hP 3 rfl rfl 5 (by decide) hf138 (fun _ h9 => h9) rfl dX3_told_101 ?_
    refine lv_iload_n hx hb dX3_told_104 rfl (lv_at hl 2 rfl) ?_
    refine zk_ld hx hb hK hP 13 0 rfl rfl (k := k) (by omega) (by decide) (v := σ 10 k) rfl dX3_told_105 ?_
    exact W.iret (v := σ 10 k) hx hb hr (fun t ht hW => ⟨⟨σ 10 k, (), rfl, rfl, trivial⟩, hS.F ht⟩) hS.2.2 dX3_told_106
  · refine lv_tableIn hx hb dX3_told_14 (by decide) (by decide) (off := 93) (by decide) (tgt := 107) (by decide) ?_
    refine lv_aload_n hx hb dX3_told_107 rfl (lv_at hl 0 rfl) ?_
    refine va_get (D := D) (ci := 2) (v := .ref (a 13)) (C := RX2) (T := TX2) (N := 13) hx hb hts hinX2 hown hK hP 3 rfl rfl 6 (by decide) hf61 (fun _ h9 => h9) rfl dX3_told_108 ?_
    refine lv_iload_n hx hb dX3_told_111 rfl (lv_at hl 2 rfl) ?_
    refine zk_ld hx hb hK hP 14 0 rfl rfl (k := k) (by omega) (by decide) (v := σ 11 k) rfl dX3_told_112 ?_
    exact W.iret (v := σ 11 k) hx hb hr (fun t ht hW => ⟨⟨σ 11 k, (), rfl, rfl, trivial⟩, hS.F ht⟩) hS.2.2 dX3_told_113
  · refine lv_tableIn hx hb dX3_told_14 (by decide) (by decide) (off := 100) (by decide) (tgt := 114) (by decide) ?_
    refine lv_aload_n hx hb dX3_told_114 rfl (lv_at hl 0 rfl) ?_
    refine va_get (D := D) (ci := 2) (v := .ref (a 14)) (C := RX2) (T := TX2) (N := 13) hx hb hts hinX2 hown hK hP 3 rfl rfl 7 (by decide) hf141 (fun _ h9 => h9) rfl dX3_told_115 ?_
    refine lv_iload_n hx hb dX3_told_118 rfl (lv_at hl 2 rfl) ?_
    refine zk_ld hx hb hK hP 15 0 rfl rfl (k := k) (by omega) (by decide) (v := σ 12 k) rfl dX3_told_119 ?_
    exact W.iret (v := σ 12 k) hx hb hr (fun t ht hW => ⟨⟨σ 12 k, (), rfl, rfl, trivial⟩, hS.F ht⟩) hS.2.2 dX3_told_120
  · refine lv_tableIn hx hb dX3_told_14 (by decide) (by decide) (off := 107) (by decide) (tgt := 121) (by decide) ?_
    refine lv_aload_n hx hb dX3_told_121 rfl (lv_at hl 0 rfl) ?_
    refine va_get (D := D) (ci := 2) (v := .ref (a 15)) (C := RX2) (T := TX2) (N := 13) hx hb hts hinX2 hown hK hP 3 rfl rfl 8 (by decide) hf110 (fun _ h9 => h9) rfl dX3_told_122 ?_
    refine lv_iload_n hx hb dX3_told_125 rfl (lv_at hl 2 rfl) ?_
    refine zk_ld hx hb hK hP 16 0 rfl rfl (k := k) (by omega) (by decide) (v := σ 13 k) rfl dX3_told_126 ?_
    exact W.iret (v := σ 13 k) hx hb hr (fun t ht hW => ⟨⟨σ 13 k, (), rfl, rfl, trivial⟩, hS.F ht⟩) hS.2.2 dX3_told_127
  · refine lv_tableIn hx hb dX3_told_14 (by decide) (by decide) (off := 114) (by decide) (tgt := 128) (by decide) ?_
    refine lv_aload_n hx hb dX3_told_128 rfl (lv_at hl 0 rfl) ?_
    refine va_get (D := D) (ci := 2) (v := .ref (a 16)) (C := RX2) (T := TX2) (N := 13) hx hb hts hinX2 hown hK hP 3 rfl rfl 9 (by decide) hf144 (fun _ h9 => h9) rfl dX3_told_129 ?_
    refine lv_iload_n hx hb dX3_told_132 rfl (lv_at hl 2 rfl) ?_
    refine zk_ld hx hb hK hP 17 0 rfl rfl (k := k) (by omega) (by decide) (v := σ 14 k) rfl dX3_told_133 ?_
    exact W.iret (v := σ 14 k) hx hb hr (fun t ht hW => ⟨⟨σ 14 k, (), rfl, rfl, trivial⟩, hS.F ht⟩) hS.2.2 dX3_told_134
  · refine lv_tableIn hx hb dX3_told_14 (by decide) (by decide) (off := 121) (by decide) (tgt := 135) (by decide) ?_
    refine lv_aload_n hx hb dX3_told_135 rfl (lv_at hl 0 rfl) ?_
    refine va_get (D := D) (ci := 2) (v := .ref (a 17)) (C := RX2) (T := TX2) (N := 13) hx hb hts hinX2 hown hK hP 3 rfl rfl 10 (by decide) hf147 (fun _ h9 => h9) rfl dX3_told_136 ?_
    refine lv_iload_n hx hb dX3_told_139 rfl (lv_at hl 2 rfl) ?_
    refine zk_ld hx hb hK hP 18 0 rfl rfl (k := k) (by omega) (by decide) (v := σ 15 k) rfl dX3_told_140 ?_
    exact W.iret (v := σ 15 k) hx hb hr (fun t ht hW => ⟨⟨σ 15 k, (), rfl, rfl, trivial⟩, hS.F ht⟩) hS.2.2 dX3_told_141
  · refine lv_tableIn hx hb dX3_told_14 (by decide) (by decide) (off := 128) (by decide) (tgt := 142) (by decide) ?_
    refine lv_aload_n hx hb dX3_told_142 rfl (lv_at hl 0 rfl) ?_
    refine va_get (D := D) (ci := 2) (v := .ref (a 19)) (C := RX2) (T := TX2) (N := 13) hx hb hts hinX2 hown hK hP 3 rfl rfl 12 (by decide) hf150 (fun _ h9 => h9) rfl dX3_told_143 ?_
    refine lv_iload_n hx hb dX3_told_146 rfl (lv_at hl 2 rfl) ?_
    refine zk_ld hx hb hK hP 20 0 rfl rfl (k := k) (by omega) (by decide) (v := σ 17 k) rfl dX3_told_147 ?_
    exact W.iret (v := σ 17 k) hx hb hr (fun t ht hW => ⟨⟨σ 17 k, (), rfl, rfl, trivial⟩, hS.F ht⟩) hS.2.2 dX3_told_148

set_option maxHeartbeats 4000000 in
set_option maxRecDepth 100000 in
theorem c_X3_about (l : Launch) (D : va_G) (cI : ClassId) (x : Nat) (a b : Nat → Nat) (σ τ : zS) {k w : Nat} {nb ns h : Nat} (hC : zC σ nb ns h) (hkb : k < nb) (hw4 : w ≤ 4) : zMR l yX3_about wsX3_about ({ frames := 2, cells := 0, slots := 0, locals := 42 }) [.ref x, .int (nI k), .int (nI w)] D [(cI, .int)] (zw_X cI x a b σ (τ)) (fun r => r = σ (w + 1) k) := by
  intro sz
  refine Met.ofW (cc := cX3_about) (maxL := 4) (ret := (some .int)) (by decide) rfl ?_
  intro p e s m args below meth c s₁ B hml hv
  obtain ⟨rfl, hsz, hP, hK, hD⟩ := hv
  have hx := B.exec
  have hb := B.bytes
  have hr := B.returns
  have hts := atoms_spec (ws := wsX3_about) B.pre
  have hown : s.vm.findClass RX3 = some m.cls := findClass_of_methodNamed B.named
  have hlocks := B.notSynchronized
  have hS : va_S (fun _ => False) s.heap s.heap [] := va_S.rf
  have hP : va_P D vwCl (zw_X cI x a b σ (τ)) s.heap := hP
  have hl := lv_entry ([.ref x, .int (nI k), .int (nI w)]) (n := 4) (Nat.le_of_ble_eq_true rfl)
  rw [lg_entry_eq]
  generalize (lg_sl ([.ref x, .int (nI k), .int (nI w)]) ++ List.replicate (4 - (lg_sl ([.ref x, .int (nI k), .int (nI w)])).length) Slot.unset).toArray = ls at hl ⊢
  have hl : lv_has ls 4 [(0, .ref x), (1, .int (nI k)), (2, .int (nI w))] := hl
  have hf10 := hts (.fieldLink RX3 10 "HotBeds" "house" "LHotBeds$House;") (by decide +kernel)
  have hf158 := hts (.fieldLink RX3 158 "HotBeds$Beds" "price" "[I") (by decide +kernel)
  have hf161 := hts (.fieldLink RX3 161 "HotBeds$Beds" "warmth" "[I") (by decide +kernel)
  have hf164 := hts (.fieldLink RX3 164 "HotBeds$Beds" "entries" "[I") (by decide +kernel)
  have hf167 := hts (.fieldLink RX3 167 "HotBeds$Beds" "paid" "[I") (by decide +kernel)
  have hf170 := hts (.fieldLink RX3 170 "HotBeds$Beds" "sleeper" "[I") (by decide +kernel)
  have hf26 := hts (.fieldLink RX3 26 "HotBeds$House" "beds" "LHotBeds$Beds;") (by decide +kernel)
  have hinX0 : ∀ w ∈ u_ws RX0 TX0 6, w ∈ wsX3_about := by decide +kernel
  have hinX1 : ∀ w ∈ u_ws RX1 TX1 5, w ∈ wsX3_about := by decide +kernel
  have hinX3 : ∀ w ∈ u_ws RX3 TX3 2, w ∈ wsX3_about := by decide +kernel
  have hnb := hC.2.1
  have hns := hC.2.2.2.1
  have hh := hC.2.2.2.2.2.1
  refine lv_aload_n hx hb dX3_about_0 rfl (lv_at hl 0 rfl) ?_
  refine lv_iload_n hx hb dX3_about_1 rfl (lv_at hl 1 rfl) ?_
  refine zk_Q (D := D) (va_runV (As := [.int (nI k)]) (rest := []) ⟨hx, hb, hml, hown, hts⟩ (c_X3_requireBed l D cI x a b σ (τ) hC hkb _) (cwV 1 hts gX3_about_X3_requireBed rfl rfl rfl zdX3_requireBed ⟨Nat.le_of_ble_eq_true rfl, Nat.le_of_ble_eq_true rfl⟩) ⟨zbl _, va_recv hK hP (ci := 3) (q0 := 0) rfl rfl, zpr hK hP hD⟩ rfl rfl hl.1 rfl (lv_room (Nat.le_of_ble_eq_true rfl)) dX3_about_2 ⟨Nat.zero_le _, Nat.zero_le _⟩) hS (fun H locs hkp hS => ?_)
  have hP := hkp _ hP
  refine lv_aload_n hx hb dX3_about_5 rfl (lv_at hl 0 rfl) ?_
  refine va_get (D := D) (ci := 3) (v := .ref (a 0)) (C := RX3) (T := TX3) (N := 2) hx hb hts hinX3 hown hK hP 0 rfl rfl 0 (by decide) hf10 (fun _ h9 => h9) rfl dX3_about_6 ?_
  refine va_get (D := D) (ci := 1) (v := .ref (a 1)) (C := RX1) (T := TX1) (N := 5) hx hb hts hinX1 hown hK hP 1 rfl rfl 3 (by decide) hf26 (fun _ h9 => h9) rfl dX3_about_9 ?_
  refine lv_astore_n (lv' := [(3, .ref (a 1)), (0, .ref x), (1, .int (nI k)), (2, .int (nI w))]) hx hb dX3_about_12 rfl hl (by decide) rfl (fun ls hl => ?_)
  refine lv_iload_n hx hb dX3_about_13 rfl (lv_at hl 3 rfl) ?_
  rcases (show w = 0 ∨ w = 1 ∨ w = 2 ∨ w = 3 ∨ w = 4 by omega) with rfl | rfl | rfl | rfl | rfl
  · refine lv_tableIn hx hb dX3_about_14 (by decide) (by decide) (off := 34) (by decide) (tgt := 48) (by decide) ?_
    refine lv_aload_n hx hb dX3_about_48 rfl (lv_at hl 0 rfl) ?_
    refine va_get (D := D) (ci := 0) (v := .ref (a 3)) (C := RX0) (T := TX0) (N := 6) hx hb hts hinX0 hown hK hP 2 rfl rfl 1 (by decide) hf158 (fun _ h9 => h9) rfl dX3_about_49 ?_
    refine lv_iload_n hx hb dX3_about_52 rfl (lv_at hl 2 rfl) ?_
    refine zk_ld hx hb hK hP 4 0 rfl rfl (k := k) (by omega) (by decide) (v := σ 1 k) rfl dX3_about_53 ?_
    exact W.iret (v := σ 1 k) hx hb hr (fun t ht hW => ⟨⟨σ 1 k, (), rfl, rfl, trivial⟩, hS.F ht⟩) hS.2.2 dX3_about_54
  · refine lv_tableIn hx hb dX3_about_14 (by decide) (by decide) (off := 41) (by decide) (tgt := 55) (by decide) ?_
    refine lv_aload_n hx hb dX3_about_55 rfl (lv_at hl 0 rfl) ?_
    refine va_get (D := D) (ci := 0) (v := .ref (a 4)) (C := RX0) (T := TX0) (N := 6) hx hb hts hinX0 hown hK hP 2 rfl rfl 2 (by decide) hf161 (fun _ h9 => h9) rfl dX3_about_56 ?_
    refine lv_iload_n hx hb dX3_about_59 rfl (lv_at hl 2 rfl) ?_
    refine zk_ld hx hb hK hP 5 0 rfl rfl (k := k) (by omega) (by decide) (v := σ 2 k) rfl dX3_about_60 ?_
    exact W.iret (v := σ 2 k) hx hb hr (fun t ht hW => ⟨⟨σ 2 k, (), rfl, rfl, trivial⟩, hS.F ht⟩) hS.2.2 dX3_about_61
  · refine lv_tableIn hx hb dX3_about_14 (by decide) (by decide) (off := 48) (by decide) (tgt := 62) (by decide) ?_
    refine lv_aload_n hx hb dX3_about_62 rfl (lv_at hl 0 rfl) ?_
    refine va_get (D := D) (ci := 0) (v := .ref (a 5)) (C := RX0) (T := TX0) (N := 6) hx hb hts hinX0 hown hK hP 2 rfl rfl 3 (by decide) hf164 (fun _ h9 => h9) rfl dX3_about_63 ?_
    refine lv_iload_n hx hb dX3_about_66 rfl (lv_at hl 2 rfl) ?_
    refine zk_ld hx hb hK hP 6 0 rfl rfl (k := k) (by omega) (by decide) (v := σ 3 k) rfl dX3_about_67 ?_
    exact W.iret (v := σ 3 k) hx hb hr (fun t ht hW => ⟨⟨σ 3 k, (), rfl, rfl, trivial⟩, hS.F ht⟩) hS.2.2 dX3_about_68
  · refine lv_tableIn hx hb dX3_about_14 (by decide) (by decide) (off := 55) (by decide) (tgt := 69) (by decide) ?_
    refine lv_aload_n hx hb dX3_about_69 rfl (lv_at hl 0 rfl) ?_
    refine va_get (D := D) (ci := 0) (v := .ref (a 6)) (C := RX0) (T := TX0) (N := 6) hx hb hts hinX0 hown hK hP 2 rfl rfl 4 (by decide) hf167 (fun _ h9 => h9) rfl dX3_about_70 ?_
    refine lv_iload_n hx hb dX3_about_73 rfl (lv_at hl 2 rfl) ?_
    refine zk_ld hx hb hK hP 7 0 rfl rfl (k := k) (by omega) (by decide) (v := σ 4 k) rfl dX3_about_74 ?_
    exact W.iret (v := σ 4 k) hx hb hr (fun t ht hW => ⟨⟨σ 4 k, (), rfl, rfl, trivial⟩, hS.F ht⟩) hS.2.2 dX3_about_75
  · refine lv_tableIn hx hb dX3_about_14 (by decide) (by decide) (off := 62) (by decide) (tgt := 76) (by decide) ?_
    refine lv_aload_n hx hb dX3_about_76 rfl (lv_at hl 0 rfl) ?_
    refine va_get (D := D) (ci := 0) (v := .ref (a 7)) (C := RX0) (T := TX0) (N := 6) hx hb hts hinX0 hown hK hP 2 rfl rfl 5 (by decide) hf170 (fun _ h9 => h9) rfl dX3_about_77 ?_
    refine lv_iload_n hx hb dX3_about_80 rfl (lv_at hl 2 rfl) ?_
    refine zk_ld hx hb hK hP 8 0 rfl rfl (k := k) (by omega) (by decide) (v := σ 5 k) rfl dX3_about_81 ?_
    exact W.iret (v := σ 5 k) hx hb hr (fun t ht hW => ⟨⟨σ 5 k, (), rfl, rfl, trivial⟩, hS.F ht⟩) hS.2.2 dX3_about_82

set_option maxHeartbeats 4000000 in
set_option maxRecDepth 100000 in
theorem c_X3_count (l : Launch) (D : va_G) (cI : ClassId) (x : Nat) (a b : Nat → Nat) (σ τ : zS) {w : Nat} {nb ns h : Nat} (hC : zC σ nb ns h) (hw9 : w ≤ 9) : zMR l yX3_count wsX3_count ({ frames := 2, cells := 0, slots := 0, locals := 43 }) [.ref x, .int (nI w)] D [(cI, .int)] (zw_X cI x a b σ (τ)) (fun r => r = q_cnt σ nb ns h w) := by
  intro sz
  refine Met.ofW (cc := cX3_count) (maxL := 2) (ret := (some .int)) (by decide) rfl ?_
  intro p e s m args below meth c s₁ B hml hv
  obtain ⟨rfl, hsz, hP, hK, hD⟩ := hv
  have hx := B.exec
  have hb := B.bytes
  have hr := B.returns
  have hts := atoms_spec (ws := wsX3_count) B.pre
  have hown : s.vm.findClass RX3 = some m.cls := findClass_of_methodNamed B.named
  have hlocks := B.notSynchronized
  have hS : va_S (fun _ => False) s.heap s.heap [] := va_S.rf
  have hP : va_P D vwCl (zw_X cI x a b σ (τ)) s.heap := hP
  have hl := lv_entry ([.ref x, .int (nI w)]) (n := 2) (Nat.le_of_ble_eq_true rfl)
  rw [lg_entry_eq]
  generalize (lg_sl ([.ref x, .int (nI w)]) ++ List.replicate (2 - (lg_sl ([.ref x, .int (nI w)])).length) Slot.unset).toArray = ls at hl ⊢
  have hl : lv_has ls 2 [(0, .ref x), (1, .int (nI w))] := hl
  have hf10 := hts (.fieldLink RX3 10 "HotBeds" "house" "LHotBeds$House;") (by decide +kernel)
  have hf175 := hts (.fieldLink RX3 175 "HotBeds$House" "hour" "I") (by decide +kernel)
  have hf178 := hts (.fieldLink RX3 178 "HotBeds$Beds" "size" "I") (by decide +kernel)
  have hf181 := hts (.fieldLink RX3 181 "HotBeds$Sailors" "size" "I") (by decide +kernel)
  have hf26 := hts (.fieldLink RX3 26 "HotBeds$House" "beds" "LHotBeds$Beds;") (by decide +kernel)
  have hf48 := hts (.fieldLink RX3 48 "HotBeds$House" "sailors" "LHotBeds$Sailors;") (by decide +kernel)
  have hf67 := hts (.fieldLink RX3 67 "HotBeds$House" "bell" "I") (by decide +kernel)
  have hf73 := hts (.fieldLink RX3 73 "HotBeds$House" "pawn" "I") (by decide +kernel)
  have hinX0 : ∀ w ∈ u_ws RX0 TX0 6, w ∈ wsX3_count := by decide +kernel
  have hinX1 : ∀ w ∈ u_ws RX1 TX1 5, w ∈ wsX3_count := by decide +kernel
  have hinX2 : ∀ w ∈ u_ws RX2 TX2 13, w ∈ wsX3_count := by decide +kernel
  have hinX3 : ∀ w ∈ u_ws RX3 TX3 2, w ∈ wsX3_count := by decide +kernel
  have hnb := hC.2.1
  have hns := hC.2.2.2.1
  have hh := hC.2.2.2.2.2.1
  refine lv_iload_n hx hb dX3_count_0 rfl (lv_at hl 1 rfl) ?_
  rcases (show w = 0 ∨ w = 1 ∨ w = 2 ∨ w = 3 ∨ w = 4 ∨ w = 5 ∨ w = 6 ∨ w = 7 ∨ w = 8 ∨ w = 9 by omega) with rfl | rfl | rfl | rfl | rfl | rfl | rfl | rfl | rfl | rfl
  · refine lv_tableIn hx hb dX3_count_1 (by decide) (by decide) (off := 55) (by decide) (tgt := 56) (by decide) ?_
    refine lv_aload_n hx hb dX3_count_56 rfl (lv_at hl 0 rfl) ?_
    refine va_get (D := D) (ci := 3) (v := .ref (a 0)) (C := RX3) (T := TX3) (N := 2) hx hb hts hinX3 hown hK hP 0 rfl rfl 0 (by decide) hf10 (fun _ h9 => h9) rfl dX3_count_57 ?_
    refine va_get (D := D) (ci := 1) (v := .int (nI h)) (C := RX1) (T := TX1) (N := 5) hx hb hts hinX1 hown hK hP 1 rfl rfl 0 (by decide) hf175 (fun _ h9 => h9) (congrArg (fun z => some (Value.int z)) hC.2.2.2.2.1) dX3_count_60 ?_
    exact W.iret (v := nI h) hx hb hr (fun t ht hW => ⟨⟨nI h, (), rfl, rfl, trivial⟩, hS.F ht⟩) hS.2.2 dX3_count_63
  · refine lv_tableIn hx hb dX3_count_1 (by decide) (by decide) (off := 63) (by decide) (tgt := 64) (by decide) ?_
    refine lv_aload_n hx hb dX3_count_64 rfl (lv_at hl 0 rfl) ?_
    refine va_get (D := D) (ci := 3) (v := .ref (a 0)) (C := RX3) (T := TX3) (N := 2) hx hb hts hinX3 hown hK hP 0 rfl rfl 0 (by decide) hf10 (fun _ h9 => h9) rfl dX3_count_65 ?_
    refine va_get (D := D) (ci := 1) (v := .ref (a 1)) (C := RX1) (T := TX1) (N := 5) hx hb hts hinX1 hown hK hP 1 rfl rfl 3 (by decide) hf26 (fun _ h9 => h9) rfl dX3_count_68 ?_
    refine va_get (D := D) (ci := 0) (v := .int (nI nb)) (C := RX0) (T := TX0) (N := 6) hx hb hts hinX0 hown hK hP 2 rfl rfl 0 (by decide) hf178 (fun _ h9 => h9) (congrArg (fun z => some (Value.int z)) hC.1) dX3_count_71 ?_
    exact W.iret (v := nI nb) hx hb hr (fun t ht hW => ⟨⟨nI nb, (), rfl, rfl, trivial⟩, hS.F ht⟩) hS.2.2 dX3_count_74
  · refine lv_tableIn hx hb dX3_count_1 (by decide) (by decide) (off := 74) (by decide) (tgt := 75) (by decide) ?_
    refine lv_aload_n hx hb dX3_count_75 rfl (lv_at hl 0 rfl) ?_
    refine va_get (D := D) (ci := 3) (v := .ref (a 0)) (C := RX3) (T := TX3) (N := 2) hx hb hts hinX3 hown hK hP 0 rfl rfl 0 (by decide) hf10 (fun _ h9 => h9) rfl dX3_count_76 ?_
    refine va_get (D := D) (ci := 1) (v := .ref (a 2)) (C := RX1) (T := TX1) (N := 5) hx hb hts hinX1 hown hK hP 1 rfl rfl 4 (by decide) hf48 (fun _ h9 => h9) rfl dX3_count_79 ?_
    refine va_get (D := D) (ci := 2) (v := .int (nI ns)) (C := RX2) (T := TX2) (N := 13) hx hb hts hinX2 hown hK hP 3 rfl rfl 0 (by decide) hf181 (fun _ h9 => h9) (congrArg (fun z => some (Value.int z)) hC.2.2.1) dX3_count_82 ?_
    exact W.iret (v := nI ns) hx hb hr (fun t ht hW => ⟨⟨nI ns, (), rfl, rfl, trivial⟩, hS.F ht⟩) hS.2.2 dX3_count_85
  · refine lv_tableIn hx hb dX3_count_1 (by decide) (by decide) (off := 85) (by decide) (tgt := 86) (by decide) ?_
    refine lv_aload_n hx hb dX3_count_86 rfl (lv_at hl 0 rfl) ?_
    refine va_get (D := D) (ci := 3) (v := .ref (a 0)) (C := RX3) (T := TX3) (N := 2) hx hb hts hinX3 hown hK hP 0 rfl rfl 0 (by decide) hf10 (fun _ h9 => h9) rfl dX3_count_87 ?_
    refine zk_R (D := D) (va_runV (As := []) (rest := []) ⟨hx, hb, hml, hown, hts⟩ (c_X1_watchNow l D cI a σ hC _) (cwV 0 hts gX3_count_X1_watchNow rfl rfl rfl zdX1_watchNow ⟨Nat.le_of_ble_eq_true rfl, Nat.le_of_ble_eq_true rfl⟩) ⟨zbl _, va_recv hK (zxa_P hP) (ci := 1) (q0 := 0) rfl rfl, zpr hK (zxa_P hP) (zxa_D hD)⟩ rfl rfl hl.1 rfl (lv_room (Nat.le_of_ble_eq_true rfl)) dX3_count_90 ⟨Nat.zero_le _, Nat.zero_le _⟩) hS (fun r_1 H locs hw hkp hS => ?_)
    have hP := hkp _ hP
    subst hw
    exact W.iret (v := nI (h % 24 / 8)) hx hb hr (fun t ht hW => ⟨⟨nI (h % 24 / 8), (), rfl, rfl, trivial⟩, hS.F ht⟩) hS.2.2 dX3_count_93
  · refine lv_tableIn hx hb dX3_count_1 (by decide) (by decide) (off := 93) (by decide) (tgt := 94) (by decide) ?_
    refine lv_aload_n hx hb dX3_count_94 rfl (lv_at hl 0 rfl) ?_
    refine va_get (D := D) (ci := 3) (v := .ref (a 0)) (C := RX3) (T := TX3) (N := 2) hx hb hts hinX3 hown hK hP 0 rfl rfl 0 (by decide) hf10 (fun _ h9 => h9) rfl dX3_count_95 ?_
    refine va_get (D := D) (ci := 1) (v := .ref (a 2)) (C := RX1) (T := TX1) (N := 5) hx hb hts hinX1 hown hK hP 1 rfl rfl 4 (by decide) hf48 (fun _ h9 => h9) rfl dX3_count_98 ?_
    refine lv_iconst (v := 1) hx hb dX3_count_101 (by decide) ?_
    refine zk_R (D := D) (va_runV (As := [.int 1]) (rest := []) ⟨hx, hb, hml, hown, hts⟩ (c_X2_howManyAt l D cI a σ 1 hC _) (cwV 1 hts gX3_count_X2_howManyAt rfl rfl rfl zdX2_howManyAt ⟨Nat.le_of_ble_eq_true rfl, Nat.le_of_ble_eq_true rfl⟩) ⟨zbl _, va_recv hK (zxa_P hP) (ci := 2) (q0 := 2) rfl rfl, zpr hK (zxa_P hP) (zxa_D hD)⟩ rfl rfl hl.1 rfl (lv_room (Nat.le_of_ble_eq_true rfl)) dX3_count_102 ⟨Nat.zero_le _, Nat.zero_le _⟩) hS (fun r_2 H locs hw hkp hS => ?_)
    have hP := hkp _ hP
    subst hw
    exact W.iret (v := f_many (σ 12) 1 ns) hx hb hr (fun t ht hW => ⟨⟨f_many (σ 12) 1 ns, (), rfl, rfl, trivial⟩, hS.F ht⟩) hS.2.2 dX3_count_105
  · refine lv_tableIn hx hb dX3_count_1 (by decide) (by decide) (off := 105) (by decide) (tgt := 106) (by decide) ?_
    refine lv_aload_n hx hb dX3_count_106 rfl (lv_at hl 0 rfl) ?_
    refine va_get (D := D) (ci := 3) (v := .ref (a 0)) (C := RX3) (T := TX3) (N := 2) hx hb hts hinX3 hown hK hP 0 rfl rfl 0 (by decide) hf10 (fun _ h9 => h9) rfl dX3_count_107 ?_
    refine va_get (D := D) (ci := 1) (v := .ref (a 2)) (C := RX1) (T := TX1) (N := 5) hx hb hts hinX1 hown hK hP 1 rfl rfl 4 (by decide) hf48 (fun _ h9 => h9) rfl dX3_count_110 ?_
    refine lv_iconst (v := 2) hx hb dX3_count_113 (by decide) ?_
    refine zk_R (D := D) (va_runV (As := [.int 2]) (rest := []) ⟨hx, hb, hml, hown, hts⟩ (c_X2_howManyAt l D cI a σ 2 hC _) (cwV 1 hts gX3_count_X2_howManyAt rfl rfl rfl zdX2_howManyAt ⟨Nat.le_of_ble_eq_true rfl, Nat.le_of_ble_eq_true rfl⟩) ⟨zbl _, va_recv hK (zxa_P hP) (ci := 2) (q0 := 2) rfl rfl, zpr hK (zxa_P hP) (zxa_D hD)⟩ rfl rfl hl.1 rfl (lv_room (Nat.le_of_ble_eq_true rfl)) dX3_count_114 ⟨Nat.zero_le _, Nat.zero_le _⟩) hS (fun r_3 H locs hw hkp hS => ?_)
    have hP := hkp _ hP
    subst hw
    exact W.iret (v := f_many (σ 12) 2 ns) hx hb hr (fun t ht hW => ⟨⟨f_many (σ 12) 2 ns, (), rfl, rfl, trivial⟩, hS.F ht⟩) hS.2.2 dX3_count_117
  · refine lv_tableIn hx hb dX3_count_1 (by decide) (by decide) (off := 117) (by decide) (tgt := 118) (by decide) ?_
    refine lv_aload_n hx hb dX3_count_118 rfl (lv_at hl 0 rfl) ?_
    refine va_get (D := D) (ci := 3) (v := .ref (a 0)) (C := RX3) (T := TX3) (N := 2) hx hb hts hinX3 hown hK hP 0 rfl rfl 0 (by decide) hf10 (fun _ h9 => h9) rfl dX3_count_119 ?_
    refine va_get (D := D) (ci := 1) (v := .ref (a 2)) (C := RX1) (T := TX1) (N := 5) hx hb hts hinX1 hown hK hP 1 rfl rfl 4 (by decide) hf48 (fun _ h9 => h9) rfl dX3_count_122 ?_
    refine zk_R (D := D) (va_runV (As := []) (rest := []) ⟨hx, hb, hml, hown, hts⟩ (c_X2_allLate l D cI a σ hC _) (cwV 0 hts gX3_count_X2_allLate rfl rfl rfl zdX2_allLate ⟨Nat.le_of_ble_eq_true rfl, Nat.le_of_ble_eq_true rfl⟩) ⟨zbl _, va_recv hK (zxa_P hP) (ci := 2) (q0 := 2) rfl rfl, zpr hK (zxa_P hP) (zxa_D hD)⟩ rfl rfl hl.1 rfl (lv_room (Nat.le_of_ble_eq_true rfl)) dX3_count_125 ⟨Nat.zero_le _, Nat.zero_le _⟩) hS (fun r_4 H locs hw hkp hS => ?_)
    have hP := hkp _ hP
    subst hw
    exact W.iret (v := f_sum (σ 15) ns) hx hb hr (fun t ht hW => ⟨⟨f_sum (σ 15) ns, (), rfl, rfl, trivial⟩, hS.F ht⟩) hS.2.2 dX3_count_128
  · refine lv_tableIn hx hb dX3_count_1 (by decide) (by decide) (off := 128) (by decide) (tgt := 129) (by decide) ?_
    refine lv_aload_n hx hb dX3_count_129 rfl (lv_at hl 0 rfl) ?_
    refine va_get (D := D) (ci := 3) (v := .ref (a 0)) (C := RX3) (T := TX3) (N := 2) hx hb hts hinX3 hown hK hP 0 rfl rfl 0 (by decide) hf10 (fun _ h9 => h9) rfl dX3_count_130 ?_
    refine va_get (D := D) (ci := 1) (v := .ref (a 2)) (C := RX1) (T := TX1) (N := 5) hx hb hts hinX1 hown hK hP 1 rfl rfl 4 (by decide) hf48 (fun _ h9 => h9) rfl dX3_count_133 ?_
    refine zk_R (D := D) (va_runV (As := []) (rest := []) ⟨hx, hb, hml, hown, hts⟩ (c_X2_allFloors l D cI a σ hC _) (cwV 0 hts gX3_count_X2_allFloors rfl rfl rfl zdX2_allFloors ⟨Nat.le_of_ble_eq_true rfl, Nat.le_of_ble_eq_true rfl⟩) ⟨zbl _, va_recv hK (zxa_P hP) (ci := 2) (q0 := 2) rfl rfl, zpr hK (zxa_P hP) (zxa_D hD)⟩ rfl rfl hl.1 rfl (lv_room (Nat.le_of_ble_eq_true rfl)) dX3_count_136 ⟨Nat.zero_le _, Nat.zero_le _⟩) hS (fun r_5 H locs hw hkp hS => ?_)
    have hP := hkp _ hP
    subst hw
    exact W.iret (v := f_sum (σ 17) ns) hx hb hr (fun t ht hW => ⟨⟨f_sum (σ 17) ns, (), rfl, rfl, trivial⟩, hS.F ht⟩) hS.2.2 dX3_count_139
  · refine lv_tableIn hx hb dX3_count_1 (by decide) (by decide) (off := 139) (by decide) (tgt := 140) (by decide) ?_
    refine lv_aload_n hx hb dX3_count_140 rfl (lv_at hl 0 rfl) ?_
    refine va_get (D := D) (ci := 3) (v := .ref (a 0)) (C := RX3) (T := TX3) (N := 2) hx hb hts hinX3 hown hK hP 0 rfl rfl 0 (by decide) hf10 (fun _ h9 => h9) rfl dX3_count_141 ?_
    refine va_get (D := D) (ci := 1) (v := .int (σ 0 1)) (C := RX1) (T := TX1) (N := 5) hx hb hts hinX1 hown hK hP 1 rfl rfl 1 (by decide) hf67 (fun _ h9 => h9) rfl dX3_count_144 ?_
    exact W.iret (v := σ 0 1) hx hb hr (fun t ht hW => ⟨⟨σ 0 1, (), rfl, rfl, trivial⟩, hS.F ht⟩) hS.2.2 dX3_count_147
  · refine lv_tableIn hx hb dX3_count_1 (by decide) (by decide) (off := 147) (by decide) (tgt := 148) (by decide) ?_
    refine lv_aload_n hx hb dX3_count_148 rfl (lv_at hl 0 rfl) ?_
    refine va_get (D := D) (ci := 3) (v := .ref (a 0)) (C := RX3) (T := TX3) (N := 2) hx hb hts hinX3 hown hK hP 0 rfl rfl 0 (by decide) hf10 (fun _ h9 => h9) rfl dX3_count_149 ?_
    refine va_get (D := D) (ci := 1) (v := .int (σ 0 2)) (C := RX1) (T := TX1) (N := 5) hx hb hts hinX1 hown hK hP 1 rfl rfl 2 (by decide) hf73 (fun _ h9 => h9) rfl dX3_count_152 ?_
    exact W.iret (v := σ 0 2) hx hb hr (fun t ht hW => ⟨⟨σ 0 2, (), rfl, rfl, trivial⟩, hS.F ht⟩) hS.2.2 dX3_count_155
end
section
/-! what a call asks of a name -/
theorem zdX2_allRest : yX2_allRest.cls = RX2 ∧ yX2_allRest.cls ≠ "java/lang/invoke/MethodHandle" ∧ yX2_allRest.cls ≠ "java/lang/invoke/VarHandle" ∧ (parseMethodDescriptor yX2_allRest.desc).map (fun d => d.parameters.length) = some 0 := by decide +kernel
end
section
def q_mean (σ : zS) (ns : Nat) (r : UInt64) : Prop := if ns = 0 then r = FP.dconst0 else alike64 r (FP.ddiv (FP.i2d (f_sum (σ 14) ns)) (FP.i2d (nI ns))) = true
theorem q_mean_0 {σ : zS} {ns : Nat} {r : UInt64} (h : ns = 0) (h2 : r = FP.dconst0) : q_mean σ ns r := by unfold q_mean; rw [if_pos h]; exact h2
theorem q_mean_1 {σ : zS} {ns : Nat} {r : UInt64} (h : ¬ ns = 0) (h2 : alike64 r (FP.ddiv (FP.i2d (f_sum (σ 14) ns)) (FP.i2d (nI ns))) = true) : q_mean σ ns r := by unfold q_mean; rw [if_neg h]; exact h2
theorem zn_pos {n : Nat} (h : (0 : Int32) < nI n) : ¬ n = 0 := fun z => by subst z; exact absurd h (by decide)
theorem zn_npos {n : Nat} (hn : n < 2 ^ 31) (h : ¬ (0 : Int32) < nI n) : n = 0 := by
  rcases Nat.eq_zero_or_pos n with z | z
  · exact z
  · exact absurd (nI_lt (a := 0) z hn) h

set_option maxHeartbeats 4000000 in
set_option maxRecDepth 100000 in
theorem c_X3_mean (l : Launch) (D : va_G) (cI : ClassId) (x : Nat) (a b : Nat → Nat) (σ τ : zS) {nb ns h : Nat} (hC : zC σ nb ns h) (sz : Nat) : MetD lw_cs l yX3_mean wsX3_mean ({ frames := 2, cells := 0, slots := 0, locals := 43 }) (va_Pc [.ref x] (zPW D [(cI, .int)] (zw_X cI x a b σ (τ)) sz)) (va_Qd (fun (r : UInt64) (_ : Unit) => q_mean σ ns r) (fun _ _ => True) (fun _ => False)) 0 0 (fun _ => False) := by
  refine MetD.ofW (cc := cX3_mean) (maxL := 2) (ret := (some .double)) (by decide) rfl ?_
  intro p e s m args below meth c s₁ B hml hv hd0
  obtain ⟨rfl, hsz, hP, hK, hD⟩ := hv
  have hx := B.exec
  have hb := B.bytes
  have hr := B.returns
  have hts0 := atoms_spec (ws := wsX3_mean) B.pre
  have hts := dr_words hts0 s.drawn
  have hown : s.vm.findClass RX3 = some m.cls := findClass_of_methodNamed B.named
  have hlocks := B.notSynchronized
  have hS : va_S (fun _ => False) s.heap s.heap [] := va_S.rf
  have hP : va_P D vwCl (zw_X cI x a b σ (τ)) s.heap := hP
  have hl := lv_entry ([.ref x]) (n := 2) (Nat.le_of_ble_eq_true rfl)
  rw [lg_entry_eq]
  generalize (lg_sl ([.ref x]) ++ List.replicate (2 - (lg_sl ([.ref x])).length) Slot.unset).toArray = ls at hl ⊢
  have hl : lv_has ls 2 [(0, .ref x)] := hl
  have hf10 := hts (.fieldLink RX3 10 "HotBeds" "house" "LHotBeds$House;") (by decide +kernel)
  have hf181 := hts (.fieldLink RX3 181 "HotBeds$Sailors" "size" "I") (by decide +kernel)
  have hf48 := hts (.fieldLink RX3 48 "HotBeds$House" "sailors" "LHotBeds$Sailors;") (by decide +kernel)
  have hinX1 : ∀ w ∈ u_ws RX1 TX1 5, w ∈ wsX3_mean := by decide +kernel
  have hinX2 : ∀ w ∈ u_ws RX2 TX2 13, w ∈ wsX3_mean := by decide +kernel
  have hinX3 : ∀ w ∈ u_ws RX3 TX3 2, w ∈ wsX3_mean := by decide +kernel
  have hnb := hC.2.1
  have hns := hC.2.2.2.1
  have hh := hC.2.2.2.2.2.1
  refine lv_aload_n hx hb dX3_mean_0 rfl (lv_at hl 0 rfl) ?_
  refine va_get (D := D) (ci := 3) (v := .ref (a 0)) (C := RX3) (T := TX3) (N := 2) hx hb hts hinX3 hown hK hP 0 rfl rfl 0 (by decide) hf10 (fun _ h9 => h9) rfl dX3_mean_1 ?_
  refine va_get (D := D) (ci := 1) (v := .ref (a 2)) (C := RX1) (T := TX1) (N := 5) hx hb hts hinX1 hown hK hP 1 rfl rfl 4 (by decide) hf48 (fun _ h9 => h9) rfl dX3_mean_4 ?_
  refine lv_astore_n (lv' := [(1, .ref (a 2)), (0, .ref x)]) hx hb dX3_mean_7 rfl hl (by decide) rfl (fun ls hl => ?_)
  refine lv_aload_n hx hb dX3_mean_8 rfl (lv_at hl 0 rfl) ?_
  refine va_get (D := D) (ci := 2) (v := .int (nI ns)) (C := RX2) (T := TX2) (N := 13) hx hb hts hinX2 hown hK hP 3 rfl rfl 0 (by decide) hf181 (fun _ h9 => h9) (congrArg (fun z => some (Value.int z)) hC.2.2.1) dX3_mean_9 ?_
  refine lv_if_gt (tgt := 17) hx hb dX3_mean_12 (by decide) (fun c_1 => ?_) (fun c_1 => ?_)
  · refine lv_aload_n hx hb dX3_mean_17 rfl (lv_at hl 0 rfl) ?_
    refine zk_R (D := D) (va_runV (As := []) (rest := []) ⟨hx, hb, hml, hown, hts⟩ (c_X2_allRest l D cI a σ hC _) (cwV 0 hts gX3_mean_X2_allRest rfl rfl rfl zdX2_allRest ⟨Nat.le_of_ble_eq_true rfl, Nat.le_of_ble_eq_true rfl⟩) ⟨zbl _, va_recv hK (zxa_P hP) (ci := 2) (q0 := 2) rfl rfl, zpr hK (zxa_P hP) (zxa_D hD)⟩ rfl rfl hl.1 rfl (lv_room (Nat.le_of_ble_eq_true rfl)) dX3_mean_18 ⟨Nat.zero_le _, Nat.zero_le _⟩) hS (fun r_2 H locs hw hkp hS => ?_)
    have hP := hkp _ hP
    subst hw
    refine lv_i2d hx hb dX3_mean_21 ?_
    refine lv_aload_n hx hb dX3_mean_22 rfl (lv_at hl 0 rfl) ?_
    refine va_get (D := D) (ci := 2) (v := .int (nI ns)) (C := RX2) (T := TX2) (N := 13) hx hb hts hinX2 hown hK hP 3 rfl rfl 0 (by decide) hf181 (fun _ h9 => h9) (congrArg (fun z => some (Value.int z)) hC.2.2.1) dX3_mean_23 ?_
    refine lv_i2d hx hb dX3_mean_26 ?_
    refine lv_ddiv_any hd0 lw_bits hx hb dX3_mean_27 (fun r9 d1 hal hd1 => ?_)
    refine W.endD hd1 ?_
    exact W.dret hx hb hr (fun t ht hW => ⟨⟨r9, (), rfl, q_mean_1 (zn_pos c_1) hal, trivial⟩, hS.F ht⟩) hS.2.2 dX3_mean_28
  · refine lv_dconst0 hx hb dX3_mean_15 ?_
    refine W.endD hd0 ?_
    exact W.dret hx hb hr (fun t ht hW => ⟨⟨FP.dconst0, (), rfl, q_mean_0 (zn_npos (by omega) c_1) rfl, trivial⟩, hS.F ht⟩) hS.2.2 dX3_mean_16
end
section
/-! THE INVARIANT: what every sailor's row keeps to -/
def zsk (σ : zS) (nb B k : Nat) : Prop := (∃ w, w < 3 ∧ σ 6 k = nI w) ∧ (σ 10 k = 0 ∨ σ 10 k = 1) ∧ (σ 11 k = -1 ∨ ∃ b, b < nb ∧ σ 11 k = nI b) ∧ ((σ 12 k = 1 ∧ ∃ b, b < nb ∧ σ 13 k = nI b) ∨ ((σ 12 k = 0 ∨ σ 12 k = 2) ∧ σ 13 k = -1)) ∧ ∃ ρ, ρ ≤ B ∧ σ 14 k = nI ρ
def zag (σ τ : zS) (j : Nat) : Prop := τ 6 j = σ 6 j ∧ τ 10 j = σ 10 j ∧ τ 11 j = σ 11 j ∧ τ 12 j = σ 12 j ∧ τ 13 j = σ 13 j ∧ τ 14 j = σ 14 j
theorem zsk.ag {σ τ : zS} {nb B j : Nat} (h : zsk σ nb B j) (ha : zag σ τ j) : zsk τ nb B j := by
  obtain ⟨a1, a2, a3, a4, a5, a6⟩ := ha
  unfold zsk
  rw [a1, a2, a3, a4, a5, a6]
  exact h
theorem zsk.up {σ : zS} {nb B B' k : Nat} (h : zsk σ nb B k) (hB : B ≤ B') : zsk σ nb B' k := by
  obtain ⟨h1, h2, h3, h4, ρ, h5, h6⟩ := h
  exact ⟨h1, h2, h3, h4, ρ, Nat.le_trans h5 hB, h6⟩
theorem zag.rf {σ : zS} {j : Nat} : zag σ σ j := ⟨rfl, rfl, rfl, rfl, rfl, rfl⟩
theorem zag.tr {σ τ υ : zS} {j : Nat} (h1 : zag σ τ j) (h2 : zag τ υ j) : zag σ υ j :=
  ⟨h2.1.trans h1.1, h2.2.1.trans h1.2.1, h2.2.2.1.trans h1.2.2.1, h2.2.2.2.1.trans h1.2.2.2.1, h2.2.2.2.2.1.trans h1.2.2.2.2.1, h2.2.2.2.2.2.trans h1.2.2.2.2.2⟩
theorem zag_ne {σ : zS} {r k j : Nat} {v : Int32} (h : j ≠ k) : zag σ (zs σ r k v) j := ⟨zs_ne _ _ h _ _, zs_ne _ _ h _ _, zs_ne _ _ h _ _, zs_ne _ _ h _ _, zs_ne _ _ h _ _, zs_ne _ _ h _ _⟩
theorem zag_lo {σ : zS} {r k j : Nat} {v : Int32} (h : r < 6) : zag σ (zs σ r k v) j :=
  ⟨zs_nr _ (by omega) _ _ _, zs_nr _ (by omega) _ _ _, zs_nr _ (by omega) _ _ _, zs_nr _ (by omega) _ _ _, zs_nr _ (by omega) _ _ _, zs_nr _ (by omega) _ _ _⟩
theorem ag_late {σ : zS} {k j : Nat} (h : j ≠ k) : zag σ (f_late σ k) j := (zag_ne h).tr (zag_ne h)
theorem ag_floor {σ : zS} {k j : Nat} (h : j ≠ k) : zag σ (f_floor σ k) j := (zag_ne h).tr (zag_ne h)
theorem ag_leave {σ : zS} {k j : Nat} : zag σ (f_leave σ k) j := by
  unfold f_leave
  split
  · exact zag_lo (by decide)
  · exact zag.rf
theorem ag_getUp {σ : zS} {k j : Nat} (h : j ≠ k) : zag σ (f_getUp σ k) j := ag_leave.tr ((zag_ne h).tr (zag_ne h))
theorem ag_earn {σ : zS} {k j : Nat} {c : Int32} (h : j ≠ k) : zag σ (f_earn σ k c) j := zag_ne h
theorem ag_pay {σ : zS} {k j : Nat} (h : j ≠ k) : zag σ (f_pay σ k) j := (ag_earn h).tr (zag_ne h)
theorem ag_red {σ : zS} {k j : Nat} (h : j ≠ k) : zag σ (f_red σ k) j := (zag_ne h).tr (zag_ne h)
theorem ag_pawnB {σ : zS} {k j : Nat} (h : j ≠ k) : zag σ (f_pawnB σ k) j := (zag_ne (σ := σ) h).tr (ag_earn h)
theorem ag_into {σ : zS} {k b j : Nat} (h : j ≠ k) : zag σ (f_into σ k b) j :=
  ((((((zag_ne h).tr (zag_ne h)).tr (zag_ne h)).tr (zag_lo (by decide))).tr (zag_lo (by decide))).tr (zag_lo (by decide)))
theorem ag_try1 {σ : zS} {k b j : Nat} (h : j ≠ k) : zag σ (f_try1 σ k b) j := by
  unfold f_try1
  split
  · exact ag_pawnB h
  · exact zag.rf
theorem ag_try {σ : zS} {k b j : Nat} (h : j ≠ k) : zag σ (f_try σ k b) j := by
  unfold f_try
  split
  · exact (ag_try1 h).tr (ag_floor h)
  · exact (ag_try1 h).tr (ag_into h)
theorem ag_look {σ : zS} {nb h k j : Nat} (hj : j ≠ k) : zag σ (f_look σ nb h k) j := by
  unfold f_look
  split
  · exact ag_try hj
  · split
    · exact zag.rf
    · exact ag_floor hj
theorem ag_payR {σ : zS} {h k j : Nat} (hj : j ≠ k) : zag σ (f_payR σ h k) j := by
  unfold f_payR
  split
  · split
    · exact (ag_pay hj).tr (ag_red hj)
    · exact ag_pay hj
  · exact zag.rf
theorem ag_serve {σ : zS} {nb h k j : Nat} (hj : j ≠ k) : zag σ (f_serve σ nb h k) j := by
  unfold f_serve
  split
  · split
    · exact (ag_payR hj).tr (ag_look hj)
    · exact ag_payR hj
  · exact zag.rf
theorem ag_ring {σ : zS} {h k j : Nat} (hj : j ≠ k) : zag σ (f_ring σ h k) j := by
  unfold f_ring
  split
  · exact zag.rf
  · split
    · exact zag.rf
    · split
      · exact ag_late hj
      · exact ag_getUp hj
theorem ag_rest {σ : zS} {h k j : Nat} (hj : j ≠ k) : zag σ (f_rest σ h k) j := zag_ne hj
theorem ag_cool (σ : zS) (j : Nat) : ∀ n : Nat, zag σ (f_cool σ n) j
  | 0 => zag.rf
  | n + 1 => (ag_cool σ j n).tr (zag_lo (by decide))
-- the sailor whose turn it is
theorem sk_late {σ : zS} {nb B k : Nat} (h : zsk σ nb B k) : zsk (f_late σ k) nb B k := h
theorem sk_getUp {σ : zS} {nb B k : Nat} (h : zsk σ nb B k) : zsk (f_getUp σ k) nb B k := by
  have h1 : zsk (f_leave σ k) nb B k := h.ag ag_leave
  exact ⟨h1.1, h1.2.1, h1.2.2.1, Or.inr ⟨Or.inl (zs_eq _ 12 k 0), zs_eq (f_leave σ k) 13 k (-1)⟩, h1.2.2.2.2⟩
theorem sk_floor {σ : zS} {nb B k : Nat} (h : zsk σ nb B k) (hb : σ 13 k = -1) : zsk (f_floor σ k) nb B k :=
  ⟨h.1, h.2.1, h.2.2.1, Or.inr ⟨Or.inr (zs_eq σ 12 k 2), hb⟩, h.2.2.2.2⟩
theorem sk_pay {σ : zS} {nb B k : Nat} (h : zsk σ nb B k) : zsk (f_pay σ k) nb B k := h
theorem sk_red {σ : zS} {nb B k : Nat} (h : zsk σ nb B k) : zsk (f_red σ k) nb B k := ⟨h.1, Or.inr (zs_eq _ 10 k 1), h.2.2.1, h.2.2.2.1, h.2.2.2.2⟩
theorem sk_pawnB {σ : zS} {nb B k : Nat} (h : zsk σ nb B k) : zsk (f_pawnB σ k) nb B k := ⟨h.1, Or.inl (zs_eq σ 10 k 0), h.2.2.1, h.2.2.2.1, h.2.2.2.2⟩
theorem sk_into {σ : zS} {nb B k b : Nat} (h : zsk σ nb B k) (hb : b < nb) : zsk (f_into σ k b) nb B k :=
  ⟨h.1, h.2.1, h.2.2.1, Or.inl ⟨zs_eq (zs σ 9 k (σ 9 k - σ 1 b)) 12 k 1, b, hb, zs_eq (zs (zs σ 9 k (σ 9 k - σ 1 b)) 12 k 1) 13 k (nI b)⟩, h.2.2.2.2⟩
theorem sk_try1 {σ : zS} {nb B k b : Nat} (h : zsk σ nb B k) : zsk (f_try1 σ k b) nb B k := by
  unfold f_try1
  split
  · exact sk_pawnB h
  · exact h
theorem f_try1_13 (σ : zS) (k b : Nat) : f_try1 σ k b 13 = σ 13 := by unfold f_try1; split <;> rfl
theorem sk_try {σ : zS} {nb B k b : Nat} (h : zsk σ nb B k) (h13 : σ 13 k = -1) (hb : b < nb) : zsk (f_try σ k b) nb B k := by
  unfold f_try
  split
  · exact sk_floor (sk_try1 h) (by rw [f_try1_13]; exact h13)
  · exact sk_into (sk_try1 h) hb
theorem zsk.b13 {σ : zS} {nb B k : Nat} (h : zsk σ nb B k) (h0 : σ 12 k = 0) : σ 13 k = -1 := by
  rcases h.2.2.2.1 with ⟨z, -⟩ | ⟨-, z⟩
  · rw [h0] at z
    exact absurd z (by decide)
  · exact z
theorem sk_look {σ : zS} {nb ns B h k : Nat} (hC : zC σ nb ns h) (hs : zsk σ nb B k) (h0 : σ 12 k = 0) : zsk (f_look σ nb h k) nb B k := by
  unfold f_look
  split
  · rename_i hc
    obtain ⟨b, hb, eb⟩ := zhas_of hC hc
    rw [eb, nI_clamp (by have := hC.2.1; omega)]
    exact sk_try hs (hs.b13 h0) hb
  · split
    · exact hs
    · exact sk_floor hs (hs.b13 h0)
theorem sk_payR {σ : zS} {nb B h k : Nat} (hs : zsk σ nb B k) : zsk (f_payR σ h k) nb B k := by
  unfold f_payR
  split
  · split
    · exact sk_red (sk_pay hs)
    · exact sk_pay hs
  · exact hs
theorem sk_serve {σ : zS} {nb ns B h k : Nat} (hC : zC σ nb ns h) (hs : zsk σ nb B k) : zsk (f_serve σ nb h k) nb B k := by
  unfold f_serve
  split
  · split
    · rename_i h0
      exact sk_look (hC.to (f_payR_0 _ _ _) (f_payR_6 _ _ _)) (sk_payR hs) h0
    · exact sk_payR hs
  · exact hs
theorem sk_ring {σ : zS} {nb B h k : Nat} (hs : zsk σ nb B k) : zsk (f_ring σ h k) nb B k := by
  unfold f_ring
  split
  · exact hs
  · split
    · exact hs
    · split
      · exact sk_late hs
      · exact sk_getUp hs
theorem f_roh_n (σ : zS) (h k : Nat) : ∃ c, c ≤ 2 ∧ f_roh σ h k = nI c := by
  unfold f_roh
  split
  · split
    · exact ⟨2, by decide, rfl⟩
    · exact ⟨1, by decide, rfl⟩
  · split
    · split
      · exact ⟨0, by decide, rfl⟩
      · exact ⟨1, by decide, rfl⟩
    · exact ⟨0, by decide, rfl⟩
theorem sk_rest {σ : zS} {nb B h k : Nat} (hs : zsk σ nb B k) : zsk (f_rest σ h k) nb (B + 2) k := by
  obtain ⟨h1, h2, h3, h4, ρ, h5, h6⟩ := hs
  obtain ⟨c, hc, ec⟩ := f_roh_n σ h k
  refine ⟨h1, h2, h3, h4, ρ + c, by omega, ?_⟩
  show zs σ 14 k (σ 14 k + f_roh σ h k) 14 k = nI (ρ + c)
  rw [zs_eq, h6, ec, nI_add]
/-- the whole invariant -/
def zI (σ : zS) (nb ns h : Nat) : Prop := zC σ nb ns h ∧ ∀ k, k < ns → zsk σ nb (2 * h) k
theorem zI.ring1 {σ : zS} {nb ns h : Nat} (hI : zI σ nb ns h) (k : Nat) : zI (f_ring σ h k) nb ns h := ⟨hI.1.to (f_ring_0 _ _ _) (f_ring_6 _ _ _), fun j hj => by
  by_cases e : j = k
  · subst e; exact sk_ring (hI.2 j hj)
  · exact (hI.2 j hj).ag (ag_ring e)⟩
theorem zI.serve1 {σ : zS} {nb ns h : Nat} (hI : zI σ nb ns h) (k : Nat) : zI (f_serve σ nb h k) nb ns h := ⟨hI.1.to (f_serve_0 _ _ _ _) (f_serve_6 _ _ _ _), fun j hj => by
  by_cases e : j = k
  · subst e; exact sk_serve hI.1 (hI.2 j hj)
  · exact (hI.2 j hj).ag (ag_serve e)⟩
theorem zI.ring {σ : zS} {nb ns h : Nat} (hI : zI σ nb ns h) : ∀ j : Nat, zI (f_itr (fun τ k => f_ring τ h k) j σ) nb ns h
  | 0 => hI
  | j + 1 => (hI.ring j).ring1 j
theorem zI.serve {σ : zS} {nb ns h : Nat} (hI : zI σ nb ns h) : ∀ j : Nat, zI (f_itr (fun τ k => f_serve τ nb h k) j σ) nb ns h
  | 0 => hI
  | j + 1 => (hI.serve j).serve1 j
/-- the invariant while the rests grow: those before j have theirs already -/
def zIr (σ : zS) (nb ns h j : Nat) : Prop := zC σ nb ns h ∧ ∀ k, k < ns → zsk σ nb (if k < j then 2 * h + 2 else 2 * h) k
theorem zIr.rest1 {σ : zS} {nb ns h j : Nat} (hI : zIr σ nb ns h j) : zIr (f_rest σ h j) nb ns h (j + 1) := ⟨hI.1.to rfl rfl, fun k hk => by
  by_cases e : k = j
  · subst e
    have h1 := hI.2 k hk
    rw [if_neg (Nat.lt_irrefl k)] at h1
    rw [if_pos (Nat.lt_succ_self k)]
    exact sk_rest h1
  · have h1 := (hI.2 k hk).ag (ag_rest (h := h) e)
    refine h1.up ?_
    by_cases z : k < j
    · rw [if_pos z, if_pos (by omega)]; exact Nat.le_refl _
    · rw [if_neg z, if_neg (by omega)]; exact Nat.le_refl _⟩
theorem zI.rest {σ : zS} {nb ns h : Nat} (hI : zI σ nb ns h) : ∀ j : Nat, zIr (f_itr (fun τ k => f_rest τ h k) j σ) nb ns h j
  | 0 => ⟨hI.1, fun k hk => by rw [if_neg (Nat.not_lt_zero k)]; exact hI.2 k hk⟩
  | j + 1 => (hI.rest j).rest1
theorem zI.hour {σ : zS} {nb ns h : Nat} (hI : zI σ nb ns h) (hh : h + 1 < 2 ^ 30) : zI (f_hour σ nb ns h) nb ns (h + 1) := ⟨hI.1.hour hh, fun k hk => by
  have h1 := (((hI.ring ns).serve ns).rest ns).2 k hk
  rw [if_pos hk] at h1
  have h2 : zsk (f_cool (f_hour3 σ nb ns h) nb) nb (2 * h + 2) k := h1.ag (ag_cool _ k nb)
  exact h2⟩
theorem zI.hours {σ : zS} {nb ns h : Nat} (hI : zI σ nb ns h) : ∀ n : Nat, h + n < 2 ^ 30 → zI (f_hours σ nb ns h n) nb ns (h + n)
  | 0, _ => hI
  | n + 1, hn => (hI.hours n (by omega)).hour hn
theorem zI.wat {σ : zS} {nb ns h : Nat} (hI : zI σ nb ns h) (k : Nat) {w : Nat} (hw : w < 3) : zI (zs σ 6 k (nI w)) nb ns h := ⟨hI.1.wat k hw, fun j hj => by
  by_cases e : j = k
  · subst e
    have h := hI.2 j hj
    exact ⟨⟨w, hw, zs_eq σ 6 j (nI w)⟩, h.2.1, h.2.2.1, h.2.2.2.1, h.2.2.2.2⟩
  · exact (hI.2 j hj).ag (zag_ne e)⟩
theorem zI.bell {σ : zS} {nb ns h : Nat} (hI : zI σ nb ns h) (v : Int32) : zI (zs σ 0 1 v) nb ns h := ⟨hI.1.bell v, hI.2⟩
-- what an hour leaves
def zrq (r : Nat) : Prop := r = 1 ∨ r = 7 ∨ r = 8
theorem rw_leave {r : Nat} (hr : zrq r) (σ : zS) (k : Nat) : f_leave σ k r = σ r := by
  rcases hr with rfl | rfl | rfl <;> (unfold f_leave; split <;> rfl)
theorem rw_getUp {r : Nat} (hr : zrq r) (σ : zS) (k : Nat) : f_getUp σ k r = σ r := by
  have h := rw_leave hr σ k
  rcases hr with rfl | rfl | rfl <;> exact h
theorem rw_try1 {r : Nat} (hr : zrq r) (σ : zS) (k b : Nat) : f_try1 σ k b r = σ r := by
  rcases hr with rfl | rfl | rfl <;> (unfold f_try1; split <;> rfl)
theorem rw_try {r : Nat} (hr : zrq r) (σ : zS) (k b : Nat) : f_try σ k b r = σ r := by
  have h := rw_try1 hr σ k b
  unfold f_try
  split <;> (rcases hr with rfl | rfl | rfl <;> exact h)
theorem rw_look {r : Nat} (hr : zrq r) (σ : zS) (nb h k : Nat) : f_look σ nb h k r = σ r := by
  unfold f_look
  split
  · exact rw_try hr _ _ _
  · split
    · rfl
    · rcases hr with rfl | rfl | rfl <;> rfl
theorem rw_payR {r : Nat} (hr : zrq r) (σ : zS) (h k : Nat) : f_payR σ h k r = σ r := by
  unfold f_payR
  split
  · split <;> (rcases hr with rfl | rfl | rfl <;> rfl)
  · rfl
theorem rw_serve {r : Nat} (hr : zrq r) (σ : zS) (nb h k : Nat) : f_serve σ nb h k r = σ r := by
  unfold f_serve
  split
  · split
    · exact (rw_look hr _ _ _ _).trans (rw_payR hr _ _ _)
    · exact rw_payR hr _ _ _
  · rfl
theorem rw_ring {r : Nat} (hr : zrq r) (σ : zS) (h k : Nat) : f_ring σ h k r = σ r := by
  unfold f_ring
  split
  · rfl
  · split
    · rfl
    · split
      · rcases hr with rfl | rfl | rfl <;> rfl
      · exact rw_getUp hr _ _
theorem rw_cool {r : Nat} (hr : zrq r) (σ : zS) : ∀ n : Nat, f_cool σ n r = σ r
  | 0 => rfl
  | n + 1 => (zs_row _ (by rcases hr with rfl | rfl | rfl <;> decide) _ _).trans (rw_cool hr σ n)
theorem rw_hour {r : Nat} (hr : zrq r) (σ : zS) (nb ns h : Nat) : f_hour σ nb ns h r = σ r := by
  have h1 : f_hour1 σ ns h r = σ r := f_itr_row (F := fun τ k => f_ring τ h k) (fun τ k => rw_ring hr τ h k) σ ns
  have h2 : f_hour2 σ nb ns h r = f_hour1 σ ns h r := f_itr_row (F := fun τ k => f_serve τ nb h k) (fun τ k => rw_serve hr τ nb h k) _ ns
  have h3 : f_hour3 σ nb ns h r = f_hour2 σ nb ns h r := f_itr_row (F := fun τ k => f_rest τ h k) (fun τ k => by rcases hr with rfl | rfl | rfl <;> rfl) _ ns
  have h4 : f_cool (f_hour3 σ nb ns h) nb r = f_hour3 σ nb ns h r := rw_cool hr _ nb
  have h5 : f_hour σ nb ns h r = f_cool (f_hour3 σ nb ns h) nb r := by rcases hr with rfl | rfl | rfl <;> rfl
  exact h5.trans (h4.trans (h3.trans (h2.trans h1)))
theorem rw_hours {r : Nat} (hr : zrq r) (σ : zS) (nb ns h : Nat) : ∀ n : Nat, f_hours σ nb ns h n r = σ r
  | 0 => rfl
  | n + 1 => (rw_hour hr _ _ _ _).trans (rw_hours hr σ nb ns h n)
theorem rw_hour0 (σ : zS) (nb ns h : Nat) {j : Nat} (hj : j ≠ 0) : f_hour σ nb ns h 0 j = σ 0 j := by
  have h1 : f_hour1 σ ns h 0 = σ 0 := f_itr_row (F := fun τ k => f_ring τ h k) (fun τ k => f_ring_0 τ h k) σ ns
  have h2 : f_hour2 σ nb ns h 0 = f_hour1 σ ns h 0 := f_itr_row (F := fun τ k => f_serve τ nb h k) (fun τ k => f_serve_0 τ nb h k) _ ns
  have h3 : f_hour3 σ nb ns h 0 = f_hour2 σ nb ns h 0 := f_itr_row (F := fun τ k => f_rest τ h k) (fun _ _ => rfl) _ ns
  have h4 : f_cool (f_hour3 σ nb ns h) nb 0 = f_hour3 σ nb ns h 0 := f_cool_0 _ nb
  have h5 : f_hour σ nb ns h 0 j = f_cool (f_hour3 σ nb ns h) nb 0 j := zs_ne _ _ hj _ _
  rw [h5, h4, h3, h2, h1]
theorem rw_hours0 (σ : zS) (nb ns h : Nat) {j : Nat} (hj : j ≠ 0) : ∀ n : Nat, f_hours σ nb ns h n 0 j = σ 0 j
  | 0 => rfl
  | n + 1 => (rw_hour0 _ _ _ _ hj).trans (rw_hours0 σ nb ns h hj n)
end
section
/-! THE LAW'S INVARIANT: bounds of every number, who lies in which bed; and that rest, lateness and floors never get less -/
def zle (v : Int32) (n : Nat) : Prop := ∃ y, y ≤ n ∧ v = nI y
theorem zle.up {v : Int32} {n n' : Nat} (h : zle v n) (hn : n ≤ n') : zle v n' := by
  obtain ⟨y, h1, h2⟩ := h
  exact ⟨y, Nat.le_trans h1 hn, h2⟩
theorem zle.add {v : Int32} {n : Nat} (h : zle v n) (c : Nat) : zle (v + nI c) (n + c) := by
  obtain ⟨y, h1, h2⟩ := h
  exact ⟨y + c, by omega, by rw [h2, nI_add]⟩
theorem zle.succ {v : Int32} {n : Nat} (h : zle v n) : zle (v + 1) (n + 1) := h.add 1
theorem zle.pos {v : Int32} {n : Nat} (h : zle v n) (hn : n < 2 ^ 31) : ¬ v < 0 := by
  obtain ⟨y, h1, h2⟩ := h
  rw [h2]
  exact nI_pos (by omega)
theorem zle.le {v : Int32} {n : Nat} (h : zle v n) (hn : n < 2 ^ 31) : v ≤ nI n := by
  obtain ⟨y, h1, h2⟩ := h
  rw [h2]
  exact nI_le h1 hn
theorem zle.mono {v : Int32} {n : Nat} (h : zle v n) (c : Nat) (hn : n + c < 2 ^ 31) : v ≤ v + nI c := by
  obtain ⟨y, h1, h2⟩ := h
  rw [h2, nI_add]
  exact nI_le (by omega) (by omega)
theorem zle.of {a n : Nat} (h : a ≤ n) : zle (nI a) n := ⟨a, h, rfl⟩
theorem i32_rf (v : Int32) : v ≤ v := Int32.le_iff_toInt_le.mpr (Int.le_refl _)
theorem i32_tr {u v w : Int32} (h1 : u ≤ v) (h2 : v ≤ w) : u ≤ w := Int32.le_iff_toInt_le.mpr (Int.le_trans (Int32.le_iff_toInt_le.mp h1) (Int32.le_iff_toInt_le.mp h2))
theorem i32_nlt {v w : Int32} (h : v ≤ w) : ¬ w < v := fun z => by
  have h1 := Int32.le_iff_toInt_le.mp h
  have h2 := Int32.lt_iff_toInt_lt.mp z
  omega
-- a sailor's column as it was
def zco (σ τ : zS) (k : Nat) : Prop := ∀ r, 6 ≤ r → τ r k = σ r k
theorem zco.rf {σ : zS} {j : Nat} : zco σ σ j := fun _ _ => rfl
theorem zco.tr {σ τ υ : zS} {j : Nat} (h1 : zco σ τ j) (h2 : zco τ υ j) : zco σ υ j := fun r hr => (h2 r hr).trans (h1 r hr)
theorem zco_ne {σ : zS} {r k j : Nat} {v : Int32} (h : j ≠ k) : zco σ (zs σ r k v) j := fun _ _ => zs_ne _ _ h _ _
theorem zco_lo {σ : zS} {r k j : Nat} {v : Int32} (h : r < 6) : zco σ (zs σ r k v) j := fun _ _ => zs_nr _ (by omega) _ _ _
theorem zco.ag {σ τ : zS} {j : Nat} (h : zco σ τ j) : zag σ τ j := ⟨h 6 (by decide), h 10 (by decide), h 11 (by decide), h 12 (by decide), h 13 (by decide), h 14 (by decide)⟩
theorem co_late {σ : zS} {k j : Nat} (h : j ≠ k) : zco σ (f_late σ k) j := (zco_ne h).tr (zco_ne h)
theorem co_floor {σ : zS} {k j : Nat} (h : j ≠ k) : zco σ (f_floor σ k) j := (zco_ne h).tr (zco_ne h)
theorem co_leave {σ : zS} {k j : Nat} : zco σ (f_leave σ k) j := by
  unfold f_leave
  split
  · exact zco_lo (by decide)
  · exact zco.rf
theorem co_getUp {σ : zS} {k j : Nat} (h : j ≠ k) : zco σ (f_getUp σ k) j := co_leave.tr ((zco_ne h).tr (zco_ne h))
theorem co_earn {σ : zS} {k j : Nat} {c : Int32} (h : j ≠ k) : zco σ (f_earn σ k c) j := zco_ne h
theorem co_pay {σ : zS} {k j : Nat} (h : j ≠ k) : zco σ (f_pay σ k) j := (co_earn h).tr (zco_ne h)
theorem co_red {σ : zS} {k j : Nat} (h : j ≠ k) : zco σ (f_red σ k) j := (zco_ne h).tr (zco_ne h)
theorem co_pawnB {σ : zS} {k j : Nat} (h : j ≠ k) : zco σ (f_pawnB σ k) j := (zco_ne (σ := σ) h).tr (co_earn h)
theorem co_into {σ : zS} {k b j : Nat} (h : j ≠ k) : zco σ (f_into σ k b) j :=
  ((((((zco_ne h).tr (zco_ne h)).tr (zco_ne h)).tr (zco_lo (by decide))).tr (zco_lo (by decide))).tr (zco_lo (by decide)))
theorem co_try1 {σ : zS} {k b j : Nat} (h : j ≠ k) : zco σ (f_try1 σ k b) j := by
  unfold f_try1
  split
  · exact co_pawnB h
  · exact zco.rf
theorem co_try {σ : zS} {k b j : Nat} (h : j ≠ k) : zco σ (f_try σ k b) j := by
  unfold f_try
  split
  · exact (co_try1 h).tr (co_floor h)
  · exact (co_try1 h).tr (co_into h)
theorem co_look {σ : zS} {nb h k j : Nat} (hj : j ≠ k) : zco σ (f_look σ nb h k) j := by
  unfold f_look
  split
  · exact co_try hj
  · split
    · exact zco.rf
    · exact co_floor hj
theorem co_payR {σ : zS} {h k j : Nat} (hj : j ≠ k) : zco σ (f_payR σ h k) j := by
  unfold f_payR
  split
  · split
    · exact (co_pay hj).tr (co_red hj)
    · exact co_pay hj
  · exact zco.rf
theorem co_serve {σ : zS} {nb h k j : Nat} (hj : j ≠ k) : zco σ (f_serve σ nb h k) j := by
  unfold f_serve
  split
  · split
    · exact (co_payR hj).tr (co_look hj)
    · exact co_payR hj
  · exact zco.rf
theorem co_ring {σ : zS} {h k j : Nat} (hj : j ≠ k) : zco σ (f_ring σ h k) j := by
  unfold f_ring
  split
  · exact zco.rf
  · split
    · exact zco.rf
    · split
      · exact co_late hj
      · exact co_getUp hj
theorem co_rest {σ : zS} {h k j : Nat} (hj : j ≠ k) : zco σ (f_rest σ h k) j := zco_ne hj
theorem co_cool (σ : zS) (j : Nat) : ∀ n : Nat, zco σ (f_cool σ n) j
  | 0 => zco.rf
  | n + 1 => (co_cool σ j n).tr (zco_lo (by decide))
-- what is kept
def zsm (σ : zS) (B k : Nat) : Prop := zle (σ 7 k) 9 ∧ zle (σ 8 k) 20 ∧ zle (σ 9 k) 99 ∧ zle (σ 15 k) B ∧ zle (σ 16 k) B ∧ zle (σ 17 k) B
theorem zsm.co {σ τ : zS} {B k : Nat} (h : zsm σ B k) (ha : zco σ τ k) : zsm τ B k := by
  unfold zsm
  rw [ha 7 (by decide), ha 8 (by decide), ha 9 (by decide), ha 15 (by decide), ha 16 (by decide), ha 17 (by decide)]
  exact h
theorem zsm.up {σ : zS} {B B' k : Nat} (h : zsm σ B k) (hB : B ≤ B') : zsm σ B' k := ⟨h.1, h.2.1, h.2.2.1, h.2.2.2.1.up hB, h.2.2.2.2.1.up hB, h.2.2.2.2.2.up hB⟩
def zbd (σ : zS) (ns b : Nat) : Prop := zle (σ 1 b) 9 ∧ σ 4 b = σ 1 b * σ 3 b ∧ zle (σ 2 b) 8 ∧ (σ 5 b = -1 ∨ ∃ k, k < ns ∧ σ 5 b = nI k ∧ σ 12 k = 1 ∧ σ 13 k = nI b)
def zln (σ : zS) (nb k : Nat) : Prop := σ 12 k = 1 → ∃ b, b < nb ∧ σ 13 k = nI b ∧ σ 5 b = nI k
def zV (σ : zS) (nb ns h B : Nat) : Prop := zC σ nb ns h ∧ (B ≤ 2 ^ 28 ∧ (∃ p, 1 ≤ p ∧ p ≤ 20 ∧ σ 0 2 = nI p) ∧ zle (σ 0 1) 9) ∧ (∀ k, k < ns → zsk σ nb (2 * B) k ∧ zsm σ B k ∧ zln σ nb k) ∧ (∀ b, b < nb → zbd σ ns b) ∧ (∀ k, ns ≤ k → σ 12 k = 0 ∧ σ 14 k = 0 ∧ σ 15 k = 0 ∧ σ 16 k = 0 ∧ σ 17 k = 0) ∧ ∀ b, nb ≤ b → σ 2 b = 0 ∧ σ 3 b = 0 ∧ σ 4 b = 0
/-- an act on one sailor's column that leaves beds, place and bed alone -/
theorem zV.col {σ τ : zS} {nb ns h B B' k : Nat} (hV : zV σ nb ns h B) (hB : B ≤ B') (hB' : B' ≤ 2 ^ 28) (hk : k < ns) (h0 : τ 0 = σ 0) (hb : ∀ r, 1 ≤ r → r ≤ 5 → τ r = σ r) (hco : ∀ j, j ≠ k → zco σ τ j) (h12 : τ 12 k = σ 12 k) (h13 : τ 13 k = σ 13 k) (hs : zsk τ nb (2 * B') k) (hm : zsm τ B' k) : zV τ nb ns h B' := by
  obtain ⟨hC, ⟨-, hp, hl⟩, hK, hBd, hZ, hZb⟩ := hV
  have e12 : ∀ j, τ 12 j = σ 12 j := fun j => by
    by_cases e : j = k
    · rw [e]; exact h12
    · exact hco j e 12 (by decide)
  have e13 : ∀ j, τ 13 j = σ 13 j := fun j => by
    by_cases e : j = k
    · rw [e]; exact h13
    · exact hco j e 13 (by decide)
  refine ⟨⟨by rw [h0]; exact hC.1, hC.2.1, by rw [h0]; exact hC.2.2.1, hC.2.2.2.1, by rw [h0]; exact hC.2.2.2.2.1, hC.2.2.2.2.2.1, fun j hj => ?_⟩, ⟨hB', by rw [h0]; exact hp, by rw [h0]; exact hl⟩, fun j hj => ?_, fun b hb9 => ?_, fun j hj => ?_, fun b hb9 => ?_⟩
  · by_cases e : j = k
    · rw [e]; exact hs.1
    · rw [hco j e 6 (by decide)]; exact hC.2.2.2.2.2.2 j hj
  · have hln : zln τ nb j := by
      unfold zln
      rw [e12, e13, hb 5 (by decide) (by decide)]
      exact (hK j hj).2.2
    by_cases e : j = k
    · subst e; exact ⟨hs, hm, hln⟩
    · exact ⟨((hK j hj).1.ag (hco j e).ag).up (by omega), ((hK j hj).2.1.co (hco j e)).up hB, hln⟩
  · have h1 := hBd b hb9
    unfold zbd at h1 ⊢
    rw [hb 1 (by decide) (by decide), hb 2 (by decide) (by decide), hb 3 (by decide) (by decide), hb 4 (by decide) (by decide), hb 5 (by decide) (by decide)]
    refine ⟨h1.1, h1.2.1, h1.2.2.1, h1.2.2.2.imp id (fun ⟨q, z1, z2, z3, z4⟩ => ⟨q, z1, z2, by rw [e12]; exact z3, by rw [e13]; exact z4⟩)⟩
  · have z := hco j (by omega)
    rw [z 12 (by decide), z 14 (by decide), z 15 (by decide), z 16 (by decide), z 17 (by decide)]
    exact hZ j hj
  · rw [hb 2 (by decide) (by decide), hb 3 (by decide) (by decide), hb 4 (by decide) (by decide)]
    exact hZb b hb9
theorem zV.upB {σ : zS} {nb ns h B B' : Nat} (hV : zV σ nb ns h B) (hB : B ≤ B') (hB' : B' ≤ 2 ^ 28) : zV σ nb ns h B' :=
  ⟨hV.1, ⟨hB', hV.2.1.2⟩, fun k hk => ⟨(hV.2.2.1 k hk).1.up (by omega), (hV.2.2.1 k hk).2.1.up hB, (hV.2.2.1 k hk).2.2⟩, hV.2.2.2⟩
theorem zV.late {σ : zS} {nb ns h B k : Nat} (hV : zV σ nb ns h B) (hB : B + 1 ≤ 2 ^ 28) (hk : k < ns) : zV (f_late σ k) nb ns h (B + 1) := by
  have h1 := hV.2.2.1 k hk
  refine hV.col (Nat.le_succ B) hB hk rfl (fun r h1 h2 => ?_) (fun _ => co_late) rfl rfl ((sk_late h1.1).up (by omega)) ⟨h1.2.1.1, h1.2.1.2.1, h1.2.1.2.2.1, ?_, ?_, h1.2.1.2.2.2.2.2.up (Nat.le_succ B)⟩
  · unfold f_late
    rw [zs_row _ (by omega), zs_row _ (by omega)]
  · have e : f_late σ k 15 k = σ 15 k + 1 := zs_eq σ 15 k (σ 15 k + 1)
    rw [e]; exact h1.2.1.2.2.2.1.succ
  · have e : f_late σ k 16 k = σ 16 k + 1 := zs_eq (zs σ 15 k (σ 15 k + 1)) 16 k (σ 16 k + 1)
    rw [e]; exact h1.2.1.2.2.2.2.1.succ
theorem zV.clean {σ τ : zS} {nb ns h B k : Nat} (hV : zV σ nb ns h B) (hk : k < ns) (h13 : σ 13 k = -1) (h12 : ¬ σ 12 k = 1) (e12 : ¬ τ 12 k = 1) (e13 : τ 13 k = -1) (h0 : τ 0 = σ 0) (hb : ∀ r, 1 ≤ r → r ≤ 5 → τ r = σ r) (hco : ∀ j, j ≠ k → zco σ τ j) {B' : Nat} (hB : B ≤ B') (hB' : B' ≤ 2 ^ 28) (hs : zsk τ nb (2 * B') k) (hm : zsm τ B' k) : zV τ nb ns h B' := by
  obtain ⟨hC, ⟨-, hp, hl⟩, hK, hBd, hZ, hZb⟩ := hV
  refine ⟨⟨by rw [h0]; exact hC.1, hC.2.1, by rw [h0]; exact hC.2.2.1, hC.2.2.2.1, by rw [h0]; exact hC.2.2.2.2.1, hC.2.2.2.2.2.1, fun j hj => ?_⟩, ⟨hB', by rw [h0]; exact hp, by rw [h0]; exact hl⟩, fun j hj => ?_, fun b hb9 => ?_, fun j hj => ?_, fun b hb9 => ?_⟩
  · by_cases e : j = k
    · rw [e]; exact hs.1
    · rw [hco j e 6 (by decide)]; exact hC.2.2.2.2.2.2 j hj
  · by_cases e : j = k
    · subst e; exact ⟨hs, hm, fun z => absurd z e12⟩
    · refine ⟨((hK j hj).1.ag (hco j e).ag).up (by omega), ((hK j hj).2.1.co (hco j e)).up hB, ?_⟩
      unfold zln
      rw [hco j e 12 (by decide), hco j e 13 (by decide), hb 5 (by decide) (by decide)]
      exact (hK j hj).2.2
  · have h1 := hBd b hb9
    unfold zbd at h1 ⊢
    rw [hb 1 (by decide) (by decide), hb 2 (by decide) (by decide), hb 3 (by decide) (by decide), hb 4 (by decide) (by decide), hb 5 (by decide) (by decide)]
    refine ⟨h1.1, h1.2.1, h1.2.2.1, h1.2.2.2.imp id (fun ⟨q, z1, z2, z3, z4⟩ => ?_)⟩
    have e : q ≠ k := fun e => by subst e; exact h12 z3
    exact ⟨q, z1, z2, by rw [hco q e 12 (by decide)]; exact z3, by rw [hco q e 13 (by decide)]; exact z4⟩
  · have z := hco j (by omega)
    rw [z 12 (by decide), z 14 (by decide), z 15 (by decide), z 16 (by decide), z 17 (by decide)]
    exact hZ j hj
  · rw [hb 2 (by decide) (by decide), hb 3 (by decide) (by decide), hb 4 (by decide) (by decide)]
    exact hZb b hb9
theorem zV.zhas {σ : zS} {nb ns h B b : Nat} (hV : zV σ nb ns h B) (hb : b < nb) : f_has σ (nI b) := by
  have hC := hV.1
  have hnb := hC.2.1
  refine ⟨nI_pos (by omega), ?_⟩
  rw [hC.1]
  exact nI_ge hb (by omega)
theorem zm1_nhas {σ : zS} : ¬ f_has σ (-1) := fun z => z.1 (by decide)
theorem f_leave_n {σ : zS} {k : Nat} (h : σ 13 k = -1) : f_leave σ k = σ := by
  unfold f_leave
  rw [h, if_neg zm1_nhas]
theorem f_leave_b {σ : zS} {nb ns h B b k : Nat} (hV : zV σ nb ns h B) (hb : b < nb) (h : σ 13 k = nI b) : f_leave σ k = zs σ 5 b (-1) := by
  have hnb := hV.1.2.1
  unfold f_leave
  rw [h, if_pos (hV.zhas hb), nI_clamp (by omega)]
theorem zV.getUp {σ : zS} {nb ns h B k : Nat} (hV : zV σ nb ns h B) (hk : k < ns) : zV (f_getUp σ k) nb ns h B := by
  have hs := (hV.2.2.1 k hk).1
  have e12 : f_getUp σ k 12 k = 0 := zs_eq (zs (f_leave σ k) 13 k (-1)) 12 k 0
  have e13 : f_getUp σ k 13 k = -1 := zs_eq (f_leave σ k) 13 k (-1)
  have hm : zsm (f_getUp σ k) B k := by
    have h1 : zsm (f_leave σ k) B k := (hV.2.2.1 k hk).2.1.co co_leave
    exact h1
  rcases hs.2.2.2.1 with ⟨h12, b, hb, h13⟩ | ⟨h12, h13⟩
  · have hu : f_getUp σ k = zs (zs (zs σ 5 b (-1)) 13 k (-1)) 12 k 0 := by
      unfold f_getUp
      rw [f_leave_b hV hb h13]
    have hco : ∀ j, j ≠ k → zco σ (f_getUp σ k) j := fun _ => co_getUp
    have hsk := sk_getUp hs
    have h0 : f_getUp σ k 0 = σ 0 := f_getUp_0 σ k
    have hr : ∀ r, 1 ≤ r → r ≤ 4 → f_getUp σ k r = σ r := fun r h1 h2 => by
      rw [hu, zs_row _ (by omega), zs_row _ (by omega), zs_row _ (by omega)]
    have h5 : ∀ b', f_getUp σ k 5 b' = if b' = b then -1 else σ 5 b' := fun b' => by
      rw [hu, zs_row _ (by decide), zs_row _ (by decide), zs_at]
      by_cases e : b' = b
      · rw [if_pos ⟨rfl, e⟩, if_pos e]
      · rw [if_neg (fun z => e z.2), if_neg e]
    have hnb := hV.1.2.1
    have hns := hV.1.2.2.2.1
    obtain ⟨hC, ⟨hB, hp, hl⟩, hK, hBd, hZ, hZb⟩ := hV
    refine ⟨⟨by rw [h0]; exact hC.1, hC.2.1, by rw [h0]; exact hC.2.2.1, hC.2.2.2.1, by rw [h0]; exact hC.2.2.2.2.1, hC.2.2.2.2.2.1, fun j hj => ?_⟩, ⟨hB, by rw [h0]; exact hp, by rw [h0]; exact hl⟩, fun j hj => ?_, fun b' hb' => ?_, fun j hj => ?_, fun b' hb' => ?_⟩
    · by_cases e : j = k
      · rw [e]; exact hsk.1
      · rw [hco j e 6 (by decide)]; exact hC.2.2.2.2.2.2 j hj
    · by_cases e : j = k
      · subst e; exact ⟨hsk, hm, fun z => by rw [e12] at z; exact absurd z (by decide)⟩
      · refine ⟨(hK j hj).1.ag (hco j e).ag, (hK j hj).2.1.co (hco j e), ?_⟩
        unfold zln
        rw [hco j e 12 (by decide), hco j e 13 (by decide)]
        intro z
        obtain ⟨b', z1, z2, z3⟩ := (hK j hj).2.2 z
        refine ⟨b', z1, z2, ?_⟩
        rw [h5]
        by_cases e2 : b' = b
        · obtain ⟨b2, y1, y2, y3⟩ := (hK k hk).2.2 h12
          have e3 : b2 = b := (nI_eq (by omega) (by omega)).mp (y2.symm.trans h13)
          rw [e3, ← e2, z3] at y3
          exact absurd ((nI_eq (by omega) (by omega)).mp y3) e
        · rw [if_neg e2]; exact z3
    · have h1 := hBd b' hb'
      unfold zbd at h1 ⊢
      rw [hr 1 (by decide) (by decide), hr 2 (by decide) (by decide), hr 3 (by decide) (by decide), hr 4 (by decide) (by decide), h5]
      refine ⟨h1.1, h1.2.1, h1.2.2.1, ?_⟩
      by_cases e2 : b' = b
      · rw [if_pos e2]; exact Or.inl rfl
      · rw [if_neg e2]
        refine h1.2.2.2.imp id (fun ⟨q, z1, z2, z3, z4⟩ => ?_)
        have e : q ≠ k := fun e => by
          subst e
          exact e2 ((nI_eq (by omega) (by omega)).mp (z4.symm.trans h13))
        exact ⟨q, z1, z2, by rw [hco q e 12 (by decide)]; exact z3, by rw [hco q e 13 (by decide)]; exact z4⟩
    · have z := hco j (by omega)
      rw [z 12 (by decide), z 14 (by decide), z 15 (by decide), z 16 (by decide), z 17 (by decide)]
      exact hZ j hj
    · rw [hr 2 (by decide) (by decide), hr 3 (by decide) (by decide), hr 4 (by decide) (by decide)]
      exact hZb b' hb'
  · have hu : f_getUp σ k = zs (zs σ 13 k (-1)) 12 k 0 := by
      unfold f_getUp
      rw [f_leave_n h13]
    have hn1 : ¬ σ 12 k = 1 := fun z => by rcases h12 with q | q <;> (rw [z] at q; exact absurd q (by decide))
    refine hV.clean (τ := f_getUp σ k) hk h13 hn1 (by rw [e12]; decide) e13 (f_getUp_0 σ k) (fun r h1 h2 => ?_) (fun _ => co_getUp) (Nat.le_refl B) hV.2.1.1 (sk_getUp hs) hm
    rw [hu, zs_row _ (by omega), zs_row _ (by omega)]
theorem zV.floor {σ : zS} {nb ns h B k : Nat} (hV : zV σ nb ns h B) (hB : B + 1 ≤ 2 ^ 28) (hk : k < ns) (h0 : σ 12 k = 0) : zV (f_floor σ k) nb ns h (B + 1) := by
  have h1 := hV.2.2.1 k hk
  have h13 := h1.1.b13 h0
  have e17 : f_floor σ k 17 k = σ 17 k + 1 := zs_eq (zs σ 12 k 2) 17 k (σ 17 k + 1)
  have e12 : f_floor σ k 12 k = 2 := zs_eq σ 12 k 2
  refine hV.clean (τ := f_floor σ k) hk h13 (by rw [h0]; decide) (by rw [e12]; decide) h13 rfl (fun r z1 z2 => ?_) (fun _ => co_floor) (Nat.le_succ B) hB ((sk_floor h1.1 h13).up (by omega)) ⟨h1.2.1.1, h1.2.1.2.1, h1.2.1.2.2.1, h1.2.1.2.2.2.1.up (Nat.le_succ B), h1.2.1.2.2.2.2.1.up (Nat.le_succ B), by rw [e17]; exact h1.2.1.2.2.2.2.2.succ⟩
  unfold f_floor
  rw [zs_row _ (by omega), zs_row _ (by omega)]
theorem zmin99 {n : Nat} (hn : n < 2 ^ 31) : zle (f_min99 (nI n)) 99 := by
  unfold f_min99
  split
  · rename_i z
    exact ⟨n, by have := (nI_ltI (a := n) (b := 99) hn (by decide)).mp z; omega, rfl⟩
  · exact ⟨99, Nat.le_refl 99, rfl⟩
theorem zV.earn {σ : zS} {nb ns h B k c : Nat} (hV : zV σ nb ns h B) (hk : k < ns) (hc : c ≤ 2 ^ 20) : zV (f_earn σ k (nI c)) nb ns h B := by
  have h1 := hV.2.2.1 k hk
  have e : f_earn σ k (nI c) 9 k = f_min99 (σ 9 k + nI c) := zs_eq σ 9 k _
  refine hV.col (Nat.le_refl B) hV.2.1.1 hk rfl (fun r z1 z2 => ?_) (fun _ => co_earn) rfl rfl h1.1 ⟨h1.2.1.1, h1.2.1.2.1, ?_, h1.2.1.2.2.2⟩
  · unfold f_earn
    rw [zs_row _ (by omega)]
  · rw [e]
    obtain ⟨q, hq, eq⟩ := h1.2.1.2.2.1
    rw [eq, nI_add]
    exact zmin99 (by omega)
theorem f_pay_c {σ : zS} {B k : Nat} (h1 : zsm σ B k) (hB : B ≤ 2 ^ 28) : ∃ c, c ≤ 20 ∧ f_max0 ((if σ 10 k = 1 then σ 8 k else σ 8 k / 2) - σ 16 k) = nI c := by
  obtain ⟨g, hg, eg⟩ := h1.2.1
  obtain ⟨s, hs, es⟩ := h1.2.2.2.2.1
  have hw : ∃ w, w ≤ 20 ∧ (if σ 10 k = 1 then σ 8 k else σ 8 k / 2) = nI w := by
    split
    · exact ⟨g, hg, eg⟩
    · refine ⟨g / 2, by omega, ?_⟩
      rw [eg]
      exact pk_div (d := 2) (by omega) (by decide) (by decide)
  obtain ⟨w, hw1, hw2⟩ := hw
  rw [hw2, es]
  unfold f_max0
  by_cases hc : s ≤ w
  · rw [pk_sub hc]
    split
    · exact ⟨w - s, by omega, rfl⟩
    · exact ⟨0, by omega, rfl⟩
  · have hn : ¬ (0 : Int32) < nI w - nI s := fun z => by
      have z2 := pk_sneg (a := w) (b := s) (by omega) (by omega)
      have y1 := Int32.lt_iff_toInt_lt.mp z
      have y2 := Int32.lt_iff_toInt_lt.mp z2
      omega
    rw [if_neg hn]
    exact ⟨0, by omega, rfl⟩
theorem zV.pay {σ : zS} {nb ns h B k : Nat} (hV : zV σ nb ns h B) (hk : k < ns) : zV (f_pay σ k) nb ns h B := by
  obtain ⟨c, hc, ec⟩ := f_pay_c (hV.2.2.1 k hk).2.1 hV.2.1.1
  have h2 : zV (f_earn σ k (nI c)) nb ns h B := hV.earn hk (by omega)
  have h1 := h2.2.2.1 k hk
  have e : f_pay σ k = zs (f_earn σ k (nI c)) 16 k 0 := by
    unfold f_pay
    rw [ec]
  rw [e]
  refine h2.col (Nat.le_refl B) hV.2.1.1 hk rfl (fun r z1 z2 => zs_row _ (by omega) _ _) (fun _ => zco_ne) rfl rfl h1.1 ⟨h1.2.1.1, h1.2.1.2.1, h1.2.1.2.2.1, h1.2.1.2.2.2.1, by rw [zs_eq]; exact ⟨0, Nat.zero_le _, rfl⟩, h1.2.1.2.2.2.2.2⟩
theorem zV.red {σ : zS} {nb ns h B k : Nat} (hV : zV σ nb ns h B) (hk : k < ns) (hc : f_can σ k) : zV (f_red σ k) nb ns h B := by
  have h1 := hV.2.2.1 k hk
  have e9 : f_red σ k 9 k = σ 9 k - (σ 0 2 + 2) := zs_eq σ 9 k _
  refine hV.col (Nat.le_refl B) hV.2.1.1 hk rfl (fun r z1 z2 => ?_) (fun _ => co_red) rfl rfl (sk_red h1.1) ⟨h1.2.1.1, h1.2.1.2.1, ?_, h1.2.1.2.2.2⟩
  · unfold f_red
    rw [zs_row _ (by omega), zs_row _ (by omega)]
  · rw [e9]
    obtain ⟨q, hq, eq⟩ := h1.2.1.2.2.1
    obtain ⟨p, hp1, hp2, ep⟩ := hV.2.1.2.1
    have h3 := hc.2
    rw [eq, ep, show nI p + 2 = nI (p + 2) from nI_add p 2] at h3
    rw [eq, ep, show nI p + 2 = nI (p + 2) from nI_add p 2]
    have h4 : p + 2 ≤ q := by
      have := mt (nI_ltI (a := q) (b := p + 2) (by omega) (by omega)).mpr h3
      omega
    rw [pk_sub h4]
    exact ⟨q - (p + 2), by omega, rfl⟩
theorem zV.pawnB {σ : zS} {nb ns h B k : Nat} (hV : zV σ nb ns h B) (hk : k < ns) : zV (f_pawnB σ k) nb ns h B := by
  have h1 := hV.2.2.1 k hk
  have h2 : zV (zs σ 10 k 0) nb ns h B := hV.col (Nat.le_refl B) hV.2.1.1 hk rfl (fun r z1 z2 => zs_row _ (by omega) _ _) (fun _ => zco_ne) rfl rfl ⟨h1.1.1, Or.inl (zs_eq σ 10 k 0), h1.1.2.2.1, h1.1.2.2.2.1, h1.1.2.2.2.2⟩ h1.2.1
  obtain ⟨p, hp1, hp2, ep⟩ := hV.2.1.2.1
  unfold f_pawnB
  rw [ep]
  exact h2.earn hk (by omega)
theorem zV.try1 {σ : zS} {nb ns h B k b : Nat} (hV : zV σ nb ns h B) (hk : k < ns) : zV (f_try1 σ k b) nb ns h B := by
  unfold f_try1
  split
  · exact hV.pawnB hk
  · exact hV
theorem zV.into {σ : zS} {nb ns h B k b : Nat} (hV : zV σ nb ns h B) (hk : k < ns) (hb : b < nb) (h12 : σ 12 k = 0) (h5 : σ 5 b = -1) (hp9 : ¬ σ 9 k < σ 1 b) : zV (f_into σ k b) nb ns h B := by
  have h1 := hV.2.2.1 k hk
  have hco : ∀ j, j ≠ k → zco σ (f_into σ k b) j := fun _ => co_into
  have hsk := sk_into h1.1 hb
  have hnb := hV.1.2.1
  have hns := hV.1.2.2.2.1
  have h0 : f_into σ k b 0 = σ 0 := rfl
  have g1 : f_into σ k b 1 = σ 1 := rfl
  have g2 : f_into σ k b 2 = σ 2 := rfl
  have g3 : ∀ b', f_into σ k b 3 b' = if b' = b then σ 3 b + 1 else σ 3 b' := fun b' => by
    show zs _ 3 b (σ 3 b + 1) 3 b' = _
    rw [zs_at]
    by_cases e : b' = b
    · rw [if_pos ⟨rfl, e⟩, if_pos e]
    · rw [if_neg (fun z => e z.2), if_neg e]; rfl
  have g4 : ∀ b', f_into σ k b 4 b' = if b' = b then σ 4 b + σ 1 b else σ 4 b' := fun b' => by
    show zs _ 4 b (σ 4 b + σ 1 b) 4 b' = _
    rw [zs_at]
    by_cases e : b' = b
    · rw [if_pos ⟨rfl, e⟩, if_pos e]
    · rw [if_neg (fun z => e z.2), if_neg e]; rfl
  have g5 : ∀ b', f_into σ k b 5 b' = if b' = b then nI k else σ 5 b' := fun b' => by
    show zs _ 5 b (nI k) 5 b' = _
    rw [zs_at]
    by_cases e : b' = b
    · rw [if_pos ⟨rfl, e⟩, if_pos e]
    · rw [if_neg (fun z => e z.2), if_neg e]; rfl
  have e9 : f_into σ k b 9 k = σ 9 k - σ 1 b := zs_eq σ 9 k _
  have e12 : f_into σ k b 12 k = 1 := zs_eq (zs σ 9 k (σ 9 k - σ 1 b)) 12 k 1
  have e13 : f_into σ k b 13 k = nI b := zs_eq (zs (zs σ 9 k (σ 9 k - σ 1 b)) 12 k 1) 13 k (nI b)
  have hm : zsm (f_into σ k b) B k := by
    refine ⟨h1.2.1.1, h1.2.1.2.1, ?_, h1.2.1.2.2.2⟩
    rw [e9]
    obtain ⟨q, hq, eq⟩ := h1.2.1.2.2.1
    obtain ⟨y, hy, ey⟩ := (hV.2.2.2.1 b hb).1
    rw [eq, ey] at hp9
    rw [eq, ey]
    have h4 : y ≤ q := by
      have := mt (nI_ltI (a := q) (b := y) (by omega) (by omega)).mpr hp9
      omega
    rw [pk_sub h4]
    exact ⟨q - y, by omega, rfl⟩
  obtain ⟨hC, ⟨hB, hp, hl⟩, hK, hBd, hZ, hZb⟩ := hV
  refine ⟨⟨hC.1, hC.2.1, hC.2.2.1, hC.2.2.2.1, hC.2.2.2.2.1, hC.2.2.2.2.2.1, fun j hj => ?_⟩, ⟨hB, hp, hl⟩, fun j hj => ?_, fun b' hb' => ?_, fun j hj => ?_, fun b' hb' => ?_⟩
  · by_cases e : j = k
    · rw [e]; exact hsk.1
    · rw [hco j e 6 (by decide)]; exact hC.2.2.2.2.2.2 j hj
  · by_cases e : j = k
    · subst e
      exact ⟨hsk, hm, fun _ => ⟨b, hb, e13, by rw [g5, if_pos rfl]⟩⟩
    · refine ⟨(hK j hj).1.ag (hco j e).ag, (hK j hj).2.1.co (hco j e), ?_⟩
      unfold zln
      rw [hco j e 12 (by decide), hco j e 13 (by decide)]
      intro z
      obtain ⟨b', z1, z2, z3⟩ := (hK j hj).2.2 z
      refine ⟨b', z1, z2, ?_⟩
      rw [g5, if_neg (fun e2 => by rw [e2, h5] at z3; exact absurd z3.symm (zn_m1 (by omega)))]
      exact z3
  · have y1 := hBd b' hb'
    unfold zbd at y1 ⊢
    rw [g1, g2, g3, g4, g5]
    by_cases e2 : b' = b
    · subst e2
      rw [if_pos rfl, if_pos rfl, if_pos rfl]
      refine ⟨y1.1, ?_, y1.2.2.1, Or.inr ⟨k, hk, rfl, e12, e13⟩⟩
      rw [y1.2.1, Int32.mul_add, Int32.mul_one]
    · rw [if_neg e2, if_neg e2, if_neg e2]
      refine ⟨y1.1, y1.2.1, y1.2.2.1, y1.2.2.2.imp id (fun ⟨q, z1, z2, z3, z4⟩ => ?_)⟩
      have e : q ≠ k := fun e => by
        subst e
        rw [h12] at z3
        exact absurd z3 (by decide)
      exact ⟨q, z1, z2, by rw [hco q e 12 (by decide)]; exact z3, by rw [hco q e 13 (by decide)]; exact z4⟩
  · have z := hco j (by omega)
    rw [z 12 (by decide), z 14 (by decide), z 15 (by decide), z 16 (by decide), z 17 (by decide)]
    exact hZ j hj
  · rw [g2, g3, g4, if_neg (by omega), if_neg (by omega)]
    exact hZb b' hb'
end
section
theorem f_ch_ok {σ : zS} : ∀ n : Nat, f_ch σ n = -1 ∨ ∃ b, b < n ∧ f_ch σ n = nI b ∧ σ 5 b = -1
  | 0 => Or.inl rfl
  | n + 1 => by
    unfold f_ch
    split
    · rename_i z
      exact Or.inr ⟨n, Nat.lt_succ_self n, rfl, z.1⟩
    · exact (f_ch_ok n).imp id (fun ⟨b, h1, h2, h3⟩ => ⟨b, by omega, h2, h3⟩)
theorem f_choose_ok {σ : zS} {nb ns h k : Nat} (hC : zC σ nb ns h) : f_choose σ nb k = -1 ∨ ∃ b, b < nb ∧ f_choose σ nb k = nI b ∧ σ 5 b = -1 := by
  unfold f_choose
  split
  · rename_i z
    obtain ⟨b, hb, eb⟩ := zhas_of hC z.1
    have h2 := z.2
    rw [eb, nI_clamp (by have := hC.2.1; omega)] at h2
    exact Or.inr ⟨b, hb, eb, h2⟩
  · exact f_ch_ok nb
theorem f_payR_12 (σ : zS) (h k : Nat) : f_payR σ h k 12 = σ 12 := by
  unfold f_payR
  split
  · split <;> rfl
  · rfl
theorem zV.payR {σ : zS} {nb ns h h' B k : Nat} (hV : zV σ nb ns h B) (hk : k < ns) : zV (f_payR σ h' k) nb ns h B := by
  unfold f_payR
  split
  · split
    · rename_i z
      exact (hV.pay hk).red hk z
    · exact hV.pay hk
  · exact hV
theorem f_try1_12 (σ : zS) (k b : Nat) : f_try1 σ k b 12 = σ 12 := by unfold f_try1; split <;> rfl
theorem f_try1_5 (σ : zS) (k b : Nat) : f_try1 σ k b 5 = σ 5 := by unfold f_try1; split <;> rfl
theorem zV.try_ {σ : zS} {nb ns h B k b : Nat} (hV : zV σ nb ns h B) (hB : B + 1 ≤ 2 ^ 28) (hk : k < ns) (hb : b < nb) (h12 : σ 12 k = 0) (h5 : σ 5 b = -1) : zV (f_try σ k b) nb ns h (B + 1) := by
  have h1 : zV (f_try1 σ k b) nb ns h B := hV.try1 hk
  unfold f_try
  split
  · exact h1.floor hB hk (by rw [f_try1_12]; exact h12)
  · rename_i z
    refine (h1.into hk hb (by rw [f_try1_12]; exact h12) (by rw [f_try1_5]; exact h5) ?_).upB (Nat.le_succ B) hB
    have e : f_try1 σ k b 1 = σ 1 := by unfold f_try1; split <;> rfl
    rw [e]
    exact z
theorem zV.look {σ : zS} {nb ns h h' B k : Nat} (hV : zV σ nb ns h B) (hB : B + 1 ≤ 2 ^ 28) (hk : k < ns) (h12 : σ 12 k = 0) : zV (f_look σ nb h' k) nb ns h (B + 1) := by
  unfold f_look
  split
  · rename_i hc
    rcases f_choose_ok (k := k) hV.1 with z | ⟨b, hb, eb, h5⟩
    · rw [z] at hc
      exact absurd hc zm1_nhas
    · rw [eb, nI_clamp (by have := hV.1.2.1; omega)]
      exact hV.try_ hB hk hb h12 h5
  · split
    · exact hV.upB (Nat.le_succ B) hB
    · exact hV.floor hB hk h12
theorem zV.serve {σ : zS} {nb ns h h' B k : Nat} (hV : zV σ nb ns h B) (hB : B + 1 ≤ 2 ^ 28) (hk : k < ns) : zV (f_serve σ nb h' k) nb ns h (B + 1) := by
  unfold f_serve
  split
  · split
    · rename_i z
      exact (hV.payR hk).look hB hk z
    · exact (hV.payR hk).upB (Nat.le_succ B) hB
  · exact hV.upB (Nat.le_succ B) hB
theorem zV.ring {σ : zS} {nb ns h h' B k : Nat} (hV : zV σ nb ns h B) (hB : B + 1 ≤ 2 ^ 28) (hk : k < ns) : zV (f_ring σ h' k) nb ns h (B + 1) := by
  unfold f_ring
  split
  · exact hV.upB (Nat.le_succ B) hB
  · split
    · exact hV.upB (Nat.le_succ B) hB
    · split
      · exact hV.late hB hk
      · exact (hV.getUp hk).upB (Nat.le_succ B) hB
theorem zV.rest {σ : zS} {nb ns h h' B k : Nat} (hV : zV σ nb ns h B) (hB : B + 1 ≤ 2 ^ 28) (hk : k < ns) : zV (f_rest σ h' k) nb ns h (B + 1) := by
  have h1 := hV.2.2.1 k hk
  have hs := sk_rest (h := h') h1.1
  exact hV.col (Nat.le_succ B) hB hk rfl (fun r z1 z2 => zs_row _ (by omega) _ _) (fun _ => co_rest) rfl rfl hs (h1.2.1.up (Nat.le_succ B))
theorem f_cw_ok {σ : zS} {b : Nat} (hw : zle (σ 2 b) 8) : zle (f_cw σ b) 8 ∧ (¬ σ 5 b = -1 → ¬ f_cw σ b < 2) := by
  obtain ⟨w, hw1, hw2⟩ := hw
  unfold f_cw
  rw [hw2]
  constructor
  · split
    · unfold f_max0
      split
      · rename_i z
        rcases Nat.eq_zero_or_pos w with e | e
        · subst e; exact absurd z (by decide)
        · exact ⟨w - 1, by omega, (pk_sub (a := w) (b := 1) e)⟩
      · exact ⟨0, by omega, rfl⟩
    · unfold f_min8
      split
      · rename_i z
        have z2 : nI (w + 2) < nI 8 := by rw [← nI_add]; exact z
        have := (nI_ltI (a := w + 2) (b := 8) (by omega) (by decide)).mp z2
        exact ⟨w + 2, by omega, nI_add w 2⟩
      · exact ⟨8, by omega, rfl⟩
  · intro h5
    rw [if_neg h5]
    unfold f_min8
    split
    · rw [show nI w + 2 = nI (w + 2) from nI_add w 2]
      exact nI_nlt (a := w + 2) (b := 2) (by omega) (by omega)
    · decide
theorem f_cool_row {r : Nat} (hr : r ≠ 2) (σ : zS) : ∀ n : Nat, f_cool σ n r = σ r
  | 0 => rfl
  | n + 1 => (zs_row _ hr _ _).trans (f_cool_row hr σ n)
theorem f_cool_ge (σ : zS) {b : Nat} : ∀ n : Nat, n ≤ b → f_cool σ n 2 b = σ 2 b
  | 0, _ => rfl
  | n + 1, h => (zs_ne _ 2 (by omega) _ _).trans (f_cool_ge σ n (by omega))
theorem f_cool_at (σ : zS) {b : Nat} : ∀ n : Nat, b < n → f_cool σ n 2 b = f_cw σ b
  | n + 1, h => by
    have h5 : f_cool σ n 5 = σ 5 := f_cool_row (by decide) σ n
    by_cases e : b = n
    · subst e
      have e1 : f_cool σ (b + 1) 2 b = f_cw (f_cool σ b) b := zs_eq _ 2 b _
      rw [e1]
      unfold f_cw
      rw [h5, f_cool_ge σ b (Nat.le_refl b)]
    · exact (zs_ne _ 2 e _ _).trans (f_cool_at σ n (by omega))
theorem zV.cool {σ : zS} {nb ns h B : Nat} (hV : zV σ nb ns h B) (n : Nat) (hn : n ≤ nb) : zV (f_cool σ n) nb ns h B := by
  obtain ⟨hC, h2, hK, hBd, hZ, hZb⟩ := hV
  have hr : ∀ r, r ≠ 2 → f_cool σ n r = σ r := fun r h => f_cool_row h σ n
  have hco : ∀ j, zco σ (f_cool σ n) j := fun j => co_cool σ j n
  refine ⟨hC.cool n, by rw [hr 0 (by decide)]; exact h2, fun k hk => ⟨(hK k hk).1.ag (hco k).ag, (hK k hk).2.1.co (hco k), ?_⟩, fun b hb => ?_, fun k hk => ?_, fun b hb => ?_⟩
  · unfold zln
    rw [hr 12 (by decide), hr 13 (by decide), hr 5 (by decide)]
    exact (hK k hk).2.2
  · have h1 := hBd b hb
    unfold zbd at h1 ⊢
    rw [hr 1 (by decide), hr 3 (by decide), hr 4 (by decide), hr 5 (by decide), hr 12 (by decide), hr 13 (by decide)]
    refine ⟨h1.1, h1.2.1, ?_, h1.2.2.2⟩
    by_cases e : b < n
    · rw [f_cool_at σ n e]; exact (f_cw_ok h1.2.2.1).1
    · rw [f_cool_ge σ n (by omega)]; exact h1.2.2.1
  · rw [hr 12 (by decide), hr 14 (by decide), hr 15 (by decide), hr 16 (by decide), hr 17 (by decide)]
    exact hZ k hk
  · rw [f_cool_ge σ n (by omega), hr 3 (by decide), hr 4 (by decide)]
    exact hZb b hb
theorem zV.now {σ : zS} {nb ns h B : Nat} (hV : zV σ nb ns h B) {h' : Nat} (hh : h' < 2 ^ 30) : zV (zs σ 0 0 (nI h')) nb ns h' B := by
  obtain ⟨hC, h2, hK, hBd, hZ, hZb⟩ := hV
  exact ⟨⟨hC.1, hC.2.1, hC.2.2.1, hC.2.2.2.1, zs_eq σ 0 0 _, hh, hC.2.2.2.2.2.2⟩, h2, hK, hBd, hZ, hZb⟩
theorem zV.rings {σ : zS} {nb ns h B : Nat} (hV : zV σ nb ns h B) : ∀ j : Nat, j ≤ ns → B + j ≤ 2 ^ 28 → zV (f_itr (fun τ k => f_ring τ h k) j σ) nb ns h (B + j)
  | 0, _, _ => hV
  | j + 1, hj, hB => (hV.rings j (by omega) (by omega)).ring (by omega) (by omega)
theorem zV.serves {σ : zS} {nb ns h B : Nat} (hV : zV σ nb ns h B) : ∀ j : Nat, j ≤ ns → B + j ≤ 2 ^ 28 → zV (f_itr (fun τ k => f_serve τ nb h k) j σ) nb ns h (B + j)
  | 0, _, _ => hV
  | j + 1, hj, hB => (hV.serves j (by omega) (by omega)).serve (by omega) (by omega)
theorem zV.rests {σ : zS} {nb ns h B : Nat} (hV : zV σ nb ns h B) : ∀ j : Nat, j ≤ ns → B + j ≤ 2 ^ 28 → zV (f_itr (fun τ k => f_rest τ h k) j σ) nb ns h (B + j)
  | 0, _, _ => hV
  | j + 1, hj, hB => (hV.rests j (by omega) (by omega)).rest (by omega) (by omega)
theorem zV.hour1 {σ : zS} {nb ns h B : Nat} (hV : zV σ nb ns h B) (hB : B + 30 ≤ 2 ^ 28) : zV (f_hour1 σ ns h) nb ns h (B + 10) :=
  (hV.rings ns (Nat.le_refl ns) (by have := hV.1.2.2.2.1; omega)).upB (by have := hV.1.2.2.2.1; omega) (by omega)
theorem zV.hour2 {σ : zS} {nb ns h B : Nat} (hV : zV σ nb ns h B) (hB : B + 30 ≤ 2 ^ 28) : zV (f_hour2 σ nb ns h) nb ns h (B + 20) :=
  ((hV.hour1 hB).serves ns (Nat.le_refl ns) (by have := hV.1.2.2.2.1; omega)).upB (by have := hV.1.2.2.2.1; omega) (by omega)
theorem zV.hour3 {σ : zS} {nb ns h B : Nat} (hV : zV σ nb ns h B) (hB : B + 30 ≤ 2 ^ 28) : zV (f_hour3 σ nb ns h) nb ns h (B + 30) :=
  ((hV.hour2 hB).rests ns (Nat.le_refl ns) (by have := hV.1.2.2.2.1; omega)).upB (by have := hV.1.2.2.2.1; omega) (by omega)
theorem zV.hour {σ : zS} {nb ns h B : Nat} (hV : zV σ nb ns h B) (hB : B + 30 ≤ 2 ^ 28) (hh : h + 1 < 2 ^ 30) : zV (f_hour σ nb ns h) nb ns (h + 1) (B + 30) :=
  ((hV.hour3 hB).cool nb (Nat.le_refl nb)).now hh
-- rest, lateness and floors never get less
def zmo (σ τ : zS) : Prop := ∀ k, σ 14 k ≤ τ 14 k ∧ σ 15 k ≤ τ 15 k ∧ σ 17 k ≤ τ 17 k
theorem zmo.rf {σ : zS} : zmo σ σ := fun _ => ⟨i32_rf _, i32_rf _, i32_rf _⟩
theorem zmo.tr {σ τ υ : zS} (h1 : zmo σ τ) (h2 : zmo τ υ) : zmo σ υ := fun k => ⟨i32_tr (h1 k).1 (h2 k).1, i32_tr (h1 k).2.1 (h2 k).2.1, i32_tr (h1 k).2.2 (h2 k).2.2⟩
theorem zmo.of {σ τ : zS} (h14 : τ 14 = σ 14) (h15 : τ 15 = σ 15) (h17 : τ 17 = σ 17) : zmo σ τ := fun k => by
  rw [h14, h15, h17]
  exact ⟨i32_rf _, i32_rf _, i32_rf _⟩
theorem zmo_up {σ : zS} {r k : Nat} {v : Int32} (h : σ r k ≤ v) : zmo σ (zs σ r k v) := by
  have key : ∀ r' j, σ r' j ≤ zs σ r k v r' j := fun r' j => by
    rw [zs_at]
    by_cases e : r' = r ∧ j = k
    · rw [if_pos e, e.1, e.2]; exact h
    · rw [if_neg e]; exact i32_rf _
  exact fun j => ⟨key 14 j, key 15 j, key 17 j⟩
theorem zmo_other {σ : zS} {r k : Nat} {v : Int32} (h : r ≠ 14 ∧ r ≠ 15 ∧ r ≠ 17) : zmo σ (zs σ r k v) :=
  zmo.of (zs_row _ (Ne.symm h.1) _ _) (zs_row _ (Ne.symm h.2.1) _ _) (zs_row _ (Ne.symm h.2.2) _ _)
theorem mo_leave (σ : zS) (k : Nat) : zmo σ (f_leave σ k) := by
  unfold f_leave
  split
  · exact zmo_other (by decide)
  · exact zmo.rf
theorem mo_getUp (σ : zS) (k : Nat) : zmo σ (f_getUp σ k) := (mo_leave σ k).tr ((zmo_other (by decide)).tr (zmo_other (by decide)))
theorem mo_late {σ : zS} {nb ns h B k : Nat} (hV : zV σ nb ns h B) (hk : k < ns) : zmo σ (f_late σ k) :=
  (zmo_up ((hV.2.2.1 k hk).2.1.2.2.2.1.mono 1 (by have := hV.2.1.1; omega))).tr (zmo_other (by decide))
theorem mo_floor {σ : zS} {nb ns h B k : Nat} (hV : zV σ nb ns h B) (hk : k < ns) : zmo σ (f_floor σ k) :=
  (zmo_other (by decide)).tr (zmo_up (by
    have h1 : zs σ 12 k 2 17 k = σ 17 k := zs_nr _ (by decide) _ _ _
    rw [h1]
    exact (hV.2.2.1 k hk).2.1.2.2.2.2.2.mono 1 (by have := hV.2.1.1; omega)))
theorem mo_earn (σ : zS) (k : Nat) (v : Int32) : zmo σ (f_earn σ k v) := zmo_other (by decide)
theorem mo_pay (σ : zS) (k : Nat) : zmo σ (f_pay σ k) := (mo_earn σ k _).tr (zmo_other (by decide))
theorem mo_red (σ : zS) (k : Nat) : zmo σ (f_red σ k) := (zmo_other (by decide)).tr (zmo_other (by decide))
theorem mo_pawnB (σ : zS) (k : Nat) : zmo σ (f_pawnB σ k) := zmo.tr (τ := zs σ 10 k 0) (zmo_other (by decide)) (mo_earn _ k _)
theorem mo_into (σ : zS) (k b : Nat) : zmo σ (f_into σ k b) := zmo.of rfl rfl rfl
theorem mo_payR (σ : zS) (h k : Nat) : zmo σ (f_payR σ h k) := by
  unfold f_payR
  split
  · split
    · exact (mo_pay σ k).tr (mo_red _ k)
    · exact mo_pay σ k
  · exact zmo.rf
theorem mo_try1 (σ : zS) (k b : Nat) : zmo σ (f_try1 σ k b) := by
  unfold f_try1
  split
  · exact mo_pawnB σ k
  · exact zmo.rf
theorem mo_try {σ : zS} {nb ns h B k b : Nat} (hV : zV σ nb ns h B) (hk : k < ns) : zmo σ (f_try σ k b) := by
  unfold f_try
  split
  · exact (mo_try1 σ k b).tr (mo_floor (hV.try1 hk) hk)
  · exact (mo_try1 σ k b).tr (mo_into _ k b)
theorem mo_look {σ : zS} {nb ns h h' B k : Nat} (hV : zV σ nb ns h B) (hk : k < ns) : zmo σ (f_look σ nb h' k) := by
  unfold f_look
  split
  · exact mo_try hV hk
  · split
    · exact zmo.rf
    · exact mo_floor hV hk
theorem mo_serve {σ : zS} {nb ns h h' B k : Nat} (hV : zV σ nb ns h B) (hk : k < ns) : zmo σ (f_serve σ nb h' k) := by
  unfold f_serve
  split
  · split
    · exact (mo_payR σ h' k).tr (mo_look (hV.payR hk) hk)
    · exact mo_payR σ h' k
  · exact zmo.rf
theorem mo_ring {σ : zS} {nb ns h h' B k : Nat} (hV : zV σ nb ns h B) (hk : k < ns) : zmo σ (f_ring σ h' k) := by
  unfold f_ring
  split
  · exact zmo.rf
  · split
    · exact zmo.rf
    · split
      · exact mo_late hV hk
      · exact mo_getUp σ k
theorem mo_rest {σ : zS} {nb ns h h' B k : Nat} (hV : zV σ nb ns h B) (hk : k < ns) : zmo σ (f_rest σ h' k) := by
  obtain ⟨c, hc, ec⟩ := f_roh_n σ h' k
  obtain ⟨-, -, -, -, ρ, h5, h6⟩ := (hV.2.2.1 k hk).1
  have := hV.2.1.1
  exact zmo_up (by rw [h6, ec, nI_add]; exact nI_le (by omega) (by omega))
theorem mo_cool (σ : zS) (n : Nat) : zmo σ (f_cool σ n) := zmo.of (f_cool_row (by decide) σ n) (f_cool_row (by decide) σ n) (f_cool_row (by decide) σ n)
theorem mo_rings {σ : zS} {nb ns h B : Nat} (hV : zV σ nb ns h B) : ∀ j : Nat, j ≤ ns → B + j ≤ 2 ^ 28 → zmo σ (f_itr (fun τ k => f_ring τ h k) j σ)
  | 0, _, _ => zmo.rf
  | j + 1, hj, hB => (mo_rings hV j (by omega) (by omega)).tr (mo_ring (hV.rings j (by omega) (by omega)) (by omega))
theorem mo_serves {σ : zS} {nb ns h B : Nat} (hV : zV σ nb ns h B) : ∀ j : Nat, j ≤ ns → B + j ≤ 2 ^ 28 → zmo σ (f_itr (fun τ k => f_serve τ nb h k) j σ)
  | 0, _, _ => zmo.rf
  | j + 1, hj, hB => (mo_serves hV j (by omega) (by omega)).tr (mo_serve (hV.serves j (by omega) (by omega)) (by omega))
theorem mo_rests {σ : zS} {nb ns h B : Nat} (hV : zV σ nb ns h B) : ∀ j : Nat, j ≤ ns → B + j ≤ 2 ^ 28 → zmo σ (f_itr (fun τ k => f_rest τ h k) j σ)
  | 0, _, _ => zmo.rf
  | j + 1, hj, hB => (mo_rests hV j (by omega) (by omega)).tr (mo_rest (hV.rests j (by omega) (by omega)) (by omega))
theorem mo_hour {σ : zS} {nb ns h B : Nat} (hV : zV σ nb ns h B) (hB : B + 30 ≤ 2 ^ 28) : zmo σ (f_hour σ nb ns h) := by
  have hn := hV.1.2.2.2.1
  have h1 : zmo σ (f_hour1 σ ns h) := mo_rings hV ns (Nat.le_refl ns) (by omega)
  have h2 : zmo (f_hour1 σ ns h) (f_hour2 σ nb ns h) := mo_serves (hV.hour1 hB) ns (Nat.le_refl ns) (by omega)
  have h3 : zmo (f_hour2 σ nb ns h) (f_hour3 σ nb ns h) := mo_rests (hV.hour2 hB) ns (Nat.le_refl ns) (by omega)
  exact ((h1.tr h2).tr h3).tr ((mo_cool _ nb).tr (zmo_other (by decide)))
theorem zV.hours {σ : zS} {nb ns h B : Nat} (hV : zV σ nb ns h B) : ∀ n : Nat, B + 30 * n ≤ 2 ^ 28 → h + n < 2 ^ 30 → zV (f_hours σ nb ns h n) nb ns (h + n) (B + 30 * n) ∧ zmo σ (f_hours σ nb ns h n)
  | 0, _, _ => ⟨hV, zmo.rf⟩
  | n + 1, hB, hh => by
    obtain ⟨h1, h2⟩ := hV.hours n (by omega) (by omega)
    exact ⟨h1.hour (by omega) (by omega), h2.tr (mo_hour h1 (by omega))⟩
-- what an hour leaves of the bell and of the beds
def zgo (σ : zS) (h k : Nat) : Int32 := nI ((h % 24 + 24 - ((σ 6 k).toNatClampNeg + 1) * 8) % 24)
theorem f_itr_co {F : zS → Nat → zS} (hF : ∀ τ j k, k ≠ j → zco τ (F τ j) k) {k : Nat} (σ : zS) : ∀ n : Nat, (n ≤ k → zco σ (f_itr F n σ) k)
  | 0, _ => zco.rf
  | n + 1, h => (f_itr_co hF σ n (by omega)).tr (hF _ n k (by omega))
theorem f_itr_col {F : zS → Nat → zS} (hF : ∀ τ j k, k ≠ j → zco τ (F τ j) k) {k : Nat} (σ : zS) : ∀ n : Nat, k < n → ∃ τ, τ = f_itr F k σ ∧ zco σ τ k ∧ zco (F τ k) (f_itr F n σ) k
  | n + 1, h => by
    by_cases e : k = n
    · subst e
      exact ⟨_, rfl, f_itr_co hF σ k (Nat.le_refl k), zco.rf⟩
    · obtain ⟨τ, h1, h2, h3⟩ := f_itr_col hF (k := k) σ n (by omega)
      exact ⟨τ, h1, h2, h3.tr (hF _ n k e)⟩
theorem f_itr_0 {F : zS → Nat → zS} (hF : ∀ τ k, F τ k 0 = τ 0) (σ : zS) : ∀ j : Nat, f_itr F j σ 0 = σ 0 := f_itr_row hF σ
def zld (σ : zS) (h ns : Nat) : Prop := ∀ k, k < ns → ¬ σ 12 k = 0 → ¬ σ 6 k = nI (h % 24 / 8) → σ 0 1 + 2 * zgo σ h k < σ 7 k
theorem zld_1 {σ : zS} {nb ns h B : Nat} (hV : zV σ nb ns h B) : zld (f_hour1 σ ns h) h ns := by
  intro k hk h12 h6
  obtain ⟨τ, e, c1, c2⟩ := f_itr_col (F := fun τ k => f_ring τ h k) (fun τ j k z => co_ring z) (k := k) σ ns hk
  have e0 : f_hour1 σ ns h 0 = σ 0 := f_itr_0 (F := fun τ k => f_ring τ h k) (fun τ k => f_ring_0 τ h k) σ ns
  have t0 : τ 0 = σ 0 := by rw [e]; exact f_itr_0 (F := fun τ k => f_ring τ h k) (fun τ k => f_ring_0 τ h k) σ k
  have d12 : f_hour1 σ ns h 12 k = f_ring τ h k 12 k := c2 12 (by decide)
  have d6 : f_hour1 σ ns h 6 k = f_ring τ h k 6 k := c2 6 (by decide)
  have d7 : f_hour1 σ ns h 7 k = f_ring τ h k 7 k := c2 7 (by decide)
  unfold zgo
  rw [e0, d6, d7, f_ring_6]
  rw [d12] at h12
  rw [d6, f_ring_6] at h6
  have g7 : f_ring τ h k 7 k = τ 7 k := by
    have gu : f_getUp τ k 7 k = τ 7 k := by unfold f_getUp f_leave; split <;> rfl
    unfold f_ring
    by_cases y1 : τ 12 k = 0
    · rw [if_pos y1]
    · rw [if_neg y1]
      by_cases y2 : τ 6 k = nI (h % 24 / 8)
      · rw [if_pos y2]
      · rw [if_neg y2]
        split
        · rfl
        · exact gu
  rw [g7, ← t0]
  by_cases z : τ 12 k = 0
  · exact absurd (by unfold f_ring; rw [if_pos z]; exact z) h12
  · by_cases z3 : τ 0 1 + 2 * nI ((h % 24 + 24 - ((τ 6 k).toNatClampNeg + 1) * 8) % 24) < τ 7 k
    · exact z3
    · refine absurd ?_ h12
      unfold f_ring
      rw [if_neg z, if_neg h6, if_neg z3]
      exact zs_eq _ 12 k 0
theorem zld_2 {σ : zS} {nb ns h : Nat} (hl : zld (f_hour1 σ ns h) h ns) : zld (f_hour2 σ nb ns h) h ns := by
  intro k hk h12 h6
  obtain ⟨τ, e, c1, c2⟩ := f_itr_col (F := fun τ k => f_serve τ nb h k) (fun τ j k z => co_serve z) (k := k) (f_hour1 σ ns h) ns hk
  have e0 : f_hour2 σ nb ns h 0 = f_hour1 σ ns h 0 := f_itr_0 (F := fun τ k => f_serve τ nb h k) (fun τ k => f_serve_0 τ nb h k) _ ns
  have c3 : zco (f_serve τ nb h k) (f_hour2 σ nb ns h) k := c2
  have d6 : f_hour2 σ nb ns h 6 k = τ 6 k := by rw [c3 6 (by decide), f_serve_6]
  have hs : f_serve τ nb h k = τ := by
    unfold f_serve
    rw [if_neg (by rw [← d6]; exact h6)]
  rw [hs] at c3
  have c4 := c1.tr c3
  unfold zgo
  rw [e0, c4 6 (by decide), c4 7 (by decide)]
  rw [c4 12 (by decide)] at h12
  rw [c4 6 (by decide)] at h6
  exact hl k hk h12 h6
theorem zld_hour {σ : zS} {nb ns h B : Nat} (hV : zV σ nb ns h B) : zld (f_hour σ nb ns h) h ns := by
  have h2 := zld_2 (nb := nb) (zld_1 hV)
  have r3 : ∀ r, r ≠ 14 → f_hour3 σ nb ns h r = f_hour2 σ nb ns h r := fun r hr => f_itr_row (F := fun τ k => f_rest τ h k) (fun τ k => zs_row _ hr _ _) _ ns
  have r4 : ∀ r, r ≠ 2 → f_cool (f_hour3 σ nb ns h) nb r = f_hour3 σ nb ns h r := fun r hr => f_cool_row hr _ nb
  have r5 : ∀ r, r ≠ 0 → f_hour σ nb ns h r = f_cool (f_hour3 σ nb ns h) nb r := fun r hr => zs_row _ hr _ _
  have d : ∀ r, r = 6 ∨ r = 7 ∨ r = 12 → f_hour σ nb ns h r = f_hour2 σ nb ns h r := fun r hr => by
    rw [r5 r (by omega), r4 r (by omega), r3 r (by omega)]
  have e1 : f_hour σ nb ns h 0 1 = f_hour2 σ nb ns h 0 1 := by
    have z : f_hour σ nb ns h 0 1 = f_cool (f_hour3 σ nb ns h) nb 0 1 := zs_ne _ 0 (by decide) _ _
    rw [z, r4 0 (by decide), r3 0 (by decide)]
  unfold zld zgo
  rw [d 6 (by decide), d 7 (by decide), d 12 (by decide), e1]
  exact h2
def zwm (σ : zS) (nb : Nat) : Prop := ∀ b, b < nb → ¬ σ 5 b = -1 → ¬ σ 2 b < 2
theorem zwm_hour {σ : zS} {nb ns h B : Nat} (hV : zV σ nb ns h B) (hB : B + 30 ≤ 2 ^ 28) : zwm (f_hour σ nb ns h) nb := by
  intro b hb h5
  have e5 : f_hour σ nb ns h 5 = f_hour3 σ nb ns h 5 := (zs_row _ (by decide) _ _).trans (f_cool_row (by decide) _ nb)
  have e2 : f_hour σ nb ns h 2 b = f_cw (f_hour3 σ nb ns h) b := (congrFun (zs_row _ (by decide) _ _) b).trans (f_cool_at _ nb hb)
  rw [e5] at h5
  rw [e2]
  exact (f_cw_ok ((hV.hour3 hB).2.2.2.1 b hb).2.2.1).2 h5
end
