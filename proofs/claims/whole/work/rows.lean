section
-- ===== PART A: goes FIRST, ahead of the names: the tables' words, and 'selects' of the private methods out of them =====
/-- a private method of a class that the tables say can be made, by its rows of tables_1 -/
def lw_okq (q : MethodName × Nat) : Prop := (q.1.cls ≠ "java/lang/invoke/MethodHandle" ∧ q.1.cls ≠ "java/lang/invoke/VarHandle") ∧ Cond.instantiable q.1.cls q.2 ∈ tables_1 ∧ Cond.privateMethod q.1 ∈ tables_1 ∧ Cond.instanceMethod q.1 ∈ tables_1
theorem lw_p0 : lw_okq (⟨"HotBeds$Sailors", "sum", "([I)I"⟩, 13) := ⟨⟨by decide +kernel, by decide +kernel⟩, List.mem_of_getElem? (i := 65) (by decide +kernel), List.mem_of_getElem? (i := 168) (by decide +kernel), List.mem_of_getElem? (i := 169) (by decide +kernel)⟩
theorem lw_p1 : lw_okq (⟨"HotBeds$House", "ringBell", "(I)V"⟩, 5) := ⟨⟨by decide +kernel, by decide +kernel⟩, List.mem_of_getElem? (i := 23) (by decide +kernel), List.mem_of_getElem? (i := 192) (by decide +kernel), List.mem_of_getElem? (i := 193) (by decide +kernel)⟩
theorem lw_p2 : lw_okq (⟨"HotBeds$House", "isInWatch", "(I)Z"⟩, 5) := ⟨⟨by decide +kernel, by decide +kernel⟩, List.mem_of_getElem? (i := 23) (by decide +kernel), List.mem_of_getElem? (i := 200) (by decide +kernel), List.mem_of_getElem? (i := 201) (by decide +kernel)⟩
theorem lw_p3 : lw_okq (⟨"HotBeds$House", "hoursSinceWatch", "(I)I"⟩, 5) := ⟨⟨by decide +kernel, by decide +kernel⟩, List.mem_of_getElem? (i := 23) (by decide +kernel), List.mem_of_getElem? (i := 208) (by decide +kernel), List.mem_of_getElem? (i := 209) (by decide +kernel)⟩
theorem lw_p4 : lw_okq (⟨"HotBeds$House", "serve", "(I)V"⟩, 5) := ⟨⟨by decide +kernel, by decide +kernel⟩, List.mem_of_getElem? (i := 23) (by decide +kernel), List.mem_of_getElem? (i := 224) (by decide +kernel), List.mem_of_getElem? (i := 225) (by decide +kernel)⟩
theorem lw_p5 : lw_okq (⟨"HotBeds$House", "lookForBed", "(I)V"⟩, 5) := ⟨⟨by decide +kernel, by decide +kernel⟩, List.mem_of_getElem? (i := 23) (by decide +kernel), List.mem_of_getElem? (i := 255) (by decide +kernel), List.mem_of_getElem? (i := 256) (by decide +kernel)⟩
theorem lw_p6 : lw_okq (⟨"HotBeds$House", "tryBed", "(II)V"⟩, 5) := ⟨⟨by decide +kernel, by decide +kernel⟩, List.mem_of_getElem? (i := 23) (by decide +kernel), List.mem_of_getElem? (i := 269) (by decide +kernel), List.mem_of_getElem? (i := 270) (by decide +kernel)⟩
theorem lw_p7 : lw_okq (⟨"HotBeds$House", "getInto", "(II)V"⟩, 5) := ⟨⟨by decide +kernel, by decide +kernel⟩, List.mem_of_getElem? (i := 23) (by decide +kernel), List.mem_of_getElem? (i := 278) (by decide +kernel), List.mem_of_getElem? (i := 279) (by decide +kernel)⟩
theorem lw_p8 : lw_okq (⟨"HotBeds$House", "restOfHour", "(I)I"⟩, 5) := ⟨⟨by decide +kernel, by decide +kernel⟩, List.mem_of_getElem? (i := 23) (by decide +kernel), List.mem_of_getElem? (i := 286) (by decide +kernel), List.mem_of_getElem? (i := 287) (by decide +kernel)⟩
theorem lw_p9 : lw_okq (⟨"java/lang/Throwable", "fillInStackTrace", "(I)Ljava/lang/Throwable;"⟩, 6) := ⟨⟨by decide +kernel, by decide +kernel⟩, List.mem_of_getElem? (i := 365) (by decide +kernel), List.mem_of_getElem? (i := 363) (by decide +kernel), List.mem_of_getElem? (i := 364) (by decide +kernel)⟩
theorem lw_p10 : lw_okq (⟨"HotBeds", "requireBed", "(I)V"⟩, 2) := ⟨⟨by decide +kernel, by decide +kernel⟩, List.mem_of_getElem? (i := 15) (by decide +kernel), List.mem_of_getElem? (i := 399) (by decide +kernel), List.mem_of_getElem? (i := 400) (by decide +kernel)⟩
theorem lw_p11 : lw_okq (⟨"HotBeds", "requireSailor", "(I)V"⟩, 2) := ⟨⟨by decide +kernel, by decide +kernel⟩, List.mem_of_getElem? (i := 15) (by decide +kernel), List.mem_of_getElem? (i := 410) (by decide +kernel), List.mem_of_getElem? (i := 411) (by decide +kernel)⟩
theorem lw_p12 : lw_okq (⟨"HotBeds", "requireUp", "(I)V"⟩, 2) := ⟨⟨by decide +kernel, by decide +kernel⟩, List.mem_of_getElem? (i := 15) (by decide +kernel), List.mem_of_getElem? (i := 554) (by decide +kernel), List.mem_of_getElem? (i := 555) (by decide +kernel)⟩
theorem lw_p13 : lw_okq (⟨"HotBedsModel", "fail", "(I)I"⟩, 8) := ⟨⟨by decide +kernel, by decide +kernel⟩, List.mem_of_getElem? (i := 603) (by decide +kernel), List.mem_of_getElem? (i := 645) (by decide +kernel), List.mem_of_getElem? (i := 646) (by decide +kernel)⟩
theorem lw_p14 : lw_okq (⟨"HotBedsModel", "letBed", "(III)V"⟩, 8) := ⟨⟨by decide +kernel, by decide +kernel⟩, List.mem_of_getElem? (i := 603) (by decide +kernel), List.mem_of_getElem? (i := 649) (by decide +kernel), List.mem_of_getElem? (i := 650) (by decide +kernel)⟩
theorem lw_p15 : lw_okq (⟨"HotBedsModel", "let", "(III)V"⟩, 8) := ⟨⟨by decide +kernel, by decide +kernel⟩, List.mem_of_getElem? (i := 603) (by decide +kernel), List.mem_of_getElem? (i := 657) (by decide +kernel), List.mem_of_getElem? (i := 658) (by decide +kernel)⟩
def lw_privs_1 : List (MethodName × Nat) := [(⟨"HotBeds$Sailors", "sum", "([I)I"⟩, 13), (⟨"HotBeds$House", "ringBell", "(I)V"⟩, 5), (⟨"HotBeds$House", "isInWatch", "(I)Z"⟩, 5), (⟨"HotBeds$House", "hoursSinceWatch", "(I)I"⟩, 5), (⟨"HotBeds$House", "serve", "(I)V"⟩, 5), (⟨"HotBeds$House", "lookForBed", "(I)V"⟩, 5), (⟨"HotBeds$House", "tryBed", "(II)V"⟩, 5), (⟨"HotBeds$House", "getInto", "(II)V"⟩, 5), (⟨"HotBeds$House", "restOfHour", "(I)I"⟩, 5), (⟨"java/lang/Throwable", "fillInStackTrace", "(I)Ljava/lang/Throwable;"⟩, 6), (⟨"HotBeds", "requireBed", "(I)V"⟩, 2), (⟨"HotBeds", "requireSailor", "(I)V"⟩, 2), (⟨"HotBeds", "requireUp", "(I)V"⟩, 2), (⟨"HotBedsModel", "fail", "(I)I"⟩, 8), (⟨"HotBedsModel", "letBed", "(III)V"⟩, 8), (⟨"HotBedsModel", "let", "(III)V"⟩, 8)]
theorem lw_r1 : ∀ q ∈ lw_privs_1, lw_okq q := List.forall_mem_cons.mpr ⟨lw_p0, List.forall_mem_cons.mpr ⟨lw_p1, List.forall_mem_cons.mpr ⟨lw_p2, List.forall_mem_cons.mpr ⟨lw_p3, List.forall_mem_cons.mpr ⟨lw_p4, List.forall_mem_cons.mpr ⟨lw_p5, List.forall_mem_cons.mpr ⟨lw_p6, List.forall_mem_cons.mpr ⟨lw_p7, List.forall_mem_cons.mpr ⟨lw_p8, List.forall_mem_cons.mpr ⟨lw_p9, List.forall_mem_cons.mpr ⟨lw_p10, List.forall_mem_cons.mpr ⟨lw_p11, List.forall_mem_cons.mpr ⟨lw_p12, List.forall_mem_cons.mpr ⟨lw_p13, List.forall_mem_cons.mpr ⟨lw_p14, List.forall_mem_cons.mpr ⟨lw_p15, fun _ h => absurd h List.not_mem_nil⟩⟩⟩⟩⟩⟩⟩⟩⟩⟩⟩⟩⟩⟩⟩⟩
theorem lw_p16 : lw_okq (⟨"HotBedsModel", "isSailor", "(I)Z"⟩, 8) := ⟨⟨by decide +kernel, by decide +kernel⟩, List.mem_of_getElem? (i := 603) (by decide +kernel), List.mem_of_getElem? (i := 665) (by decide +kernel), List.mem_of_getElem? (i := 666) (by decide +kernel)⟩
theorem lw_p17 : lw_okq (⟨"HotBedsModel", "isBed", "(I)Z"⟩, 8) := ⟨⟨by decide +kernel, by decide +kernel⟩, List.mem_of_getElem? (i := 603) (by decide +kernel), List.mem_of_getElem? (i := 669) (by decide +kernel), List.mem_of_getElem? (i := 670) (by decide +kernel)⟩
theorem lw_p18 : lw_okq (⟨"HotBedsModel", "sa", "(II)I"⟩, 8) := ⟨⟨by decide +kernel, by decide +kernel⟩, List.mem_of_getElem? (i := 603) (by decide +kernel), List.mem_of_getElem? (i := 673) (by decide +kernel), List.mem_of_getElem? (i := 674) (by decide +kernel)⟩
theorem lw_p19 : lw_okq (⟨"HotBedsModel", "change", "(IIII)I"⟩, 8) := ⟨⟨by decide +kernel, by decide +kernel⟩, List.mem_of_getElem? (i := 603) (by decide +kernel), List.mem_of_getElem? (i := 681) (by decide +kernel), List.mem_of_getElem? (i := 682) (by decide +kernel)⟩
theorem lw_p20 : lw_okq (⟨"HotBedsModel", "gets", "(II)I"⟩, 8) := ⟨⟨by decide +kernel, by decide +kernel⟩, List.mem_of_getElem? (i := 603) (by decide +kernel), List.mem_of_getElem? (i := 693) (by decide +kernel), List.mem_of_getElem? (i := 694) (by decide +kernel)⟩
theorem lw_p21 : lw_okq (⟨"HotBedsModel", "pawns", "(I)I"⟩, 8) := ⟨⟨by decide +kernel, by decide +kernel⟩, List.mem_of_getElem? (i := 603) (by decide +kernel), List.mem_of_getElem? (i := 702) (by decide +kernel), List.mem_of_getElem? (i := 703) (by decide +kernel)⟩
theorem lw_p22 : lw_okq (⟨"HotBedsModel", "canRedeem", "(I)Z"⟩, 8) := ⟨⟨by decide +kernel, by decide +kernel⟩, List.mem_of_getElem? (i := 603) (by decide +kernel), List.mem_of_getElem? (i := 710) (by decide +kernel), List.mem_of_getElem? (i := 711) (by decide +kernel)⟩
theorem lw_p23 : lw_okq (⟨"HotBedsModel", "redeems", "(I)I"⟩, 8) := ⟨⟨by decide +kernel, by decide +kernel⟩, List.mem_of_getElem? (i := 603) (by decide +kernel), List.mem_of_getElem? (i := 714) (by decide +kernel), List.mem_of_getElem? (i := 715) (by decide +kernel)⟩
theorem lw_p24 : lw_okq (⟨"HotBedsModel", "more", "(III)V"⟩, 8) := ⟨⟨by decide +kernel, by decide +kernel⟩, List.mem_of_getElem? (i := 603) (by decide +kernel), List.mem_of_getElem? (i := 718) (by decide +kernel), List.mem_of_getElem? (i := 719) (by decide +kernel)⟩
theorem lw_p25 : lw_okq (⟨"HotBedsModel", "getsUp", "(I)V"⟩, 8) := ⟨⟨by decide +kernel, by decide +kernel⟩, List.mem_of_getElem? (i := 603) (by decide +kernel), List.mem_of_getElem? (i := 726) (by decide +kernel), List.mem_of_getElem? (i := 727) (by decide +kernel)⟩
theorem lw_p26 : lw_okq (⟨"HotBedsModel", "sum", "(I)I"⟩, 8) := ⟨⟨by decide +kernel, by decide +kernel⟩, List.mem_of_getElem? (i := 603) (by decide +kernel), List.mem_of_getElem? (i := 738) (by decide +kernel), List.mem_of_getElem? (i := 739) (by decide +kernel)⟩
theorem lw_p27 : lw_okq (⟨"HotBedsModel", "hoursOn", "(I)V"⟩, 8) := ⟨⟨by decide +kernel, by decide +kernel⟩, List.mem_of_getElem? (i := 603) (by decide +kernel), List.mem_of_getElem? (i := 742) (by decide +kernel), List.mem_of_getElem? (i := 743) (by decide +kernel)⟩
theorem lw_p28 : lw_okq (⟨"HotBedsModel", "hourOn", "()V"⟩, 8) := ⟨⟨by decide +kernel, by decide +kernel⟩, List.mem_of_getElem? (i := 603) (by decide +kernel), List.mem_of_getElem? (i := 746) (by decide +kernel), List.mem_of_getElem? (i := 747) (by decide +kernel)⟩
theorem lw_p29 : lw_okq (⟨"HotBedsModel", "watch", "()I"⟩, 8) := ⟨⟨by decide +kernel, by decide +kernel⟩, List.mem_of_getElem? (i := 603) (by decide +kernel), List.mem_of_getElem? (i := 750) (by decide +kernel), List.mem_of_getElem? (i := 751) (by decide +kernel)⟩
theorem lw_p30 : lw_okq (⟨"HotBedsModel", "ring", "(I)V"⟩, 8) := ⟨⟨by decide +kernel, by decide +kernel⟩, List.mem_of_getElem? (i := 603) (by decide +kernel), List.mem_of_getElem? (i := 754) (by decide +kernel), List.mem_of_getElem? (i := 755) (by decide +kernel)⟩
theorem lw_p31 : lw_okq (⟨"HotBedsModel", "pay", "(I)V"⟩, 8) := ⟨⟨by decide +kernel, by decide +kernel⟩, List.mem_of_getElem? (i := 603) (by decide +kernel), List.mem_of_getElem? (i := 758) (by decide +kernel), List.mem_of_getElem? (i := 759) (by decide +kernel)⟩
def lw_privs_2 : List (MethodName × Nat) := [(⟨"HotBedsModel", "isSailor", "(I)Z"⟩, 8), (⟨"HotBedsModel", "isBed", "(I)Z"⟩, 8), (⟨"HotBedsModel", "sa", "(II)I"⟩, 8), (⟨"HotBedsModel", "change", "(IIII)I"⟩, 8), (⟨"HotBedsModel", "gets", "(II)I"⟩, 8), (⟨"HotBedsModel", "pawns", "(I)I"⟩, 8), (⟨"HotBedsModel", "canRedeem", "(I)Z"⟩, 8), (⟨"HotBedsModel", "redeems", "(I)I"⟩, 8), (⟨"HotBedsModel", "more", "(III)V"⟩, 8), (⟨"HotBedsModel", "getsUp", "(I)V"⟩, 8), (⟨"HotBedsModel", "sum", "(I)I"⟩, 8), (⟨"HotBedsModel", "hoursOn", "(I)V"⟩, 8), (⟨"HotBedsModel", "hourOn", "()V"⟩, 8), (⟨"HotBedsModel", "watch", "()I"⟩, 8), (⟨"HotBedsModel", "ring", "(I)V"⟩, 8), (⟨"HotBedsModel", "pay", "(I)V"⟩, 8)]
theorem lw_r2 : ∀ q ∈ lw_privs_2, lw_okq q := List.forall_mem_cons.mpr ⟨lw_p16, List.forall_mem_cons.mpr ⟨lw_p17, List.forall_mem_cons.mpr ⟨lw_p18, List.forall_mem_cons.mpr ⟨lw_p19, List.forall_mem_cons.mpr ⟨lw_p20, List.forall_mem_cons.mpr ⟨lw_p21, List.forall_mem_cons.mpr ⟨lw_p22, List.forall_mem_cons.mpr ⟨lw_p23, List.forall_mem_cons.mpr ⟨lw_p24, List.forall_mem_cons.mpr ⟨lw_p25, List.forall_mem_cons.mpr ⟨lw_p26, List.forall_mem_cons.mpr ⟨lw_p27, List.forall_mem_cons.mpr ⟨lw_p28, List.forall_mem_cons.mpr ⟨lw_p29, List.forall_mem_cons.mpr ⟨lw_p30, List.forall_mem_cons.mpr ⟨lw_p31, fun _ h => absurd h List.not_mem_nil⟩⟩⟩⟩⟩⟩⟩⟩⟩⟩⟩⟩⟩⟩⟩⟩
theorem lw_p32 : lw_okq (⟨"HotBedsModel", "look", "(I)V"⟩, 8) := ⟨⟨by decide +kernel, by decide +kernel⟩, List.mem_of_getElem? (i := 603) (by decide +kernel), List.mem_of_getElem? (i := 763) (by decide +kernel), List.mem_of_getElem? (i := 764) (by decide +kernel)⟩
theorem lw_p33 : lw_okq (⟨"HotBedsModel", "bedFor", "(I)I"⟩, 8) := ⟨⟨by decide +kernel, by decide +kernel⟩, List.mem_of_getElem? (i := 603) (by decide +kernel), List.mem_of_getElem? (i := 767) (by decide +kernel), List.mem_of_getElem? (i := 768) (by decide +kernel)⟩
theorem lw_p34 : lw_okq (⟨"HotBedsModel", "be", "(II)I"⟩, 8) := ⟨⟨by decide +kernel, by decide +kernel⟩, List.mem_of_getElem? (i := 603) (by decide +kernel), List.mem_of_getElem? (i := 771) (by decide +kernel), List.mem_of_getElem? (i := 772) (by decide +kernel)⟩
theorem lw_p35 : lw_okq (⟨"HotBedsModel", "lieDown", "(I)V"⟩, 8) := ⟨⟨by decide +kernel, by decide +kernel⟩, List.mem_of_getElem? (i := 603) (by decide +kernel), List.mem_of_getElem? (i := 775) (by decide +kernel), List.mem_of_getElem? (i := 776) (by decide +kernel)⟩
theorem lw_p36 : lw_okq (⟨"HotBedsModel", "sailorTold", "(II)I"⟩, 8) := ⟨⟨by decide +kernel, by decide +kernel⟩, List.mem_of_getElem? (i := 603) (by decide +kernel), List.mem_of_getElem? (i := 783) (by decide +kernel), List.mem_of_getElem? (i := 784) (by decide +kernel)⟩
theorem lw_p37 : lw_okq (⟨"HotBedsModel", "bedTold", "(II)I"⟩, 8) := ⟨⟨by decide +kernel, by decide +kernel⟩, List.mem_of_getElem? (i := 603) (by decide +kernel), List.mem_of_getElem? (i := 791) (by decide +kernel), List.mem_of_getElem? (i := 792) (by decide +kernel)⟩
theorem lw_p38 : lw_okq (⟨"HotBedsModel", "counted", "(I)I"⟩, 8) := ⟨⟨by decide +kernel, by decide +kernel⟩, List.mem_of_getElem? (i := 603) (by decide +kernel), List.mem_of_getElem? (i := 799) (by decide +kernel), List.mem_of_getElem? (i := 800) (by decide +kernel)⟩
theorem lw_p39 : lw_okq (⟨"HotBedsModel", "many", "(I)I"⟩, 8) := ⟨⟨by decide +kernel, by decide +kernel⟩, List.mem_of_getElem? (i := 603) (by decide +kernel), List.mem_of_getElem? (i := 803) (by decide +kernel), List.mem_of_getElem? (i := 804) (by decide +kernel)⟩
theorem lw_p40 : lw_okq (⟨"HotBedsModel", "keep", "()V"⟩, 8) := ⟨⟨by decide +kernel, by decide +kernel⟩, List.mem_of_getElem? (i := 603) (by decide +kernel), List.mem_of_getElem? (i := 811) (by decide +kernel), List.mem_of_getElem? (i := 812) (by decide +kernel)⟩
theorem lw_p41 : lw_okq (⟨"HotBedsModel", "bringBack", "()V"⟩, 8) := ⟨⟨by decide +kernel, by decide +kernel⟩, List.mem_of_getElem? (i := 603) (by decide +kernel), List.mem_of_getElem? (i := 818) (by decide +kernel), List.mem_of_getElem? (i := 819) (by decide +kernel)⟩
def lw_privs_3 : List (MethodName × Nat) := [(⟨"HotBedsModel", "look", "(I)V"⟩, 8), (⟨"HotBedsModel", "bedFor", "(I)I"⟩, 8), (⟨"HotBedsModel", "be", "(II)I"⟩, 8), (⟨"HotBedsModel", "lieDown", "(I)V"⟩, 8), (⟨"HotBedsModel", "sailorTold", "(II)I"⟩, 8), (⟨"HotBedsModel", "bedTold", "(II)I"⟩, 8), (⟨"HotBedsModel", "counted", "(I)I"⟩, 8), (⟨"HotBedsModel", "many", "(I)I"⟩, 8), (⟨"HotBedsModel", "keep", "()V"⟩, 8), (⟨"HotBedsModel", "bringBack", "()V"⟩, 8)]
theorem lw_r3 : ∀ q ∈ lw_privs_3, lw_okq q := List.forall_mem_cons.mpr ⟨lw_p32, List.forall_mem_cons.mpr ⟨lw_p33, List.forall_mem_cons.mpr ⟨lw_p34, List.forall_mem_cons.mpr ⟨lw_p35, List.forall_mem_cons.mpr ⟨lw_p36, List.forall_mem_cons.mpr ⟨lw_p37, List.forall_mem_cons.mpr ⟨lw_p38, List.forall_mem_cons.mpr ⟨lw_p39, List.forall_mem_cons.mpr ⟨lw_p40, List.forall_mem_cons.mpr ⟨lw_p41, fun _ h => absurd h List.not_mem_nil⟩⟩⟩⟩⟩⟩⟩⟩⟩⟩
def lw_privs : List (MethodName × Nat) := lw_privs_1 ++ (lw_privs_2 ++ (lw_privs_3))
def lw_tbl : List Cond := k2_sels lw_privs ++ tables_1
theorem lw_privs_ok : ∀ q ∈ lw_privs, lw_okq q := by
  show ∀ q ∈ lw_privs_1 ++ (lw_privs_2 ++ (lw_privs_3)), lw_okq q
  exact List.forall_mem_append.mpr ⟨lw_r1, List.forall_mem_append.mpr ⟨lw_r2, lw_r3⟩⟩
/-- the streams that the claim lets the run draw from -/
abbrev lw_cs : List Choice := [Jvm.Choice.named "NaN.bits"]
theorem lw_bits : nanBits ∈ lw_cs := by first | decide | exact List.mem_cons_self | simp [lw_cs, nanBits]
-- ===== end of PART A; then your names; then what follows =====
end
section
/-! ===== BEGIN words of one list among another's, by their places ===== -/
theorem goodIn_r {big : List Cond} (ws : List Cond) (ps : List Nat) (hp : ws = ps.filterMap (fun i => big[i]?)) (h : ws.all goodWord = true) : GoodIn big ws := by
  intro w hw
  have h1 := List.all_eq_true.mp h w hw
  rw [hp] at hw
  obtain ⟨i, -, hi⟩ := List.mem_filterMap.mp hw
  have hm : w ∈ big := by first | exact List.mem_of_getElem? hi | exact List.getElem?_mem hi
  exact ⟨hm, good_of_word h1⟩
theorem goodIn_app {big a b : List Cond} (ha : GoodIn big a) (hb : GoodIn big b) : GoodIn big (a ++ b) := fun w h => (List.mem_append.mp h).elim (ha w) (hb w)
theorem goodIn_ca {big a b : List Cond} {c : Cond} (ha : GoodIn big (c :: a)) (hb : GoodIn big b) : GoodIn big (c :: (a ++ b)) := fun w h => (List.mem_cons.mp h).elim (fun e => ha w (List.mem_cons.mpr (Or.inl e))) (fun h => (List.mem_append.mp h).elim (fun h => ha w (List.mem_cons.mpr (Or.inr h))) (hb w))
theorem goodIn_sub {big ws : List Cond} (hm : ∀ w ∈ ws, w ∈ big) (h : ws.all goodWord = true) : GoodIn big ws := fun w hw => ⟨hm w hw, good_of_word (List.all_eq_true.mp h w hw)⟩
/-! ===== END ===== -/

/-! ===== BEGIN exceptions that leave a method, and their catching by the caller (launches without stack traces) ===== -/
section VXA
/-! The laws vx_back, vx_callV, vx_callS, vx_callSW, vx_throw0, vx_throwS follow proofs of the library, with one case more: JvmDerived/Free/Laws.lean (Back.of_free), Shelf42/LK1.lean (callV, callS), Shelf/KitTraced.lean (throwNew0V, throwNewS). -/
/-- where a method has thrown q: the class by its name, the cell, what was written, the world -/
def vx_T (XC : String → State → State → Prop) (st : State) (q : Addr) (t : State) (mc ms : Nat) (free : Addr → Prop) : Prop :=
  ∃ (E : String) (ce : Cell) (L : List Loc), XC E st t ∧ t.heap[q]? = some ce ∧ ce.vm = .none ∧ st.vm.findClass E = some ce.cls ∧ st.WarmedH t.vm ∧ st.sameButNew ({ t with vm := st.vm } : State) L mc ms ∧ ∀ z ∈ L, free z.base
def vx_Q (Qc : Array Value → State → Outcome → State → Prop) (XC : String → State → State → Prop) (mc ms : Nat) (free : Addr → Prop) : Array Value → State → Outcome → State → Prop := fun a st o t =>
  (Qc a st o t ∧ ∃ L, FrameEnd st o t L mc ms ∧ ∀ q ∈ L, free q.base) ∨ ∃ q, o = .threw q ∧ vx_T XC st q t mc ms free
/-- a callee that returns or throws -/
def vx_Met (l : Launch) (y : MethodName) (ws : List Cond) (rm : Room) (Pc : Array Value → State → Prop) (Qc : Array Value → State → Outcome → State → Prop) (XC : String → State → State → Prop) (mc ms : Nat) (free : Addr → Prop) : Prop :=
  MetFree l y (headSpec ws rm) Pc (fun _ _ _ _ _ => True) (vx_Q Qc XC mc ms free)
def vx_Post (XC : String → State → State → Prop) (mc ms : Nat) (free : Addr → Prop) : Pt → Array Value → Addr → Pt → Prop := fun A a q B =>
  ∃ (g : JFrame) (mk : MethodId) (t : State) (L : List Loc) (E : String) (ce : Cell), B.U.heap = t.heap ∧ B.U.vm = t.vm ∧ XC E (A.U.calling g mk a) t ∧ t.heap[q]? = some ce ∧ ce.vm = .none ∧ A.U.vm.findClass E = some ce.cls ∧ B.locs = A.locs ++ L ∧ (∀ z ∈ L, free z.base) ∧ B.cells = A.cells + mc ∧ B.slots = A.slots + ms
def vx_Back (l : Launch) (R : Room) (p : Program) (e : Env) (below : List Frame) (s : State) (sargs : Array Value) (y : MethodName) (len W9 : Nat)
    (Pre : Pt → Array Value → Prop) (Post : Pt → Array Value → Option Value → Pt → Prop) (PostX : Pt → Array Value → Addr → Pt → Prop) : Prop :=
  ∀ (m : MethodId) (meth : Method) (c : Code) (A : Pt) (g : JFrame) (ig : Instr) (mk : MethodId) (a : Array Value),
    Stand p l e R s m sargs below meth c A.U A.locs A.cells A.slots → g.method = m → g.locals.size = c.maxLocals → decode c.code g.pc = .ok (ig, len) →
    2 * g.monitorRoom + (g.stack.map fun v => v.category).sum ≤ W9 → A.U.methodNamed? y = some mk → Pre A a →
    (∃ (v : Option Value) (B : Pt), Stand p l e R s m sargs below meth c B.U B.locs B.cells B.slots ∧ Post A a v B ∧
      Steps p.tables e below (doInvoke e (A.U.setTop g) [] mk a).1 (B.U.setTop { g with pc := g.pc + len, stack := v.toList ++ g.stack })) ∨
    (∃ (q : Addr) (B : Pt), Stand p l e R s m sargs below meth c B.U B.locs B.cells B.slots ∧ PostX A a q B ∧
      Steps p.tables e below (doInvoke e (A.U.setTop g) [] mk a).1 ((B.U.setTop g).pushFrame (.throwing q)))
section Payer
variable {l : Launch} {R : Room} {p : Program} {e : Env} {below : List Frame} {s : State} {sargs : Array Value} {y : MethodName} {len W9 : Nat}
theorem vx_back {ws : List Cond} {rm : Room} {Pc : Array Value → State → Prop} {Qc : Array Value → State → Outcome → State → Prop} {XC : String → State → State → Prop} {mc ms : Nat} {free : Addr → Prop} {bytes : ByteArray} {maxL : Nat} {ret : Option FieldType}
    (hM : vx_Met l y ws rm Pc Qc XC mc ms free) (hblind : FrameBlind Pc) (hrc : rm.cells = mc) (hrs : rm.slots = ms)
    (hframes : rm.frames + 1 ≤ R.frames) (hlocals : W9 + (maxL + 11) + rm.locals ≤ R.locals)
    (hws : ∀ w ∈ ws, ∀ a' U, s.WarmedH U.vm → w.before a' U = true) (hcode : Cond.code y bytes maxL ret ∈ ws) (hinit : ∀ a' U, s.WarmedH U.vm → (Cond.initialized y.cls).before a' U = true) :
    vx_Back l R p e below s sargs y len W9 (PreOf R mc ms Pc) (PostOf Qc mc ms free) (vx_Post XC mc ms free) := by
  intro m meth c A g ig mk a X hg hsize hdg hW hn hp
  have h1 : (headSpec ws rm).pre.before a A.U = true := atoms_intro fun w hw => hws w hw _ _ X.warmed
  have h2 : (Cond.code y bytes maxL ret).before a A.U = true := hws _ hcode _ _ X.warmed
  have h3 : (Cond.initialized y.cls).before a A.U = true := hinit _ _ X.warmed
  have h4 : A.cells + (headSpec ws rm).room.cells ≤ R.cells := by rw [show (headSpec ws rm).room.cells = mc from hrc]; exact hp.1
  have h5 : A.slots + (headSpec ws rm).room.slots ≤ R.slots := by rw [show (headSpec ws rm).room.slots = ms from hrs]; exact hp.2.1
  have hPc : Pc a (A.U.calling g mk a) := hblind _ _ _ _ hp.2.2
  obtain ⟨U, Ls, c0, s0⟩ := A
  dsimp only [Pt.U, Pt.locs, Pt.cells, Pt.slots] at h1 h2 h3 h4 h5 X hn hPc ⊢
  obtain ⟨methY, cY, hmY, hcY, -, hlY, -, -, -, -⟩ := Cond.code_spec hn h2
  obtain ⟨kY, hkY, -⟩ := className_of_methodNamed hn
  have hinitY : kY.init = .initialized := Cond.initialized_spec (findClass_of_methodNamed hn) hkY h3
  have h : At U g.method c below := by rw [hg]; exact X.here
  have hlocals9 : W9 + (maxL + 11) + (headSpec ws rm).room.locals ≤ R.locals := hlocals
  have happ : (headSpec ws rm).appliesLoose y e.platform (U.calling g mk a) = true :=
    Spec.appliesLoose_calling (g := g) h hdg hn hkY hinitY
      (X.room_calling (g := g) (R' := (headSpec ws rm).room) hsize hmY hcY hframes (by rw [hlY]; omega) h4 h5) h1
  obtain ⟨mid, hmid⟩ := h.above
  have hfr : (U.setTop g).frames = (.java g :: mid) ++ below := by rw [State.frames_setTop' g h.top, hmid]; rfl
  obtain ⟨o, s₂, hsteps, -, hend, hq⟩ := Steps.callFree hM p X.admits X.cas X.clock (acts := []) hfr happ hPc trivial
  have hq' : vx_Q Qc XC mc ms free a (U.calling g mk a) o s₂ := hq
  rw [State.frames_setTop' g h.top] at hend
  obtain ⟨g₀, hg0⟩ := Option.isSome_iff_exists.mp h.top
  obtain ⟨r, hr⟩ := State.topJava?_eq_some.mp hg0
  have hr' : (({ U with heap := s₂.heap, slotsUsed := s₂.slotsUsed } : State).setVm s₂.vm).frames = .java g₀ :: r := hr
  rcases hq' with ⟨hqc, L, hfe, hL⟩ | ⟨q, rfl, E, ce, L, hx, hce, hcv, hcl, hW₂, hsm, hL⟩
  · obtain ⟨⟨v, rfl⟩, hW₂, e2, q2, q3, q4, q5, q6⟩ := id hfe
    have e3 : s₂ = ({ (U.calling g mk a).setFrames s₂.frames with heap := s₂.heap, slotsUsed := s₂.slotsUsed } : State).setVm s₂.vm := by
      have : s₂ = ({ s₂ with vm := (U.calling g mk a).vm } : State).setVm s₂.vm := rfl
      rw [e2] at this
      exact this
    obtain ⟨c₂, i₂, len₂, hc₂, hd₂, hf₂⟩ := hend
    have hW' : U.WarmedH s₂.vm := hW₂
    have hcc : c₂ = c := by
      have h1 : s₂.code? g.method = U.code? g.method := by
        rw [State.code?_eq, State.code?_eq, hW'.alike.method?]
      exact Option.some.inj (hc₂.symm.trans (h1.trans h.code))
    subst hcc
    have hlen : len₂ = len := by rw [hdg] at hd₂; cases hd₂; rfl
    subst hlen
    have hs₂ : s₂ = (({ U with heap := s₂.heap, slotsUsed := s₂.slotsUsed } : State).setVm s₂.vm).setTop { g with pc := g.pc + len₂, stack := v.toList ++ g.stack } := by
      refine e3.trans ?_
      rw [hf₂, State.calling_eq h.top, State.setFrames_setFrames, State.setTop_of_frames _ hr', hr]
      rfl
    have hsame : U.sameButNew ({ U with heap := s₂.heap, slotsUsed := s₂.slotsUsed } : State) L mc ms := by
      refine ⟨?_, q2, q3, q4, q5, q6⟩
      obtain ⟨t, ht, -⟩ := State.frames_cons hr
      show ({ U with heap := s₂.heap, slotsUsed := s₂.slotsUsed } : State) = { U.setFrames U.frames with heap := s₂.heap, slotsUsed := s₂.slotsUsed }
      rw [State.setFrames_self ht]
    subst hg
    refine Or.inl ⟨v, ⟨(({ U with heap := s₂.heap, slotsUsed := s₂.slotsUsed } : State).setVm s₂.vm), Ls ++ L, c0 + mc, s0 + ms⟩,
      ⟨X.admits, X.cas, X.clock, X.frames, X.room, X.hears, X.method, X.code, (X.here.setHeapUsed s₂.heap s₂.slotsUsed).setVm hW'.alike, X.tail, State.WarmedH.trans X.warmed hW', X.limits, X.bytes, X.same.trans (hsame.setVm s.vm)⟩,
      ⟨g, mk, s₂, L, rfl, rfl, hqc, rfl, hL, rfl, rfl⟩, ?_⟩
    show Steps p.tables e below _ ((({ U with heap := s₂.heap, slotsUsed := s₂.slotsUsed } : State).setVm s₂.vm).setTop { g with pc := g.pc + len₂, stack := v.toList ++ g.stack })
    rw [← hs₂]
    exact hsteps
  · obtain ⟨e2, q2, q3, q4, q5, q6⟩ := id hsm
    have e3 : s₂ = ({ (U.calling g mk a).setFrames s₂.frames with heap := s₂.heap, slotsUsed := s₂.slotsUsed } : State).setVm s₂.vm := by
      have : s₂ = ({ s₂ with vm := (U.calling g mk a).vm } : State).setVm s₂.vm := rfl
      rw [e2] at this
      exact this
    have hf₂ : s₂.frames = .throwing q :: .java g :: U.frames.tail := hend
    have hW' : U.WarmedH s₂.vm := hW₂
    have hs₂ : s₂ = ((({ U with heap := s₂.heap, slotsUsed := s₂.slotsUsed } : State).setVm s₂.vm).setTop g).pushFrame (.throwing q) := by
      refine e3.trans ?_
      rw [hf₂, State.calling_eq h.top, State.setFrames_setFrames, State.pushFrame, State.frames_setTop _ hr', State.setTop_of_frames _ hr', State.setFrames_setFrames, hr]
      rfl
    have hsame : U.sameButNew ({ U with heap := s₂.heap, slotsUsed := s₂.slotsUsed } : State) L mc ms := by
      refine ⟨?_, q2, q3, q4, q5, q6⟩
      obtain ⟨t, ht, -⟩ := State.frames_cons hr
      show ({ U with heap := s₂.heap, slotsUsed := s₂.slotsUsed } : State) = { U.setFrames U.frames with heap := s₂.heap, slotsUsed := s₂.slotsUsed }
      rw [State.setFrames_self ht]
    subst hg
    refine Or.inr ⟨q, ⟨(({ U with heap := s₂.heap, slotsUsed := s₂.slotsUsed } : State).setVm s₂.vm), Ls ++ L, c0 + mc, s0 + ms⟩,
      ⟨X.admits, X.cas, X.clock, X.frames, X.room, X.hears, X.method, X.code, (X.here.setHeapUsed s₂.heap s₂.slotsUsed).setVm hW'.alike, X.tail, State.WarmedH.trans X.warmed hW', X.limits, X.bytes, X.same.trans (hsame.setVm s.vm)⟩,
      ⟨g, mk, s₂, L, E, ce, rfl, rfl, hx, hce, hcv, hcl, rfl, hL, rfl, rfl⟩, ?_⟩
    show Steps p.tables e below _ (((({ U with heap := s₂.heap, slotsUsed := s₂.slotsUsed } : State).setVm s₂.vm).setTop g).pushFrame (.throwing q))
    rw [← hs₂]
    exact hsteps
end Payer
section Calls
variable {p : Program} {l : Launch} {e : Env} {R : Room} {s : State} {m : MethodId} {args : Array Value} {below : List Frame} {meth : Method} {c : Code} {T : State} {locs : List Loc} {cells slots : Nat}
theorem vx_callV (X : Stand p l e R s m args below meth c T locs cells slots) (hexec : p.tables.exec = Jvm.exec) {own C : String} {index : Nat} {y : MethodName} {bytes : ByteArray} {maxL : Nat} {ret : Option FieldType}
    (hown : s.vm.findClass own = some m.cls) (hlink : (Cond.methodLink own index y).before args s = true) (hinst : (Cond.instanceMethod y).before args s = true) (hsel : (Cond.selects C y y).before args s = true)
    (hcode : (Cond.code y bytes maxL ret).before args s = true) (hy : y.cls ≠ "java/lang/invoke/MethodHandle" ∧ y.cls ≠ "java/lang/invoke/VarHandle")
    {W9 : Nat} {Pre : Pt → Array Value → Prop} {Post : Pt → Array Value → Option Value → Pt → Prop} {PostX : Pt → Array Value → Addr → Pt → Prop} (hK : vx_Back l R p e below s args y 3 W9 Pre Post PostX)
    {b : Addr} {cellB : Cell} (hcell : T.heap[b]? = some cellB) (hobj : cellB.vm.isStatics = false) (hcls : s.vm.findClass C = some cellB.cls)
    {g : JFrame} (hg : g.method = m) (hsize : g.locals.size = c.maxLocals) {argsL rest : List Value} (hlen : ∀ sig, parseMethodDescriptor y.desc = some sig → argsL.length = sig.parameters.length)
    (hstack : g.stack = argsL.reverse ++ .ref b :: rest) (hW : 2 * g.monitorRoom + (rest.map fun v => v.category).sum ≤ W9) (hdg : decode c.code g.pc = .ok (.invokevirtual index, 3))
    (hpre : ∀ vm₁, s.WarmedH vm₁ → Pre ⟨T.setVm vm₁, locs, cells, slots⟩ (Value.ref b :: argsL).toArray) :
    (∃ (v : Option Value) (vm₁ : Vm) (B : Pt), s.WarmedH vm₁ ∧ Stand p l e R s m args below meth c B.U B.locs B.cells B.slots ∧ Post ⟨T.setVm vm₁, locs, cells, slots⟩ (Value.ref b :: argsL).toArray v B ∧
      ∀ target, Steps p.tables e below (B.U.setTop { g with pc := g.pc + 3, stack := v.toList ++ rest }) target → Steps p.tables e below (T.setTop g) target) ∨
    (∃ (q : Addr) (vm₁ : Vm) (B : Pt), s.WarmedH vm₁ ∧ Stand p l e R s m args below meth c B.U B.locs B.cells B.slots ∧ PostX ⟨T.setVm vm₁, locs, cells, slots⟩ (Value.ref b :: argsL).toArray q B ∧
      Steps p.tables e below (T.setTop g) ((B.U.setTop { g with stack := rest }).pushFrame (.throwing q))) := by
  obtain ⟨mk, methM, hnamed, hmethM, hstM, habM⟩ := Cond.instanceMethod_spec hinst
  obtain ⟨methM', cM, hmethM', -, -, -, -, -, -, hsigM⟩ := Cond.code_spec hnamed hcode
  cases hmethM.symm.trans hmethM'
  obtain ⟨c2, r2, m2, q1, q2, q3, q4, kP, hkP, hkPi⟩ := Cond.selects_spec hsel
  cases hcls.symm.trans q1
  cases (State.methodFound?_of_named hnamed hy).symm.trans q2
  cases hnamed.symm.trans q3
  have hselP : selectMethod e.platform s.vm cellB.cls mk = .method mk := by rw [Launch.admits_selectMethod X.admits]; exact q4
  obtain ⟨vm₁, X₁, hstep₁⟩ := X.invokevirtual hexec hown hlink hnamed hmethM hstM hkP hkPi hy (a := b) (cell := cellB) hcell
    (fun z h => by rw [h] at hobj; cases hobj) hselP hmethM habM hkP hkPi (g := g) hg (argsL := argsL) (rest := rest) (hlen _ hsigM) hstack hdg
  rcases hK m meth c ⟨T.setVm vm₁, locs, cells, slots⟩ { g with stack := rest } (.invokevirtual index) mk (Value.ref b :: argsL).toArray X₁ hg hsize hdg hW (X₁.named hnamed) (hpre vm₁ X₁.warmed) with ⟨v, B, X', hpost, hsteps⟩ | ⟨q, B, X', hpost, hsteps⟩
  · exact Or.inl ⟨v, vm₁, B, X₁.warmed, X', hpost, fun target h => hstep₁ _ fun acts => by rw [doInvoke_state]; exact hsteps.trans h⟩
  · exact Or.inr ⟨q, vm₁, B, X₁.warmed, X', hpost, hstep₁ _ fun acts => by rw [doInvoke_state]; exact hsteps⟩
theorem vx_callS (X : Stand p l e R s m args below meth c T locs cells slots) (hexec : p.tables.exec = Jvm.exec) {own : String} {index : Nat} {y : MethodName} {bytes : ByteArray} {maxL : Nat} {ret : Option FieldType}
    (hown : s.vm.findClass own = some m.cls) (hlink : (Cond.methodLink own index y).before args s = true) (hstat : (Cond.static y).before args s = true) (hinit : (Cond.initialized y.cls).before args s = true)
    (hcode : (Cond.code y bytes maxL ret).before args s = true) (hy : y.cls ≠ "java/lang/invoke/MethodHandle" ∧ y.cls ≠ "java/lang/invoke/VarHandle")
    {W9 : Nat} {Pre : Pt → Array Value → Prop} {Post : Pt → Array Value → Option Value → Pt → Prop} {PostX : Pt → Array Value → Addr → Pt → Prop} (hK : vx_Back l R p e below s args y 3 W9 Pre Post PostX)
    {g : JFrame} (hg : g.method = m) (hsize : g.locals.size = c.maxLocals) {argsL rest : List Value} (hlen : ∀ sig, parseMethodDescriptor y.desc = some sig → argsL.length = sig.parameters.length)
    (hstack : g.stack = argsL.reverse ++ rest) (hW : 2 * g.monitorRoom + (rest.map fun v => v.category).sum ≤ W9) (hdg : decode c.code g.pc = .ok (.invokestatic index, 3))
    (hpre : ∀ vm₁, s.WarmedH vm₁ → Pre ⟨T.setVm vm₁, locs, cells, slots⟩ argsL.toArray) :
    (∃ (v : Option Value) (vm₁ : Vm) (B : Pt), s.WarmedH vm₁ ∧ Stand p l e R s m args below meth c B.U B.locs B.cells B.slots ∧ Post ⟨T.setVm vm₁, locs, cells, slots⟩ argsL.toArray v B ∧
      ∀ target, Steps p.tables e below (B.U.setTop { g with pc := g.pc + 3, stack := v.toList ++ rest }) target → Steps p.tables e below (T.setTop g) target) ∨
    (∃ (q : Addr) (vm₁ : Vm) (B : Pt), s.WarmedH vm₁ ∧ Stand p l e R s m args below meth c B.U B.locs B.cells B.slots ∧ PostX ⟨T.setVm vm₁, locs, cells, slots⟩ argsL.toArray q B ∧
      Steps p.tables e below (T.setTop g) ((B.U.setTop { g with stack := rest }).pushFrame (.throwing q))) := by
  obtain ⟨mk, hnamed⟩ := Cond.code_named hcode
  obtain ⟨methM, cM, hmethM, -, -, -, -, -, -, hsigM⟩ := Cond.code_spec hnamed hcode
  have hstatic : methM.isStatic = true := Cond.static_spec hnamed hmethM hstat
  obtain ⟨kP, hkP, -⟩ := className_of_methodNamed hnamed
  have hinitP : kP.init = .initialized := Cond.initialized_spec (findClass_of_methodNamed hnamed) hkP hinit
  obtain ⟨vm₁, X₁, hstep₁⟩ := X.invokestatic hexec hown hlink hnamed hmethM hstatic hkP hinitP hy (g := g) hg (argsL := argsL) (rest := rest) (hlen _ hsigM) hstack hdg
  rcases hK m meth c ⟨T.setVm vm₁, locs, cells, slots⟩ { g with stack := rest } (.invokestatic index) mk argsL.toArray X₁ hg hsize hdg hW (X₁.named hnamed) (hpre vm₁ X₁.warmed) with ⟨v, B, X', hpost, hsteps⟩ | ⟨q, B, X', hpost, hsteps⟩
  · exact Or.inl ⟨v, vm₁, B, X₁.warmed, X', hpost, fun target h => hstep₁ _ fun acts => by rw [doInvoke_state]; exact hsteps.trans h⟩
  · exact Or.inr ⟨q, vm₁, B, X₁.warmed, X', hpost, hstep₁ _ fun acts => by rw [doInvoke_state]; exact hsteps⟩
end Calls
theorem vx_cls {s : State} {T : State} {vm₁ : Vm} {E : String} {k : ClassId} (hW : s.WarmedH vm₁) (h : (T.setVm vm₁).vm.findClass E = some k) : s.vm.findClass E = some k := by
  have h1 : vm₁.findClass E = some k := h
  rw [hW.alike.findClass] at h1
  exact h1
/-- the method's frame g, with q thrown over it -/
def vx_W (p : Program) (l : Launch) (e : Env) (R : Room) (s : State) (m : MethodId) (args : Array Value) (below : List Frame) (meth : Method) (c : Code) (H : Heap) (locs : List Loc) (cells slots : Nat) (Q : State → Prop) (g : JFrame) (q : Addr) : Prop :=
  ∀ T : State, T.heap = H → Stand p l e R s m args below meth c T locs cells slots → ∃ t, Steps p.tables e below ((T.setTop g).pushFrame (.throwing q)) t ∧ Q t
def vx_Run (p : Program) (l : Launch) (e : Env) (R : Room) (s : State) (m : MethodId) (args : Array Value) (below : List Frame) (meth : Method) (c : Code) (H : Heap) (locs : List Loc) (cells slots mc ms : Nat) (g : JFrame) (rest : List Value) (Qa : State → Outcome → State → Prop) (XC : String → State → State → Prop) (free : Addr → Prop) : Prop :=
  ∀ T : State, T.heap = H → Stand p l e R s m args below meth c T locs cells slots →
    (∃ (v : Option Value) (st₀ t T' : State) (L : List Loc), st₀.heap = H ∧ Stand p l e R s m args below meth c T' (locs ++ L) (cells + mc) (slots + ms) ∧ (∀ q ∈ L, free q.base) ∧ T'.heap = t.heap ∧ T'.vm = t.vm ∧ Qa st₀ (.returned v) t ∧
      Goes p e below T g T' { g with pc := g.pc + 3, stack := v.toList ++ rest }) ∨
    (∃ (q : Addr) (st₀ t T' : State) (L : List Loc) (E : String) (ce : Cell), st₀.heap = H ∧ Stand p l e R s m args below meth c T' (locs ++ L) (cells + mc) (slots + ms) ∧ (∀ z ∈ L, free z.base) ∧ T'.heap = t.heap ∧ T'.vm = t.vm ∧ XC E st₀ t ∧ t.heap[q]? = some ce ∧ ce.vm = .none ∧ s.vm.findClass E = some ce.cls ∧
      Steps p.tables e below (T.setTop g) ((T'.setTop { g with stack := rest }).pushFrame (.throwing q)))
def vx_X {S : Type} (px : S → Prop) (B : String → S → State → Prop) (A : Nat → Prop) : String → State → State → Prop := fun E st t => ∃ u : S, px u ∧ B E u t ∧ va_F A st t
section Runs
variable {p : Program} {l : Launch} {e : Env} {R : Room} {s : State} {m : MethodId} {args : Array Value} {below : List Frame} {meth : Method} {c : Code} {H : Heap} {locs : List Loc} {cells slots : Nat}
variable {y : MethodName} {bytes cc : ByteArray} {maxL nL mc ms n index : Nat} {ret : Option FieldType} {ws : List Cond} {rm : Room} {Pc : Array Value → State → Prop} {Qc : Array Value → State → Outcome → State → Prop} {XC : String → State → State → Prop} {free : Addr → Prop} {Ts : List Cond} {own C : String} {b : Addr} {As rest : List Value} {g : JFrame}
theorem vx_callBack (cb : CallB R s args own index y bytes maxL ret ws rm mc ms n) (hM : vx_Met l y ws rm Pc Qc XC mc ms free) (hbl : FrameBlind Pc) : vx_Back l R p e below s args y 3 8 (PreOf R mc ms Pc) (PostOf Qc mc ms free) (vx_Post XC mc ms free) := by
  obtain ⟨hrc, hrs, hfr, hlo, hws, hcw, -, hini, -⟩ := cb
  exact vx_back (bytes := bytes) (maxL := maxL) (ret := ret) hM hbl hrc hrs hfr hlo hws hcw (fun a' U hW => word_at hW (Or.inl (by first | rfl | simp [Cond.onTables, Cond.keeps, Cond.steady])) hini)
theorem vx_runV (S : CallFix p m c cc nL s args Ts own) (hM : vx_Met l y ws rm Pc Qc XC mc ms free) (cw : CallW R s args own C index y bytes maxL ret ws rm mc ms n) (hp : PreV s H C b Pc As)
    (hg : g.method = m) (hn : As.length = n) (hsize : g.locals.size = nL) (hstack : g.stack = As.reverse ++ .ref b :: rest) (hW : 2 * g.monitorRoom + (rest.map fun v => v.category).sum ≤ 8) (hdg : decode cc g.pc = .ok (.invokevirtual index, 3)) (hf : cells + mc ≤ R.cells ∧ slots + ms ≤ R.slots) :
    vx_Run p l e R s m args below meth c H locs cells slots mc ms g rest (Qc (Value.ref b :: As).toArray) XC free := by
  have hK : vx_Back l R p e below s args y 3 8 (PreOf R mc ms Pc) (PostOf Qc mc ms free) (vx_Post XC mc ms free) := vx_callBack cw.1 hM hp.1
  obtain ⟨⟨-, -, -, -, -, -, hcode, -, hy, hlen, hl⟩, hin, hse⟩ := cw
  obtain ⟨hx, hb, hml, ho, -⟩ := S
  obtain ⟨-, ⟨cellB, hcB, hoB, hclB⟩, hPc⟩ := hp
  intro T hT X
  rcases vx_callV X hx (C := C) (bytes := bytes) (maxL := maxL) (ret := ret) ho hl hin hse hcode hy hK (by rw [hT]; exact hcB) hoB hclB hg (hsize.trans hml.symm) (argsL := As) (rest := rest) (fun sig h => hn.trans (hlen sig h)) hstack hW (by rw [hb]; exact hdg)
    (fun vm₁ hW₁ => ⟨hf.1, hf.2, hPc (T.setVm vm₁) hT hW₁⟩) with ⟨v, vm₁, ⟨U', l2, c2, s2⟩, hW₁, X', ⟨g', mk, t, L, e1, e2, hq, h1, hL, h2, h3⟩, st⟩ | ⟨q, vm₁, ⟨U', l2, c2, s2⟩, hW₁, X', ⟨g', mk, t, L, E, ce, e1, e2, hq, hce, hcv, hcl, h1, hL, h2, h3⟩, st⟩
  · dsimp only [Pt.U, Pt.locs, Pt.cells, Pt.slots] at X' e1 e2 h1 h2 h3 st
    subst h1; subst h2; subst h3
    exact Or.inl ⟨v, (T.setVm vm₁).calling g' mk (Value.ref b :: As).toArray, t, U', L, hT, X', hL, e1, e2, hq, st⟩
  · dsimp only [Pt.U, Pt.locs, Pt.cells, Pt.slots] at X' e1 e2 h1 h2 h3 st hcl
    subst h1; subst h2; subst h3
    exact Or.inr ⟨q, (T.setVm vm₁).calling g' mk (Value.ref b :: As).toArray, t, U', L, E, ce, hT, X', hL, e1, e2, hq, hce, hcv, vx_cls hW₁ hcl, st⟩
theorem vx_runS (S : CallFix p m c cc nL s args Ts own) (hM : vx_Met l y ws rm Pc Qc XC mc ms free) (cw : CallB R s args own index y bytes maxL ret ws rm mc ms n ∧ (Cond.static y).before args s = true) (hp : PreS s H Pc As)
    (hg : g.method = m) (hn : As.length = n) (hsize : g.locals.size = nL) (hstack : g.stack = As.reverse ++ rest) (hW : 2 * g.monitorRoom + (rest.map fun v => v.category).sum ≤ 8) (hdg : decode cc g.pc = .ok (.invokestatic index, 3)) (hf : cells + mc ≤ R.cells ∧ slots + ms ≤ R.slots) :
    vx_Run p l e R s m args below meth c H locs cells slots mc ms g rest (Qc As.toArray) XC free := by
  have hK : vx_Back l R p e below s args y 3 8 (PreOf R mc ms Pc) (PostOf Qc mc ms free) (vx_Post XC mc ms free) := vx_callBack cw.1 hM hp.1
  obtain ⟨⟨-, -, -, -, -, -, hcode, hini, hy, hlen, hl⟩, hstt⟩ := cw
  obtain ⟨hx, hb, hml, ho, -⟩ := S
  intro T hT X
  rcases vx_callS X hx (bytes := bytes) (maxL := maxL) (ret := ret) ho hl hstt hini hcode hy hK hg (hsize.trans hml.symm) (argsL := As) (rest := rest) (fun sig h => hn.trans (hlen sig h)) hstack hW (by rw [hb]; exact hdg)
    (fun vm₁ hW₁ => ⟨hf.1, hf.2, hp.2 (T.setVm vm₁) hT hW₁⟩) with ⟨v, vm₁, ⟨U', l2, c2, s2⟩, hW₁, X', ⟨g', mk, t, L, e1, e2, hq, h1, hL, h2, h3⟩, st⟩ | ⟨q, vm₁, ⟨U', l2, c2, s2⟩, hW₁, X', ⟨g', mk, t, L, E, ce, e1, e2, hq, hce, hcv, hcl, h1, hL, h2, h3⟩, st⟩
  · dsimp only [Pt.U, Pt.locs, Pt.cells, Pt.slots] at X' e1 e2 h1 h2 h3 st
    subst h1; subst h2; subst h3
    exact Or.inl ⟨v, (T.setVm vm₁).calling g' mk As.toArray, t, U', L, hT, X', hL, e1, e2, hq, st⟩
  · dsimp only [Pt.U, Pt.locs, Pt.cells, Pt.slots] at X' e1 e2 h1 h2 h3 st hcl
    subst h1; subst h2; subst h3
    exact Or.inr ⟨q, (T.setVm vm₁).calling g' mk As.toArray, t, U', L, E, ce, hT, X', hL, e1, e2, hq, hce, hcv, vx_cls hW₁ hcl, st⟩
end Runs
section Rows
variable {p : Program} {l : Launch} {e : Env} {R : Room} {s : State} {m : MethodId} {args : Array Value} {below : List Frame} {meth : Method} {c : Code} {H : Heap} {locs : List Loc} {cells slots : Nat} {Q : State → Prop}
variable {mc ms : Nat} {free : Addr → Prop} {A0 A1 : Nat → Prop} {H0 : Heap} {a : Array Value} {pc : Nat} {ls : Array Slot} {st0 rest : List Value}
theorem vx_keep {st₀ t T' : State} {L : List Loc} (h0 : st₀.heap = H) (e1 : T'.heap = t.heap) (hS : va_S A0 H0 H locs) (hA : ∀ q, q < H.size → A1 q → A0 q) (hf : ∀ q, free q → A0 q) (hL : ∀ q ∈ L, free q.base) (hF : va_F A1 st₀ t) :
    H.size ≤ T'.heap.size ∧ (∀ q : Nat, q < H.size → ¬ A1 q → T'.heap[q]? = H[q]?) ∧ va_S A0 H0 T'.heap (locs ++ L) := by
  obtain ⟨hz, hk⟩ := hF
  rw [h0] at hz hk
  exact ⟨by rw [e1]; exact hz, fun q h1 h2 => by rw [e1]; exact hk q h1 h2,
    ⟨Nat.le_trans hS.1 (by rw [e1]; exact hz), fun q h1 h2 => by rw [e1, hk q (Nat.lt_of_lt_of_le h1 hS.1) (fun z => h2 (hA q (Nat.lt_of_lt_of_le h1 hS.1) z))]; exact hS.2.1 q h1 h2, fun q hq => by
      rcases List.mem_append.mp hq with h | h
      · exact hS.2.2 q h
      · exact hf _ (hL q h)⟩⟩
theorem vx_calli {S SX : Type} {post : Int32 → S → Prop} {px : SX → Prop} {B : S → State → Prop} {BX : String → SX → State → Prop} {AX : Nat → Prop} (hr : vx_Run p l e R s m args below meth c H locs cells slots mc ms (F0 m pc ls st0) rest (va_Qi post B A1 a) (vx_X px BX AX) free) (hS : va_S A0 H0 H locs) (hA : ∀ q, q < H.size → A1 q → A0 q) (hf : ∀ q, free q → A0 q) (hAX : ∀ q, q < H.size → AX q → A0 q)
    (kx : ∀ (E : String) (ce : Cell) (q9 : Addr) (u : SX) (t : State) (H1 : Heap) (locs1 : List Loc), t.heap = H1 → s.vm.Alike t.vm → px u → BX E u t → H.size ≤ H1.size → (∀ q : Nat, q < H.size → ¬ AX q → H1[q]? = H[q]?) → va_S A0 H0 H1 locs1 → H1[q9]? = some ce → ce.vm = .none → s.vm.findClass E = some ce.cls → vx_W p l e R s m args below meth c H1 locs1 (cells + mc) (slots + ms) Q (F0 m pc ls rest) q9)
    (kk : ∀ (r : Int32) (u : S) (t : State) (H1 : Heap) (locs1 : List Loc), t.heap = H1 → s.vm.Alike t.vm → post r u → B u t → H.size ≤ H1.size → (∀ q : Nat, q < H.size → ¬ A1 q → H1[q]? = H[q]?) → va_S A0 H0 H1 locs1 → W p l e R s m args below meth c H1 locs1 (cells + mc) (slots + ms) Q (F0 m (pc + 3) ls (.int r :: rest))) : W p l e R s m args below meth c H locs cells slots Q (F0 m pc ls st0) := by
  intro T hT X
  rcases hr T hT X with ⟨v, st₀, t, T', L, h0, X', hL, e1, e2, ⟨⟨r, u, hv, hp, hb⟩, hF⟩, st⟩ | ⟨q, st₀, t, T', L, E, ce, h0, X', hL, e1, e2, ⟨u, hp, hb, hF⟩, hce, hcv, hcl, st⟩
  · cases hv
    obtain ⟨k1, k2, k3⟩ := vx_keep h0 e1 hS hA hf hL hF
    obtain ⟨t2, a1, b1⟩ := kk r u t T'.heap (locs ++ L) e1.symm (by rw [← e2]; exact X'.warmed.alike) hp hb k1 k2 k3 T' rfl X'
    exact ⟨t2, st t2 a1, b1⟩
  · obtain ⟨k1, k2, k3⟩ := vx_keep h0 e1 hS hAX hf hL hF
    obtain ⟨t2, a1, b1⟩ := kx E ce q u t T'.heap (locs ++ L) e1.symm (by rw [← e2]; exact X'.warmed.alike) hp hb k1 k2 k3 (by rw [e1]; exact hce) hcv hcl T' rfl X'
    exact ⟨t2, st.trans a1, b1⟩
theorem vx_calll {S SX : Type} {post : Int64 → S → Prop} {px : SX → Prop} {B : S → State → Prop} {BX : String → SX → State → Prop} {AX : Nat → Prop} (hr : vx_Run p l e R s m args below meth c H locs cells slots mc ms (F0 m pc ls st0) rest (va_Ql post B A1 a) (vx_X px BX AX) free) (hS : va_S A0 H0 H locs) (hA : ∀ q, q < H.size → A1 q → A0 q) (hf : ∀ q, free q → A0 q) (hAX : ∀ q, q < H.size → AX q → A0 q)
    (kx : ∀ (E : String) (ce : Cell) (q9 : Addr) (u : SX) (t : State) (H1 : Heap) (locs1 : List Loc), t.heap = H1 → s.vm.Alike t.vm → px u → BX E u t → H.size ≤ H1.size → (∀ q : Nat, q < H.size → ¬ AX q → H1[q]? = H[q]?) → va_S A0 H0 H1 locs1 → H1[q9]? = some ce → ce.vm = .none → s.vm.findClass E = some ce.cls → vx_W p l e R s m args below meth c H1 locs1 (cells + mc) (slots + ms) Q (F0 m pc ls rest) q9)
    (kk : ∀ (r : Int64) (u : S) (t : State) (H1 : Heap) (locs1 : List Loc), t.heap = H1 → s.vm.Alike t.vm → post r u → B u t → H.size ≤ H1.size → (∀ q : Nat, q < H.size → ¬ A1 q → H1[q]? = H[q]?) → va_S A0 H0 H1 locs1 → W p l e R s m args below meth c H1 locs1 (cells + mc) (slots + ms) Q (F0 m (pc + 3) ls (.long r :: rest))) : W p l e R s m args below meth c H locs cells slots Q (F0 m pc ls st0) := by
  intro T hT X
  rcases hr T hT X with ⟨v, st₀, t, T', L, h0, X', hL, e1, e2, ⟨⟨r, u, hv, hp, hb⟩, hF⟩, st⟩ | ⟨q, st₀, t, T', L, E, ce, h0, X', hL, e1, e2, ⟨u, hp, hb, hF⟩, hce, hcv, hcl, st⟩
  · cases hv
    obtain ⟨k1, k2, k3⟩ := vx_keep h0 e1 hS hA hf hL hF
    obtain ⟨t2, a1, b1⟩ := kk r u t T'.heap (locs ++ L) e1.symm (by rw [← e2]; exact X'.warmed.alike) hp hb k1 k2 k3 T' rfl X'
    exact ⟨t2, st t2 a1, b1⟩
  · obtain ⟨k1, k2, k3⟩ := vx_keep h0 e1 hS hAX hf hL hF
    obtain ⟨t2, a1, b1⟩ := kx E ce q u t T'.heap (locs ++ L) e1.symm (by rw [← e2]; exact X'.warmed.alike) hp hb k1 k2 k3 (by rw [e1]; exact hce) hcv hcl T' rfl X'
    exact ⟨t2, st.trans a1, b1⟩
theorem vx_callf {S SX : Type} {post : UInt32 → S → Prop} {px : SX → Prop} {B : S → State → Prop} {BX : String → SX → State → Prop} {AX : Nat → Prop} (hr : vx_Run p l e R s m args below meth c H locs cells slots mc ms (F0 m pc ls st0) rest (va_Qf post B A1 a) (vx_X px BX AX) free) (hS : va_S A0 H0 H locs) (hA : ∀ q, q < H.size → A1 q → A0 q) (hf : ∀ q, free q → A0 q) (hAX : ∀ q, q < H.size → AX q → A0 q)
    (kx : ∀ (E : String) (ce : Cell) (q9 : Addr) (u : SX) (t : State) (H1 : Heap) (locs1 : List Loc), t.heap = H1 → s.vm.Alike t.vm → px u → BX E u t → H.size ≤ H1.size → (∀ q : Nat, q < H.size → ¬ AX q → H1[q]? = H[q]?) → va_S A0 H0 H1 locs1 → H1[q9]? = some ce → ce.vm = .none → s.vm.findClass E = some ce.cls → vx_W p l e R s m args below meth c H1 locs1 (cells + mc) (slots + ms) Q (F0 m pc ls rest) q9)
    (kk : ∀ (r : UInt32) (u : S) (t : State) (H1 : Heap) (locs1 : List Loc), t.heap = H1 → s.vm.Alike t.vm → post r u → B u t → H.size ≤ H1.size → (∀ q : Nat, q < H.size → ¬ A1 q → H1[q]? = H[q]?) → va_S A0 H0 H1 locs1 → W p l e R s m args below meth c H1 locs1 (cells + mc) (slots + ms) Q (F0 m (pc + 3) ls (.float r :: rest))) : W p l e R s m args below meth c H locs cells slots Q (F0 m pc ls st0) := by
  intro T hT X
  rcases hr T hT X with ⟨v, st₀, t, T', L, h0, X', hL, e1, e2, ⟨⟨r, u, hv, hp, hb⟩, hF⟩, st⟩ | ⟨q, st₀, t, T', L, E, ce, h0, X', hL, e1, e2, ⟨u, hp, hb, hF⟩, hce, hcv, hcl, st⟩
  · cases hv
    obtain ⟨k1, k2, k3⟩ := vx_keep h0 e1 hS hA hf hL hF
    obtain ⟨t2, a1, b1⟩ := kk r u t T'.heap (locs ++ L) e1.symm (by rw [← e2]; exact X'.warmed.alike) hp hb k1 k2 k3 T' rfl X'
    exact ⟨t2, st t2 a1, b1⟩
  · obtain ⟨k1, k2, k3⟩ := vx_keep h0 e1 hS hAX hf hL hF
    obtain ⟨t2, a1, b1⟩ := kx E ce q u t T'.heap (locs ++ L) e1.symm (by rw [← e2]; exact X'.warmed.alike) hp hb k1 k2 k3 (by rw [e1]; exact hce) hcv hcl T' rfl X'
    exact ⟨t2, st.trans a1, b1⟩
theorem vx_calld {S SX : Type} {post : UInt64 → S → Prop} {px : SX → Prop} {B : S → State → Prop} {BX : String → SX → State → Prop} {AX : Nat → Prop} (hr : vx_Run p l e R s m args below meth c H locs cells slots mc ms (F0 m pc ls st0) rest (va_Qd post B A1 a) (vx_X px BX AX) free) (hS : va_S A0 H0 H locs) (hA : ∀ q, q < H.size → A1 q → A0 q) (hf : ∀ q, free q → A0 q) (hAX : ∀ q, q < H.size → AX q → A0 q)
    (kx : ∀ (E : String) (ce : Cell) (q9 : Addr) (u : SX) (t : State) (H1 : Heap) (locs1 : List Loc), t.heap = H1 → s.vm.Alike t.vm → px u → BX E u t → H.size ≤ H1.size → (∀ q : Nat, q < H.size → ¬ AX q → H1[q]? = H[q]?) → va_S A0 H0 H1 locs1 → H1[q9]? = some ce → ce.vm = .none → s.vm.findClass E = some ce.cls → vx_W p l e R s m args below meth c H1 locs1 (cells + mc) (slots + ms) Q (F0 m pc ls rest) q9)
    (kk : ∀ (r : UInt64) (u : S) (t : State) (H1 : Heap) (locs1 : List Loc), t.heap = H1 → s.vm.Alike t.vm → post r u → B u t → H.size ≤ H1.size → (∀ q : Nat, q < H.size → ¬ A1 q → H1[q]? = H[q]?) → va_S A0 H0 H1 locs1 → W p l e R s m args below meth c H1 locs1 (cells + mc) (slots + ms) Q (F0 m (pc + 3) ls (.double r :: rest))) : W p l e R s m args below meth c H locs cells slots Q (F0 m pc ls st0) := by
  intro T hT X
  rcases hr T hT X with ⟨v, st₀, t, T', L, h0, X', hL, e1, e2, ⟨⟨r, u, hv, hp, hb⟩, hF⟩, st⟩ | ⟨q, st₀, t, T', L, E, ce, h0, X', hL, e1, e2, ⟨u, hp, hb, hF⟩, hce, hcv, hcl, st⟩
  · cases hv
    obtain ⟨k1, k2, k3⟩ := vx_keep h0 e1 hS hA hf hL hF
    obtain ⟨t2, a1, b1⟩ := kk r u t T'.heap (locs ++ L) e1.symm (by rw [← e2]; exact X'.warmed.alike) hp hb k1 k2 k3 T' rfl X'
    exact ⟨t2, st t2 a1, b1⟩
  · obtain ⟨k1, k2, k3⟩ := vx_keep h0 e1 hS hAX hf hL hF
    obtain ⟨t2, a1, b1⟩ := kx E ce q u t T'.heap (locs ++ L) e1.symm (by rw [← e2]; exact X'.warmed.alike) hp hb k1 k2 k3 (by rw [e1]; exact hce) hcv hcl T' rfl X'
    exact ⟨t2, st.trans a1, b1⟩
theorem vx_callv {S SX : Type} {post : S → Prop} {px : SX → Prop} {B : S → State → Prop} {BX : String → SX → State → Prop} {AX : Nat → Prop} (hr : vx_Run p l e R s m args below meth c H locs cells slots mc ms (F0 m pc ls st0) rest (va_Qv post B A1 a) (vx_X px BX AX) free) (hS : va_S A0 H0 H locs) (hA : ∀ q, q < H.size → A1 q → A0 q) (hf : ∀ q, free q → A0 q) (hAX : ∀ q, q < H.size → AX q → A0 q)
    (kx : ∀ (E : String) (ce : Cell) (q9 : Addr) (u : SX) (t : State) (H1 : Heap) (locs1 : List Loc), t.heap = H1 → s.vm.Alike t.vm → px u → BX E u t → H.size ≤ H1.size → (∀ q : Nat, q < H.size → ¬ AX q → H1[q]? = H[q]?) → va_S A0 H0 H1 locs1 → H1[q9]? = some ce → ce.vm = .none → s.vm.findClass E = some ce.cls → vx_W p l e R s m args below meth c H1 locs1 (cells + mc) (slots + ms) Q (F0 m pc ls rest) q9)
    (kk : ∀ (u : S) (t : State) (H1 : Heap) (locs1 : List Loc), t.heap = H1 → s.vm.Alike t.vm → post u → B u t → H.size ≤ H1.size → (∀ q : Nat, q < H.size → ¬ A1 q → H1[q]? = H[q]?) → va_S A0 H0 H1 locs1 → W p l e R s m args below meth c H1 locs1 (cells + mc) (slots + ms) Q (F0 m (pc + 3) ls (rest))) : W p l e R s m args below meth c H locs cells slots Q (F0 m pc ls st0) := by
  intro T hT X
  rcases hr T hT X with ⟨v, st₀, t, T', L, h0, X', hL, e1, e2, ⟨⟨u, hv, hp, hb⟩, hF⟩, st⟩ | ⟨q, st₀, t, T', L, E, ce, h0, X', hL, e1, e2, ⟨u, hp, hb, hF⟩, hce, hcv, hcl, st⟩
  · cases hv
    obtain ⟨k1, k2, k3⟩ := vx_keep h0 e1 hS hA hf hL hF
    obtain ⟨t2, a1, b1⟩ := kk u t T'.heap (locs ++ L) e1.symm (by rw [← e2]; exact X'.warmed.alike) hp hb k1 k2 k3 T' rfl X'
    exact ⟨t2, st t2 a1, b1⟩
  · obtain ⟨k1, k2, k3⟩ := vx_keep h0 e1 hS hAX hf hL hF
    obtain ⟨t2, a1, b1⟩ := kx E ce q u t T'.heap (locs ++ L) e1.symm (by rw [← e2]; exact X'.warmed.alike) hp hb k1 k2 k3 (by rw [e1]; exact hce) hcv hcl T' rfl X'
    exact ⟨t2, st.trans a1, b1⟩
/-- caught by the row x of this method's table; the rows ahead don't take it -/
theorem vx_catch {own name : String} {E : String} {ce : Cell} {q : Addr} (hown : s.vm.findClass own = some m.cls) (pre : List ExceptionTableEntry) (x : ExceptionTableEntry) (suf : List ExceptionTableEntry) (hsplit : c.exceptionTable.toList = pre ++ x :: suf)
    (hpass : ∀ z ∈ pre, covers z pc = false ∨ (z.catchType ≠ 0 ∧ ∃ nm : String, (Cond.classLink own z.catchType nm).before args s = true ∧ va_Nc E nm s)) (hx : covers x pc = true) (h0 : x.catchType ≠ 0)
    (hlink : (Cond.classLink own x.catchType name).before args s = true) (hcast : (Cond.castable E name).before args s = true) (hcell : H[q]? = some ce) (hv : ce.vm = .none) (hcl : s.vm.findClass E = some ce.cls)
    (kk : W p l e R s m args below meth c H locs cells slots Q (F0 m x.handlerPc ls [.ref q])) : vx_W p l e R s m args below meth c H locs cells slots Q (F0 m pc ls rest) q := by
  intro T hT X
  have hpl : e.platform.magicAccessors = ({} : Platform).magicAccessors := by rw [X.admits.platform]
  obtain ⟨c3, c4, hc3, hc4, hasg⟩ := Cond.castable_spec hcast
  cases Option.some.inj (hc3.symm.trans hcl)
  obtain ⟨c5, hc5, hcl5⟩ := Cond.classLink_spec hown hlink e.platform hpl
  cases Option.some.inj (hc4.symm.trans hc5)
  obtain ⟨vm', X', st⟩ := X.thenCaughtThrough q (g := F0 m pc ls rest) rfl (Steps.refl _) (by rw [hT]; exact hcell) (by rw [hv]; rfl) (by obtain ⟨k9, h9, -⟩ := Vm.findClass_spec hcl; exact ⟨k9, h9⟩) pre x suf hsplit
    (fun z hz => by
      rcases hpass z hz with h | ⟨hz0, nm, hl1, hn1⟩
      · exact Or.inl h
      · obtain ⟨c6, hc6, hcl6⟩ := Cond.classLink_spec hown hl1 e.platform hpl
        obtain ⟨a8, b8, h1, h2, h3⟩ := hn1
        cases Option.some.inj (h1.symm.trans hcl)
        cases Option.some.inj (h2.symm.trans hc6)
        exact Or.inr ⟨hz0, _, hcl6, h3⟩) hx (Or.inr ⟨h0, c4, hcl5, hasg⟩)
  obtain ⟨t, a1, b1⟩ := kk (T.setVm vm') hT X'
  exact ⟨t, st.trans a1, b1⟩
end Rows
section Ends
variable {p : Program} {l : Launch} {e : Env} {R : Room} {s : State} {m : MethodId} {args : Array Value} {below : List Frame} {meth : Method} {c : Code} {H : Heap} {locs : List Loc} {cells slots : Nat} {Q : State → Prop}
variable {mc ms : Nat} {free : Addr → Prop} {A0 A1 : Nat → Prop} {H0 : Heap} {a : Array Value} {ls : Array Slot} {st0 rest : List Value}
variable {Qc : Array Value → State → Outcome → State → Prop} {XC : String → State → State → Prop}
/-- what a body that may throw owes at its end -/
def vx_MQ (below : List Frame) (Qc : Array Value → State → Outcome → State → Prop) (XC : String → State → State → Prop) (a : Array Value) (s : State) (mc ms : Nat) (free : Addr → Prop) : State → Prop := fun t =>
  ∃ o, t.status = .running ∧ Ended t below o ∧ vx_Q Qc XC mc ms free a s o t
theorem vx_ret {g : JFrame} {mc ms : Nat} (k : W p l e R s m args below meth c H locs cells slots (MQ below Qc args s mc ms free) g) : W p l e R s m args below meth c H locs cells slots (vx_MQ below Qc XC args s mc ms free) g := by
  intro T hT X
  obtain ⟨t, a1, o, b1, b2, b3, b4⟩ := k T hT X
  exact ⟨t, a1, o, b1, b2, Or.inl ⟨b3, b4⟩⟩
/-- not caught here: it goes on to the caller -/
theorem vx_widen {g : JFrame} {q : Addr} {k n : Nat} (h1 : cells ≤ k) (h2 : slots ≤ n) (kk : vx_W p l e R s m args below meth c H locs k n Q g q) : vx_W p l e R s m args below meth c H locs cells slots Q g q := fun T hT X => kk T hT (stand_widen X h1 h2)
theorem vx_out {pc : Nat} {E : String} {ce : Cell} {q : Addr} {mc ms : Nat} (hout : ∀ x ∈ c.exceptionTable.toList, covers x pc = false) (hlocks : meth.locks = false) (hcell : H[q]? = some ce) (hv : ce.vm = .none) (hcl : s.vm.findClass E = some ce.cls)
    (hx : ∀ t : State, t.heap = H → s.vm.Alike t.vm → XC E s t) (hf : ∀ z ∈ locs, free z.base) (hc : cells ≤ mc) (hs : slots ≤ ms) :
    vx_W p l e R s m args below meth c H locs cells slots (vx_MQ below Qc XC args s mc ms free) (F0 m pc ls rest) q := by
  intro T hT X
  obtain ⟨st1, hrun, hend, hW, hsm⟩ := X.leaveThrown q (g := F0 m pc ls rest) rfl rfl rfl hout hlocks
  have hcell9 : (T.setFrames (.throwing q :: below)).heap[q]? = some ce := by
    show T.heap[q]? = some ce
    rw [hT]; exact hcell
  exact ⟨_, st1, .threw q, hrun, hend, Or.inr ⟨q, rfl, E, ce, locs, hx _ hT hW.alike, hcell9, hv, hcl, hW, hsm.mono hc hs, hf⟩⟩
theorem vx_frame {U : State} {k n : Nat} (h : s.sameButNew ({ U with vm := s.vm } : State) locs k n) : s.heap.size ≤ U.heap.size ∧ ∀ q : Nat, q < s.heap.size → (∀ z ∈ locs, z.base ≠ q) → U.heap[q]? = s.heap[q]? := by
  obtain ⟨-, h2, -, -, -, h6⟩ := h
  refine ⟨h2, fun q hq hz => ?_⟩
  obtain ⟨c9, e1, e2, e3, e4⟩ := h6 q _ (Array.getElem?_eq_getElem hq)
  have hs : c9.slots = (s.heap[q]).slots := Array.ext_getElem? fun i => e4 i fun hm => hz _ hm rfl
  have h9 : c9 = s.heap[q] := by
    rw [hs] at e2
    exact e2
  have e5 : U.heap[q]? = some c9 := e1
  rw [e5, h9, Array.getElem?_eq_getElem hq]
/-- the words of a throw but the four that speak of the heap -/
def vx_no (w : Cond) : Bool := decide (w ≠ .isRef (.static Bundle.tN "UNASSIGNED_STACK" Bundle.steD)) && decide (w ≠ .isRef (.static Bundle.tN "SUPPRESSED_SENTINEL" Bundle.listD)) && decide (w ≠ .laysStatic Bundle.tN "UNASSIGNED_STACK" Bundle.steD) && decide (w ≠ .laysStatic Bundle.tN "SUPPRESSED_SENTINEL" Bundle.listD)
def vx_at0 (own : String) (ic : Nat) (X : String) (names : List String) : List Cond := (Bundle.ownAtoms0 own ic X names).filter vx_no
def vx_atS (own : String) (ic : Nat) (X : String) (names : List String) : List Cond := (Bundle.ownAtoms own ic X names).filter vx_no
/-- a word that the tables alone decide, or a good one -/
def vx_ot (w : Cond) : Bool := w.onTables || goodWord w
theorem vx_ot_at {args a' : Array Value} {s U : State} {w : Cond} (hW : s.WarmedH U.vm) (hvm : s.vm = U.vm) (hg : vx_ot w = true) (h : w.before args s = true) : w.before a' U = true := by
  simp only [vx_ot, Bool.or_eq_true] at hg
  rcases hg with hg | hg
  · exact va_tabs hg hvm h
  · exact word_at hW (good_of_word hg) h
/-- a list's words: the good ones out of the method's own list, the others by premises of their own -/
theorem vx_hat {args : Array Value} {s : State} {L B : List Cond} (h1 : ∀ w ∈ L.filter goodWord, w.before args s = true) (h2 : ∀ w ∈ L.filter (fun w => !goodWord w), w ∈ B) (h3 : ∀ w ∈ B, w.before args s = true) : ∀ w ∈ L, w.before args s = true := by
  intro w hw
  by_cases g : goodWord w = true
  · exact h1 w (List.mem_filter.mpr ⟨hw, g⟩)
  · refine h3 w (h2 w (List.mem_filter.mpr ⟨hw, ?_⟩))
    show (!goodWord w) = true
    cases hgw : goodWord w
    · rfl
    · exact absurd hgw g
theorem vx_c {args : Array Value} {s : State} {w : Cond} {B : List Cond} (h : w.before args s = true) (t : ∀ w ∈ B, w.before args s = true) : ∀ w' ∈ w :: B, w'.before args s = true := fun w' h' => (List.mem_cons.mp h').elim (fun e => by rw [e]; exact h) (t w')
theorem vx_n {args : Array Value} {s : State} : ∀ w ∈ ([] : List Cond), w.before args s = true := fun _ h => nomatch h
theorem vx_own {args : Array Value} {s : State} {L : List Cond} (h1 : ∀ w ∈ L.filter vx_no, w.before args s = true)
    (hU : (Cond.isRef (.static Bundle.tN "UNASSIGNED_STACK" Bundle.steD)).before args s = true) (hN : (Cond.isRef (.static Bundle.tN "SUPPRESSED_SENTINEL" Bundle.listD)).before args s = true)
    (lU : (Cond.laysStatic Bundle.tN "UNASSIGNED_STACK" Bundle.steD).before args s = true) (lN : (Cond.laysStatic Bundle.tN "SUPPRESSED_SENTINEL" Bundle.listD).before args s = true) : ∀ w ∈ L, w.before args s = true := by
  intro w hw
  by_cases e1 : w = .isRef (.static Bundle.tN "UNASSIGNED_STACK" Bundle.steD)
  · rw [e1]; exact hU
  · by_cases e2 : w = .isRef (.static Bundle.tN "SUPPRESSED_SENTINEL" Bundle.listD)
    · rw [e2]; exact hN
    · by_cases e3 : w = .laysStatic Bundle.tN "UNASSIGNED_STACK" Bundle.steD
      · rw [e3]; exact lU
      · by_cases e4 : w = .laysStatic Bundle.tN "SUPPRESSED_SENTINEL" Bundle.listD
        · rw [e4]; exact lN
        · exact h1 w (List.mem_filter.mpr ⟨hw, by unfold vx_no; rw [decide_eq_true e1, decide_eq_true e2, decide_eq_true e3, decide_eq_true e4]; rfl⟩)
/-- where a static field lies, its class's statics cell in H -/
def vx_L (C n d : String) (A : Nat → Prop) (U : State) (H : Heap) : Prop := ∃ (c : ClassId) (k : Class) (i : Nat) (f : Field) (a : Nat) (cell : Cell), U.vm.findClass C = some c ∧ U.fieldFound? C n d = some (c, k, i, f) ∧ f.isStatic = true ∧ k.statics = some a ∧ H[a]? = some cell ∧ cell.vm.isStatics = true ∧ cell.cls = c ∧ f.slot < cell.slots.size ∧ k.staticTypes[f.slot]? = some f.type ∧ ¬ A a
theorem vx_L.moved {C n d : String} {A : Nat → Prop} {u U : State} {H : Heap} (hvm : u.vm.Alike U.vm) (h : vx_L C n d A u H) : vx_L C n d A U H := by
  obtain ⟨c, k, i, f, a, cell, h1, h2, h3, h4, h5, h6, h7, h8, h9, h10⟩ := h
  obtain ⟨k', hi', he⟩ := State.fieldFound?_setVm hvm h2
  exact ⟨c, k', i, f, a, cell, by rw [hvm.findClass]; exact h1, hi', h3, by rw [he]; exact h4, h5, h6, h7, h8, by rw [he]; exact h9, h10⟩
theorem vx_L.kept {C n d : String} {A : Nat → Prop} {U : State} {H H1 : Heap} (h : vx_L C n d A U H) (hq : ∀ a : Nat, a < H.size → ¬ A a → H1[a]? = H[a]?) : vx_L C n d A U H1 := by
  obtain ⟨c, k, i, f, a, cell, h1, h2, h3, h4, h5, h6, h7, h8, h9, h10⟩ := h
  exact ⟨c, k, i, f, a, cell, h1, h2, h3, h4, by rw [hq a (Array.getElem?_eq_some_iff.mp h5).1 h10]; exact h5, h6, h7, h8, h9, h10⟩
theorem vx_L.narrow {C n d : String} {A B : Nat → Prop} {U : State} {H : Heap} (h : vx_L C n d A U H) (hAB : ∀ q, B q → A q) : vx_L C n d B U H := by
  obtain ⟨c, k, i, f, a, cell, h1, h2, h3, h4, h5, h6, h7, h8, h9, h10⟩ := h
  exact ⟨c, k, i, f, a, cell, h1, h2, h3, h4, h5, h6, h7, h8, h9, fun z => h10 (hAB _ z)⟩
theorem vx_L.word {C n d : String} {A : Nat → Prop} {s : State} {args : Array Value} (h : vx_L C n d A s s.heap) : (Cond.laysStatic C n d).before args s = true := by
  obtain ⟨c, k, i, f, a, cell, h1, h2, h3, h4, h5, h6, h7, h8, h9, -⟩ := h
  show (Cond.laysStatic C n d).holds args s none s [] = true
  exact Cond.laysStatic_of h1 h2 h3 h4 h5 h6 h7 h8 h9
/-- .. and what it holds: null or some reference -/
def vx_Zq (C n d : String) (A : Nat → Prop) (U : State) (H : Heap) : Prop := va_Zq C n d A U H ∧ vx_L C n d A U H
theorem vx_Zq.moved {C n d : String} {A : Nat → Prop} {u U : State} {H : Heap} (hvm : u.vm.Alike U.vm) (h : vx_Zq C n d A u H) : vx_Zq C n d A U H := ⟨va_Zq.moved hvm h.1, vx_L.moved hvm h.2⟩
theorem vx_Zq.kept {C n d : String} {A : Nat → Prop} {U : State} {H H1 : Heap} (h : vx_Zq C n d A U H) (hq : ∀ a : Nat, a < H.size → ¬ A a → H1[a]? = H[a]?) : vx_Zq C n d A U H1 := ⟨va_Zq.kept h.1 hq, vx_L.kept h.2 hq⟩
theorem vx_Zq.narrow {C n d : String} {A B : Nat → Prop} {U : State} {H : Heap} (h : vx_Zq C n d A U H) (hAB : ∀ q, B q → A q) : vx_Zq C n d B U H := ⟨va_Zq.narrow h.1 hAB, vx_L.narrow h.2 hAB⟩
theorem vx_Zqof {args : Array Value} {s : State} {C n d : String} {A : Nat → Prop} (hl : (Cond.laysStatic C n d).before args s = true) (hini : (Cond.initialized C).before args s = true) (h : (Cond.isRef (.static C n d)).before args s = true) (hA : ∀ a : Nat, a < s.heap.size → ¬ A a) : vx_Zq C n d A s s.heap := by
  refine ⟨va_Zqof hl hini h hA, ?_⟩
  obtain ⟨c, k, i, f, a, cell, h1, h2, h3, h4, h5, h6, h7, h8, h9⟩ := Cond.laysStatic_spec hl
  exact ⟨c, k, i, f, a, cell, h1, h2, h3, h4, h5, h6, h7, h8, h9, hA a (Array.getElem?_eq_some_iff.mp h5).1⟩
theorem vx_isRef {C n d : String} {v : Value} {A : Nat → Prop} {s : State} {args : Array Value} (h : va_Z C n d v A s s.heap) (hv : v.isRef = true) : (Cond.isRef (.static C n d)).before args s = true := by
  obtain ⟨cf, kf, fi, f, a, cell, h1, h2, h3, h4, h5, h6, h7, -⟩ := h
  have he : (Term.static C n d).eval args s none [] s = some v := by
    simp [Term.eval, State.fieldNamed?, h1, h2, h4, h5, h6, h7]
  simp only [Cond.before, Cond.holds, Cond.value, he]
  cases v <;> simp_all [Value.isRef]
theorem vx_isRefq {C n d : String} {A : Nat → Prop} {s : State} {args : Array Value} (h : va_Zq C n d A s s.heap) : (Cond.isRef (.static C n d)).before args s = true := by
  rcases h with h | ⟨t, h⟩
  · exact vx_isRef h rfl
  · exact vx_isRef h rfl
/-- the same frame, seen from here: as if the method were called anew in this heap -/
theorem vx_rebase {T : State} (X : Stand p l e R s m args below meth c T locs cells slots) {R' : Room} (hf : R'.frames ≤ R.frames) (hl : R'.locals ≤ R.locals) (hc : cells + R'.cells ≤ R.cells) (hs : slots + R'.slots ≤ R.slots) :
    Stand p l e R' ((T.setVm s.vm).setFrames (.invoking m args :: below)) m args below meth c T [] 0 0 := by
  have htop : (T.setVm s.vm).topJava?.isSome := X.here.top
  have hF : ((T.setVm s.vm).setFrames (.invoking m args :: below)).frames = .invoking m args :: below := State.frames_setFrames _ (State.cur_lt_of_top htop)
  obtain ⟨g₀, hg0⟩ := Option.isSome_iff_exists.mp htop
  obtain ⟨r, hr⟩ := State.topJava?_eq_some.mp hg0
  have hl9 : e.platform.stackLimits (T.setVm s.vm).me = e.platform.stackLimits s.me := X.limits
  have hb9 : (T.setVm s.vm).me.stackBytes = s.me.stackBytes := X.bytes
  refine ⟨X.admits, X.cas, X.clock, hF, ?_, X.hears, X.method, X.code, X.here, X.tail, X.warmed, ?_, ?_, ?_⟩
  · have h := X.room
    have hU : ((T.setVm s.vm).setFrames (.invoking m args :: below)).localsInUse = s.localsInUse := by
      rw [State.localsInUse_invoking hF (meth := meth) (c := c) X.method X.code, State.localsInUse_invoking X.frames X.method X.code]
    simp only [State.hasRoom, Bool.and_eq_true, decide_eq_true_eq] at h ⊢
    obtain ⟨⟨⟨⟨h1, h2, h3, h4, h5, h6⟩, h7⟩, h8⟩, h9⟩ := h
    rw [X.frames, List.length_cons] at h2 h3
    have q1 := X.heapSize
    have q2 := X.used
    simp only [hF, hU, List.length_cons, State.stackLimits_setFrames, State.stackBytes_setFrames, hl9, hb9]
    refine ⟨⟨⟨⟨by omega, by omega, by omega, by omega, by omega, h6⟩, ?_⟩, ?_⟩, X.book⟩
    · show T.heap.size + R'.cells ≤ e.platform.maxCells
      omega
    · show T.slotsUsed + R'.slots ≤ e.platform.maxSlots
      omega
  · rw [State.stackLimits_setFrames]; rfl
  · rw [State.stackBytes_setFrames]; rfl
  · refine ⟨?_, Nat.le_refl _, Nat.le_refl _, ?_, ?_, fun a c9 h9 => ⟨c9, h9, rfl, rfl, fun _ _ => rfl⟩⟩
    · obtain ⟨t, ht, -⟩ := State.frames_cons hr
      show T.setVm s.vm = { ((T.setVm s.vm).setFrames (.invoking m args :: below)).setFrames (T.setVm s.vm).frames with heap := T.heap, slotsUsed := T.slotsUsed }
      rw [State.setFrames_setFrames, State.setFrames_self ht]
      rfl
    · show T.slotsUsed = T.slotsUsed + ((T.heap.toList.drop T.heap.size).map (·.slots.size)).sum
      rw [List.drop_eq_nil_of_le (Nat.le_of_eq Array.length_toList)]
      rfl
    · show ((T.heap.toList.drop T.heap.size).map (·.slots.size)).sum ≤ 0
      rw [List.drop_eq_nil_of_le (Nat.le_of_eq Array.length_toList)]
      exact Nat.le_refl _
/-- 'throw new E()': new; dup; invokespecial; athrow -/
theorem vx_throw0 {cc : ByteArray} {pc : Nat} (hexec : p.tables.exec = Jvm.exec) (hb : c.code = cc) (hl : l.stackTraces = false) {own cls : String} {names : List String} {ik ic mc ms : Nat} {A : Nat → Prop}
    (hown : s.vm.findClass own = some m.cls) (hcls : Bundle.fit cls = true) (hnames : ∀ n ∈ names, Bundle.fit n = true)
    (hk : (Cond.classLink own ik cls).before args s = true) (hini : (Cond.initialized cls).before args s = true) (hat : ∀ w ∈ vx_at0 own ic cls names, w.before args s = true)
    (hgood : ∀ w ∈ Cond.classLink own ik cls :: Cond.initialized cls :: vx_at0 own ic cls names, vx_ot w = true)
    (hU : vx_Zq Bundle.tN "UNASSIGNED_STACK" Bundle.steD A s s.heap) (hN : vx_Zq Bundle.tN "SUPPRESSED_SENTINEL" Bundle.listD A s s.heap) (hS : va_S A s.heap H locs) (hsize : ls.size = c.maxLocals)
    (d0 : decode cc pc = .ok (.new ik, 3)) (d3 : decode cc (pc + 3) = .ok (.dup, 1)) (d4 : decode cc (pc + 4) = .ok (.invokespecial ic, 3)) (d7 : decode cc (pc + 7) = .ok (.athrow, 1))
    (hout : ∀ x ∈ c.exceptionTable.toList, covers x (pc + 7) = false)
    (hRframes : names.length + 3 < R.frames) (hRlocals : (rest.map fun v => v.category).sum + (13 * (names.length + 1) + 42) ≤ R.locals) (hRcells : cells + 1 ≤ R.cells) (hRslots : slots + 6 ≤ R.slots) (hlocks : meth.locks = false)
    (hx : ∀ t : State, s.vm.Alike t.vm → H.size ≤ t.heap.size → (∀ q : Nat, q < H.size → t.heap[q]? = H[q]?) → XC cls s t)
    (hf : ∀ z ∈ locs, free z.base) (hc : cells + 1 ≤ mc) (hs : slots + 6 ≤ ms) :
    W p l e R s m args below meth c H locs cells slots (vx_MQ below Qc XC args s mc ms free) (F0 m pc ls rest) := by
  intro T hT X
  have htr : e.platform.stackTraces = false := (show e.platform.stackTraces = l.stackTraces by rw [X.admits.platform]).trans hl
  have Y := vx_rebase X (R' := { frames := R.frames, locals := R.locals, cells := 1, slots := 6 }) (Nat.le_refl _) (Nat.le_refl _) hRcells hRslots
  obtain ⟨s', hA⟩ : ∃ z, z = (T.setVm s.vm).setFrames (.invoking m args :: below) := ⟨_, rfl⟩
  rw [← hA] at Y
  have hvm : s'.vm = s.vm := by rw [hA]; rfl
  have hhp : s'.heap = H := by rw [hA]; exact hT
  have hW0 : s.WarmedH s'.vm := by rw [hvm]; exact State.WarmedH.refl s
  have hat' : ∀ w ∈ vx_at0 own ic cls names, w.before args s' = true := fun w hw => vx_ot_at hW0 hvm.symm (hgood w (List.mem_cons_of_mem _ (List.mem_cons_of_mem _ hw))) (hat w hw)
  have hk' : (Cond.classLink own ik cls).before args s' = true := vx_ot_at hW0 hvm.symm (hgood _ List.mem_cons_self) hk
  have hini' : (Cond.initialized cls).before args s' = true := vx_ot_at hW0 hvm.symm (hgood _ (List.mem_cons_of_mem _ List.mem_cons_self)) hini
  have hU' : vx_Zq Bundle.tN "UNASSIGNED_STACK" Bundle.steD A s' s'.heap := by rw [hhp]; exact vx_Zq.moved hW0.alike (hU.kept hS.2.1)
  have hN' : vx_Zq Bundle.tN "SUPPRESSED_SENTINEL" Bundle.listD A s' s'.heap := by rw [hhp]; exact vx_Zq.moved hW0.alike (hN.kept hS.2.1)
  have h : ∀ w ∈ Bundle.ownAtoms0 own ic cls names, w.before args s' = true := vx_own hat' (vx_isRefq hU'.1) (vx_isRefq hN'.1) hU'.2.word hN'.2.word
  have hown' : s'.vm.findClass own = some m.cls := by rw [hvm]; exact hown
  have hins : (Cond.instantiable cls 6).before args s' = true := h _ (by simp [Bundle.ownAtoms0])
  obtain ⟨vm₁, cX, kX, hfX, hkX, -, -, X₁, st1⟩ := Y.newCold hexec (own := own) (C := cls) (index := ik) (n := 6) hown' hk' hins hini'
    (g := F0 m pc ls rest) rfl (by rw [hb]; exact d0) (Nat.le_refl _) (Nat.le_refl _)
  generalize hT1 : (T.setVm vm₁).pushCell { cls := cX, slots := kX.instanceTypes.map defaultValue, vm := .none } = T1 at X₁ st1
  have hcat : (Value.ref T.heap.size).category = 1 := rfl
  have hcellA : T1.heap[T.heap.size]? = some (freshCell cX kX) := by rw [← hT1]; exact State.heap_pushCell_size _ _
  have d3' : decode c.code (pc + 3) = .ok (.dup, 1) := by rw [hb]; exact d3
  obtain ⟨U, hsteps, hrun, hend, hW, hsame, ce, hce, hO⟩ := X₁.ctorThrow0 hexec htr (own := own) (cls := cls) (names := names) (ic := ic) hown' hcls hnames h (fun x hx => nomatch hx) hfX hkX hcellA (by rw [hhp, hT]; exact Nat.le_refl _)
    (g := { method := m, pc := pc + 4, locals := ls, stack := .ref T.heap.size :: .ref T.heap.size :: rest, locked := none }) rfl hsize rfl rfl (rest := rest) rfl
    (by rw [hb]; exact d4) (by rw [hb]; exact d7) hout hRframes (by simp only [List.map_cons, List.sum_cons, hcat]; omega) hlocks
  obtain ⟨f1, f2⟩ := vx_frame hsame
  rw [hhp] at f1 f2
  have hWs : s.WarmedH U.vm := State.WarmedH.trans hW0 hW
  have hcl : s.vm.findClass cls = some ce.cls := by
    have h9 := hO.cls
    rw [hvm] at h9
    exact h9
  have hall : s.sameButNew ({ U with vm := s.vm } : State) locs mc ms := by
    subst hA
    obtain ⟨e1, e2⟩ := hsame
    rw [State.setFrames_setFrames] at e1
    have h2 : (T.setVm s.vm).sameButNew ({ U with vm := s.vm } : State) [] (0 + 1) (0 + 6) := ⟨e1, e2⟩
    have h3 := X.same.trans h2
    rw [List.append_nil] at h3
    exact h3.mono hc hs
  refine ⟨U, ?_, .threw T.heap.size, hrun, hend, Or.inr ⟨T.heap.size, rfl, cls, ce, locs, hx U hWs.alike f1 (fun q hq => f2 q hq (fun z hz => nomatch hz)), hce, hO.vm, hcl, hWs, hall, hf⟩⟩
  refine st1 _ ?_
  show Steps p.tables e below (T1.setTop { method := m, pc := pc + 3, locals := ls, stack := .ref T.heap.size :: rest, locked := none }) _
  jvm_step X₁.here [X₁.here.top, hexec, d3', Value.category]
  exact hsteps
/-- 'throw new E("text")': new; dup; ldc; invokespecial; athrow -/
theorem vx_throwS {cc : ByteArray} {pc : Nat} (hexec : p.tables.exec = Jvm.exec) (hb : c.code = cc) (hl : l.stackTraces = false) {own cls text : String} {names : List String} {ik is ic mc ms sa : Nat} {A : Nat → Prop}
    (hown : s.vm.findClass own = some m.cls) (hcls : Bundle.fit cls = true) (hnames : ∀ n ∈ names, Bundle.fit n = true)
    (hk : (Cond.classLink own ik cls).before args s = true) (hini : (Cond.initialized cls).before args s = true) (hstr : vk_R own is text sa s) (hat : ∀ w ∈ vx_atS own ic cls names, w.before args s = true)
    (hgood : ∀ w ∈ Cond.classLink own ik cls :: Cond.initialized cls :: vx_atS own ic cls names, vx_ot w = true)
    (hU : vx_Zq Bundle.tN "UNASSIGNED_STACK" Bundle.steD A s s.heap) (hN : vx_Zq Bundle.tN "SUPPRESSED_SENTINEL" Bundle.listD A s s.heap) (hS : va_S A s.heap H locs) (hsize : ls.size = c.maxLocals)
    (d0 : decode cc pc = .ok (.new ik, 3)) (d3 : decode cc (pc + 3) = .ok (.dup, 1)) (d4 : decode cc (pc + 4) = .ok (.ldc is, 2)) (d6 : decode cc (pc + 6) = .ok (.invokespecial ic, 3)) (d9 : decode cc (pc + 9) = .ok (.athrow, 1))
    (hout : ∀ x ∈ c.exceptionTable.toList, covers x (pc + 9) = false)
    (hRframes : names.length + 3 < R.frames) (hRlocals : (rest.map fun v => v.category).sum + (13 * (names.length + 1) + 43) ≤ R.locals) (hRcells : cells + 1 ≤ R.cells) (hRslots : slots + 6 ≤ R.slots) (hlocks : meth.locks = false)
    (hx : ∀ t : State, s.vm.Alike t.vm → H.size ≤ t.heap.size → (∀ q : Nat, q < H.size → t.heap[q]? = H[q]?) → XC cls s t)
    (hf : ∀ z ∈ locs, free z.base) (hc : cells + 1 ≤ mc) (hs : slots + 6 ≤ ms) :
    W p l e R s m args below meth c H locs cells slots (vx_MQ below Qc XC args s mc ms free) (F0 m pc ls rest) := by
  intro T hT X
  have htr : e.platform.stackTraces = false := (show e.platform.stackTraces = l.stackTraces by rw [X.admits.platform]).trans hl
  have Y := vx_rebase X (R' := { frames := R.frames, locals := R.locals, cells := 1, slots := 6 }) (Nat.le_refl _) (Nat.le_refl _) hRcells hRslots
  obtain ⟨s', hA⟩ : ∃ z, z = (T.setVm s.vm).setFrames (.invoking m args :: below) := ⟨_, rfl⟩
  rw [← hA] at Y
  have hvm : s'.vm = s.vm := by rw [hA]; rfl
  have hhp : s'.heap = H := by rw [hA]; exact hT
  have hW0 : s.WarmedH s'.vm := by rw [hvm]; exact State.WarmedH.refl s
  have hat' : ∀ w ∈ vx_atS own ic cls names, w.before args s' = true := fun w hw => vx_ot_at hW0 hvm.symm (hgood w (List.mem_cons_of_mem _ (List.mem_cons_of_mem _ hw))) (hat w hw)
  have hk' : (Cond.classLink own ik cls).before args s' = true := vx_ot_at hW0 hvm.symm (hgood _ List.mem_cons_self) hk
  have hini' : (Cond.initialized cls).before args s' = true := vx_ot_at hW0 hvm.symm (hgood _ (List.mem_cons_of_mem _ List.mem_cons_self)) hini
  have hU' : vx_Zq Bundle.tN "UNASSIGNED_STACK" Bundle.steD A s' s'.heap := by rw [hhp]; exact vx_Zq.moved hW0.alike (hU.kept hS.2.1)
  have hN' : vx_Zq Bundle.tN "SUPPRESSED_SENTINEL" Bundle.listD A s' s'.heap := by rw [hhp]; exact vx_Zq.moved hW0.alike (hN.kept hS.2.1)
  have h : ∀ w ∈ Bundle.ownAtoms own ic cls names, w.before args s' = true := vx_own hat' (vx_isRefq hU'.1) (vx_isRefq hN'.1) hU'.2.word hN'.2.word
  have hown' : s'.vm.findClass own = some m.cls := by rw [hvm]; exact hown
  have hins : (Cond.instantiable cls 6).before args s' = true := h _ (by simp [Bundle.ownAtoms])
  obtain ⟨vm₁, cX, kX, hfX, hkX, -, -, X₁, st1⟩ := Y.newCold hexec (own := own) (C := cls) (index := ik) (n := 6) hown' hk' hins hini'
    (g := F0 m pc ls rest) rfl (by rw [hb]; exact d0) (Nat.le_refl _) (Nat.le_refl _)
  generalize hT1 : (T.setVm vm₁).pushCell { cls := cX, slots := kX.instanceTypes.map defaultValue, vm := .none } = T1 at X₁ st1
  have hcat : (Value.ref T.heap.size).category = 1 := rfl
  have hcellA : T1.heap[T.heap.size]? = some (freshCell cX kX) := by rw [← hT1]; exact State.heap_pushCell_size _ _
  have d3' : decode c.code (pc + 3) = .ok (.dup, 1) := by rw [hb]; exact d3
  have d4' : decode c.code (pc + 4) = .ok (.ldc is, 2) := by rw [hb]; exact d4
  have hstr' : vk_R own is text sa s' := vk_R.warm hW0 hstr
  obtain ⟨U, hsteps, hrun, hend, hW, hsame, ce, hce, hO⟩ := X₁.ctorThrowS hexec htr (own := own) (cls := cls) (names := names) (ic := ic) hown' hcls hnames h (fun x hx => nomatch hx) hfX hkX hcellA (by rw [hhp, hT]; exact Nat.le_refl _) (msg := .ref sa) rfl
    (g := { method := m, pc := pc + 6, locals := ls, stack := .ref sa :: .ref T.heap.size :: .ref T.heap.size :: rest, locked := none }) rfl hsize rfl rfl (rest := rest) rfl
    (by rw [hb]; exact d6) (by rw [hb]; exact d9) hout hRframes (by simp only [List.map_cons, List.sum_cons, hcat]; omega) hlocks
  obtain ⟨f1, f2⟩ := vx_frame hsame
  rw [hhp] at f1 f2
  have hWs : s.WarmedH U.vm := State.WarmedH.trans hW0 hW
  have hcl : s.vm.findClass cls = some ce.cls := by
    have h9 := hO.cls
    rw [hvm] at h9
    exact h9
  have hall : s.sameButNew ({ U with vm := s.vm } : State) locs mc ms := by
    subst hA
    obtain ⟨e1, e2⟩ := hsame
    rw [State.setFrames_setFrames] at e1
    have h2 : (T.setVm s.vm).sameButNew ({ U with vm := s.vm } : State) [] (0 + 1) (0 + 6) := ⟨e1, e2⟩
    have h3 := X.same.trans h2
    rw [List.append_nil] at h3
    exact h3.mono hc hs
  refine ⟨U, ?_, .threw T.heap.size, hrun, hend, Or.inr ⟨T.heap.size, rfl, cls, ce, locs, hx U hWs.alike f1 (fun q hq => f2 q hq (fun z hz => nomatch hz)), hce, hO.vm, hcl, hWs, hall, hf⟩⟩
  refine st1 _ ?_
  show Steps p.tables e below (T1.setTop { method := m, pc := pc + 3, locals := ls, stack := .ref T.heap.size :: rest, locked := none }) _
  jvm_step X₁.here [X₁.here.top, hexec, d3', Value.category]
  exact X₁.ldcString hexec (own := own) (text := text) (index := is) (a := sa) hown' hstr'.1 hstr'.2
    (g := { method := m, pc := pc + 4, locals := ls, stack := .ref T.heap.size :: .ref T.heap.size :: rest, locked := none }) rfl d4' _ hsteps
/-- 'throw new E("text")', the text by a wide index -/
theorem vx_throwSW {cc : ByteArray} {pc : Nat} (hexec : p.tables.exec = Jvm.exec) (hb : c.code = cc) (hl : l.stackTraces = false) {own cls text : String} {names : List String} {ik is ic mc ms sa : Nat} {A : Nat → Prop}
    (hown : s.vm.findClass own = some m.cls) (hcls : Bundle.fit cls = true) (hnames : ∀ n ∈ names, Bundle.fit n = true)
    (hk : (Cond.classLink own ik cls).before args s = true) (hini : (Cond.initialized cls).before args s = true) (hstr : vk_R own is text sa s) (hat : ∀ w ∈ vx_atS own ic cls names, w.before args s = true)
    (hgood : ∀ w ∈ Cond.classLink own ik cls :: Cond.initialized cls :: vx_atS own ic cls names, vx_ot w = true)
    (hU : vx_Zq Bundle.tN "UNASSIGNED_STACK" Bundle.steD A s s.heap) (hN : vx_Zq Bundle.tN "SUPPRESSED_SENTINEL" Bundle.listD A s s.heap) (hS : va_S A s.heap H locs) (hsize : ls.size = c.maxLocals)
    (d0 : decode cc pc = .ok (.new ik, 3)) (d3 : decode cc (pc + 3) = .ok (.dup, 1)) (d4 : decode cc (pc + 4) = .ok (.ldc_w is, 3)) (d7 : decode cc (pc + 7) = .ok (.invokespecial ic, 3)) (d10 : decode cc (pc + 10) = .ok (.athrow, 1))
    (hout : ∀ x ∈ c.exceptionTable.toList, covers x (pc + 10) = false)
    (hRframes : names.length + 3 < R.frames) (hRlocals : (rest.map fun v => v.category).sum + (13 * (names.length + 1) + 43) ≤ R.locals) (hRcells : cells + 1 ≤ R.cells) (hRslots : slots + 6 ≤ R.slots) (hlocks : meth.locks = false)
    (hx : ∀ t : State, s.vm.Alike t.vm → H.size ≤ t.heap.size → (∀ q : Nat, q < H.size → t.heap[q]? = H[q]?) → XC cls s t)
    (hf : ∀ z ∈ locs, free z.base) (hc : cells + 1 ≤ mc) (hs : slots + 6 ≤ ms) :
    W p l e R s m args below meth c H locs cells slots (vx_MQ below Qc XC args s mc ms free) (F0 m pc ls rest) := by
  intro T hT X
  have htr : e.platform.stackTraces = false := (show e.platform.stackTraces = l.stackTraces by rw [X.admits.platform]).trans hl
  have Y := vx_rebase X (R' := { frames := R.frames, locals := R.locals, cells := 1, slots := 6 }) (Nat.le_refl _) (Nat.le_refl _) hRcells hRslots
  obtain ⟨s', hA⟩ : ∃ z, z = (T.setVm s.vm).setFrames (.invoking m args :: below) := ⟨_, rfl⟩
  rw [← hA] at Y
  have hvm : s'.vm = s.vm := by rw [hA]; rfl
  have hhp : s'.heap = H := by rw [hA]; exact hT
  have hW0 : s.WarmedH s'.vm := by rw [hvm]; exact State.WarmedH.refl s
  have hat' : ∀ w ∈ vx_atS own ic cls names, w.before args s' = true := fun w hw => vx_ot_at hW0 hvm.symm (hgood w (List.mem_cons_of_mem _ (List.mem_cons_of_mem _ hw))) (hat w hw)
  have hk' : (Cond.classLink own ik cls).before args s' = true := vx_ot_at hW0 hvm.symm (hgood _ List.mem_cons_self) hk
  have hini' : (Cond.initialized cls).before args s' = true := vx_ot_at hW0 hvm.symm (hgood _ (List.mem_cons_of_mem _ List.mem_cons_self)) hini
  have hU' : vx_Zq Bundle.tN "UNASSIGNED_STACK" Bundle.steD A s' s'.heap := by rw [hhp]; exact vx_Zq.moved hW0.alike (hU.kept hS.2.1)
  have hN' : vx_Zq Bundle.tN "SUPPRESSED_SENTINEL" Bundle.listD A s' s'.heap := by rw [hhp]; exact vx_Zq.moved hW0.alike (hN.kept hS.2.1)
  have h : ∀ w ∈ Bundle.ownAtoms own ic cls names, w.before args s' = true := vx_own hat' (vx_isRefq hU'.1) (vx_isRefq hN'.1) hU'.2.word hN'.2.word
  have hown' : s'.vm.findClass own = some m.cls := by rw [hvm]; exact hown
  have hins : (Cond.instantiable cls 6).before args s' = true := h _ (by simp [Bundle.ownAtoms])
  obtain ⟨vm₁, cX, kX, hfX, hkX, -, -, X₁, st1⟩ := Y.newCold hexec (own := own) (C := cls) (index := ik) (n := 6) hown' hk' hins hini'
    (g := F0 m pc ls rest) rfl (by rw [hb]; exact d0) (Nat.le_refl _) (Nat.le_refl _)
  generalize hT1 : (T.setVm vm₁).pushCell { cls := cX, slots := kX.instanceTypes.map defaultValue, vm := .none } = T1 at X₁ st1
  have hcat : (Value.ref T.heap.size).category = 1 := rfl
  have hcellA : T1.heap[T.heap.size]? = some (freshCell cX kX) := by rw [← hT1]; exact State.heap_pushCell_size _ _
  have d3' : decode c.code (pc + 3) = .ok (.dup, 1) := by rw [hb]; exact d3
  have d4' : decode c.code (pc + 4) = .ok (.ldc_w is, 3) := by rw [hb]; exact d4
  have hstr' : vk_R own is text sa s' := vk_R.warm hW0 hstr
  obtain ⟨U, hsteps, hrun, hend, hW, hsame, ce, hce, hO⟩ := X₁.ctorThrowS hexec htr (own := own) (cls := cls) (names := names) (ic := ic) hown' hcls hnames h (fun x hx => nomatch hx) hfX hkX hcellA (by rw [hhp, hT]; exact Nat.le_refl _) (msg := .ref sa) rfl
    (g := { method := m, pc := pc + 7, locals := ls, stack := .ref sa :: .ref T.heap.size :: .ref T.heap.size :: rest, locked := none }) rfl hsize rfl rfl (rest := rest) rfl
    (by rw [hb]; exact d7) (by rw [hb]; exact d10) hout hRframes (by simp only [List.map_cons, List.sum_cons, hcat]; omega) hlocks
  obtain ⟨f1, f2⟩ := vx_frame hsame
  rw [hhp] at f1 f2
  have hWs : s.WarmedH U.vm := State.WarmedH.trans hW0 hW
  have hcl : s.vm.findClass cls = some ce.cls := by
    have h9 := hO.cls
    rw [hvm] at h9
    exact h9
  have hall : s.sameButNew ({ U with vm := s.vm } : State) locs mc ms := by
    subst hA
    obtain ⟨e1, e2⟩ := hsame
    rw [State.setFrames_setFrames] at e1
    have h2 : (T.setVm s.vm).sameButNew ({ U with vm := s.vm } : State) [] (0 + 1) (0 + 6) := ⟨e1, e2⟩
    have h3 := X.same.trans h2
    rw [List.append_nil] at h3
    exact h3.mono hc hs
  refine ⟨U, ?_, .threw T.heap.size, hrun, hend, Or.inr ⟨T.heap.size, rfl, cls, ce, locs, hx U hWs.alike f1 (fun q hq => f2 q hq (fun z hz => nomatch hz)), hce, hO.vm, hcl, hWs, hall, hf⟩⟩
  refine st1 _ ?_
  show Steps p.tables e below (T1.setTop { method := m, pc := pc + 3, locals := ls, stack := .ref T.heap.size :: rest, locked := none }) _
  jvm_step X₁.here [X₁.here.top, hexec, d3', Value.category]
  exact X₁.ldcStringW hexec (own := own) (text := text) (index := is) (a := sa) hown' hstr'.1 hstr'.2
    (g := { method := m, pc := pc + 4, locals := ls, stack := .ref T.heap.size :: .ref T.heap.size :: rest, locked := none }) rfl d4' _ hsteps
end Ends
section Bodies
variable {l : Launch}
theorem vx_ofW {y : MethodName} {ws ws' : List Cond} {rm : Room} {Pc : Array Value → State → Prop} {Qc : Array Value → State → Outcome → State → Prop} {XC : String → State → State → Prop} {mc ms : Nat} {free : Addr → Prop} {cc : ByteArray} {maxL : Nat} {ret : Option FieldType}
    (hy : plainName y.cls = true) (hw : ws = Cond.code y cc maxL ret :: ws')
    (body : ∀ p e s m args below meth c s₁, BodyLoose p l y (headSpec ws rm) cc maxL ret e s m args below meth c s₁ → c.maxLocals = maxL → (∀ x ∈ c.exceptionTable.toList, False) → Pc args s →
      W p l e (headSpec ws rm).room s m args below meth c s.heap [] 0 0 (vx_MQ below Qc XC args s mc ms free) (entryFrame m args maxL)) : vx_Met l y ws rm Pc Qc XC mc ms free := by
  refine MetFree.of_bodyS (code := cc) (maxLocals := maxL) (ret := ret) hy ?_ ?_
  · intro args s m h hn
    obtain ⟨meth, c, h1, h2, h3, h4, h5, h6, -, -⟩ := Cond.code_spec hn (atoms_spec (ws := ws) h _ (by rw [hw]; exact List.mem_cons_self))
    exact ⟨meth, c, h1, h2, h3, h4, h5, h6⟩
  · intro p e s m args below meth c s₁ B hml hP _
    have hh0 : s₁.heap = s.heap := by rw [B.state]; rfl
    have ht : ∀ x ∈ c.exceptionTable.toList, False := by
      obtain ⟨meth9, c9, h1, h2, -, -, -, -, h7, -⟩ := Cond.code_spec B.named (atoms_spec (ws := ws) B.pre _ (by rw [hw]; exact List.mem_cons_self))
      cases Option.some.inj (h1.symm.trans B.method)
      cases Option.some.inj (h2.symm.trans (Stand.of_body B).code)
      intro x hx
      rw [Array.isEmpty_iff.mp h7] at hx
      cases hx
    obtain ⟨t, a1, o, b1, b2, b3⟩ := body p e s m args below meth c s₁ B hml ht hP s₁ hh0 (Stand.of_body B)
    exact ⟨t, o, a1, b1, b2, b3⟩
/-- the table of a body with handlers -/
theorem vx_table {p : Program} {x y : MethodName} {S : Spec} {cc bytes : ByteArray} {maxL maxL' : Nat} {ret ret' : Option FieldType} {e : Env} {s s₁ : State} {m : MethodId} {args : Array Value} {below : List Frame} {meth : Method} {c : Code} {hh : List (Nat × Nat × Nat × Nat)}
    (B : BodyLoose p l y S cc maxL ret e s m args below meth c s₁) (h : (Cond.codeWith y bytes maxL' ret' hh).before args s = true) : c.exceptionTable.toList = tableOf hh := by
  obtain ⟨m9, meth9, c9, hn9, h1, h2, -, -, h6, -⟩ := Cond.codeWith_spec h
  cases Option.some.inj (hn9.symm.trans B.named)
  cases Option.some.inj (h1.symm.trans B.method)
  cases Option.some.inj (h2.symm.trans (Stand.of_body B).code)
  rw [← h6, table_eq]
end Bodies
end VXA
/-! ===== END ===== -/
/-! ===== BEGIN a static call of a method with an exception table ===== -/
section VXS
variable {p : Program} {l : Launch} {e : Env} {R : Room} {s : State} {m : MethodId} {args : Array Value} {below : List Frame} {meth : Method} {c : Code} {T : State} {H : Heap} {locs : List Loc} {cells slots : Nat}
abbrev vx_CSW (R : Room) (s : State) (args : Array Value) (own : String) (index : Nat) (y : MethodName) (bytes : ByteArray) (maxL : Nat) (ret : Option FieldType) (hh : List (Nat × Nat × Nat × Nat)) (ws : List Cond) (rm : Room) (mc ms n : Nat) : Prop :=
  (rm.cells = mc ∧ rm.slots = ms ∧ rm.frames + 1 ≤ R.frames ∧ 8 + (maxL + 11) + rm.locals ≤ R.locals ∧ (∀ w ∈ ws, ∀ (a' : Array Value) (U : State), s.WarmedH U.vm → w.before a' U = true) ∧ Cond.codeWith y bytes maxL ret hh ∈ ws) ∧
  (Cond.codeWith y bytes maxL ret hh).before args s = true ∧ (Cond.initialized y.cls).before args s = true ∧ (y.cls ≠ "java/lang/invoke/MethodHandle" ∧ y.cls ≠ "java/lang/invoke/VarHandle") ∧
  (∀ sig, parseMethodDescriptor y.desc = some sig → n = sig.parameters.length) ∧ (Cond.methodLink own index y).before args s = true ∧ (Cond.static y).before args s = true
theorem vx_cwSW {own : String} {index maxL mc ms : Nat} {y : MethodName} {bytes : ByteArray} {ret : Option FieldType} {hh : List (Nat × Nat × Nat × Nat)} {Ts ws ws' : List Cond} {rm : Room} (n : Nat) (ht : ∀ w ∈ Ts, w.before args s = true) (hT : GoodIn Ts (va_wsS own index y ws)) (hw : ws = Cond.codeWith y bytes maxL ret hh :: ws') (hrc : rm.cells = mc) (hrs : rm.slots = ms)
    (hd : y.cls ≠ "java/lang/invoke/MethodHandle" ∧ y.cls ≠ "java/lang/invoke/VarHandle" ∧ (parseMethodDescriptor y.desc).map (fun d => d.parameters.length) = some n) (hR : rm.frames + 1 ≤ R.frames ∧ 8 + (maxL + 11) + rm.locals ≤ R.locals) :
    vx_CSW R s args own index y bytes maxL ret hh ws rm mc ms n := by
  have ok : ∀ w ∈ va_wsS own index y ws, w.before args s = true := fun w h => ht w (hT w h).1
  have hG : GoodIn Ts ws := fun w h => hT w (by unfold va_wsS; exact List.mem_append_right _ h)
  have hc : Cond.codeWith y bytes maxL ret hh ∈ ws := by rw [hw]; exact List.mem_cons_self
  refine ⟨⟨hrc, hrs, hR.1, hR.2, pay_in ht hG, hc⟩, ht _ (hG _ hc).1, ok _ (by simp [va_wsS]), ⟨hd.1, hd.2.1⟩, fun sig h => ?_, ok _ (by simp [va_wsS]), ok _ (by simp [va_wsS])⟩
  have h2 := hd.2.2
  rw [h] at h2
  exact (Option.some.inj h2).symm
theorem vx_callSW (X : Stand p l e R s m args below meth c T locs cells slots) (hexec : p.tables.exec = Jvm.exec) {own : String} {index : Nat} {y : MethodName} {bytes : ByteArray} {maxL : Nat} {ret : Option FieldType} {hh : List (Nat × Nat × Nat × Nat)}
    (hown : s.vm.findClass own = some m.cls) (hlink : (Cond.methodLink own index y).before args s = true) (hstat : (Cond.static y).before args s = true) (hinit : (Cond.initialized y.cls).before args s = true)
    (hcode : (Cond.codeWith y bytes maxL ret hh).before args s = true) (hy : y.cls ≠ "java/lang/invoke/MethodHandle" ∧ y.cls ≠ "java/lang/invoke/VarHandle")
    {W9 : Nat} {Pre : Pt → Array Value → Prop} {Post : Pt → Array Value → Option Value → Pt → Prop} (hK : Back l R p e below s args y 3 W9 Pre Post)
    {g : JFrame} (hg : g.method = m) (hsize : g.locals.size = c.maxLocals) {argsL rest : List Value} (hlen : ∀ sig, parseMethodDescriptor y.desc = some sig → argsL.length = sig.parameters.length)
    (hstack : g.stack = argsL.reverse ++ rest) (hW : 2 * g.monitorRoom + (rest.map fun v => v.category).sum ≤ W9) (hdg : decode c.code g.pc = .ok (.invokestatic index, 3))
    (hpre : ∀ vm₁, s.WarmedH vm₁ → Pre ⟨T.setVm vm₁, locs, cells, slots⟩ argsL.toArray) :
    ∃ (v : Option Value) (vm₁ : Vm) (B : Pt), s.WarmedH vm₁ ∧ Stand p l e R s m args below meth c B.U B.locs B.cells B.slots ∧ Post ⟨T.setVm vm₁, locs, cells, slots⟩ argsL.toArray v B ∧
      ∀ target, Steps p.tables e below (B.U.setTop { g with pc := g.pc + 3, stack := v.toList ++ rest }) target → Steps p.tables e below (T.setTop g) target := by
  obtain ⟨mk, methM, cM, hnamed, hmethM, -, -, -, -, -, -, hsigM⟩ := Cond.codeWith_spec hcode
  have hstatic : methM.isStatic = true := Cond.static_spec hnamed hmethM hstat
  obtain ⟨kP, hkP, -⟩ := className_of_methodNamed hnamed
  have hinitP : kP.init = .initialized := Cond.initialized_spec (findClass_of_methodNamed hnamed) hkP hinit
  obtain ⟨vm₁, X₁, hstep₁⟩ := X.invokestatic hexec hown hlink hnamed hmethM hstatic hkP hinitP hy (g := g) hg (argsL := argsL) (rest := rest) (hlen _ hsigM) hstack hdg
  obtain ⟨v, B, X', hpost, hsteps⟩ := hK m meth c ⟨T.setVm vm₁, locs, cells, slots⟩ { g with stack := rest } (.invokestatic index) mk argsL.toArray X₁ hg hsize hdg hW (X₁.named hnamed) (hpre vm₁ X₁.warmed)
  exact ⟨v, vm₁, B, X₁.warmed, X', hpost, fun target h => hstep₁ _ fun acts => by rw [doInvoke_state]; exact hsteps.trans h⟩
theorem vx_runSW {y : MethodName} {bytes cc : ByteArray} {maxL nL mc ms n index : Nat} {ret : Option FieldType} {hh : List (Nat × Nat × Nat × Nat)} {ws : List Cond} {rm : Room} {Pc : Array Value → State → Prop} {Qc : Array Value → State → Outcome → State → Prop} {free : Addr → Prop} {Ts : List Cond} {own : String} {As rest : List Value} {g : JFrame}
    (S : CallFix p m c cc nL s args Ts own) (hM : Met l y ws rm Pc Qc mc ms free) (cw : vx_CSW R s args own index y bytes maxL ret hh ws rm mc ms n) (hp : PreS s H Pc As)
    (hg : g.method = m) (hn : As.length = n) (hsize : g.locals.size = nL) (hstack : g.stack = As.reverse ++ rest) (hW : 2 * g.monitorRoom + (rest.map fun v => v.category).sum ≤ 8) (hdg : decode cc g.pc = .ok (.invokestatic index, 3)) (hf : cells + mc ≤ R.cells ∧ slots + ms ≤ R.slots) :
    va_Run p l e R s m args below meth c H locs cells slots mc ms g rest (Qc As.toArray) (free) := by
  obtain ⟨⟨hrc, hrs, hfr, hlo, hws, hcw⟩, hcode, hini, hy, hlen, hl, hstt⟩ := cw
  have hK : Back l R p e below s args y 3 8 (PreOf R mc ms Pc) (PostOf Qc mc ms free) := va_backW (hh := hh) (bytes := bytes) (maxL := maxL) (ret := ret) hM hp.1 hrc hrs hfr hlo hws hcw (fun a' U hW => word_at hW (Or.inl (by first | rfl | simp [Cond.onTables, Cond.keeps, Cond.steady])) hini)
  obtain ⟨hx, hb, hml, ho, -⟩ := S
  intro T hT X
  obtain ⟨v, vm₁, ⟨U', l2, c2, s2⟩, hW₁, X', ⟨g', mk, t, L, e1, e2, hq, h1, hL, h2, h3⟩, st⟩ := vx_callSW X hx (hh := hh) (bytes := bytes) (maxL := maxL) (ret := ret) ho hl hstt hini hcode hy hK hg (hsize.trans hml.symm) (argsL := As) (rest := rest) (fun sig h => hn.trans (hlen sig h)) hstack hW (by rw [hb]; exact hdg)
    (fun vm₁ hW₁ => ⟨hf.1, hf.2, hp.2 (T.setVm vm₁) hT hW₁⟩)
  dsimp only [Pt.U, Pt.locs, Pt.cells, Pt.slots] at X' e1 e2 h1 h2 h3 st
  subst h1; subst h2; subst h3
  exact ⟨v, (T.setVm vm₁).calling g' mk As.toArray, t, U', L, hT, X', hL, e1, e2, hq, st⟩
/-- not caught here, past rows that name other classes: it goes on to the caller -/
theorem vx_outP {p : Program} {l : Launch} {e : Env} {R : Room} {s : State} {m : MethodId} {args : Array Value} {below : List Frame} {meth : Method} {c : Code} {H : Heap} {locs : List Loc} {cells slots : Nat} {free : Addr → Prop} {ls : Array Slot} {rest : List Value} {Qc : Array Value → State → Outcome → State → Prop} {XC : String → State → State → Prop}
    {pc : Nat} {own E : String} {ce : Cell} {q : Addr} {mc ms : Nat} (hown : s.vm.findClass own = some m.cls) (hlocks : meth.locks = false)
    (hpass : ∀ z ∈ c.exceptionTable.toList, covers z pc = false ∨ (z.catchType ≠ 0 ∧ ∃ nm : String, (Cond.classLink own z.catchType nm).before args s = true ∧ va_Nc E nm s)) (hcell : H[q]? = some ce) (hv : ce.vm = .none) (hcl : s.vm.findClass E = some ce.cls)
    (hx : ∀ t : State, t.heap = H → s.vm.Alike t.vm → XC E s t) (hf : ∀ z ∈ locs, free z.base) (hc : cells ≤ mc) (hs : slots ≤ ms) :
    vx_W p l e R s m args below meth c H locs cells slots (vx_MQ below Qc XC args s mc ms free) (F0 m pc ls rest) q := by
  intro T hT X
  have hpl : e.platform.magicAccessors = ({} : Platform).magicAccessors := by rw [X.admits.platform]
  obtain ⟨vm', hW', X', st⟩ := X.outThrough hlocks q (g := F0 m pc ls rest) rfl rfl rfl (cell := ce) (by rw [hT]; exact hcell) (by rw [hv]; rfl)
    (by obtain ⟨k9, h9, -⟩ := Vm.findClass_spec hcl; exact ⟨k9, h9⟩) (fun z hz => by
      rcases hpass z hz with h | ⟨hz0, nm, hl1, hn1⟩
      · exact Or.inl h
      · obtain ⟨c6, hc6, hcl6⟩ := Cond.classLink_spec hown hl1 e.platform hpl
        obtain ⟨a8, b8, h1, h2, h3⟩ := hn1
        cases Option.some.inj (h1.symm.trans hcl)
        cases Option.some.inj (h2.symm.trans hc6)
        exact Or.inr ⟨hz0, _, hcl6, h3⟩)
  obtain ⟨g₀, hfr⟩ := X'.frames_eq
  have hcell9 : ((T.setVm vm').setFrames (.throwing q :: below)).heap[q]? = some ce := by
    show T.heap[q]? = some ce
    rw [hT]; exact hcell
  have hend : Ended ((T.setVm vm').setFrames (.throwing q :: below)) below (.threw q) := State.frames_setFrames _ (State.cur_lt_of_frames hfr)
  refine ⟨(T.setVm vm').setFrames (.throwing q :: below), ?_, .threw q, X'.here.running, hend, Or.inr ⟨q, rfl, E, ce, locs, hx _ hT (X'.ends _).1.alike, hcell9, hv, hcl, (X'.ends _).1, (X'.ends _).2.mono hc hs, hf⟩⟩
  rw [X.pushThrowing_eq]
  exact st
/-- a thing of a world lies in the heap -/
theorem vx_lt {D : va_G} {cl : List vw_C} {ws : va_W} {H1 : Heap} (h : va_P D cl ws H1) {k : Nat} {q : Nat × va_E} (hk : ws[k]? = some q) : q.1 < H1.size := (h k q hk).lt
end VXS
/-! ===== END ===== -/
/-! ===== BEGIN methods with a table of their own: called by a name, returning or throwing ===== -/
section VXH
/-! vx_backW, vx_callVX, vx_callSX, vx_callVW, vx_runVW, vx_runVX, vx_runSX, vx_ofWH follow the same proofs as their sisters above (Free/Laws.lean, Shelf42/LK1.lean); vx_outP calls Shelf42/NT130.lean (outThrough). -/
section
variable {l : Launch} {R : Room} {p : Program} {e : Env} {below : List Frame} {s : State} {sargs : Array Value} {y : MethodName} {len W9 : Nat}
theorem vx_backW {ws : List Cond} {rm : Room} {Pc : Array Value → State → Prop} {Qc : Array Value → State → Outcome → State → Prop} {XC : String → State → State → Prop} {mc ms : Nat} {free : Addr → Prop} {bytes : ByteArray} {maxL : Nat} {ret : Option FieldType} {hh : List (Nat × Nat × Nat × Nat)}
    (hM : vx_Met l y ws rm Pc Qc XC mc ms free) (hblind : FrameBlind Pc) (hrc : rm.cells = mc) (hrs : rm.slots = ms)
    (hframes : rm.frames + 1 ≤ R.frames) (hlocals : W9 + (maxL + 11) + rm.locals ≤ R.locals)
    (hws : ∀ w ∈ ws, ∀ a' U, s.WarmedH U.vm → w.before a' U = true) (hcode : Cond.codeWith y bytes maxL ret hh ∈ ws) (hinit : ∀ a' U, s.WarmedH U.vm → (Cond.initialized y.cls).before a' U = true) :
    vx_Back l R p e below s sargs y len W9 (PreOf R mc ms Pc) (PostOf Qc mc ms free) (vx_Post XC mc ms free) := by
  intro m meth c A g ig mk a X hg hsize hdg hW hn hp
  have h1 : (headSpec ws rm).pre.before a A.U = true := atoms_intro fun w hw => hws w hw _ _ X.warmed
  have h2 : (Cond.codeWith y bytes maxL ret hh).before a A.U = true := hws _ hcode _ _ X.warmed
  have h3 : (Cond.initialized y.cls).before a A.U = true := hinit _ _ X.warmed
  have h4 : A.cells + (headSpec ws rm).room.cells ≤ R.cells := by rw [show (headSpec ws rm).room.cells = mc from hrc]; exact hp.1
  have h5 : A.slots + (headSpec ws rm).room.slots ≤ R.slots := by rw [show (headSpec ws rm).room.slots = ms from hrs]; exact hp.2.1
  have hPc : Pc a (A.U.calling g mk a) := hblind _ _ _ _ hp.2.2
  obtain ⟨U, Ls, c0, s0⟩ := A
  dsimp only [Pt.U, Pt.locs, Pt.cells, Pt.slots] at h1 h2 h3 h4 h5 X hn hPc ⊢
  obtain ⟨m9, methY, cY, hn9, hmY, hcY, -, hlY, -⟩ := Cond.codeWith_spec h2
  cases Option.some.inj (hn9.symm.trans hn)
  obtain ⟨kY, hkY, -⟩ := className_of_methodNamed hn
  have hinitY : kY.init = .initialized := Cond.initialized_spec (findClass_of_methodNamed hn) hkY h3
  have h : At U g.method c below := by rw [hg]; exact X.here
  have hlocals9 : W9 + (maxL + 11) + (headSpec ws rm).room.locals ≤ R.locals := hlocals
  have happ : (headSpec ws rm).appliesLoose y e.platform (U.calling g mk a) = true :=
    Spec.appliesLoose_calling (g := g) h hdg hn hkY hinitY
      (X.room_calling (g := g) (R' := (headSpec ws rm).room) hsize hmY hcY hframes (by rw [hlY]; omega) h4 h5) h1
  obtain ⟨mid, hmid⟩ := h.above
  have hfr : (U.setTop g).frames = (.java g :: mid) ++ below := by rw [State.frames_setTop' g h.top, hmid]; rfl
  obtain ⟨o, s₂, hsteps, -, hend, hq⟩ := Steps.callFree hM p X.admits X.cas X.clock (acts := []) hfr happ hPc trivial
  have hq' : vx_Q Qc XC mc ms free a (U.calling g mk a) o s₂ := hq
  rw [State.frames_setTop' g h.top] at hend
  obtain ⟨g₀, hg0⟩ := Option.isSome_iff_exists.mp h.top
  obtain ⟨r, hr⟩ := State.topJava?_eq_some.mp hg0
  have hr' : (({ U with heap := s₂.heap, slotsUsed := s₂.slotsUsed } : State).setVm s₂.vm).frames = .java g₀ :: r := hr
  rcases hq' with ⟨hqc, L, hfe, hL⟩ | ⟨q, rfl, E, ce, L, hx, hce, hcv, hcl, hW₂, hsm, hL⟩
  · obtain ⟨⟨v, rfl⟩, hW₂, e2, q2, q3, q4, q5, q6⟩ := id hfe
    have e3 : s₂ = ({ (U.calling g mk a).setFrames s₂.frames with heap := s₂.heap, slotsUsed := s₂.slotsUsed } : State).setVm s₂.vm := by
      have : s₂ = ({ s₂ with vm := (U.calling g mk a).vm } : State).setVm s₂.vm := rfl
      rw [e2] at this
      exact this
    obtain ⟨c₂, i₂, len₂, hc₂, hd₂, hf₂⟩ := hend
    have hW' : U.WarmedH s₂.vm := hW₂
    have hcc : c₂ = c := by
      have h1 : s₂.code? g.method = U.code? g.method := by
        rw [State.code?_eq, State.code?_eq, hW'.alike.method?]
      exact Option.some.inj (hc₂.symm.trans (h1.trans h.code))
    subst hcc
    have hlen : len₂ = len := by rw [hdg] at hd₂; cases hd₂; rfl
    subst hlen
    have hs₂ : s₂ = (({ U with heap := s₂.heap, slotsUsed := s₂.slotsUsed } : State).setVm s₂.vm).setTop { g with pc := g.pc + len₂, stack := v.toList ++ g.stack } := by
      refine e3.trans ?_
      rw [hf₂, State.calling_eq h.top, State.setFrames_setFrames, State.setTop_of_frames _ hr', hr]
      rfl
    have hsame : U.sameButNew ({ U with heap := s₂.heap, slotsUsed := s₂.slotsUsed } : State) L mc ms := by
      refine ⟨?_, q2, q3, q4, q5, q6⟩
      obtain ⟨t, ht, -⟩ := State.frames_cons hr
      show ({ U with heap := s₂.heap, slotsUsed := s₂.slotsUsed } : State) = { U.setFrames U.frames with heap := s₂.heap, slotsUsed := s₂.slotsUsed }
      rw [State.setFrames_self ht]
    subst hg
    refine Or.inl ⟨v, ⟨(({ U with heap := s₂.heap, slotsUsed := s₂.slotsUsed } : State).setVm s₂.vm), Ls ++ L, c0 + mc, s0 + ms⟩,
      ⟨X.admits, X.cas, X.clock, X.frames, X.room, X.hears, X.method, X.code, (X.here.setHeapUsed s₂.heap s₂.slotsUsed).setVm hW'.alike, X.tail, State.WarmedH.trans X.warmed hW', X.limits, X.bytes, X.same.trans (hsame.setVm s.vm)⟩,
      ⟨g, mk, s₂, L, rfl, rfl, hqc, rfl, hL, rfl, rfl⟩, ?_⟩
    show Steps p.tables e below _ ((({ U with heap := s₂.heap, slotsUsed := s₂.slotsUsed } : State).setVm s₂.vm).setTop { g with pc := g.pc + len₂, stack := v.toList ++ g.stack })
    rw [← hs₂]
    exact hsteps
  · obtain ⟨e2, q2, q3, q4, q5, q6⟩ := id hsm
    have e3 : s₂ = ({ (U.calling g mk a).setFrames s₂.frames with heap := s₂.heap, slotsUsed := s₂.slotsUsed } : State).setVm s₂.vm := by
      have : s₂ = ({ s₂ with vm := (U.calling g mk a).vm } : State).setVm s₂.vm := rfl
      rw [e2] at this
      exact this
    have hf₂ : s₂.frames = .throwing q :: .java g :: U.frames.tail := hend
    have hW' : U.WarmedH s₂.vm := hW₂
    have hs₂ : s₂ = ((({ U with heap := s₂.heap, slotsUsed := s₂.slotsUsed } : State).setVm s₂.vm).setTop g).pushFrame (.throwing q) := by
      refine e3.trans ?_
      rw [hf₂, State.calling_eq h.top, State.setFrames_setFrames, State.pushFrame, State.frames_setTop _ hr', State.setTop_of_frames _ hr', State.setFrames_setFrames, hr]
      rfl
    have hsame : U.sameButNew ({ U with heap := s₂.heap, slotsUsed := s₂.slotsUsed } : State) L mc ms := by
      refine ⟨?_, q2, q3, q4, q5, q6⟩
      obtain ⟨t, ht, -⟩ := State.frames_cons hr
      show ({ U with heap := s₂.heap, slotsUsed := s₂.slotsUsed } : State) = { U.setFrames U.frames with heap := s₂.heap, slotsUsed := s₂.slotsUsed }
      rw [State.setFrames_self ht]
    subst hg
    refine Or.inr ⟨q, ⟨(({ U with heap := s₂.heap, slotsUsed := s₂.slotsUsed } : State).setVm s₂.vm), Ls ++ L, c0 + mc, s0 + ms⟩,
      ⟨X.admits, X.cas, X.clock, X.frames, X.room, X.hears, X.method, X.code, (X.here.setHeapUsed s₂.heap s₂.slotsUsed).setVm hW'.alike, X.tail, State.WarmedH.trans X.warmed hW', X.limits, X.bytes, X.same.trans (hsame.setVm s.vm)⟩,
      ⟨g, mk, s₂, L, E, ce, rfl, rfl, hx, hce, hcv, hcl, rfl, hL, rfl, rfl⟩, ?_⟩
    show Steps p.tables e below _ (((({ U with heap := s₂.heap, slotsUsed := s₂.slotsUsed } : State).setVm s₂.vm).setTop g).pushFrame (.throwing q))
    rw [← hs₂]
    exact hsteps
end
variable {p : Program} {l : Launch} {e : Env} {R : Room} {s : State} {m : MethodId} {args : Array Value} {below : List Frame} {meth : Method} {c : Code} {T : State} {H : Heap} {locs : List Loc} {cells slots : Nat}
theorem vx_callVX (X : Stand p l e R s m args below meth c T locs cells slots) (hexec : p.tables.exec = Jvm.exec) {own C : String} {index : Nat} {y : MethodName} {bytes : ByteArray} {maxL : Nat} {ret : Option FieldType} {hh : List (Nat × Nat × Nat × Nat)}
    (hown : s.vm.findClass own = some m.cls) (hlink : (Cond.methodLink own index y).before args s = true) (hinst : (Cond.instanceMethod y).before args s = true) (hsel : (Cond.selects C y y).before args s = true)
    (hcode : (Cond.codeWith y bytes maxL ret hh).before args s = true) (hy : y.cls ≠ "java/lang/invoke/MethodHandle" ∧ y.cls ≠ "java/lang/invoke/VarHandle")
    {W9 : Nat} {Pre : Pt → Array Value → Prop} {Post : Pt → Array Value → Option Value → Pt → Prop} {PostX : Pt → Array Value → Addr → Pt → Prop} (hK : vx_Back l R p e below s args y 3 W9 Pre Post PostX)
    {b : Addr} {cellB : Cell} (hcell : T.heap[b]? = some cellB) (hobj : cellB.vm.isStatics = false) (hcls : s.vm.findClass C = some cellB.cls)
    {g : JFrame} (hg : g.method = m) (hsize : g.locals.size = c.maxLocals) {argsL rest : List Value} (hlen : ∀ sig, parseMethodDescriptor y.desc = some sig → argsL.length = sig.parameters.length)
    (hstack : g.stack = argsL.reverse ++ .ref b :: rest) (hW : 2 * g.monitorRoom + (rest.map fun v => v.category).sum ≤ W9) (hdg : decode c.code g.pc = .ok (.invokevirtual index, 3))
    (hpre : ∀ vm₁, s.WarmedH vm₁ → Pre ⟨T.setVm vm₁, locs, cells, slots⟩ (Value.ref b :: argsL).toArray) :
    (∃ (v : Option Value) (vm₁ : Vm) (B : Pt), s.WarmedH vm₁ ∧ Stand p l e R s m args below meth c B.U B.locs B.cells B.slots ∧ Post ⟨T.setVm vm₁, locs, cells, slots⟩ (Value.ref b :: argsL).toArray v B ∧
      ∀ target, Steps p.tables e below (B.U.setTop { g with pc := g.pc + 3, stack := v.toList ++ rest }) target → Steps p.tables e below (T.setTop g) target) ∨
    (∃ (q : Addr) (vm₁ : Vm) (B : Pt), s.WarmedH vm₁ ∧ Stand p l e R s m args below meth c B.U B.locs B.cells B.slots ∧ PostX ⟨T.setVm vm₁, locs, cells, slots⟩ (Value.ref b :: argsL).toArray q B ∧
      Steps p.tables e below (T.setTop g) ((B.U.setTop { g with stack := rest }).pushFrame (.throwing q))) := by
  obtain ⟨mk, methM, hnamed, hmethM, hstM, habM⟩ := Cond.instanceMethod_spec hinst
  obtain ⟨m8, methM', cM, hn8, hmethM', -, -, -, -, -, -, hsigM⟩ := Cond.codeWith_spec hcode
  cases Option.some.inj (hn8.symm.trans hnamed)
  cases hmethM.symm.trans hmethM'
  obtain ⟨c2, r2, m2, q1, q2, q3, q4, kP, hkP, hkPi⟩ := Cond.selects_spec hsel
  cases hcls.symm.trans q1
  cases (State.methodFound?_of_named hnamed hy).symm.trans q2
  cases hnamed.symm.trans q3
  have hselP : selectMethod e.platform s.vm cellB.cls mk = .method mk := by rw [Launch.admits_selectMethod X.admits]; exact q4
  obtain ⟨vm₁, X₁, hstep₁⟩ := X.invokevirtual hexec hown hlink hnamed hmethM hstM hkP hkPi hy (a := b) (cell := cellB) hcell
    (fun z h => by rw [h] at hobj; cases hobj) hselP hmethM habM hkP hkPi (g := g) hg (argsL := argsL) (rest := rest) (hlen _ hsigM) hstack hdg
  rcases hK m meth c ⟨T.setVm vm₁, locs, cells, slots⟩ { g with stack := rest } (.invokevirtual index) mk (Value.ref b :: argsL).toArray X₁ hg hsize hdg hW (X₁.named hnamed) (hpre vm₁ X₁.warmed) with ⟨v, B, X', hpost, hsteps⟩ | ⟨q, B, X', hpost, hsteps⟩
  · exact Or.inl ⟨v, vm₁, B, X₁.warmed, X', hpost, fun target h => hstep₁ _ fun acts => by rw [doInvoke_state]; exact hsteps.trans h⟩
  · exact Or.inr ⟨q, vm₁, B, X₁.warmed, X', hpost, hstep₁ _ fun acts => by rw [doInvoke_state]; exact hsteps⟩
theorem vx_callSX (X : Stand p l e R s m args below meth c T locs cells slots) (hexec : p.tables.exec = Jvm.exec) {own : String} {index : Nat} {y : MethodName} {bytes : ByteArray} {maxL : Nat} {ret : Option FieldType} {hh : List (Nat × Nat × Nat × Nat)}
    (hown : s.vm.findClass own = some m.cls) (hlink : (Cond.methodLink own index y).before args s = true) (hstat : (Cond.static y).before args s = true) (hinit : (Cond.initialized y.cls).before args s = true)
    (hcode : (Cond.codeWith y bytes maxL ret hh).before args s = true) (hy : y.cls ≠ "java/lang/invoke/MethodHandle" ∧ y.cls ≠ "java/lang/invoke/VarHandle")
    {W9 : Nat} {Pre : Pt → Array Value → Prop} {Post : Pt → Array Value → Option Value → Pt → Prop} {PostX : Pt → Array Value → Addr → Pt → Prop} (hK : vx_Back l R p e below s args y 3 W9 Pre Post PostX)
    {g : JFrame} (hg : g.method = m) (hsize : g.locals.size = c.maxLocals) {argsL rest : List Value} (hlen : ∀ sig, parseMethodDescriptor y.desc = some sig → argsL.length = sig.parameters.length)
    (hstack : g.stack = argsL.reverse ++ rest) (hW : 2 * g.monitorRoom + (rest.map fun v => v.category).sum ≤ W9) (hdg : decode c.code g.pc = .ok (.invokestatic index, 3))
    (hpre : ∀ vm₁, s.WarmedH vm₁ → Pre ⟨T.setVm vm₁, locs, cells, slots⟩ argsL.toArray) :
    (∃ (v : Option Value) (vm₁ : Vm) (B : Pt), s.WarmedH vm₁ ∧ Stand p l e R s m args below meth c B.U B.locs B.cells B.slots ∧ Post ⟨T.setVm vm₁, locs, cells, slots⟩ argsL.toArray v B ∧
      ∀ target, Steps p.tables e below (B.U.setTop { g with pc := g.pc + 3, stack := v.toList ++ rest }) target → Steps p.tables e below (T.setTop g) target) ∨
    (∃ (q : Addr) (vm₁ : Vm) (B : Pt), s.WarmedH vm₁ ∧ Stand p l e R s m args below meth c B.U B.locs B.cells B.slots ∧ PostX ⟨T.setVm vm₁, locs, cells, slots⟩ argsL.toArray q B ∧
      Steps p.tables e below (T.setTop g) ((B.U.setTop { g with stack := rest }).pushFrame (.throwing q))) := by
  obtain ⟨mk, methM, cM, hnamed, hmethM, -, -, -, -, -, -, hsigM⟩ := Cond.codeWith_spec hcode
  have hstatic : methM.isStatic = true := Cond.static_spec hnamed hmethM hstat
  obtain ⟨kP, hkP, -⟩ := className_of_methodNamed hnamed
  have hinitP : kP.init = .initialized := Cond.initialized_spec (findClass_of_methodNamed hnamed) hkP hinit
  obtain ⟨vm₁, X₁, hstep₁⟩ := X.invokestatic hexec hown hlink hnamed hmethM hstatic hkP hinitP hy (g := g) hg (argsL := argsL) (rest := rest) (hlen _ hsigM) hstack hdg
  rcases hK m meth c ⟨T.setVm vm₁, locs, cells, slots⟩ { g with stack := rest } (.invokestatic index) mk argsL.toArray X₁ hg hsize hdg hW (X₁.named hnamed) (hpre vm₁ X₁.warmed) with ⟨v, B, X', hpost, hsteps⟩ | ⟨q, B, X', hpost, hsteps⟩
  · exact Or.inl ⟨v, vm₁, B, X₁.warmed, X', hpost, fun target h => hstep₁ _ fun acts => by rw [doInvoke_state]; exact hsteps.trans h⟩
  · exact Or.inr ⟨q, vm₁, B, X₁.warmed, X', hpost, hstep₁ _ fun acts => by rw [doInvoke_state]; exact hsteps⟩
theorem vx_callVW (X : Stand p l e R s m args below meth c T locs cells slots) (hexec : p.tables.exec = Jvm.exec) {own C : String} {index : Nat} {y : MethodName} {bytes : ByteArray} {maxL : Nat} {ret : Option FieldType} {hh : List (Nat × Nat × Nat × Nat)}
    (hown : s.vm.findClass own = some m.cls) (hlink : (Cond.methodLink own index y).before args s = true) (hinst : (Cond.instanceMethod y).before args s = true) (hsel : (Cond.selects C y y).before args s = true)
    (hcode : (Cond.codeWith y bytes maxL ret hh).before args s = true) (hy : y.cls ≠ "java/lang/invoke/MethodHandle" ∧ y.cls ≠ "java/lang/invoke/VarHandle")
    {W9 : Nat} {Pre : Pt → Array Value → Prop} {Post : Pt → Array Value → Option Value → Pt → Prop} (hK : Back l R p e below s args y 3 W9 Pre Post)
    {b : Addr} {cellB : Cell} (hcell : T.heap[b]? = some cellB) (hobj : cellB.vm.isStatics = false) (hcls : s.vm.findClass C = some cellB.cls)
    {g : JFrame} (hg : g.method = m) (hsize : g.locals.size = c.maxLocals) {argsL rest : List Value} (hlen : ∀ sig, parseMethodDescriptor y.desc = some sig → argsL.length = sig.parameters.length)
    (hstack : g.stack = argsL.reverse ++ .ref b :: rest) (hW : 2 * g.monitorRoom + (rest.map fun v => v.category).sum ≤ W9) (hdg : decode c.code g.pc = .ok (.invokevirtual index, 3))
    (hpre : ∀ vm₁, s.WarmedH vm₁ → Pre ⟨T.setVm vm₁, locs, cells, slots⟩ (Value.ref b :: argsL).toArray) :
    ∃ (v : Option Value) (vm₁ : Vm) (B : Pt), s.WarmedH vm₁ ∧ Stand p l e R s m args below meth c B.U B.locs B.cells B.slots ∧ Post ⟨T.setVm vm₁, locs, cells, slots⟩ (Value.ref b :: argsL).toArray v B ∧
      ∀ target, Steps p.tables e below (B.U.setTop { g with pc := g.pc + 3, stack := v.toList ++ rest }) target → Steps p.tables e below (T.setTop g) target := by
  obtain ⟨mk, methM, hnamed, hmethM, hstM, habM⟩ := Cond.instanceMethod_spec hinst
  obtain ⟨m8, methM', cM, hn8, hmethM', -, -, -, -, -, -, hsigM⟩ := Cond.codeWith_spec hcode
  cases Option.some.inj (hn8.symm.trans hnamed)
  cases hmethM.symm.trans hmethM'
  obtain ⟨c2, r2, m2, q1, q2, q3, q4, kP, hkP, hkPi⟩ := Cond.selects_spec hsel
  cases hcls.symm.trans q1
  cases (State.methodFound?_of_named hnamed hy).symm.trans q2
  cases hnamed.symm.trans q3
  have hselP : selectMethod e.platform s.vm cellB.cls mk = .method mk := by rw [Launch.admits_selectMethod X.admits]; exact q4
  obtain ⟨vm₁, X₁, hstep₁⟩ := X.invokevirtual hexec hown hlink hnamed hmethM hstM hkP hkPi hy (a := b) (cell := cellB) hcell
    (fun z h => by rw [h] at hobj; cases hobj) hselP hmethM habM hkP hkPi (g := g) hg (argsL := argsL) (rest := rest) (hlen _ hsigM) hstack hdg
  obtain ⟨v, B, X', hpost, hsteps⟩ := hK m meth c ⟨T.setVm vm₁, locs, cells, slots⟩ { g with stack := rest } (.invokevirtual index) mk (Value.ref b :: argsL).toArray X₁ hg hsize hdg hW (X₁.named hnamed) (hpre vm₁ X₁.warmed)
  exact ⟨v, vm₁, B, X₁.warmed, X', hpost, fun target h => hstep₁ _ fun acts => by rw [doInvoke_state]; exact hsteps.trans h⟩
abbrev vx_CVW (R : Room) (s : State) (args : Array Value) (own C : String) (index : Nat) (y : MethodName) (bytes : ByteArray) (maxL : Nat) (ret : Option FieldType) (hh : List (Nat × Nat × Nat × Nat)) (ws : List Cond) (rm : Room) (mc ms n : Nat) : Prop :=
  (rm.cells = mc ∧ rm.slots = ms ∧ rm.frames + 1 ≤ R.frames ∧ 8 + (maxL + 11) + rm.locals ≤ R.locals ∧ (∀ w ∈ ws, ∀ (a' : Array Value) (U : State), s.WarmedH U.vm → w.before a' U = true) ∧ Cond.codeWith y bytes maxL ret hh ∈ ws) ∧
  (Cond.codeWith y bytes maxL ret hh).before args s = true ∧ (Cond.initialized y.cls).before args s = true ∧ (y.cls ≠ "java/lang/invoke/MethodHandle" ∧ y.cls ≠ "java/lang/invoke/VarHandle") ∧
  (∀ sig, parseMethodDescriptor y.desc = some sig → n = sig.parameters.length) ∧ (Cond.methodLink own index y).before args s = true ∧ (Cond.instanceMethod y).before args s = true ∧ (Cond.selects C y y).before args s = true
theorem vx_cwVW {own C : String} {index maxL mc ms : Nat} {y : MethodName} {bytes : ByteArray} {ret : Option FieldType} {hh : List (Nat × Nat × Nat × Nat)} {Ts ws ws' : List Cond} {rm : Room} (n : Nat) (ht : ∀ w ∈ Ts, w.before args s = true) (hT : GoodIn Ts (wsV own index C y ws)) (hw : ws = Cond.codeWith y bytes maxL ret hh :: ws') (hrc : rm.cells = mc) (hrs : rm.slots = ms)
    (hd : y.cls = C ∧ y.cls ≠ "java/lang/invoke/MethodHandle" ∧ y.cls ≠ "java/lang/invoke/VarHandle" ∧ (parseMethodDescriptor y.desc).map (fun d => d.parameters.length) = some n) (hR : rm.frames + 1 ≤ R.frames ∧ 8 + (maxL + 11) + rm.locals ≤ R.locals) :
    vx_CVW R s args own C index y bytes maxL ret hh ws rm mc ms n := by
  obtain ⟨hC, hd⟩ := hd
  subst hC
  have ok : ∀ w ∈ wsV own index y.cls y ws, w.before args s = true := fun w h => ht w (hT w h).1
  have hG : GoodIn Ts ws := fun w h => hT w (by unfold wsV; exact List.mem_append_right _ h)
  have hc : Cond.codeWith y bytes maxL ret hh ∈ ws := by rw [hw]; exact List.mem_cons_self
  refine ⟨⟨hrc, hrs, hR.1, hR.2, pay_in ht hG, hc⟩, ht _ (hG _ hc).1, ok _ (by simp [wsV]), ⟨hd.1, hd.2.1⟩, fun sig h => ?_, ok _ (by simp [wsV]), ok _ (by simp [wsV]), ok _ (by simp [wsV])⟩
  have h2 := hd.2.2
  rw [h] at h2
  exact (Option.some.inj h2).symm
theorem vx_runVW {y : MethodName} {bytes cc : ByteArray} {maxL nL mc ms n index : Nat} {ret : Option FieldType} {hh : List (Nat × Nat × Nat × Nat)} {ws : List Cond} {rm : Room} {Pc : Array Value → State → Prop} {Qc : Array Value → State → Outcome → State → Prop} {free : Addr → Prop} {Ts : List Cond} {own C : String} {b : Addr} {As rest : List Value} {g : JFrame}
    (S : CallFix p m c cc nL s args Ts own) (hM : Met l y ws rm Pc Qc mc ms free) (cw : vx_CVW R s args own C index y bytes maxL ret hh ws rm mc ms n) (hp : PreV s H C b Pc As)
    (hg : g.method = m) (hn : As.length = n) (hsize : g.locals.size = nL) (hstack : g.stack = As.reverse ++ .ref b :: rest) (hW : 2 * g.monitorRoom + (rest.map fun v => v.category).sum ≤ 8) (hdg : decode cc g.pc = .ok (.invokevirtual index, 3)) (hf : cells + mc ≤ R.cells ∧ slots + ms ≤ R.slots) :
    va_Run p l e R s m args below meth c H locs cells slots mc ms g rest (Qc (Value.ref b :: As).toArray) free := by
  obtain ⟨⟨hrc, hrs, hfr, hlo, hws, hcw⟩, hcode, hini, hy, hlen, hl, hin, hse⟩ := cw
  have hK : Back l R p e below s args y 3 8 (PreOf R mc ms Pc) (PostOf Qc mc ms free) := va_backW (hh := hh) (bytes := bytes) (maxL := maxL) (ret := ret) hM hp.1 hrc hrs hfr hlo hws hcw (fun a' U hW => word_at hW (Or.inl (by first | rfl | simp [Cond.onTables, Cond.keeps, Cond.steady])) hini)
  obtain ⟨hx, hb, hml, ho, -⟩ := S
  obtain ⟨-, ⟨cellB, hcB, hoB, hclB⟩, hPc⟩ := hp
  intro T hT X
  obtain ⟨v, vm₁, ⟨U', l2, c2, s2⟩, hW₁, X', ⟨g', mk, t, L, e1, e2, hq, h1, hL, h2, h3⟩, st⟩ := vx_callVW X hx (C := C) (hh := hh) (bytes := bytes) (maxL := maxL) (ret := ret) ho hl hin hse hcode hy hK (by rw [hT]; exact hcB) hoB hclB hg (hsize.trans hml.symm) (argsL := As) (rest := rest) (fun sig h => hn.trans (hlen sig h)) hstack hW (by rw [hb]; exact hdg)
    (fun vm₁ hW₁ => ⟨hf.1, hf.2, hPc (T.setVm vm₁) hT hW₁⟩)
  dsimp only [Pt.U, Pt.locs, Pt.cells, Pt.slots] at X' e1 e2 h1 h2 h3 st
  subst h1; subst h2; subst h3
  exact ⟨v, (T.setVm vm₁).calling g' mk (Value.ref b :: As).toArray, t, U', L, hT, X', hL, e1, e2, hq, st⟩
section
variable {y : MethodName} {bytes cc : ByteArray} {maxL nL mc ms n index : Nat} {ret : Option FieldType} {ws : List Cond} {rm : Room} {Pc : Array Value → State → Prop} {Qc : Array Value → State → Outcome → State → Prop} {XC : String → State → State → Prop} {free : Addr → Prop} {Ts : List Cond} {own C : String} {b : Addr} {As rest : List Value} {g : JFrame}
theorem vx_runVX {hh : List (Nat × Nat × Nat × Nat)} (S : CallFix p m c cc nL s args Ts own) (hM : vx_Met l y ws rm Pc Qc XC mc ms free) (cw : vx_CVW R s args own C index y bytes maxL ret hh ws rm mc ms n) (hp : PreV s H C b Pc As)
    (hg : g.method = m) (hn : As.length = n) (hsize : g.locals.size = nL) (hstack : g.stack = As.reverse ++ .ref b :: rest) (hW : 2 * g.monitorRoom + (rest.map fun v => v.category).sum ≤ 8) (hdg : decode cc g.pc = .ok (.invokevirtual index, 3)) (hf : cells + mc ≤ R.cells ∧ slots + ms ≤ R.slots) :
    vx_Run p l e R s m args below meth c H locs cells slots mc ms g rest (Qc (Value.ref b :: As).toArray) XC free := by
  obtain ⟨⟨hrc, hrs, hfr, hlo, hws, hcw⟩, hcode, hini, hy, hlen, hl, hin, hse⟩ := cw
  have hK : vx_Back l R p e below s args y 3 8 (PreOf R mc ms Pc) (PostOf Qc mc ms free) (vx_Post XC mc ms free) := vx_backW (hh := hh) (bytes := bytes) (maxL := maxL) (ret := ret) hM hp.1 hrc hrs hfr hlo hws hcw (fun a' U hW => word_at hW (Or.inl (by first | rfl | simp [Cond.onTables, Cond.keeps, Cond.steady])) hini)
  obtain ⟨hx, hb, hml, ho, -⟩ := S
  obtain ⟨-, ⟨cellB, hcB, hoB, hclB⟩, hPc⟩ := hp
  intro T hT X
  rcases vx_callVX X hx (C := C) (hh := hh) (bytes := bytes) (maxL := maxL) (ret := ret) ho hl hin hse hcode hy hK (by rw [hT]; exact hcB) hoB hclB hg (hsize.trans hml.symm) (argsL := As) (rest := rest) (fun sig h => hn.trans (hlen sig h)) hstack hW (by rw [hb]; exact hdg)
    (fun vm₁ hW₁ => ⟨hf.1, hf.2, hPc (T.setVm vm₁) hT hW₁⟩) with ⟨v, vm₁, ⟨U', l2, c2, s2⟩, hW₁, X', ⟨g', mk, t, L, e1, e2, hq, h1, hL, h2, h3⟩, st⟩ | ⟨q, vm₁, ⟨U', l2, c2, s2⟩, hW₁, X', ⟨g', mk, t, L, E, ce, e1, e2, hq, hce, hcv, hcl, h1, hL, h2, h3⟩, st⟩
  · dsimp only [Pt.U, Pt.locs, Pt.cells, Pt.slots] at X' e1 e2 h1 h2 h3 st
    subst h1; subst h2; subst h3
    exact Or.inl ⟨v, (T.setVm vm₁).calling g' mk (Value.ref b :: As).toArray, t, U', L, hT, X', hL, e1, e2, hq, st⟩
  · dsimp only [Pt.U, Pt.locs, Pt.cells, Pt.slots] at X' e1 e2 h1 h2 h3 st hcl
    subst h1; subst h2; subst h3
    exact Or.inr ⟨q, (T.setVm vm₁).calling g' mk (Value.ref b :: As).toArray, t, U', L, E, ce, hT, X', hL, e1, e2, hq, hce, hcv, vx_cls hW₁ hcl, st⟩
theorem vx_runSX {hh : List (Nat × Nat × Nat × Nat)} (S : CallFix p m c cc nL s args Ts own) (hM : vx_Met l y ws rm Pc Qc XC mc ms free) (cw : vx_CSW R s args own index y bytes maxL ret hh ws rm mc ms n) (hp : PreS s H Pc As)
    (hg : g.method = m) (hn : As.length = n) (hsize : g.locals.size = nL) (hstack : g.stack = As.reverse ++ rest) (hW : 2 * g.monitorRoom + (rest.map fun v => v.category).sum ≤ 8) (hdg : decode cc g.pc = .ok (.invokestatic index, 3)) (hf : cells + mc ≤ R.cells ∧ slots + ms ≤ R.slots) :
    vx_Run p l e R s m args below meth c H locs cells slots mc ms g rest (Qc As.toArray) XC free := by
  obtain ⟨⟨hrc, hrs, hfr, hlo, hws, hcw⟩, hcode, hini, hy, hlen, hl, hstt⟩ := cw
  have hK : vx_Back l R p e below s args y 3 8 (PreOf R mc ms Pc) (PostOf Qc mc ms free) (vx_Post XC mc ms free) := vx_backW (hh := hh) (bytes := bytes) (maxL := maxL) (ret := ret) hM hp.1 hrc hrs hfr hlo hws hcw (fun a' U hW => word_at hW (Or.inl (by first | rfl | simp [Cond.onTables, Cond.keeps, Cond.steady])) hini)
  obtain ⟨hx, hb, hml, ho, -⟩ := S
  intro T hT X
  rcases vx_callSX X hx (hh := hh) (bytes := bytes) (maxL := maxL) (ret := ret) ho hl hstt hini hcode hy hK hg (hsize.trans hml.symm) (argsL := As) (rest := rest) (fun sig h => hn.trans (hlen sig h)) hstack hW (by rw [hb]; exact hdg)
    (fun vm₁ hW₁ => ⟨hf.1, hf.2, hp.2 (T.setVm vm₁) hT hW₁⟩) with ⟨v, vm₁, ⟨U', l2, c2, s2⟩, hW₁, X', ⟨g', mk, t, L, e1, e2, hq, h1, hL, h2, h3⟩, st⟩ | ⟨q, vm₁, ⟨U', l2, c2, s2⟩, hW₁, X', ⟨g', mk, t, L, E, ce, e1, e2, hq, hce, hcv, hcl, h1, hL, h2, h3⟩, st⟩
  · dsimp only [Pt.U, Pt.locs, Pt.cells, Pt.slots] at X' e1 e2 h1 h2 h3 st
    subst h1; subst h2; subst h3
    exact Or.inl ⟨v, (T.setVm vm₁).calling g' mk As.toArray, t, U', L, hT, X', hL, e1, e2, hq, st⟩
  · dsimp only [Pt.U, Pt.locs, Pt.cells, Pt.slots] at X' e1 e2 h1 h2 h3 st hcl
    subst h1; subst h2; subst h3
    exact Or.inr ⟨q, (T.setVm vm₁).calling g' mk As.toArray, t, U', L, E, ce, hT, X', hL, e1, e2, hq, hce, hcv, vx_cls hW₁ hcl, st⟩
end
end VXH
theorem vx_ofWH {l : Launch} {y : MethodName} {ws ws' : List Cond} {rm : Room} {Pc : Array Value → State → Prop} {Qc : Array Value → State → Outcome → State → Prop} {XC : String → State → State → Prop} {mc ms : Nat} {free : Addr → Prop} {cc : ByteArray} {maxL : Nat} {ret : Option FieldType} {hh : List (Nat × Nat × Nat × Nat)}
    (hy : plainName y.cls = true) (hw : ws = Cond.codeWith y cc maxL ret hh :: ws')
    (body : ∀ p e s m args below meth c s₁, BodyLoose p l y (headSpec ws rm) cc maxL ret e s m args below meth c s₁ → c.maxLocals = maxL → Pc args s →
      W p l e (headSpec ws rm).room s m args below meth c s.heap [] 0 0 (vx_MQ below Qc XC args s mc ms free) (entryFrame m args maxL)) : vx_Met l y ws rm Pc Qc XC mc ms free := by
  refine MetFree.of_bodyS (code := cc) (maxLocals := maxL) (ret := ret) hy ?_ ?_
  · intro args s m h hn
    obtain ⟨m9, meth, c, hn9, h1, h2, h3, h4, -, h5, h6, -⟩ := Cond.codeWith_spec (atoms_spec (ws := ws) h _ (by rw [hw]; exact List.mem_cons_self))
    cases hn.symm.trans hn9
    exact ⟨meth, c, h1, h2, h3, h4, h5, h6⟩
  · intro p e s m args below meth c s₁ B hml hP _
    have hh0 : s₁.heap = s.heap := by rw [B.state]; rfl
    obtain ⟨t, a1, o, b1, b2, b3⟩ := body p e s m args below meth c s₁ B hml hP s₁ hh0 (Stand.of_body B)
    exact ⟨t, o, a1, b1, b2, b3⟩
/-! ===== END ===== -/

/-! ===== BEGIN printed: names, fields, word lists, decode rows ===== -/
end
section
def RX0 : String := "HotBeds$Beds"
def TX0 : u_T := fun k => match k with
  | 0 => ("HotBeds$Beds", "size", "I", false)
  | 1 => ("HotBeds$Beds", "price", "[I", true)
  | 2 => ("HotBeds$Beds", "warmth", "[I", true)
  | 3 => ("HotBeds$Beds", "entries", "[I", true)
  | 4 => ("HotBeds$Beds", "paid", "[I", true)
  | _ => ("HotBeds$Beds", "sleeper", "[I", true)
def tyX0 : Nat → FieldType := fun k => match k with
  | 0 => .int
  | 1 => .array .int
  | 2 => .array .int
  | 3 => .array .int
  | 4 => .array .int
  | _ => .array .int
abbrev wsX00 : List Cond := u_ws RX0 TX0 6
theorem nmX0 : ∀ a, a < 6 → ∀ b, b < 6 → a ≠ b → (TX0 a).2.1 ≠ (TX0 b).2.1 := by decide +kernel
theorem tyX0_ok : ∀ k, k < 6 → parseFieldDescriptor (TX0 k).2.2.1 = some (tyX0 k) := by decide +kernel
abbrev cX0_init : ByteArray := prog_2_method_1_code
def yX0_init : MethodName := ⟨RX0, "<init>", "()V"⟩
abbrev cX0_add : ByteArray := prog_2_method_2_code
def yX0_add : MethodName := ⟨RX0, "add", "(I)I"⟩
abbrev cX0_copyFrom : ByteArray := prog_2_method_3_code
def yX0_copyFrom : MethodName := ⟨RX0, "copyFrom", "(LHotBeds$Beds;)V"⟩
abbrev cX0_has : ByteArray := prog_2_method_4_code
def yX0_has : MethodName := ⟨RX0, "has", "(I)Z"⟩
abbrev cX0_isFree : ByteArray := prog_2_method_5_code
def yX0_isFree : MethodName := ⟨RX0, "isFree", "(I)Z"⟩
abbrev cX0_isWarm : ByteArray := prog_2_method_6_code
def yX0_isWarm : MethodName := ⟨RX0, "isWarm", "(I)Z"⟩
abbrev cX0_cheapestFree : ByteArray := prog_2_method_7_code
def yX0_cheapestFree : MethodName := ⟨RX0, "cheapestFree", "()I"⟩
abbrev cX0_changeWarmth : ByteArray := prog_2_method_8_code
def yX0_changeWarmth : MethodName := ⟨RX0, "changeWarmth", "()V"⟩
def RX1 : String := "HotBeds$House"
def TX1 : u_T := fun k => match k with
  | 0 => ("HotBeds$House", "hour", "I", false)
  | 1 => ("HotBeds$House", "bell", "I", false)
  | 2 => ("HotBeds$House", "pawn", "I", false)
  | 3 => ("HotBeds$House", "beds", "LHotBeds$Beds;", true)
  | _ => ("HotBeds$House", "sailors", "LHotBeds$Sailors;", true)
def tyX1 : Nat → FieldType := fun k => match k with
  | 0 => .int
  | 1 => .int
  | 2 => .int
  | 3 => .object "HotBeds$Beds"
  | _ => .object "HotBeds$Sailors"
abbrev wsX10 : List Cond := u_ws RX1 TX1 5
theorem nmX1 : ∀ a, a < 5 → ∀ b, b < 5 → a ≠ b → (TX1 a).2.1 ≠ (TX1 b).2.1 := by decide +kernel
theorem tyX1_ok : ∀ k, k < 5 → parseFieldDescriptor (TX1 k).2.2.1 = some (tyX1 k) := by decide +kernel
abbrev cX1_init : ByteArray := prog_3_method_1_code
def yX1_init : MethodName := ⟨RX1, "<init>", "()V"⟩
abbrev cX1_copyFrom : ByteArray := prog_3_method_2_code
def yX1_copyFrom : MethodName := ⟨RX1, "copyFrom", "(LHotBeds$House;)V"⟩
abbrev cX1_watchNow : ByteArray := prog_3_method_3_code
def yX1_watchNow : MethodName := ⟨RX1, "watchNow", "()I"⟩
abbrev cX1_goOn : ByteArray := prog_3_method_4_code
def yX1_goOn : MethodName := ⟨RX1, "goOn", "(I)V"⟩
abbrev cX1_getUp : ByteArray := prog_3_method_5_code
def yX1_getUp : MethodName := ⟨RX1, "getUp", "(I)V"⟩
abbrev cX1_pawnBoots : ByteArray := prog_3_method_6_code
def yX1_pawnBoots : MethodName := ⟨RX1, "pawnBoots", "(I)V"⟩
abbrev cX1_canRedeemBoots : ByteArray := prog_3_method_7_code
def yX1_canRedeemBoots : MethodName := ⟨RX1, "canRedeemBoots", "(I)Z"⟩
abbrev cX1_redeemBoots : ByteArray := prog_3_method_8_code
def yX1_redeemBoots : MethodName := ⟨RX1, "redeemBoots", "(I)V"⟩
abbrev cX1_ringBell : ByteArray := prog_3_method_9_code
def yX1_ringBell : MethodName := ⟨RX1, "ringBell", "(I)V"⟩
abbrev cX1_isInWatch : ByteArray := prog_3_method_10_code
def yX1_isInWatch : MethodName := ⟨RX1, "isInWatch", "(I)Z"⟩
abbrev cX1_hoursSinceWatch : ByteArray := prog_3_method_11_code
def yX1_hoursSinceWatch : MethodName := ⟨RX1, "hoursSinceWatch", "(I)I"⟩
abbrev cX1_serve : ByteArray := prog_3_method_12_code
def yX1_serve : MethodName := ⟨RX1, "serve", "(I)V"⟩
abbrev cX1_lookForBed : ByteArray := prog_3_method_13_code
def yX1_lookForBed : MethodName := ⟨RX1, "lookForBed", "(I)V"⟩
abbrev cX1_tryBed : ByteArray := prog_3_method_14_code
def yX1_tryBed : MethodName := ⟨RX1, "tryBed", "(II)V"⟩
abbrev cX1_getInto : ByteArray := prog_3_method_15_code
def yX1_getInto : MethodName := ⟨RX1, "getInto", "(II)V"⟩
abbrev cX1_restOfHour : ByteArray := prog_3_method_16_code
def yX1_restOfHour : MethodName := ⟨RX1, "restOfHour", "(I)I"⟩
def RX2 : String := "HotBeds$Sailors"
def TX2 : u_T := fun k => match k with
  | 0 => ("HotBeds$Sailors", "size", "I", false)
  | 1 => ("HotBeds$Sailors", "watch", "[I", true)
  | 2 => ("HotBeds$Sailors", "heavy", "[I", true)
  | 3 => ("HotBeds$Sailors", "wage", "[I", true)
  | 4 => ("HotBeds$Sailors", "purse", "[I", true)
  | 5 => ("HotBeds$Sailors", "boots", "[I", true)
  | 6 => ("HotBeds$Sailors", "kept", "[I", true)
  | 7 => ("HotBeds$Sailors", "place", "[I", true)
  | 8 => ("HotBeds$Sailors", "bed", "[I", true)
  | 9 => ("HotBeds$Sailors", "rest", "[I", true)
  | 10 => ("HotBeds$Sailors", "late", "[I", true)
  | 11 => ("HotBeds$Sailors", "lateSincePay", "[I", true)
  | _ => ("HotBeds$Sailors", "floors", "[I", true)
def tyX2 : Nat → FieldType := fun k => match k with
  | 0 => .int
  | 1 => .array .int
  | 2 => .array .int
  | 3 => .array .int
  | 4 => .array .int
  | 5 => .array .int
  | 6 => .array .int
  | 7 => .array .int
  | 8 => .array .int
  | 9 => .array .int
  | 10 => .array .int
  | 11 => .array .int
  | _ => .array .int
abbrev wsX20 : List Cond := u_ws RX2 TX2 13
theorem nmX2 : ∀ a, a < 13 → ∀ b, b < 13 → a ≠ b → (TX2 a).2.1 ≠ (TX2 b).2.1 := by decide +kernel
theorem tyX2_ok : ∀ k, k < 13 → parseFieldDescriptor (TX2 k).2.2.1 = some (tyX2 k) := by decide +kernel
abbrev cX2_init : ByteArray := prog_4_method_1_code
def yX2_init : MethodName := ⟨RX2, "<init>", "()V"⟩
abbrev cX2_add : ByteArray := prog_4_method_2_code
def yX2_add : MethodName := ⟨RX2, "add", "(IIII)I"⟩
abbrev cX2_copyFrom : ByteArray := prog_4_method_3_code
def yX2_copyFrom : MethodName := ⟨RX2, "copyFrom", "(LHotBeds$Sailors;)V"⟩
abbrev cX2_isUp : ByteArray := prog_4_method_4_code
def yX2_isUp : MethodName := ⟨RX2, "isUp", "(I)Z"⟩
abbrev cX2_hasBoots : ByteArray := prog_4_method_5_code
def yX2_hasBoots : MethodName := ⟨RX2, "hasBoots", "(I)Z"⟩
abbrev cX2_earn : ByteArray := prog_4_method_6_code
def yX2_earn : MethodName := ⟨RX2, "earn", "(II)V"⟩
abbrev cX2_beLate : ByteArray := prog_4_method_7_code
def yX2_beLate : MethodName := ⟨RX2, "beLate", "(I)V"⟩
abbrev cX2_lieOnFloor : ByteArray := prog_4_method_8_code
def yX2_lieOnFloor : MethodName := ⟨RX2, "lieOnFloor", "(I)V"⟩
abbrev cX2_payWage : ByteArray := prog_4_method_9_code
def yX2_payWage : MethodName := ⟨RX2, "payWage", "(I)V"⟩
abbrev cX2_howManyAt : ByteArray := prog_4_method_10_code
def yX2_howManyAt : MethodName := ⟨RX2, "howManyAt", "(I)I"⟩
abbrev cX2_allRest : ByteArray := prog_4_method_11_code
def yX2_allRest : MethodName := ⟨RX2, "allRest", "()I"⟩
abbrev cX2_allLate : ByteArray := prog_4_method_12_code
def yX2_allLate : MethodName := ⟨RX2, "allLate", "()I"⟩
abbrev cX2_allFloors : ByteArray := prog_4_method_13_code
def yX2_allFloors : MethodName := ⟨RX2, "allFloors", "()I"⟩
abbrev cX2_sum : ByteArray := prog_4_method_14_code
def yX2_sum : MethodName := ⟨RX2, "sum", "([I)I"⟩
def RX3 : String := "HotBeds"
def TX3 : u_T := fun k => match k with
  | 0 => ("HotBeds", "house", "LHotBeds$House;", true)
  | _ => ("HotBeds", "trial", "LHotBeds$House;", true)
def tyX3 : Nat → FieldType := fun k => match k with
  | 0 => .object "HotBeds$House"
  | _ => .object "HotBeds$House"
abbrev wsX30 : List Cond := u_ws RX3 TX3 2
theorem nmX3 : ∀ a, a < 2 → ∀ b, b < 2 → a ≠ b → (TX3 a).2.1 ≠ (TX3 b).2.1 := by decide +kernel
theorem tyX3_ok : ∀ k, k < 2 → parseFieldDescriptor (TX3 k).2.2.1 = some (tyX3 k) := by decide +kernel
abbrev cX3_init : ByteArray := prog_1_method_1_code
def yX3_init : MethodName := ⟨RX3, "<init>", "()V"⟩
abbrev cX3_bed : ByteArray := prog_1_method_2_code
def yX3_bed : MethodName := ⟨RX3, "bed", "(I)I"⟩
abbrev cX3_sailor : ByteArray := prog_1_method_3_code
def yX3_sailor : MethodName := ⟨RX3, "sailor", "(IIII)I"⟩
abbrev cX3_keep : ByteArray := prog_1_method_4_code
def yX3_keep : MethodName := ⟨RX3, "keep", "(II)I"⟩
abbrev cX3_setBell : ByteArray := prog_1_method_5_code
def yX3_setBell : MethodName := ⟨RX3, "setBell", "(I)I"⟩
abbrev cX3_setPawn : ByteArray := prog_1_method_6_code
def yX3_setPawn : MethodName := ⟨RX3, "setPawn", "(I)I"⟩
abbrev cX3_give : ByteArray := prog_1_method_7_code
def yX3_give : MethodName := ⟨RX3, "give", "(II)I"⟩
abbrev cX3_pawn : ByteArray := prog_1_method_8_code
def yX3_pawn : MethodName := ⟨RX3, "pawn", "(I)I"⟩
abbrev cX3_redeem : ByteArray := prog_1_method_9_code
def yX3_redeem : MethodName := ⟨RX3, "redeem", "(I)I"⟩
abbrev cX3_call : ByteArray := prog_1_method_10_code
def yX3_call : MethodName := ⟨RX3, "call", "(I)I"⟩
abbrev cX3_shift : ByteArray := prog_1_method_11_code
def yX3_shift : MethodName := ⟨RX3, "shift", "(II)I"⟩
abbrev cX3_pass : ByteArray := prog_1_method_12_code
def yX3_pass : MethodName := ⟨RX3, "pass", "(I)I"⟩
abbrev cX3_told : ByteArray := prog_1_method_13_code
def yX3_told : MethodName := ⟨RX3, "told", "(II)I"⟩
abbrev cX3_about : ByteArray := prog_1_method_14_code
def yX3_about : MethodName := ⟨RX3, "about", "(II)I"⟩
abbrev cX3_count : ByteArray := prog_1_method_15_code
def yX3_count : MethodName := ⟨RX3, "count", "(I)I"⟩
abbrev cX3_would : ByteArray := prog_1_method_16_code
def yX3_would : MethodName := ⟨RX3, "would", "(II)I"⟩
abbrev cX3_until : ByteArray := prog_1_method_17_code
def yX3_until : MethodName := ⟨RX3, "until", "(I)I"⟩
abbrev cX3_quiet : ByteArray := prog_1_method_18_code
def yX3_quiet : MethodName := ⟨RX3, "quiet", "()I"⟩
abbrev cX3_advise : ByteArray := prog_1_method_19_code
def yX3_advise : MethodName := ⟨RX3, "advise", "(I)I"⟩
abbrev cX3_mean : ByteArray := prog_1_method_20_code
def yX3_mean : MethodName := ⟨RX3, "mean", "()D"⟩
abbrev cX3_digest : ByteArray := prog_1_method_21_code
def yX3_digest : MethodName := ⟨RX3, "digest", "()J"⟩
abbrev cX3_requireSailor : ByteArray := prog_1_method_22_code
def yX3_requireSailor : MethodName := ⟨RX3, "requireSailor", "(I)V"⟩
abbrev cX3_requireBed : ByteArray := prog_1_method_23_code
def yX3_requireBed : MethodName := ⟨RX3, "requireBed", "(I)V"⟩
abbrev cX3_requireWatch : ByteArray := prog_1_method_24_code
def yX3_requireWatch : MethodName := ⟨RX3, "requireWatch", "(I)V"⟩
abbrev cX3_requireUp : ByteArray := prog_1_method_25_code
def yX3_requireUp : MethodName := ⟨RX3, "requireUp", "(I)V"⟩
abbrev cX3_requireHours : ByteArray := prog_1_method_26_code
def yX3_requireHours : MethodName := ⟨RX3, "requireHours", "(I)V"⟩
abbrev cX3_copyRow : ByteArray := prog_1_method_27_code
def yX3_copyRow : MethodName := ⟨RX3, "copyRow", "([I[I)V"⟩
def RX4 : String := "HotBedsModel"
def TX4 : u_T := fun k => match k with
  | 0 => ("HotBedsModel", "thrown", "I", false)
  | 1 => ("HotBedsModel", "beds", "I", false)
  | 2 => ("HotBedsModel", "sailors", "I", false)
  | 3 => ("HotBedsModel", "prices", "[I", true)
  | 4 => ("HotBedsModel", "heavy", "[I", true)
  | 5 => ("HotBedsModel", "wages", "[I", true)
  | 6 => ("HotBedsModel", "now", "[I", true)
  | _ => ("HotBedsModel", "kept", "[I", true)
def tyX4 : Nat → FieldType := fun k => match k with
  | 0 => .int
  | 1 => .int
  | 2 => .int
  | 3 => .array .int
  | 4 => .array .int
  | 5 => .array .int
  | 6 => .array .int
  | _ => .array .int
abbrev wsX40 : List Cond := u_ws RX4 TX4 8
theorem nmX4 : ∀ a, a < 8 → ∀ b, b < 8 → a ≠ b → (TX4 a).2.1 ≠ (TX4 b).2.1 := by decide +kernel
theorem tyX4_ok : ∀ k, k < 8 → parseFieldDescriptor (TX4 k).2.2.1 = some (tyX4 k) := by decide +kernel
abbrev cX4_init : ByteArray := prog_6_method_1_code
def yX4_init : MethodName := ⟨RX4, "<init>", "()V"⟩
abbrev cX4_thrown : ByteArray := prog_6_method_2_code
def yX4_thrown : MethodName := ⟨RX4, "thrown", "()I"⟩
abbrev cX4_fail : ByteArray := prog_6_method_3_code
def yX4_fail : MethodName := ⟨RX4, "fail", "(I)I"⟩
abbrev cX4_isIn : ByteArray := prog_6_method_4_code
def yX4_isIn : MethodName := ⟨RX4, "isIn", "(III)Z"⟩
abbrev cX4_isBed : ByteArray := prog_6_method_5_code
def yX4_isBed : MethodName := ⟨RX4, "isBed", "(I)Z"⟩
abbrev cX4_isSailor : ByteArray := prog_6_method_6_code
def yX4_isSailor : MethodName := ⟨RX4, "isSailor", "(I)Z"⟩
abbrev cX4_be : ByteArray := prog_6_method_7_code
def yX4_be : MethodName := ⟨RX4, "be", "(II)I"⟩
abbrev cX4_letBed : ByteArray := prog_6_method_8_code
def yX4_letBed : MethodName := ⟨RX4, "letBed", "(III)V"⟩
abbrev cX4_sa : ByteArray := prog_6_method_9_code
def yX4_sa : MethodName := ⟨RX4, "sa", "(II)I"⟩
abbrev cX4_let : ByteArray := prog_6_method_10_code
def yX4_let : MethodName := ⟨RX4, "let", "(III)V"⟩
abbrev cX4_more : ByteArray := prog_6_method_11_code
def yX4_more : MethodName := ⟨RX4, "more", "(III)V"⟩
abbrev cX4_keep : ByteArray := prog_6_method_12_code
def yX4_keep : MethodName := ⟨RX4, "keep", "()V"⟩
abbrev cX4_bringBack : ByteArray := prog_6_method_13_code
def yX4_bringBack : MethodName := ⟨RX4, "bringBack", "()V"⟩
abbrev cX4_watch : ByteArray := prog_6_method_14_code
def yX4_watch : MethodName := ⟨RX4, "watch", "()I"⟩
abbrev cX4_bed : ByteArray := prog_6_method_15_code
def yX4_bed : MethodName := ⟨RX4, "bed", "(I)I"⟩
abbrev cX4_sailor : ByteArray := prog_6_method_16_code
def yX4_sailor : MethodName := ⟨RX4, "sailor", "(IIII)I"⟩
abbrev cX4_keep_ : ByteArray := prog_6_method_17_code
def yX4_keep_ : MethodName := ⟨RX4, "keep", "(II)I"⟩
abbrev cX4_change : ByteArray := prog_6_method_18_code
def yX4_change : MethodName := ⟨RX4, "change", "(IIII)I"⟩
abbrev cX4_setBell : ByteArray := prog_6_method_19_code
def yX4_setBell : MethodName := ⟨RX4, "setBell", "(I)I"⟩
abbrev cX4_setPawn : ByteArray := prog_6_method_20_code
def yX4_setPawn : MethodName := ⟨RX4, "setPawn", "(I)I"⟩
abbrev cX4_gets : ByteArray := prog_6_method_21_code
def yX4_gets : MethodName := ⟨RX4, "gets", "(II)I"⟩
abbrev cX4_pawns : ByteArray := prog_6_method_22_code
def yX4_pawns : MethodName := ⟨RX4, "pawns", "(I)I"⟩
abbrev cX4_canRedeem : ByteArray := prog_6_method_23_code
def yX4_canRedeem : MethodName := ⟨RX4, "canRedeem", "(I)Z"⟩
abbrev cX4_redeems : ByteArray := prog_6_method_24_code
def yX4_redeems : MethodName := ⟨RX4, "redeems", "(I)I"⟩
abbrev cX4_getsUp : ByteArray := prog_6_method_25_code
def yX4_getsUp : MethodName := ⟨RX4, "getsUp", "(I)V"⟩
abbrev cX4_give : ByteArray := prog_6_method_26_code
def yX4_give : MethodName := ⟨RX4, "give", "(II)I"⟩
abbrev cX4_pawn : ByteArray := prog_6_method_27_code
def yX4_pawn : MethodName := ⟨RX4, "pawn", "(I)I"⟩
abbrev cX4_redeem : ByteArray := prog_6_method_28_code
def yX4_redeem : MethodName := ⟨RX4, "redeem", "(I)I"⟩
abbrev cX4_call : ByteArray := prog_6_method_29_code
def yX4_call : MethodName := ⟨RX4, "call", "(I)I"⟩
abbrev cX4_shift : ByteArray := prog_6_method_30_code
def yX4_shift : MethodName := ⟨RX4, "shift", "(II)I"⟩
abbrev cX4_ring : ByteArray := prog_6_method_31_code
def yX4_ring : MethodName := ⟨RX4, "ring", "(I)V"⟩
abbrev cX4_pay : ByteArray := prog_6_method_32_code
def yX4_pay : MethodName := ⟨RX4, "pay", "(I)V"⟩
abbrev cX4_bedFor : ByteArray := prog_6_method_33_code
def yX4_bedFor : MethodName := ⟨RX4, "bedFor", "(I)I"⟩
abbrev cX4_lieDown : ByteArray := prog_6_method_34_code
def yX4_lieDown : MethodName := ⟨RX4, "lieDown", "(I)V"⟩
abbrev cX4_look : ByteArray := prog_6_method_35_code
def yX4_look : MethodName := ⟨RX4, "look", "(I)V"⟩
abbrev cX4_hourOn : ByteArray := prog_6_method_36_code
def yX4_hourOn : MethodName := ⟨RX4, "hourOn", "()V"⟩
abbrev cX4_hoursOn : ByteArray := prog_6_method_37_code
def yX4_hoursOn : MethodName := ⟨RX4, "hoursOn", "(I)V"⟩
abbrev cX4_sum : ByteArray := prog_6_method_38_code
def yX4_sum : MethodName := ⟨RX4, "sum", "(I)I"⟩
abbrev cX4_pass : ByteArray := prog_6_method_39_code
def yX4_pass : MethodName := ⟨RX4, "pass", "(I)I"⟩
abbrev cX4_sailorTold : ByteArray := prog_6_method_40_code
def yX4_sailorTold : MethodName := ⟨RX4, "sailorTold", "(II)I"⟩
abbrev cX4_told : ByteArray := prog_6_method_41_code
def yX4_told : MethodName := ⟨RX4, "told", "(II)I"⟩
abbrev cX4_bedTold : ByteArray := prog_6_method_42_code
def yX4_bedTold : MethodName := ⟨RX4, "bedTold", "(II)I"⟩
abbrev cX4_about : ByteArray := prog_6_method_43_code
def yX4_about : MethodName := ⟨RX4, "about", "(II)I"⟩
abbrev cX4_many : ByteArray := prog_6_method_44_code
def yX4_many : MethodName := ⟨RX4, "many", "(I)I"⟩
abbrev cX4_counted : ByteArray := prog_6_method_45_code
def yX4_counted : MethodName := ⟨RX4, "counted", "(I)I"⟩
abbrev cX4_count : ByteArray := prog_6_method_46_code
def yX4_count : MethodName := ⟨RX4, "count", "(I)I"⟩
abbrev cX4_would : ByteArray := prog_6_method_47_code
def yX4_would : MethodName := ⟨RX4, "would", "(II)I"⟩
abbrev cX4_until : ByteArray := prog_6_method_48_code
def yX4_until : MethodName := ⟨RX4, "until", "(I)I"⟩
abbrev cX4_quiet : ByteArray := prog_6_method_49_code
def yX4_quiet : MethodName := ⟨RX4, "quiet", "()I"⟩
abbrev cX4_advise : ByteArray := prog_6_method_50_code
def yX4_advise : MethodName := ⟨RX4, "advise", "(I)I"⟩
abbrev cX4_mean : ByteArray := prog_6_method_51_code
def yX4_mean : MethodName := ⟨RX4, "mean", "()D"⟩
abbrev cX4_digest : ByteArray := prog_6_method_52_code
def yX4_digest : MethodName := ⟨RX4, "digest", "()J"⟩
def RJ9 : String := "java/lang/Math"
def TJ9 : u_T := fun k => match k with
  | _ => ("", "", "", false)
def tyJ9 : Nat → FieldType := fun k => match k with
  | _ => .int
abbrev wsJ90 : List Cond := u_ws RJ9 TJ9 0
theorem nmJ9 : ∀ a, a < 0 → ∀ b, b < 0 → a ≠ b → (TJ9 a).2.1 ≠ (TJ9 b).2.1 := by decide +kernel
theorem tyJ9_ok : ∀ k, k < 0 → parseFieldDescriptor (TJ9 k).2.2.1 = some (tyJ9 k) := by decide +kernel
abbrev cJ9_max_7cf53 : ByteArray := prog_11_method_65_code
def yJ9_max_7cf53 : MethodName := ⟨RJ9, "max", "(II)I"⟩
abbrev cJ9_min_7cf53 : ByteArray := prog_11_method_69_code
def yJ9_min_7cf53 : MethodName := ⟨RJ9, "min", "(II)I"⟩
def RJ0 : String := "java/lang/String"
def TJ0 : u_T := fun k => match k with
  | _ => ("", "", "", false)
def tyJ0 : Nat → FieldType := fun k => match k with
  | _ => .int
abbrev wsJ00 : List Cond := u_ws RJ0 TJ0 0
theorem nmJ0 : ∀ a, a < 0 → ∀ b, b < 0 → a ≠ b → (TJ0 a).2.1 ≠ (TJ0 b).2.1 := by decide +kernel
theorem tyJ0_ok : ∀ k, k < 0 → parseFieldDescriptor (TJ0 k).2.2.1 = some (tyJ0 k) := by decide +kernel
def RJ10 : String := "java/lang/System"
def TJ10 : u_T := fun k => match k with
  | _ => ("", "", "", false)
def tyJ10 : Nat → FieldType := fun k => match k with
  | _ => .int
abbrev wsJ100 : List Cond := u_ws RJ10 TJ10 0
theorem nmJ10 : ∀ a, a < 0 → ∀ b, b < 0 → a ≠ b → (TJ10 a).2.1 ≠ (TJ10 b).2.1 := by decide +kernel
theorem tyJ10_ok : ∀ k, k < 0 → parseFieldDescriptor (TJ10 k).2.2.1 = some (tyJ10 k) := by decide +kernel
def RL : String := "HotBedsLaw"
abbrev cL_bed : ByteArray := method_3_code
def yL_bed : MethodName := ⟨RL, "bed", "(LHotBeds;I[J)I"⟩
abbrev cL_sailor : ByteArray := method_4_code
def yL_sailor : MethodName := ⟨RL, "sailor", "(LHotBeds;IIII[J)I"⟩
abbrev cL_keep : ByteArray := method_5_code
def yL_keep : MethodName := ⟨RL, "keep", "(LHotBeds;II[J)I"⟩
abbrev cL_setBell : ByteArray := method_6_code
def yL_setBell : MethodName := ⟨RL, "setBell", "(LHotBeds;I[J)I"⟩
abbrev cL_setPawn : ByteArray := method_7_code
def yL_setPawn : MethodName := ⟨RL, "setPawn", "(LHotBeds;I[J)I"⟩
abbrev cL_give : ByteArray := method_8_code
def yL_give : MethodName := ⟨RL, "give", "(LHotBeds;II[J)I"⟩
abbrev cL_pawn : ByteArray := method_9_code
def yL_pawn : MethodName := ⟨RL, "pawn", "(LHotBeds;I[J)I"⟩
abbrev cL_redeem : ByteArray := method_10_code
def yL_redeem : MethodName := ⟨RL, "redeem", "(LHotBeds;I[J)I"⟩
abbrev cL_call : ByteArray := method_11_code
def yL_call : MethodName := ⟨RL, "call", "(LHotBeds;I[J)I"⟩
abbrev cL_shift : ByteArray := method_12_code
def yL_shift : MethodName := ⟨RL, "shift", "(LHotBeds;II[J)I"⟩
abbrev cL_pass : ByteArray := method_13_code
def yL_pass : MethodName := ⟨RL, "pass", "(LHotBeds;I[J)I"⟩
abbrev cL_told : ByteArray := method_14_code
def yL_told : MethodName := ⟨RL, "told", "(LHotBeds;II[J)I"⟩
abbrev cL_about : ByteArray := method_15_code
def yL_about : MethodName := ⟨RL, "about", "(LHotBeds;II[J)I"⟩
abbrev cL_count : ByteArray := method_16_code
def yL_count : MethodName := ⟨RL, "count", "(LHotBeds;I[J)I"⟩
abbrev cL_would : ByteArray := method_17_code
def yL_would : MethodName := ⟨RL, "would", "(LHotBeds;II[J)I"⟩
abbrev cL_until : ByteArray := method_18_code
def yL_until : MethodName := ⟨RL, "until", "(LHotBeds;I[J)I"⟩
abbrev cL_advise : ByteArray := method_19_code
def yL_advise : MethodName := ⟨RL, "advise", "(LHotBeds;I[J)I"⟩
abbrev cL_law : ByteArray := code
def yL_law : MethodName := ⟨RL, "law", "([I)Z"⟩
def wsX0_init : List Cond := .code yX0_init cX0_init 1 none :: ([.methodLink RX0 1 objectInit, .instanceMethod objectInit, .code objectInit ⟨#[0xb1]⟩ 1 none, .fieldLink RX0 7 "HotBeds$Beds" "size" "I", .arrayClass .int, .fieldLink RX0 13 "HotBeds$Beds" "price" "[I", .fieldLink RX0 17 "HotBeds$Beds" "warmth" "[I", .fieldLink RX0 20 "HotBeds$Beds" "entries" "[I", .fieldLink RX0 23 "HotBeds$Beds" "paid" "[I", .fieldLink RX0 26 "HotBeds$Beds" "sleeper" "[I"] ++ wsX00)
def wsX0_add : List Cond := .code yX0_add cX0_add 3 (some .int) :: ([.classLink RX0 29 "java/lang/IllegalStateException", .initialized "java/lang/IllegalStateException", .fieldLink RX0 7 "HotBeds$Beds" "size" "I", .fieldLink RX0 13 "HotBeds$Beds" "price" "[I", .fieldLink RX0 26 "HotBeds$Beds" "sleeper" "[I"] ++ wsX00 ++ (vx_atS RX0 33 "java/lang/IllegalStateException" ["java/lang/RuntimeException", "java/lang/Exception"]).filter goodWord)
def wsX3_copyRow : List Cond := .code yX3_copyRow cX3_copyRow 3 none :: ([])
def wsX0_copyFrom : List Cond := .code yX0_copyFrom cX0_copyFrom 2 none :: ([.fieldLink RX0 7 "HotBeds$Beds" "size" "I", .fieldLink RX0 13 "HotBeds$Beds" "price" "[I", .fieldLink RX0 17 "HotBeds$Beds" "warmth" "[I", .fieldLink RX0 20 "HotBeds$Beds" "entries" "[I", .fieldLink RX0 23 "HotBeds$Beds" "paid" "[I", .fieldLink RX0 26 "HotBeds$Beds" "sleeper" "[I", .static yX3_copyRow, .initialized RX3, .code yX3_copyRow cX3_copyRow 3 none] ++ wsX00)
def wsX0_has : List Cond := .code yX0_has cX0_has 2 (some .boolean) :: ([.fieldLink RX0 7 "HotBeds$Beds" "size" "I"] ++ wsX00)
def wsX0_isFree : List Cond := .code yX0_isFree cX0_isFree 2 (some .boolean) :: ([.fieldLink RX0 26 "HotBeds$Beds" "sleeper" "[I", .methodLink RX0 42 yX0_has, .instanceMethod yX0_has, .selects RX0 yX0_has yX0_has, .initialized RX0, .code yX0_has cX0_has 2 (some .boolean), .fieldLink RX0 7 "HotBeds$Beds" "size" "I"] ++ wsX00)
def wsX0_isWarm : List Cond := .code yX0_isWarm cX0_isWarm 2 (some .boolean) :: ([.fieldLink RX0 17 "HotBeds$Beds" "warmth" "[I", .methodLink RX0 42 yX0_has, .instanceMethod yX0_has, .selects RX0 yX0_has yX0_has, .initialized RX0, .code yX0_has cX0_has 2 (some .boolean), .fieldLink RX0 7 "HotBeds$Beds" "size" "I"] ++ wsX00)
def wsX0_cheapestFree : List Cond := .code yX0_cheapestFree cX0_cheapestFree 3 (some .int) :: ([.fieldLink RX0 7 "HotBeds$Beds" "size" "I", .fieldLink RX0 13 "HotBeds$Beds" "price" "[I", .methodLink RX0 46 yX0_isFree, .instanceMethod yX0_isFree, .selects RX0 yX0_isFree yX0_isFree, .initialized RX0, .code yX0_isFree cX0_isFree 2 (some .boolean), .fieldLink RX0 26 "HotBeds$Beds" "sleeper" "[I", .methodLink RX0 42 yX0_has, .instanceMethod yX0_has, .selects RX0 yX0_has yX0_has, .code yX0_has cX0_has 2 (some .boolean)] ++ wsX00)
def wsX0_changeWarmth : List Cond := .code yX0_changeWarmth cX0_changeWarmth 2 none :: ([.fieldLink RX0 7 "HotBeds$Beds" "size" "I", .fieldLink RX0 26 "HotBeds$Beds" "sleeper" "[I", .fieldLink RX0 17 "HotBeds$Beds" "warmth" "[I", .methodLink RX0 49 Lib.Math.max.name, .static Lib.Math.max.name, .initialized "java/lang/Math", .code Lib.Math.max.name Lib.Math.max.code 2 (some .int), .methodLink RX0 55 Lib.Math.min.name, .static Lib.Math.min.name, .code Lib.Math.min.name Lib.Math.min.code 2 (some .int)] ++ wsX00)
def wsX2_init : List Cond := .code yX2_init cX2_init 1 none :: ([.methodLink RX2 1 objectInit, .instanceMethod objectInit, .code objectInit ⟨#[0xb1]⟩ 1 none, .fieldLink RX2 7 "HotBeds$Sailors" "size" "I", .arrayClass .int, .fieldLink RX2 13 "HotBeds$Sailors" "watch" "[I", .fieldLink RX2 17 "HotBeds$Sailors" "heavy" "[I", .fieldLink RX2 20 "HotBeds$Sailors" "wage" "[I", .fieldLink RX2 23 "HotBeds$Sailors" "purse" "[I", .fieldLink RX2 26 "HotBeds$Sailors" "boots" "[I", .fieldLink RX2 29 "HotBeds$Sailors" "kept" "[I", .fieldLink RX2 32 "HotBeds$Sailors" "place" "[I", .fieldLink RX2 35 "HotBeds$Sailors" "bed" "[I", .fieldLink RX2 38 "HotBeds$Sailors" "rest" "[I", .fieldLink RX2 41 "HotBeds$Sailors" "late" "[I", .fieldLink RX2 44 "HotBeds$Sailors" "lateSincePay" "[I", .fieldLink RX2 47 "HotBeds$Sailors" "floors" "[I"] ++ wsX20)
def wsX1_init_r1 : List Cond := [Cond.methodLink RX1 1 objectInit, Cond.instanceMethod objectInit, Cond.code objectInit ⟨#[0xb1]⟩ 1 none, Cond.fieldLink RX1 7 "HotBeds$House" "hour" "I", Cond.fieldLink RX1 13 "HotBeds$House" "bell" "I", Cond.fieldLink RX1 16 "HotBeds$House" "pawn" "I", Cond.classLink RX1 19 RX0, Cond.instantiable RX0 6, Cond.initialized RX0, Cond.fieldLink RX1 22 "HotBeds$House" "beds" "LHotBeds$Beds;", Cond.classLink RX1 26 RX2, Cond.instantiable RX2 13, Cond.initialized RX2, Cond.fieldLink RX1 29 "HotBeds$House" "sailors" "LHotBeds$Sailors;", Cond.instanceMethod yX0_init, Cond.code yX0_init cX0_init 1 none, Cond.methodLink RX0 1 objectInit, Cond.fieldLink RX0 7 "HotBeds$Beds" "size" "I", Cond.arrayClass .int, Cond.fieldLink RX0 13 "HotBeds$Beds" "price" "[I", Cond.fieldLink RX0 17 "HotBeds$Beds" "warmth" "[I", Cond.fieldLink RX0 20 "HotBeds$Beds" "entries" "[I", Cond.fieldLink RX0 23 "HotBeds$Beds" "paid" "[I", Cond.fieldLink RX0 26 "HotBeds$Beds" "sleeper" "[I"]
def wsX1_init_r2 : List Cond := [Cond.instanceMethod yX2_init, Cond.code yX2_init cX2_init 1 none, Cond.methodLink RX2 1 objectInit, Cond.fieldLink RX2 7 "HotBeds$Sailors" "size" "I", Cond.fieldLink RX2 13 "HotBeds$Sailors" "watch" "[I", Cond.fieldLink RX2 17 "HotBeds$Sailors" "heavy" "[I", Cond.fieldLink RX2 20 "HotBeds$Sailors" "wage" "[I", Cond.fieldLink RX2 23 "HotBeds$Sailors" "purse" "[I", Cond.fieldLink RX2 26 "HotBeds$Sailors" "boots" "[I", Cond.fieldLink RX2 29 "HotBeds$Sailors" "kept" "[I", Cond.fieldLink RX2 32 "HotBeds$Sailors" "place" "[I", Cond.fieldLink RX2 35 "HotBeds$Sailors" "bed" "[I", Cond.fieldLink RX2 38 "HotBeds$Sailors" "rest" "[I", Cond.fieldLink RX2 41 "HotBeds$Sailors" "late" "[I", Cond.fieldLink RX2 44 "HotBeds$Sailors" "lateSincePay" "[I", Cond.fieldLink RX2 47 "HotBeds$Sailors" "floors" "[I"]
def wsX1_init : List Cond := .code yX1_init cX1_init 1 none :: ((wsX1_init_r1 ++ wsX1_init_r2) ++ wsX10 ++ wsX00 ++ wsX20)
def wsX2_copyFrom : List Cond := .code yX2_copyFrom cX2_copyFrom 2 none :: ([.fieldLink RX2 7 "HotBeds$Sailors" "size" "I", .fieldLink RX2 13 "HotBeds$Sailors" "watch" "[I", .fieldLink RX2 17 "HotBeds$Sailors" "heavy" "[I", .fieldLink RX2 20 "HotBeds$Sailors" "wage" "[I", .fieldLink RX2 23 "HotBeds$Sailors" "purse" "[I", .fieldLink RX2 26 "HotBeds$Sailors" "boots" "[I", .fieldLink RX2 29 "HotBeds$Sailors" "kept" "[I", .fieldLink RX2 32 "HotBeds$Sailors" "place" "[I", .fieldLink RX2 35 "HotBeds$Sailors" "bed" "[I", .fieldLink RX2 38 "HotBeds$Sailors" "rest" "[I", .fieldLink RX2 41 "HotBeds$Sailors" "late" "[I", .fieldLink RX2 44 "HotBeds$Sailors" "lateSincePay" "[I", .fieldLink RX2 47 "HotBeds$Sailors" "floors" "[I", .static yX3_copyRow, .initialized RX3, .code yX3_copyRow cX3_copyRow 3 none] ++ wsX20)
def wsX1_copyFrom_r1 : List Cond := [Cond.fieldLink RX1 7 "HotBeds$House" "hour" "I", Cond.fieldLink RX1 13 "HotBeds$House" "bell" "I", Cond.fieldLink RX1 16 "HotBeds$House" "pawn" "I", Cond.fieldLink RX1 22 "HotBeds$House" "beds" "LHotBeds$Beds;", Cond.fieldLink RX1 29 "HotBeds$House" "sailors" "LHotBeds$Sailors;", Cond.methodLink RX1 33 yX0_copyFrom, Cond.instanceMethod yX0_copyFrom, Cond.selects RX0 yX0_copyFrom yX0_copyFrom, Cond.initialized RX0, Cond.code yX0_copyFrom cX0_copyFrom 2 none, Cond.fieldLink RX0 7 "HotBeds$Beds" "size" "I", Cond.fieldLink RX0 13 "HotBeds$Beds" "price" "[I", Cond.fieldLink RX0 17 "HotBeds$Beds" "warmth" "[I", Cond.fieldLink RX0 20 "HotBeds$Beds" "entries" "[I", Cond.fieldLink RX0 23 "HotBeds$Beds" "paid" "[I", Cond.fieldLink RX0 26 "HotBeds$Beds" "sleeper" "[I", Cond.static yX3_copyRow, Cond.initialized RX3, Cond.code yX3_copyRow cX3_copyRow 3 none, Cond.methodLink RX1 37 yX2_copyFrom, Cond.instanceMethod yX2_copyFrom, Cond.selects RX2 yX2_copyFrom yX2_copyFrom, Cond.initialized RX2, Cond.code yX2_copyFrom cX2_copyFrom 2 none]
def wsX1_copyFrom_r2 : List Cond := [Cond.fieldLink RX2 7 "HotBeds$Sailors" "size" "I", Cond.fieldLink RX2 13 "HotBeds$Sailors" "watch" "[I", Cond.fieldLink RX2 17 "HotBeds$Sailors" "heavy" "[I", Cond.fieldLink RX2 20 "HotBeds$Sailors" "wage" "[I", Cond.fieldLink RX2 23 "HotBeds$Sailors" "purse" "[I", Cond.fieldLink RX2 26 "HotBeds$Sailors" "boots" "[I", Cond.fieldLink RX2 29 "HotBeds$Sailors" "kept" "[I", Cond.fieldLink RX2 32 "HotBeds$Sailors" "place" "[I", Cond.fieldLink RX2 35 "HotBeds$Sailors" "bed" "[I", Cond.fieldLink RX2 38 "HotBeds$Sailors" "rest" "[I", Cond.fieldLink RX2 41 "HotBeds$Sailors" "late" "[I", Cond.fieldLink RX2 44 "HotBeds$Sailors" "lateSincePay" "[I", Cond.fieldLink RX2 47 "HotBeds$Sailors" "floors" "[I"]
def wsX1_copyFrom : List Cond := .code yX1_copyFrom cX1_copyFrom 2 none :: ((wsX1_copyFrom_r1 ++ wsX1_copyFrom_r2) ++ wsX10 ++ wsX00 ++ wsX20)
def wsX1_watchNow : List Cond := .code yX1_watchNow cX1_watchNow 1 (some .int) :: ([.fieldLink RX1 7 "HotBeds$House" "hour" "I"] ++ wsX10)
def wsX2_isUp : List Cond := .code yX2_isUp cX2_isUp 2 (some .boolean) :: ([.fieldLink RX2 32 "HotBeds$Sailors" "place" "[I"] ++ wsX20)
def wsX1_isInWatch : List Cond := .code yX1_isInWatch cX1_isInWatch 2 (some .boolean) :: ([.fieldLink RX1 29 "HotBeds$House" "sailors" "LHotBeds$Sailors;", .fieldLink RX1 105 "HotBeds$Sailors" "watch" "[I", .methodLink RX1 108 yX1_watchNow, .instanceMethod yX1_watchNow, .selects RX1 yX1_watchNow yX1_watchNow, .initialized RX1, .code yX1_watchNow cX1_watchNow 1 (some .int), .fieldLink RX1 7 "HotBeds$House" "hour" "I"] ++ wsX10 ++ wsX20)
def wsX1_hoursSinceWatch : List Cond := .code yX1_hoursSinceWatch cX1_hoursSinceWatch 3 (some .int) :: ([.fieldLink RX1 29 "HotBeds$House" "sailors" "LHotBeds$Sailors;", .fieldLink RX1 105 "HotBeds$Sailors" "watch" "[I", .fieldLink RX1 7 "HotBeds$House" "hour" "I"] ++ wsX10 ++ wsX20)
def wsX1_getUp : List Cond := .code yX1_getUp cX1_getUp 3 none :: ([.fieldLink RX1 29 "HotBeds$House" "sailors" "LHotBeds$Sailors;", .fieldLink RX1 61 "HotBeds$Sailors" "bed" "[I", .fieldLink RX1 22 "HotBeds$House" "beds" "LHotBeds$Beds;", .fieldLink RX1 68 "HotBeds$Beds" "sleeper" "[I", .fieldLink RX1 71 "HotBeds$Sailors" "place" "[I", .methodLink RX1 64 yX0_has, .instanceMethod yX0_has, .selects RX0 yX0_has yX0_has, .initialized RX0, .code yX0_has cX0_has 2 (some .boolean), .fieldLink RX0 7 "HotBeds$Beds" "size" "I"] ++ wsX10 ++ wsX20 ++ wsX00)
def wsX2_beLate : List Cond := .code yX2_beLate cX2_beLate 2 none :: ([.fieldLink RX2 41 "HotBeds$Sailors" "late" "[I", .fieldLink RX2 44 "HotBeds$Sailors" "lateSincePay" "[I"] ++ wsX20)
def wsX1_ringBell_r1 : List Cond := [Cond.fieldLink RX1 29 "HotBeds$House" "sailors" "LHotBeds$Sailors;", Cond.fieldLink RX1 13 "HotBeds$House" "bell" "I", Cond.fieldLink RX1 96 "HotBeds$Sailors" "heavy" "[I", Cond.methodLink RX1 87 yX2_isUp, Cond.instanceMethod yX2_isUp, Cond.selects RX2 yX2_isUp yX2_isUp, Cond.initialized RX2, Cond.code yX2_isUp cX2_isUp 2 (some .boolean), Cond.fieldLink RX2 32 "HotBeds$Sailors" "place" "[I", Cond.methodLink RX1 90 yX1_isInWatch, Cond.instanceMethod yX1_isInWatch, Cond.selects RX1 yX1_isInWatch yX1_isInWatch, Cond.initialized RX1, Cond.code yX1_isInWatch cX1_isInWatch 2 (some .boolean), Cond.fieldLink RX1 105 "HotBeds$Sailors" "watch" "[I", Cond.methodLink RX1 108 yX1_watchNow, Cond.instanceMethod yX1_watchNow, Cond.selects RX1 yX1_watchNow yX1_watchNow, Cond.code yX1_watchNow cX1_watchNow 1 (some .int), Cond.fieldLink RX1 7 "HotBeds$House" "hour" "I", Cond.methodLink RX1 93 yX1_hoursSinceWatch, Cond.instanceMethod yX1_hoursSinceWatch, Cond.selects RX1 yX1_hoursSinceWatch yX1_hoursSinceWatch, Cond.code yX1_hoursSinceWatch cX1_hoursSinceWatch 3 (some .int)]
def wsX1_ringBell_r2 : List Cond := [Cond.methodLink RX1 99 yX1_getUp, Cond.instanceMethod yX1_getUp, Cond.selects RX1 yX1_getUp yX1_getUp, Cond.code yX1_getUp cX1_getUp 3 none, Cond.fieldLink RX1 61 "HotBeds$Sailors" "bed" "[I", Cond.fieldLink RX1 22 "HotBeds$House" "beds" "LHotBeds$Beds;", Cond.fieldLink RX1 68 "HotBeds$Beds" "sleeper" "[I", Cond.fieldLink RX1 71 "HotBeds$Sailors" "place" "[I", Cond.methodLink RX1 64 yX0_has, Cond.instanceMethod yX0_has, Cond.selects RX0 yX0_has yX0_has, Cond.initialized RX0, Cond.code yX0_has cX0_has 2 (some .boolean), Cond.fieldLink RX0 7 "HotBeds$Beds" "size" "I", Cond.methodLink RX1 102 yX2_beLate, Cond.instanceMethod yX2_beLate, Cond.selects RX2 yX2_beLate yX2_beLate, Cond.code yX2_beLate cX2_beLate 2 none, Cond.fieldLink RX2 41 "HotBeds$Sailors" "late" "[I", Cond.fieldLink RX2 44 "HotBeds$Sailors" "lateSincePay" "[I"]
def wsX1_ringBell : List Cond := .code yX1_ringBell cX1_ringBell 3 none :: ((wsX1_ringBell_r1 ++ wsX1_ringBell_r2) ++ wsX10 ++ wsX20 ++ wsX00)
def wsX2_hasBoots : List Cond := .code yX2_hasBoots cX2_hasBoots 2 (some .boolean) :: ([.fieldLink RX2 26 "HotBeds$Sailors" "boots" "[I"] ++ wsX20)
def wsX2_earn : List Cond := .code yX2_earn cX2_earn 3 none :: ([.fieldLink RX2 23 "HotBeds$Sailors" "purse" "[I", .methodLink RX2 65 Lib.Math.min.name, .static Lib.Math.min.name, .initialized "java/lang/Math", .code Lib.Math.min.name Lib.Math.min.code 2 (some .int)] ++ wsX20)
def wsX2_payWage : List Cond := .code yX2_payWage cX2_payWage 3 none :: ([.fieldLink RX2 20 "HotBeds$Sailors" "wage" "[I", .fieldLink RX2 44 "HotBeds$Sailors" "lateSincePay" "[I", .methodLink RX2 75 Lib.Math.max.name, .static Lib.Math.max.name, .initialized "java/lang/Math", .code Lib.Math.max.name Lib.Math.max.code 2 (some .int), .methodLink RX2 71 yX2_hasBoots, .instanceMethod yX2_hasBoots, .selects RX2 yX2_hasBoots yX2_hasBoots, .initialized RX2, .code yX2_hasBoots cX2_hasBoots 2 (some .boolean), .fieldLink RX2 26 "HotBeds$Sailors" "boots" "[I", .methodLink RX2 78 yX2_earn, .instanceMethod yX2_earn, .selects RX2 yX2_earn yX2_earn, .code yX2_earn cX2_earn 3 none, .fieldLink RX2 23 "HotBeds$Sailors" "purse" "[I", .methodLink RX2 65 Lib.Math.min.name, .static Lib.Math.min.name, .code Lib.Math.min.name Lib.Math.min.code 2 (some .int)] ++ wsX20)
def wsX1_canRedeemBoots : List Cond := .code yX1_canRedeemBoots cX1_canRedeemBoots 2 (some .boolean) :: ([.fieldLink RX1 29 "HotBeds$House" "sailors" "LHotBeds$Sailors;", .fieldLink RX1 84 "HotBeds$Sailors" "purse" "[I", .fieldLink RX1 16 "HotBeds$House" "pawn" "I", .methodLink RX1 81 yX2_hasBoots, .instanceMethod yX2_hasBoots, .selects RX2 yX2_hasBoots yX2_hasBoots, .initialized RX2, .code yX2_hasBoots cX2_hasBoots 2 (some .boolean), .fieldLink RX2 26 "HotBeds$Sailors" "boots" "[I"] ++ wsX10 ++ wsX20)
def wsX1_redeemBoots : List Cond := .code yX1_redeemBoots cX1_redeemBoots 2 none :: ([.fieldLink RX1 29 "HotBeds$House" "sailors" "LHotBeds$Sailors;", .fieldLink RX1 84 "HotBeds$Sailors" "purse" "[I", .fieldLink RX1 16 "HotBeds$House" "pawn" "I", .fieldLink RX1 74 "HotBeds$Sailors" "boots" "[I"] ++ wsX10 ++ wsX20)
def wsX1_pawnBoots : List Cond := .code yX1_pawnBoots cX1_pawnBoots 2 none :: ([.fieldLink RX1 29 "HotBeds$House" "sailors" "LHotBeds$Sailors;", .fieldLink RX1 74 "HotBeds$Sailors" "boots" "[I", .fieldLink RX1 16 "HotBeds$House" "pawn" "I", .methodLink RX1 77 yX2_earn, .instanceMethod yX2_earn, .selects RX2 yX2_earn yX2_earn, .initialized RX2, .code yX2_earn cX2_earn 3 none, .fieldLink RX2 23 "HotBeds$Sailors" "purse" "[I", .methodLink RX2 65 Lib.Math.min.name, .static Lib.Math.min.name, .initialized "java/lang/Math", .code Lib.Math.min.name Lib.Math.min.code 2 (some .int)] ++ wsX10 ++ wsX20)
def wsX1_getInto : List Cond := .code yX1_getInto cX1_getInto 4 none :: ([.fieldLink RX1 22 "HotBeds$House" "beds" "LHotBeds$Beds;", .fieldLink RX1 139 "HotBeds$Beds" "price" "[I", .fieldLink RX1 29 "HotBeds$House" "sailors" "LHotBeds$Sailors;", .fieldLink RX1 84 "HotBeds$Sailors" "purse" "[I", .fieldLink RX1 71 "HotBeds$Sailors" "place" "[I", .fieldLink RX1 61 "HotBeds$Sailors" "bed" "[I", .fieldLink RX1 148 "HotBeds$Beds" "paid" "[I", .fieldLink RX1 151 "HotBeds$Beds" "entries" "[I", .fieldLink RX1 68 "HotBeds$Beds" "sleeper" "[I"] ++ wsX10 ++ wsX00 ++ wsX20)
def wsX2_lieOnFloor : List Cond := .code yX2_lieOnFloor cX2_lieOnFloor 2 none :: ([.fieldLink RX2 32 "HotBeds$Sailors" "place" "[I", .fieldLink RX2 47 "HotBeds$Sailors" "floors" "[I"] ++ wsX20)
def wsX1_tryBed_r1 : List Cond := [Cond.fieldLink RX1 22 "HotBeds$House" "beds" "LHotBeds$Beds;", Cond.fieldLink RX1 139 "HotBeds$Beds" "price" "[I", Cond.fieldLink RX1 29 "HotBeds$House" "sailors" "LHotBeds$Sailors;", Cond.fieldLink RX1 84 "HotBeds$Sailors" "purse" "[I", Cond.fieldLink RX1 16 "HotBeds$House" "pawn" "I", Cond.methodLink RX1 81 yX2_hasBoots, Cond.instanceMethod yX2_hasBoots, Cond.selects RX2 yX2_hasBoots yX2_hasBoots, Cond.initialized RX2, Cond.code yX2_hasBoots cX2_hasBoots 2 (some .boolean), Cond.fieldLink RX2 26 "HotBeds$Sailors" "boots" "[I", Cond.methodLink RX1 142 yX1_pawnBoots, Cond.instanceMethod yX1_pawnBoots, Cond.selects RX1 yX1_pawnBoots yX1_pawnBoots, Cond.initialized RX1, Cond.code yX1_pawnBoots cX1_pawnBoots 2 none, Cond.fieldLink RX1 74 "HotBeds$Sailors" "boots" "[I", Cond.methodLink RX1 77 yX2_earn, Cond.instanceMethod yX2_earn, Cond.selects RX2 yX2_earn yX2_earn, Cond.code yX2_earn cX2_earn 3 none, Cond.fieldLink RX2 23 "HotBeds$Sailors" "purse" "[I", Cond.methodLink RX2 65 Lib.Math.min.name, Cond.static Lib.Math.min.name]
def wsX1_tryBed_r2 : List Cond := [Cond.initialized "java/lang/Math", Cond.code Lib.Math.min.name Lib.Math.min.code 2 (some .int), Cond.methodLink RX1 145 yX1_getInto, Cond.instanceMethod yX1_getInto, Cond.selects RX1 yX1_getInto yX1_getInto, Cond.code yX1_getInto cX1_getInto 4 none, Cond.fieldLink RX1 71 "HotBeds$Sailors" "place" "[I", Cond.fieldLink RX1 61 "HotBeds$Sailors" "bed" "[I", Cond.fieldLink RX1 148 "HotBeds$Beds" "paid" "[I", Cond.fieldLink RX1 151 "HotBeds$Beds" "entries" "[I", Cond.fieldLink RX1 68 "HotBeds$Beds" "sleeper" "[I", Cond.methodLink RX1 136 yX2_lieOnFloor, Cond.instanceMethod yX2_lieOnFloor, Cond.selects RX2 yX2_lieOnFloor yX2_lieOnFloor, Cond.code yX2_lieOnFloor cX2_lieOnFloor 2 none, Cond.fieldLink RX2 32 "HotBeds$Sailors" "place" "[I", Cond.fieldLink RX2 47 "HotBeds$Sailors" "floors" "[I"]
def wsX1_tryBed : List Cond := .code yX1_tryBed cX1_tryBed 5 none :: ((wsX1_tryBed_r1 ++ wsX1_tryBed_r2) ++ wsX10 ++ wsX00 ++ wsX20)
def wsX1_lookForBed_r1 : List Cond := [Cond.fieldLink RX1 29 "HotBeds$House" "sailors" "LHotBeds$Sailors;", Cond.fieldLink RX1 124 "HotBeds$Sailors" "kept" "[I", Cond.fieldLink RX1 22 "HotBeds$House" "beds" "LHotBeds$Beds;", Cond.fieldLink RX1 7 "HotBeds$House" "hour" "I", Cond.methodLink RX1 127 yX0_isFree, Cond.instanceMethod yX0_isFree, Cond.selects RX0 yX0_isFree yX0_isFree, Cond.initialized RX0, Cond.code yX0_isFree cX0_isFree 2 (some .boolean), Cond.fieldLink RX0 26 "HotBeds$Beds" "sleeper" "[I", Cond.methodLink RX0 42 yX0_has, Cond.instanceMethod yX0_has, Cond.selects RX0 yX0_has yX0_has, Cond.code yX0_has cX0_has 2 (some .boolean), Cond.fieldLink RX0 7 "HotBeds$Beds" "size" "I", Cond.methodLink RX1 130 yX0_cheapestFree, Cond.instanceMethod yX0_cheapestFree, Cond.selects RX0 yX0_cheapestFree yX0_cheapestFree, Cond.code yX0_cheapestFree cX0_cheapestFree 3 (some .int), Cond.fieldLink RX0 13 "HotBeds$Beds" "price" "[I", Cond.methodLink RX0 46 yX0_isFree, Cond.methodLink RX1 64 yX0_has, Cond.methodLink RX1 133 yX1_tryBed, Cond.instanceMethod yX1_tryBed]
def wsX1_lookForBed_r2 : List Cond := [Cond.selects RX1 yX1_tryBed yX1_tryBed, Cond.initialized RX1, Cond.code yX1_tryBed cX1_tryBed 5 none, Cond.fieldLink RX1 139 "HotBeds$Beds" "price" "[I", Cond.fieldLink RX1 84 "HotBeds$Sailors" "purse" "[I", Cond.fieldLink RX1 16 "HotBeds$House" "pawn" "I", Cond.methodLink RX1 81 yX2_hasBoots, Cond.instanceMethod yX2_hasBoots, Cond.selects RX2 yX2_hasBoots yX2_hasBoots, Cond.initialized RX2, Cond.code yX2_hasBoots cX2_hasBoots 2 (some .boolean), Cond.fieldLink RX2 26 "HotBeds$Sailors" "boots" "[I", Cond.methodLink RX1 142 yX1_pawnBoots, Cond.instanceMethod yX1_pawnBoots, Cond.selects RX1 yX1_pawnBoots yX1_pawnBoots, Cond.code yX1_pawnBoots cX1_pawnBoots 2 none, Cond.fieldLink RX1 74 "HotBeds$Sailors" "boots" "[I", Cond.methodLink RX1 77 yX2_earn, Cond.instanceMethod yX2_earn, Cond.selects RX2 yX2_earn yX2_earn, Cond.code yX2_earn cX2_earn 3 none, Cond.fieldLink RX2 23 "HotBeds$Sailors" "purse" "[I", Cond.methodLink RX2 65 Lib.Math.min.name, Cond.static Lib.Math.min.name]
def wsX1_lookForBed_r3 : List Cond := [Cond.initialized "java/lang/Math", Cond.code Lib.Math.min.name Lib.Math.min.code 2 (some .int), Cond.methodLink RX1 145 yX1_getInto, Cond.instanceMethod yX1_getInto, Cond.selects RX1 yX1_getInto yX1_getInto, Cond.code yX1_getInto cX1_getInto 4 none, Cond.fieldLink RX1 71 "HotBeds$Sailors" "place" "[I", Cond.fieldLink RX1 61 "HotBeds$Sailors" "bed" "[I", Cond.fieldLink RX1 148 "HotBeds$Beds" "paid" "[I", Cond.fieldLink RX1 151 "HotBeds$Beds" "entries" "[I", Cond.fieldLink RX1 68 "HotBeds$Beds" "sleeper" "[I", Cond.methodLink RX1 136 yX2_lieOnFloor, Cond.instanceMethod yX2_lieOnFloor, Cond.selects RX2 yX2_lieOnFloor yX2_lieOnFloor, Cond.code yX2_lieOnFloor cX2_lieOnFloor 2 none, Cond.fieldLink RX2 32 "HotBeds$Sailors" "place" "[I", Cond.fieldLink RX2 47 "HotBeds$Sailors" "floors" "[I"]
def wsX1_lookForBed : List Cond := .code yX1_lookForBed cX1_lookForBed 4 none :: ((wsX1_lookForBed_r1 ++ (wsX1_lookForBed_r2 ++ wsX1_lookForBed_r3)) ++ wsX10 ++ wsX20 ++ wsX00)
def wsX1_serve_r1 : List Cond := [Cond.fieldLink RX1 7 "HotBeds$House" "hour" "I", Cond.fieldLink RX1 29 "HotBeds$House" "sailors" "LHotBeds$Sailors;", Cond.methodLink RX1 90 yX1_isInWatch, Cond.instanceMethod yX1_isInWatch, Cond.selects RX1 yX1_isInWatch yX1_isInWatch, Cond.initialized RX1, Cond.code yX1_isInWatch cX1_isInWatch 2 (some .boolean), Cond.fieldLink RX1 105 "HotBeds$Sailors" "watch" "[I", Cond.methodLink RX1 108 yX1_watchNow, Cond.instanceMethod yX1_watchNow, Cond.selects RX1 yX1_watchNow yX1_watchNow, Cond.code yX1_watchNow cX1_watchNow 1 (some .int), Cond.methodLink RX1 112 yX2_payWage, Cond.instanceMethod yX2_payWage, Cond.selects RX2 yX2_payWage yX2_payWage, Cond.initialized RX2, Cond.code yX2_payWage cX2_payWage 3 none, Cond.fieldLink RX2 20 "HotBeds$Sailors" "wage" "[I", Cond.fieldLink RX2 44 "HotBeds$Sailors" "lateSincePay" "[I", Cond.methodLink RX2 75 Lib.Math.max.name, Cond.static Lib.Math.max.name, Cond.initialized "java/lang/Math", Cond.code Lib.Math.max.name Lib.Math.max.code 2 (some .int), Cond.methodLink RX2 71 yX2_hasBoots]
def wsX1_serve_r2 : List Cond := [Cond.instanceMethod yX2_hasBoots, Cond.selects RX2 yX2_hasBoots yX2_hasBoots, Cond.code yX2_hasBoots cX2_hasBoots 2 (some .boolean), Cond.fieldLink RX2 26 "HotBeds$Sailors" "boots" "[I", Cond.methodLink RX2 78 yX2_earn, Cond.instanceMethod yX2_earn, Cond.selects RX2 yX2_earn yX2_earn, Cond.code yX2_earn cX2_earn 3 none, Cond.fieldLink RX2 23 "HotBeds$Sailors" "purse" "[I", Cond.methodLink RX2 65 Lib.Math.min.name, Cond.static Lib.Math.min.name, Cond.code Lib.Math.min.name Lib.Math.min.code 2 (some .int), Cond.methodLink RX1 115 yX1_canRedeemBoots, Cond.instanceMethod yX1_canRedeemBoots, Cond.selects RX1 yX1_canRedeemBoots yX1_canRedeemBoots, Cond.code yX1_canRedeemBoots cX1_canRedeemBoots 2 (some .boolean), Cond.fieldLink RX1 84 "HotBeds$Sailors" "purse" "[I", Cond.fieldLink RX1 16 "HotBeds$House" "pawn" "I", Cond.methodLink RX1 81 yX2_hasBoots, Cond.methodLink RX1 118 yX1_redeemBoots, Cond.instanceMethod yX1_redeemBoots, Cond.selects RX1 yX1_redeemBoots yX1_redeemBoots, Cond.code yX1_redeemBoots cX1_redeemBoots 2 none, Cond.fieldLink RX1 74 "HotBeds$Sailors" "boots" "[I"]
def wsX1_serve_r3 : List Cond := [Cond.methodLink RX1 87 yX2_isUp, Cond.instanceMethod yX2_isUp, Cond.selects RX2 yX2_isUp yX2_isUp, Cond.code yX2_isUp cX2_isUp 2 (some .boolean), Cond.fieldLink RX2 32 "HotBeds$Sailors" "place" "[I", Cond.methodLink RX1 121 yX1_lookForBed, Cond.instanceMethod yX1_lookForBed, Cond.selects RX1 yX1_lookForBed yX1_lookForBed, Cond.code yX1_lookForBed cX1_lookForBed 4 none, Cond.fieldLink RX1 124 "HotBeds$Sailors" "kept" "[I", Cond.fieldLink RX1 22 "HotBeds$House" "beds" "LHotBeds$Beds;", Cond.methodLink RX1 127 yX0_isFree, Cond.instanceMethod yX0_isFree, Cond.selects RX0 yX0_isFree yX0_isFree, Cond.initialized RX0, Cond.code yX0_isFree cX0_isFree 2 (some .boolean), Cond.fieldLink RX0 26 "HotBeds$Beds" "sleeper" "[I", Cond.methodLink RX0 42 yX0_has, Cond.instanceMethod yX0_has, Cond.selects RX0 yX0_has yX0_has, Cond.code yX0_has cX0_has 2 (some .boolean), Cond.fieldLink RX0 7 "HotBeds$Beds" "size" "I", Cond.methodLink RX1 130 yX0_cheapestFree, Cond.instanceMethod yX0_cheapestFree]
def wsX1_serve_r4 : List Cond := [Cond.selects RX0 yX0_cheapestFree yX0_cheapestFree, Cond.code yX0_cheapestFree cX0_cheapestFree 3 (some .int), Cond.fieldLink RX0 13 "HotBeds$Beds" "price" "[I", Cond.methodLink RX0 46 yX0_isFree, Cond.methodLink RX1 64 yX0_has, Cond.methodLink RX1 133 yX1_tryBed, Cond.instanceMethod yX1_tryBed, Cond.selects RX1 yX1_tryBed yX1_tryBed, Cond.code yX1_tryBed cX1_tryBed 5 none, Cond.fieldLink RX1 139 "HotBeds$Beds" "price" "[I", Cond.methodLink RX1 142 yX1_pawnBoots, Cond.instanceMethod yX1_pawnBoots, Cond.selects RX1 yX1_pawnBoots yX1_pawnBoots, Cond.code yX1_pawnBoots cX1_pawnBoots 2 none, Cond.methodLink RX1 77 yX2_earn, Cond.methodLink RX1 145 yX1_getInto, Cond.instanceMethod yX1_getInto, Cond.selects RX1 yX1_getInto yX1_getInto, Cond.code yX1_getInto cX1_getInto 4 none, Cond.fieldLink RX1 71 "HotBeds$Sailors" "place" "[I", Cond.fieldLink RX1 61 "HotBeds$Sailors" "bed" "[I", Cond.fieldLink RX1 148 "HotBeds$Beds" "paid" "[I", Cond.fieldLink RX1 151 "HotBeds$Beds" "entries" "[I", Cond.fieldLink RX1 68 "HotBeds$Beds" "sleeper" "[I"]
def wsX1_serve_r5 : List Cond := [Cond.methodLink RX1 136 yX2_lieOnFloor, Cond.instanceMethod yX2_lieOnFloor, Cond.selects RX2 yX2_lieOnFloor yX2_lieOnFloor, Cond.code yX2_lieOnFloor cX2_lieOnFloor 2 none, Cond.fieldLink RX2 47 "HotBeds$Sailors" "floors" "[I"]
def wsX1_serve : List Cond := .code yX1_serve cX1_serve 2 none :: ((wsX1_serve_r1 ++ (wsX1_serve_r2 ++ (wsX1_serve_r3 ++ (wsX1_serve_r4 ++ wsX1_serve_r5)))) ++ wsX10 ++ wsX20 ++ wsX00)
def wsX1_restOfHour : List Cond := .code yX1_restOfHour cX1_restOfHour 2 (some .int) :: ([.fieldLink RX1 29 "HotBeds$House" "sailors" "LHotBeds$Sailors;", .fieldLink RX1 71 "HotBeds$Sailors" "place" "[I", .fieldLink RX1 22 "HotBeds$House" "beds" "LHotBeds$Beds;", .fieldLink RX1 61 "HotBeds$Sailors" "bed" "[I", .fieldLink RX1 7 "HotBeds$House" "hour" "I", .methodLink RX1 154 yX0_isWarm, .instanceMethod yX0_isWarm, .selects RX0 yX0_isWarm yX0_isWarm, .initialized RX0, .code yX0_isWarm cX0_isWarm 2 (some .boolean), .fieldLink RX0 17 "HotBeds$Beds" "warmth" "[I", .methodLink RX0 42 yX0_has, .instanceMethod yX0_has, .selects RX0 yX0_has yX0_has, .code yX0_has cX0_has 2 (some .boolean), .fieldLink RX0 7 "HotBeds$Beds" "size" "I"] ++ wsX10 ++ wsX20 ++ wsX00)
def wsX1_goOn_r1 : List Cond := [Cond.fieldLink RX1 29 "HotBeds$House" "sailors" "LHotBeds$Sailors;", Cond.fieldLink RX1 40 "HotBeds$Sailors" "size" "I", Cond.fieldLink RX1 50 "HotBeds$Sailors" "rest" "[I", Cond.fieldLink RX1 22 "HotBeds$House" "beds" "LHotBeds$Beds;", Cond.fieldLink RX1 7 "HotBeds$House" "hour" "I", Cond.methodLink RX1 43 yX1_ringBell, Cond.instanceMethod yX1_ringBell, Cond.selects RX1 yX1_ringBell yX1_ringBell, Cond.initialized RX1, Cond.code yX1_ringBell cX1_ringBell 3 none, Cond.fieldLink RX1 13 "HotBeds$House" "bell" "I", Cond.fieldLink RX1 96 "HotBeds$Sailors" "heavy" "[I", Cond.methodLink RX1 87 yX2_isUp, Cond.instanceMethod yX2_isUp, Cond.selects RX2 yX2_isUp yX2_isUp, Cond.initialized RX2, Cond.code yX2_isUp cX2_isUp 2 (some .boolean), Cond.fieldLink RX2 32 "HotBeds$Sailors" "place" "[I", Cond.methodLink RX1 90 yX1_isInWatch, Cond.instanceMethod yX1_isInWatch, Cond.selects RX1 yX1_isInWatch yX1_isInWatch, Cond.code yX1_isInWatch cX1_isInWatch 2 (some .boolean), Cond.fieldLink RX1 105 "HotBeds$Sailors" "watch" "[I", Cond.methodLink RX1 108 yX1_watchNow]
def wsX1_goOn_r2 : List Cond := [Cond.instanceMethod yX1_watchNow, Cond.selects RX1 yX1_watchNow yX1_watchNow, Cond.code yX1_watchNow cX1_watchNow 1 (some .int), Cond.methodLink RX1 93 yX1_hoursSinceWatch, Cond.instanceMethod yX1_hoursSinceWatch, Cond.selects RX1 yX1_hoursSinceWatch yX1_hoursSinceWatch, Cond.code yX1_hoursSinceWatch cX1_hoursSinceWatch 3 (some .int), Cond.methodLink RX1 99 yX1_getUp, Cond.instanceMethod yX1_getUp, Cond.selects RX1 yX1_getUp yX1_getUp, Cond.code yX1_getUp cX1_getUp 3 none, Cond.fieldLink RX1 61 "HotBeds$Sailors" "bed" "[I", Cond.fieldLink RX1 68 "HotBeds$Beds" "sleeper" "[I", Cond.fieldLink RX1 71 "HotBeds$Sailors" "place" "[I", Cond.methodLink RX1 64 yX0_has, Cond.instanceMethod yX0_has, Cond.selects RX0 yX0_has yX0_has, Cond.initialized RX0, Cond.code yX0_has cX0_has 2 (some .boolean), Cond.fieldLink RX0 7 "HotBeds$Beds" "size" "I", Cond.methodLink RX1 102 yX2_beLate, Cond.instanceMethod yX2_beLate, Cond.selects RX2 yX2_beLate yX2_beLate, Cond.code yX2_beLate cX2_beLate 2 none]
def wsX1_goOn_r3 : List Cond := [Cond.fieldLink RX2 41 "HotBeds$Sailors" "late" "[I", Cond.fieldLink RX2 44 "HotBeds$Sailors" "lateSincePay" "[I", Cond.methodLink RX1 47 yX1_serve, Cond.instanceMethod yX1_serve, Cond.selects RX1 yX1_serve yX1_serve, Cond.code yX1_serve cX1_serve 2 none, Cond.methodLink RX1 112 yX2_payWage, Cond.instanceMethod yX2_payWage, Cond.selects RX2 yX2_payWage yX2_payWage, Cond.code yX2_payWage cX2_payWage 3 none, Cond.fieldLink RX2 20 "HotBeds$Sailors" "wage" "[I", Cond.methodLink RX2 75 Lib.Math.max.name, Cond.static Lib.Math.max.name, Cond.initialized "java/lang/Math", Cond.code Lib.Math.max.name Lib.Math.max.code 2 (some .int), Cond.methodLink RX2 71 yX2_hasBoots, Cond.instanceMethod yX2_hasBoots, Cond.selects RX2 yX2_hasBoots yX2_hasBoots, Cond.code yX2_hasBoots cX2_hasBoots 2 (some .boolean), Cond.fieldLink RX2 26 "HotBeds$Sailors" "boots" "[I", Cond.methodLink RX2 78 yX2_earn, Cond.instanceMethod yX2_earn, Cond.selects RX2 yX2_earn yX2_earn, Cond.code yX2_earn cX2_earn 3 none]
def wsX1_goOn_r4 : List Cond := [Cond.fieldLink RX2 23 "HotBeds$Sailors" "purse" "[I", Cond.methodLink RX2 65 Lib.Math.min.name, Cond.static Lib.Math.min.name, Cond.code Lib.Math.min.name Lib.Math.min.code 2 (some .int), Cond.methodLink RX1 115 yX1_canRedeemBoots, Cond.instanceMethod yX1_canRedeemBoots, Cond.selects RX1 yX1_canRedeemBoots yX1_canRedeemBoots, Cond.code yX1_canRedeemBoots cX1_canRedeemBoots 2 (some .boolean), Cond.fieldLink RX1 84 "HotBeds$Sailors" "purse" "[I", Cond.fieldLink RX1 16 "HotBeds$House" "pawn" "I", Cond.methodLink RX1 81 yX2_hasBoots, Cond.methodLink RX1 118 yX1_redeemBoots, Cond.instanceMethod yX1_redeemBoots, Cond.selects RX1 yX1_redeemBoots yX1_redeemBoots, Cond.code yX1_redeemBoots cX1_redeemBoots 2 none, Cond.fieldLink RX1 74 "HotBeds$Sailors" "boots" "[I", Cond.methodLink RX1 121 yX1_lookForBed, Cond.instanceMethod yX1_lookForBed, Cond.selects RX1 yX1_lookForBed yX1_lookForBed, Cond.code yX1_lookForBed cX1_lookForBed 4 none, Cond.fieldLink RX1 124 "HotBeds$Sailors" "kept" "[I", Cond.methodLink RX1 127 yX0_isFree, Cond.instanceMethod yX0_isFree, Cond.selects RX0 yX0_isFree yX0_isFree]
def wsX1_goOn_r5 : List Cond := [Cond.code yX0_isFree cX0_isFree 2 (some .boolean), Cond.fieldLink RX0 26 "HotBeds$Beds" "sleeper" "[I", Cond.methodLink RX0 42 yX0_has, Cond.methodLink RX1 130 yX0_cheapestFree, Cond.instanceMethod yX0_cheapestFree, Cond.selects RX0 yX0_cheapestFree yX0_cheapestFree, Cond.code yX0_cheapestFree cX0_cheapestFree 3 (some .int), Cond.fieldLink RX0 13 "HotBeds$Beds" "price" "[I", Cond.methodLink RX0 46 yX0_isFree, Cond.methodLink RX1 133 yX1_tryBed, Cond.instanceMethod yX1_tryBed, Cond.selects RX1 yX1_tryBed yX1_tryBed, Cond.code yX1_tryBed cX1_tryBed 5 none, Cond.fieldLink RX1 139 "HotBeds$Beds" "price" "[I", Cond.methodLink RX1 142 yX1_pawnBoots, Cond.instanceMethod yX1_pawnBoots, Cond.selects RX1 yX1_pawnBoots yX1_pawnBoots, Cond.code yX1_pawnBoots cX1_pawnBoots 2 none, Cond.methodLink RX1 77 yX2_earn, Cond.methodLink RX1 145 yX1_getInto, Cond.instanceMethod yX1_getInto, Cond.selects RX1 yX1_getInto yX1_getInto, Cond.code yX1_getInto cX1_getInto 4 none, Cond.fieldLink RX1 148 "HotBeds$Beds" "paid" "[I"]
def wsX1_goOn_r6 : List Cond := [Cond.fieldLink RX1 151 "HotBeds$Beds" "entries" "[I", Cond.methodLink RX1 136 yX2_lieOnFloor, Cond.instanceMethod yX2_lieOnFloor, Cond.selects RX2 yX2_lieOnFloor yX2_lieOnFloor, Cond.code yX2_lieOnFloor cX2_lieOnFloor 2 none, Cond.fieldLink RX2 47 "HotBeds$Sailors" "floors" "[I", Cond.methodLink RX1 54 yX1_restOfHour, Cond.instanceMethod yX1_restOfHour, Cond.selects RX1 yX1_restOfHour yX1_restOfHour, Cond.code yX1_restOfHour cX1_restOfHour 2 (some .int), Cond.methodLink RX1 154 yX0_isWarm, Cond.instanceMethod yX0_isWarm, Cond.selects RX0 yX0_isWarm yX0_isWarm, Cond.code yX0_isWarm cX0_isWarm 2 (some .boolean), Cond.fieldLink RX0 17 "HotBeds$Beds" "warmth" "[I", Cond.methodLink RX1 58 yX0_changeWarmth, Cond.instanceMethod yX0_changeWarmth, Cond.selects RX0 yX0_changeWarmth yX0_changeWarmth, Cond.code yX0_changeWarmth cX0_changeWarmth 2 none, Cond.methodLink RX0 49 Lib.Math.max.name, Cond.methodLink RX0 55 Lib.Math.min.name]
def wsX1_goOn : List Cond := .code yX1_goOn cX1_goOn 4 none :: ((wsX1_goOn_r1 ++ (wsX1_goOn_r2 ++ (wsX1_goOn_r3 ++ (wsX1_goOn_r4 ++ (wsX1_goOn_r5 ++ wsX1_goOn_r6))))) ++ wsX10 ++ wsX20 ++ wsX00)
def wsX2_add : List Cond := .code yX2_add cX2_add 6 (some .int) :: ([.classLink RX2 50 "java/lang/IllegalStateException", .initialized "java/lang/IllegalStateException", .fieldLink RX2 7 "HotBeds$Sailors" "size" "I", .fieldLink RX2 13 "HotBeds$Sailors" "watch" "[I", .fieldLink RX2 17 "HotBeds$Sailors" "heavy" "[I", .fieldLink RX2 20 "HotBeds$Sailors" "wage" "[I", .fieldLink RX2 23 "HotBeds$Sailors" "purse" "[I", .fieldLink RX2 26 "HotBeds$Sailors" "boots" "[I", .fieldLink RX2 29 "HotBeds$Sailors" "kept" "[I", .fieldLink RX2 32 "HotBeds$Sailors" "place" "[I", .fieldLink RX2 35 "HotBeds$Sailors" "bed" "[I"] ++ wsX20 ++ (vx_atS RX2 54 "java/lang/IllegalStateException" ["java/lang/RuntimeException", "java/lang/Exception"]).filter goodWord)
def wsX2_howManyAt : List Cond := .code yX2_howManyAt cX2_howManyAt 4 (some .int) :: ([.fieldLink RX2 7 "HotBeds$Sailors" "size" "I", .fieldLink RX2 32 "HotBeds$Sailors" "place" "[I"] ++ wsX20)
def wsX2_sum : List Cond := .code yX2_sum cX2_sum 4 (some .int) :: ([.fieldLink RX2 7 "HotBeds$Sailors" "size" "I"] ++ wsX20)
def wsX2_allRest : List Cond := .code yX2_allRest cX2_allRest 1 (some .int) :: ([.fieldLink RX2 38 "HotBeds$Sailors" "rest" "[I", .methodLink RX2 82 yX2_sum, .instanceMethod yX2_sum, .selects RX2 yX2_sum yX2_sum, .initialized RX2, .code yX2_sum cX2_sum 4 (some .int), .fieldLink RX2 7 "HotBeds$Sailors" "size" "I"] ++ wsX20)
def wsX2_allLate : List Cond := .code yX2_allLate cX2_allLate 1 (some .int) :: ([.fieldLink RX2 41 "HotBeds$Sailors" "late" "[I", .methodLink RX2 82 yX2_sum, .instanceMethod yX2_sum, .selects RX2 yX2_sum yX2_sum, .initialized RX2, .code yX2_sum cX2_sum 4 (some .int), .fieldLink RX2 7 "HotBeds$Sailors" "size" "I"] ++ wsX20)
def wsX2_allFloors : List Cond := .code yX2_allFloors cX2_allFloors 1 (some .int) :: ([.fieldLink RX2 47 "HotBeds$Sailors" "floors" "[I", .methodLink RX2 82 yX2_sum, .instanceMethod yX2_sum, .selects RX2 yX2_sum yX2_sum, .initialized RX2, .code yX2_sum cX2_sum 4 (some .int), .fieldLink RX2 7 "HotBeds$Sailors" "size" "I"] ++ wsX20)
def wsX3_init_r1 : List Cond := [Cond.methodLink RX3 1 objectInit, Cond.instanceMethod objectInit, Cond.code objectInit ⟨#[0xb1]⟩ 1 none, Cond.classLink RX3 7 RX1, Cond.instantiable RX1 5, Cond.initialized RX1, Cond.fieldLink RX3 10 "HotBeds" "house" "LHotBeds$House;", Cond.fieldLink RX3 16 "HotBeds" "trial" "LHotBeds$House;", Cond.instanceMethod yX1_init, Cond.code yX1_init cX1_init 1 none, Cond.methodLink RX1 1 objectInit, Cond.fieldLink RX1 7 "HotBeds$House" "hour" "I", Cond.fieldLink RX1 13 "HotBeds$House" "bell" "I", Cond.fieldLink RX1 16 "HotBeds$House" "pawn" "I", Cond.classLink RX1 19 RX0, Cond.instantiable RX0 6, Cond.initialized RX0, Cond.fieldLink RX1 22 "HotBeds$House" "beds" "LHotBeds$Beds;", Cond.classLink RX1 26 RX2, Cond.instantiable RX2 13, Cond.initialized RX2, Cond.fieldLink RX1 29 "HotBeds$House" "sailors" "LHotBeds$Sailors;", Cond.instanceMethod yX0_init, Cond.code yX0_init cX0_init 1 none]
def wsX3_init_r2 : List Cond := [Cond.methodLink RX0 1 objectInit, Cond.fieldLink RX0 7 "HotBeds$Beds" "size" "I", Cond.arrayClass .int, Cond.fieldLink RX0 13 "HotBeds$Beds" "price" "[I", Cond.fieldLink RX0 17 "HotBeds$Beds" "warmth" "[I", Cond.fieldLink RX0 20 "HotBeds$Beds" "entries" "[I", Cond.fieldLink RX0 23 "HotBeds$Beds" "paid" "[I", Cond.fieldLink RX0 26 "HotBeds$Beds" "sleeper" "[I", Cond.instanceMethod yX2_init, Cond.code yX2_init cX2_init 1 none, Cond.methodLink RX2 1 objectInit, Cond.fieldLink RX2 7 "HotBeds$Sailors" "size" "I", Cond.fieldLink RX2 13 "HotBeds$Sailors" "watch" "[I", Cond.fieldLink RX2 17 "HotBeds$Sailors" "heavy" "[I", Cond.fieldLink RX2 20 "HotBeds$Sailors" "wage" "[I", Cond.fieldLink RX2 23 "HotBeds$Sailors" "purse" "[I", Cond.fieldLink RX2 26 "HotBeds$Sailors" "boots" "[I", Cond.fieldLink RX2 29 "HotBeds$Sailors" "kept" "[I", Cond.fieldLink RX2 32 "HotBeds$Sailors" "place" "[I", Cond.fieldLink RX2 35 "HotBeds$Sailors" "bed" "[I", Cond.fieldLink RX2 38 "HotBeds$Sailors" "rest" "[I", Cond.fieldLink RX2 41 "HotBeds$Sailors" "late" "[I", Cond.fieldLink RX2 44 "HotBeds$Sailors" "lateSincePay" "[I", Cond.fieldLink RX2 47 "HotBeds$Sailors" "floors" "[I"]
def wsX3_init : List Cond := .code yX3_init cX3_init 1 none :: ((wsX3_init_r1 ++ wsX3_init_r2) ++ wsX10 ++ wsX30 ++ wsX00 ++ wsX20)
def wsX3_bed : List Cond := .code yX3_bed cX3_bed 2 (some .int) :: ([.classLink RX3 19 "java/lang/IllegalArgumentException", .initialized "java/lang/IllegalArgumentException", .fieldLink RX3 10 "HotBeds" "house" "LHotBeds$House;", .fieldLink RX3 26 "HotBeds$House" "beds" "LHotBeds$Beds;", .methodLink RX3 30 yX0_add, .instanceMethod yX0_add, .selects RX0 yX0_add yX0_add, .initialized RX0, .code yX0_add cX0_add 3 (some .int), .classLink RX0 29 "java/lang/IllegalStateException", .initialized "java/lang/IllegalStateException", .fieldLink RX0 7 "HotBeds$Beds" "size" "I", .fieldLink RX0 13 "HotBeds$Beds" "price" "[I", .fieldLink RX0 26 "HotBeds$Beds" "sleeper" "[I"] ++ wsX30 ++ wsX10 ++ wsX00 ++ (vx_atS RX3 23 "java/lang/IllegalArgumentException" ["java/lang/RuntimeException", "java/lang/Exception"]).filter goodWord ++ (vx_atS RX0 33 "java/lang/IllegalStateException" ["java/lang/RuntimeException", "java/lang/Exception"]).filter goodWord)
def wsX3_requireWatch : List Cond := .code yX3_requireWatch cX3_requireWatch 1 none :: ([.classLink RX3 153 "java/lang/IndexOutOfBoundsException", .initialized "java/lang/IndexOutOfBoundsException"] ++ (vx_atS RX3 157 "java/lang/IndexOutOfBoundsException" ["java/lang/RuntimeException", "java/lang/Exception"]).filter goodWord)
def wsX3_sailor_r1 : List Cond := [Cond.classLink RX3 19 "java/lang/IllegalArgumentException", Cond.initialized "java/lang/IllegalArgumentException", Cond.fieldLink RX3 10 "HotBeds" "house" "LHotBeds$House;", Cond.fieldLink RX3 48 "HotBeds$House" "sailors" "LHotBeds$Sailors;", Cond.methodLink RX3 36 yX3_requireWatch, Cond.static yX3_requireWatch, Cond.initialized RX3, Cond.code yX3_requireWatch cX3_requireWatch 1 none, Cond.classLink RX3 153 "java/lang/IndexOutOfBoundsException", Cond.initialized "java/lang/IndexOutOfBoundsException", Cond.methodLink RX3 52 yX2_add, Cond.instanceMethod yX2_add, Cond.selects RX2 yX2_add yX2_add, Cond.initialized RX2, Cond.code yX2_add cX2_add 6 (some .int), Cond.classLink RX2 50 "java/lang/IllegalStateException", Cond.initialized "java/lang/IllegalStateException", Cond.fieldLink RX2 7 "HotBeds$Sailors" "size" "I", Cond.fieldLink RX2 13 "HotBeds$Sailors" "watch" "[I", Cond.fieldLink RX2 17 "HotBeds$Sailors" "heavy" "[I", Cond.fieldLink RX2 20 "HotBeds$Sailors" "wage" "[I", Cond.fieldLink RX2 23 "HotBeds$Sailors" "purse" "[I", Cond.fieldLink RX2 26 "HotBeds$Sailors" "boots" "[I", Cond.fieldLink RX2 29 "HotBeds$Sailors" "kept" "[I"]
def wsX3_sailor_r2 : List Cond := [Cond.fieldLink RX2 32 "HotBeds$Sailors" "place" "[I", Cond.fieldLink RX2 35 "HotBeds$Sailors" "bed" "[I"]
def wsX3_sailor : List Cond := .code yX3_sailor cX3_sailor 5 (some .int) :: ((wsX3_sailor_r1 ++ wsX3_sailor_r2) ++ wsX30 ++ wsX10 ++ wsX20 ++ (vx_atS RX3 23 "java/lang/IllegalArgumentException" ["java/lang/RuntimeException", "java/lang/Exception"]).filter goodWord ++ (vx_atS RX3 157 "java/lang/IndexOutOfBoundsException" ["java/lang/RuntimeException", "java/lang/Exception"]).filter goodWord ++ (vx_atS RX2 54 "java/lang/IllegalStateException" ["java/lang/RuntimeException", "java/lang/Exception"]).filter goodWord)
def wsX3_requireSailor : List Cond := .code yX3_requireSailor cX3_requireSailor 2 none :: ([.classLink RX3 153 "java/lang/IndexOutOfBoundsException", .initialized "java/lang/IndexOutOfBoundsException", .fieldLink RX3 10 "HotBeds" "house" "LHotBeds$House;", .fieldLink RX3 48 "HotBeds$House" "sailors" "LHotBeds$Sailors;", .fieldLink RX3 181 "HotBeds$Sailors" "size" "I"] ++ wsX30 ++ wsX10 ++ wsX20 ++ (vx_atS RX3 157 "java/lang/IndexOutOfBoundsException" ["java/lang/RuntimeException", "java/lang/Exception"]).filter goodWord)
def wsX3_requireBed : List Cond := .code yX3_requireBed cX3_requireBed 2 none :: ([.classLink RX3 153 "java/lang/IndexOutOfBoundsException", .initialized "java/lang/IndexOutOfBoundsException", .fieldLink RX3 10 "HotBeds" "house" "LHotBeds$House;", .fieldLink RX3 26 "HotBeds$House" "beds" "LHotBeds$Beds;", .methodLink RX3 216 yX0_has, .instanceMethod yX0_has, .selects RX0 yX0_has yX0_has, .initialized RX0, .code yX0_has cX0_has 2 (some .boolean), .fieldLink RX0 7 "HotBeds$Beds" "size" "I"] ++ wsX30 ++ wsX10 ++ wsX00 ++ (vx_atS RX3 157 "java/lang/IndexOutOfBoundsException" ["java/lang/RuntimeException", "java/lang/Exception"]).filter goodWord)
def wsX3_keep : List Cond := .code yX3_keep cX3_keep 4 (some .int) :: ([.fieldLink RX3 10 "HotBeds" "house" "LHotBeds$House;", .fieldLink RX3 48 "HotBeds$House" "sailors" "LHotBeds$Sailors;", .fieldLink RX3 61 "HotBeds$Sailors" "kept" "[I", .methodLink RX3 55 yX3_requireSailor, .instanceMethod yX3_requireSailor, .selects RX3 yX3_requireSailor yX3_requireSailor, .initialized RX3, .code yX3_requireSailor cX3_requireSailor 2 none, .classLink RX3 153 "java/lang/IndexOutOfBoundsException", .initialized "java/lang/IndexOutOfBoundsException", .fieldLink RX3 181 "HotBeds$Sailors" "size" "I", .methodLink RX3 58 yX3_requireBed, .instanceMethod yX3_requireBed, .selects RX3 yX3_requireBed yX3_requireBed, .code yX3_requireBed cX3_requireBed 2 none, .fieldLink RX3 26 "HotBeds$House" "beds" "LHotBeds$Beds;", .methodLink RX3 216 yX0_has, .instanceMethod yX0_has, .selects RX0 yX0_has yX0_has, .initialized RX0, .code yX0_has cX0_has 2 (some .boolean), .fieldLink RX0 7 "HotBeds$Beds" "size" "I"] ++ wsX30 ++ wsX10 ++ wsX20 ++ wsX00 ++ (vx_atS RX3 157 "java/lang/IndexOutOfBoundsException" ["java/lang/RuntimeException", "java/lang/Exception"]).filter goodWord)
def wsX3_setBell : List Cond := .code yX3_setBell cX3_setBell 3 (some .int) :: ([.classLink RX3 19 "java/lang/IllegalArgumentException", .initialized "java/lang/IllegalArgumentException", .fieldLink RX3 10 "HotBeds" "house" "LHotBeds$House;", .fieldLink RX3 67 "HotBeds$House" "bell" "I"] ++ wsX30 ++ wsX10 ++ (vx_atS RX3 23 "java/lang/IllegalArgumentException" ["java/lang/RuntimeException", "java/lang/Exception"]).filter goodWord)
def wsX3_setPawn : List Cond := .code yX3_setPawn cX3_setPawn 3 (some .int) :: ([.classLink RX3 19 "java/lang/IllegalArgumentException", .initialized "java/lang/IllegalArgumentException", .fieldLink RX3 10 "HotBeds" "house" "LHotBeds$House;", .fieldLink RX3 73 "HotBeds$House" "pawn" "I"] ++ wsX30 ++ wsX10 ++ (vx_atS RX3 23 "java/lang/IllegalArgumentException" ["java/lang/RuntimeException", "java/lang/Exception"]).filter goodWord)
def wsX3_give : List Cond := .code yX3_give cX3_give 3 (some .int) :: ([.classLink RX3 19 "java/lang/IllegalArgumentException", .initialized "java/lang/IllegalArgumentException", .fieldLink RX3 10 "HotBeds" "house" "LHotBeds$House;", .fieldLink RX3 48 "HotBeds$House" "sailors" "LHotBeds$Sailors;", .fieldLink RX3 82 "HotBeds$Sailors" "purse" "[I", .methodLink RX3 55 yX3_requireSailor, .instanceMethod yX3_requireSailor, .selects RX3 yX3_requireSailor yX3_requireSailor, .initialized RX3, .code yX3_requireSailor cX3_requireSailor 2 none, .classLink RX3 153 "java/lang/IndexOutOfBoundsException", .initialized "java/lang/IndexOutOfBoundsException", .fieldLink RX3 181 "HotBeds$Sailors" "size" "I", .methodLink RX3 78 yX2_earn, .instanceMethod yX2_earn, .selects RX2 yX2_earn yX2_earn, .initialized RX2, .code yX2_earn cX2_earn 3 none, .fieldLink RX2 23 "HotBeds$Sailors" "purse" "[I", .methodLink RX2 65 Lib.Math.min.name, .static Lib.Math.min.name, .initialized "java/lang/Math", .code Lib.Math.min.name Lib.Math.min.code 2 (some .int)] ++ wsX30 ++ wsX10 ++ wsX20 ++ (vx_atS RX3 23 "java/lang/IllegalArgumentException" ["java/lang/RuntimeException", "java/lang/Exception"]).filter goodWord ++ (vx_atS RX3 157 "java/lang/IndexOutOfBoundsException" ["java/lang/RuntimeException", "java/lang/Exception"]).filter goodWord)
def wsX3_pawn_r1 : List Cond := [Cond.classLink RX3 89 "java/lang/IllegalStateException", Cond.initialized "java/lang/IllegalStateException", Cond.fieldLink RX3 10 "HotBeds" "house" "LHotBeds$House;", Cond.fieldLink RX3 48 "HotBeds$House" "sailors" "LHotBeds$Sailors;", Cond.fieldLink RX3 82 "HotBeds$Sailors" "purse" "[I", Cond.methodLink RX3 55 yX3_requireSailor, Cond.instanceMethod yX3_requireSailor, Cond.selects RX3 yX3_requireSailor yX3_requireSailor, Cond.initialized RX3, Cond.code yX3_requireSailor cX3_requireSailor 2 none, Cond.classLink RX3 153 "java/lang/IndexOutOfBoundsException", Cond.initialized "java/lang/IndexOutOfBoundsException", Cond.fieldLink RX3 181 "HotBeds$Sailors" "size" "I", Cond.methodLink RX3 85 yX2_hasBoots, Cond.instanceMethod yX2_hasBoots, Cond.selects RX2 yX2_hasBoots yX2_hasBoots, Cond.initialized RX2, Cond.code yX2_hasBoots cX2_hasBoots 2 (some .boolean), Cond.fieldLink RX2 26 "HotBeds$Sailors" "boots" "[I", Cond.methodLink RX3 94 yX1_pawnBoots, Cond.instanceMethod yX1_pawnBoots, Cond.selects RX1 yX1_pawnBoots yX1_pawnBoots, Cond.initialized RX1, Cond.code yX1_pawnBoots cX1_pawnBoots 2 none]
def wsX3_pawn_r2 : List Cond := [Cond.fieldLink RX1 29 "HotBeds$House" "sailors" "LHotBeds$Sailors;", Cond.fieldLink RX1 74 "HotBeds$Sailors" "boots" "[I", Cond.fieldLink RX1 16 "HotBeds$House" "pawn" "I", Cond.methodLink RX1 77 yX2_earn, Cond.instanceMethod yX2_earn, Cond.selects RX2 yX2_earn yX2_earn, Cond.code yX2_earn cX2_earn 3 none, Cond.fieldLink RX2 23 "HotBeds$Sailors" "purse" "[I", Cond.methodLink RX2 65 Lib.Math.min.name, Cond.static Lib.Math.min.name, Cond.initialized "java/lang/Math", Cond.code Lib.Math.min.name Lib.Math.min.code 2 (some .int)]
def wsX3_pawn : List Cond := .code yX3_pawn cX3_pawn 2 (some .int) :: ((wsX3_pawn_r1 ++ wsX3_pawn_r2) ++ wsX30 ++ wsX10 ++ wsX20 ++ (vx_atS RX3 93 "java/lang/IllegalStateException" ["java/lang/RuntimeException", "java/lang/Exception"]).filter goodWord ++ (vx_atS RX3 157 "java/lang/IndexOutOfBoundsException" ["java/lang/RuntimeException", "java/lang/Exception"]).filter goodWord)
def wsX3_redeem_r1 : List Cond := [Cond.classLink RX3 89 "java/lang/IllegalStateException", Cond.initialized "java/lang/IllegalStateException", Cond.fieldLink RX3 10 "HotBeds" "house" "LHotBeds$House;", Cond.fieldLink RX3 48 "HotBeds$House" "sailors" "LHotBeds$Sailors;", Cond.fieldLink RX3 82 "HotBeds$Sailors" "purse" "[I", Cond.methodLink RX3 55 yX3_requireSailor, Cond.instanceMethod yX3_requireSailor, Cond.selects RX3 yX3_requireSailor yX3_requireSailor, Cond.initialized RX3, Cond.code yX3_requireSailor cX3_requireSailor 2 none, Cond.classLink RX3 153 "java/lang/IndexOutOfBoundsException", Cond.initialized "java/lang/IndexOutOfBoundsException", Cond.fieldLink RX3 181 "HotBeds$Sailors" "size" "I", Cond.methodLink RX3 97 yX1_canRedeemBoots, Cond.instanceMethod yX1_canRedeemBoots, Cond.selects RX1 yX1_canRedeemBoots yX1_canRedeemBoots, Cond.initialized RX1, Cond.code yX1_canRedeemBoots cX1_canRedeemBoots 2 (some .boolean), Cond.fieldLink RX1 29 "HotBeds$House" "sailors" "LHotBeds$Sailors;", Cond.fieldLink RX1 84 "HotBeds$Sailors" "purse" "[I", Cond.fieldLink RX1 16 "HotBeds$House" "pawn" "I", Cond.methodLink RX1 81 yX2_hasBoots, Cond.instanceMethod yX2_hasBoots, Cond.selects RX2 yX2_hasBoots yX2_hasBoots]
def wsX3_redeem_r2 : List Cond := [Cond.initialized RX2, Cond.code yX2_hasBoots cX2_hasBoots 2 (some .boolean), Cond.fieldLink RX2 26 "HotBeds$Sailors" "boots" "[I", Cond.methodLink RX3 102 yX1_redeemBoots, Cond.instanceMethod yX1_redeemBoots, Cond.selects RX1 yX1_redeemBoots yX1_redeemBoots, Cond.code yX1_redeemBoots cX1_redeemBoots 2 none, Cond.fieldLink RX1 74 "HotBeds$Sailors" "boots" "[I"]
def wsX3_redeem : List Cond := .code yX3_redeem cX3_redeem 2 (some .int) :: ((wsX3_redeem_r1 ++ wsX3_redeem_r2) ++ wsX30 ++ wsX10 ++ wsX20 ++ (vx_atS RX3 93 "java/lang/IllegalStateException" ["java/lang/RuntimeException", "java/lang/Exception"]).filter goodWord ++ (vx_atS RX3 157 "java/lang/IndexOutOfBoundsException" ["java/lang/RuntimeException", "java/lang/Exception"]).filter goodWord)
def wsX3_call_r1 : List Cond := [Cond.classLink RX3 89 "java/lang/IllegalStateException", Cond.initialized "java/lang/IllegalStateException", Cond.fieldLink RX3 10 "HotBeds" "house" "LHotBeds$House;", Cond.fieldLink RX3 48 "HotBeds$House" "sailors" "LHotBeds$Sailors;", Cond.fieldLink RX3 110 "HotBeds$Sailors" "bed" "[I", Cond.methodLink RX3 55 yX3_requireSailor, Cond.instanceMethod yX3_requireSailor, Cond.selects RX3 yX3_requireSailor yX3_requireSailor, Cond.initialized RX3, Cond.code yX3_requireSailor cX3_requireSailor 2 none, Cond.classLink RX3 153 "java/lang/IndexOutOfBoundsException", Cond.initialized "java/lang/IndexOutOfBoundsException", Cond.fieldLink RX3 181 "HotBeds$Sailors" "size" "I", Cond.methodLink RX3 105 yX2_isUp, Cond.instanceMethod yX2_isUp, Cond.selects RX2 yX2_isUp yX2_isUp, Cond.initialized RX2, Cond.code yX2_isUp cX2_isUp 2 (some .boolean), Cond.fieldLink RX2 32 "HotBeds$Sailors" "place" "[I", Cond.methodLink RX3 113 yX1_getUp, Cond.instanceMethod yX1_getUp, Cond.selects RX1 yX1_getUp yX1_getUp, Cond.initialized RX1, Cond.code yX1_getUp cX1_getUp 3 none]
def wsX3_call_r2 : List Cond := [Cond.fieldLink RX1 29 "HotBeds$House" "sailors" "LHotBeds$Sailors;", Cond.fieldLink RX1 61 "HotBeds$Sailors" "bed" "[I", Cond.fieldLink RX1 22 "HotBeds$House" "beds" "LHotBeds$Beds;", Cond.fieldLink RX1 68 "HotBeds$Beds" "sleeper" "[I", Cond.fieldLink RX1 71 "HotBeds$Sailors" "place" "[I", Cond.methodLink RX1 64 yX0_has, Cond.instanceMethod yX0_has, Cond.selects RX0 yX0_has yX0_has, Cond.initialized RX0, Cond.code yX0_has cX0_has 2 (some .boolean), Cond.fieldLink RX0 7 "HotBeds$Beds" "size" "I"]
def wsX3_call : List Cond := .code yX3_call cX3_call 3 (some .int) :: ((wsX3_call_r1 ++ wsX3_call_r2) ++ wsX30 ++ wsX10 ++ wsX20 ++ wsX00 ++ (vx_atS RX3 93 "java/lang/IllegalStateException" ["java/lang/RuntimeException", "java/lang/Exception"]).filter goodWord ++ (vx_atS RX3 157 "java/lang/IndexOutOfBoundsException" ["java/lang/RuntimeException", "java/lang/Exception"]).filter goodWord)
def wsX3_requireUp : List Cond := .code yX3_requireUp cX3_requireUp 2 none :: ([.classLink RX3 89 "java/lang/IllegalStateException", .initialized "java/lang/IllegalStateException", .fieldLink RX3 10 "HotBeds" "house" "LHotBeds$House;", .fieldLink RX3 48 "HotBeds$House" "sailors" "LHotBeds$Sailors;", .methodLink RX3 105 yX2_isUp, .instanceMethod yX2_isUp, .selects RX2 yX2_isUp yX2_isUp, .initialized RX2, .code yX2_isUp cX2_isUp 2 (some .boolean), .fieldLink RX2 32 "HotBeds$Sailors" "place" "[I"] ++ wsX30 ++ wsX10 ++ wsX20 ++ (vx_atS RX3 93 "java/lang/IllegalStateException" ["java/lang/RuntimeException", "java/lang/Exception"]).filter goodWord)
def wsX3_shift_r1 : List Cond := [Cond.fieldLink RX3 10 "HotBeds" "house" "LHotBeds$House;", Cond.fieldLink RX3 48 "HotBeds$House" "sailors" "LHotBeds$Sailors;", Cond.fieldLink RX3 119 "HotBeds$Sailors" "watch" "[I", Cond.methodLink RX3 55 yX3_requireSailor, Cond.instanceMethod yX3_requireSailor, Cond.selects RX3 yX3_requireSailor yX3_requireSailor, Cond.initialized RX3, Cond.code yX3_requireSailor cX3_requireSailor 2 none, Cond.classLink RX3 153 "java/lang/IndexOutOfBoundsException", Cond.initialized "java/lang/IndexOutOfBoundsException", Cond.fieldLink RX3 181 "HotBeds$Sailors" "size" "I", Cond.methodLink RX3 36 yX3_requireWatch, Cond.static yX3_requireWatch, Cond.code yX3_requireWatch cX3_requireWatch 1 none, Cond.methodLink RX3 116 yX3_requireUp, Cond.instanceMethod yX3_requireUp, Cond.selects RX3 yX3_requireUp yX3_requireUp, Cond.code yX3_requireUp cX3_requireUp 2 none, Cond.classLink RX3 89 "java/lang/IllegalStateException", Cond.initialized "java/lang/IllegalStateException", Cond.methodLink RX3 105 yX2_isUp, Cond.instanceMethod yX2_isUp, Cond.selects RX2 yX2_isUp yX2_isUp, Cond.initialized RX2]
def wsX3_shift_r2 : List Cond := [Cond.code yX2_isUp cX2_isUp 2 (some .boolean), Cond.fieldLink RX2 32 "HotBeds$Sailors" "place" "[I"]
def wsX3_shift : List Cond := .code yX3_shift cX3_shift 4 (some .int) :: ((wsX3_shift_r1 ++ wsX3_shift_r2) ++ wsX30 ++ wsX10 ++ wsX20 ++ (vx_atS RX3 157 "java/lang/IndexOutOfBoundsException" ["java/lang/RuntimeException", "java/lang/Exception"]).filter goodWord ++ (vx_atS RX3 93 "java/lang/IllegalStateException" ["java/lang/RuntimeException", "java/lang/Exception"]).filter goodWord)
def wsX3_requireHours : List Cond := .code yX3_requireHours cX3_requireHours 1 none :: ([.classLink RX3 19 "java/lang/IllegalArgumentException", .initialized "java/lang/IllegalArgumentException"] ++ (vx_atS RX3 23 "java/lang/IllegalArgumentException" ["java/lang/RuntimeException", "java/lang/Exception"]).filter goodWord)
def wsX3_pass_r1 : List Cond := [Cond.fieldLink RX3 10 "HotBeds" "house" "LHotBeds$House;", Cond.fieldLink RX3 48 "HotBeds$House" "sailors" "LHotBeds$Sailors;", Cond.methodLink RX3 122 yX3_requireHours, Cond.static yX3_requireHours, Cond.initialized RX3, Cond.code yX3_requireHours cX3_requireHours 1 none, Cond.classLink RX3 19 "java/lang/IllegalArgumentException", Cond.initialized "java/lang/IllegalArgumentException", Cond.methodLink RX3 125 yX2_allFloors, Cond.instanceMethod yX2_allFloors, Cond.selects RX2 yX2_allFloors yX2_allFloors, Cond.initialized RX2, Cond.code yX2_allFloors cX2_allFloors 1 (some .int), Cond.fieldLink RX2 47 "HotBeds$Sailors" "floors" "[I", Cond.methodLink RX2 82 yX2_sum, Cond.instanceMethod yX2_sum, Cond.selects RX2 yX2_sum yX2_sum, Cond.code yX2_sum cX2_sum 4 (some .int), Cond.fieldLink RX2 7 "HotBeds$Sailors" "size" "I", Cond.methodLink RX3 129 yX1_goOn, Cond.instanceMethod yX1_goOn, Cond.selects RX1 yX1_goOn yX1_goOn, Cond.initialized RX1, Cond.code yX1_goOn cX1_goOn 4 none]
def wsX3_pass_r2 : List Cond := [Cond.fieldLink RX1 29 "HotBeds$House" "sailors" "LHotBeds$Sailors;", Cond.fieldLink RX1 40 "HotBeds$Sailors" "size" "I", Cond.fieldLink RX1 50 "HotBeds$Sailors" "rest" "[I", Cond.fieldLink RX1 22 "HotBeds$House" "beds" "LHotBeds$Beds;", Cond.fieldLink RX1 7 "HotBeds$House" "hour" "I", Cond.methodLink RX1 43 yX1_ringBell, Cond.instanceMethod yX1_ringBell, Cond.selects RX1 yX1_ringBell yX1_ringBell, Cond.code yX1_ringBell cX1_ringBell 3 none, Cond.fieldLink RX1 13 "HotBeds$House" "bell" "I", Cond.fieldLink RX1 96 "HotBeds$Sailors" "heavy" "[I", Cond.methodLink RX1 87 yX2_isUp, Cond.instanceMethod yX2_isUp, Cond.selects RX2 yX2_isUp yX2_isUp, Cond.code yX2_isUp cX2_isUp 2 (some .boolean), Cond.fieldLink RX2 32 "HotBeds$Sailors" "place" "[I", Cond.methodLink RX1 90 yX1_isInWatch, Cond.instanceMethod yX1_isInWatch, Cond.selects RX1 yX1_isInWatch yX1_isInWatch, Cond.code yX1_isInWatch cX1_isInWatch 2 (some .boolean), Cond.fieldLink RX1 105 "HotBeds$Sailors" "watch" "[I", Cond.methodLink RX1 108 yX1_watchNow, Cond.instanceMethod yX1_watchNow, Cond.selects RX1 yX1_watchNow yX1_watchNow]
def wsX3_pass_r3 : List Cond := [Cond.code yX1_watchNow cX1_watchNow 1 (some .int), Cond.methodLink RX1 93 yX1_hoursSinceWatch, Cond.instanceMethod yX1_hoursSinceWatch, Cond.selects RX1 yX1_hoursSinceWatch yX1_hoursSinceWatch, Cond.code yX1_hoursSinceWatch cX1_hoursSinceWatch 3 (some .int), Cond.methodLink RX1 99 yX1_getUp, Cond.instanceMethod yX1_getUp, Cond.selects RX1 yX1_getUp yX1_getUp, Cond.code yX1_getUp cX1_getUp 3 none, Cond.fieldLink RX1 61 "HotBeds$Sailors" "bed" "[I", Cond.fieldLink RX1 68 "HotBeds$Beds" "sleeper" "[I", Cond.fieldLink RX1 71 "HotBeds$Sailors" "place" "[I", Cond.methodLink RX1 64 yX0_has, Cond.instanceMethod yX0_has, Cond.selects RX0 yX0_has yX0_has, Cond.initialized RX0, Cond.code yX0_has cX0_has 2 (some .boolean), Cond.fieldLink RX0 7 "HotBeds$Beds" "size" "I", Cond.methodLink RX1 102 yX2_beLate, Cond.instanceMethod yX2_beLate, Cond.selects RX2 yX2_beLate yX2_beLate, Cond.code yX2_beLate cX2_beLate 2 none, Cond.fieldLink RX2 41 "HotBeds$Sailors" "late" "[I", Cond.fieldLink RX2 44 "HotBeds$Sailors" "lateSincePay" "[I"]
def wsX3_pass_r4 : List Cond := [Cond.methodLink RX1 47 yX1_serve, Cond.instanceMethod yX1_serve, Cond.selects RX1 yX1_serve yX1_serve, Cond.code yX1_serve cX1_serve 2 none, Cond.methodLink RX1 112 yX2_payWage, Cond.instanceMethod yX2_payWage, Cond.selects RX2 yX2_payWage yX2_payWage, Cond.code yX2_payWage cX2_payWage 3 none, Cond.fieldLink RX2 20 "HotBeds$Sailors" "wage" "[I", Cond.methodLink RX2 75 Lib.Math.max.name, Cond.static Lib.Math.max.name, Cond.initialized "java/lang/Math", Cond.code Lib.Math.max.name Lib.Math.max.code 2 (some .int), Cond.methodLink RX2 71 yX2_hasBoots, Cond.instanceMethod yX2_hasBoots, Cond.selects RX2 yX2_hasBoots yX2_hasBoots, Cond.code yX2_hasBoots cX2_hasBoots 2 (some .boolean), Cond.fieldLink RX2 26 "HotBeds$Sailors" "boots" "[I", Cond.methodLink RX2 78 yX2_earn, Cond.instanceMethod yX2_earn, Cond.selects RX2 yX2_earn yX2_earn, Cond.code yX2_earn cX2_earn 3 none, Cond.fieldLink RX2 23 "HotBeds$Sailors" "purse" "[I", Cond.methodLink RX2 65 Lib.Math.min.name]
def wsX3_pass_r5 : List Cond := [Cond.static Lib.Math.min.name, Cond.code Lib.Math.min.name Lib.Math.min.code 2 (some .int), Cond.methodLink RX1 115 yX1_canRedeemBoots, Cond.instanceMethod yX1_canRedeemBoots, Cond.selects RX1 yX1_canRedeemBoots yX1_canRedeemBoots, Cond.code yX1_canRedeemBoots cX1_canRedeemBoots 2 (some .boolean), Cond.fieldLink RX1 84 "HotBeds$Sailors" "purse" "[I", Cond.fieldLink RX1 16 "HotBeds$House" "pawn" "I", Cond.methodLink RX1 81 yX2_hasBoots, Cond.methodLink RX1 118 yX1_redeemBoots, Cond.instanceMethod yX1_redeemBoots, Cond.selects RX1 yX1_redeemBoots yX1_redeemBoots, Cond.code yX1_redeemBoots cX1_redeemBoots 2 none, Cond.fieldLink RX1 74 "HotBeds$Sailors" "boots" "[I", Cond.methodLink RX1 121 yX1_lookForBed, Cond.instanceMethod yX1_lookForBed, Cond.selects RX1 yX1_lookForBed yX1_lookForBed, Cond.code yX1_lookForBed cX1_lookForBed 4 none, Cond.fieldLink RX1 124 "HotBeds$Sailors" "kept" "[I", Cond.methodLink RX1 127 yX0_isFree, Cond.instanceMethod yX0_isFree, Cond.selects RX0 yX0_isFree yX0_isFree, Cond.code yX0_isFree cX0_isFree 2 (some .boolean), Cond.fieldLink RX0 26 "HotBeds$Beds" "sleeper" "[I"]
def wsX3_pass_r6 : List Cond := [Cond.methodLink RX0 42 yX0_has, Cond.methodLink RX1 130 yX0_cheapestFree, Cond.instanceMethod yX0_cheapestFree, Cond.selects RX0 yX0_cheapestFree yX0_cheapestFree, Cond.code yX0_cheapestFree cX0_cheapestFree 3 (some .int), Cond.fieldLink RX0 13 "HotBeds$Beds" "price" "[I", Cond.methodLink RX0 46 yX0_isFree, Cond.methodLink RX1 133 yX1_tryBed, Cond.instanceMethod yX1_tryBed, Cond.selects RX1 yX1_tryBed yX1_tryBed, Cond.code yX1_tryBed cX1_tryBed 5 none, Cond.fieldLink RX1 139 "HotBeds$Beds" "price" "[I", Cond.methodLink RX1 142 yX1_pawnBoots, Cond.instanceMethod yX1_pawnBoots, Cond.selects RX1 yX1_pawnBoots yX1_pawnBoots, Cond.code yX1_pawnBoots cX1_pawnBoots 2 none, Cond.methodLink RX1 77 yX2_earn, Cond.methodLink RX1 145 yX1_getInto, Cond.instanceMethod yX1_getInto, Cond.selects RX1 yX1_getInto yX1_getInto, Cond.code yX1_getInto cX1_getInto 4 none, Cond.fieldLink RX1 148 "HotBeds$Beds" "paid" "[I", Cond.fieldLink RX1 151 "HotBeds$Beds" "entries" "[I", Cond.methodLink RX1 136 yX2_lieOnFloor]
def wsX3_pass_r7 : List Cond := [Cond.instanceMethod yX2_lieOnFloor, Cond.selects RX2 yX2_lieOnFloor yX2_lieOnFloor, Cond.code yX2_lieOnFloor cX2_lieOnFloor 2 none, Cond.methodLink RX1 54 yX1_restOfHour, Cond.instanceMethod yX1_restOfHour, Cond.selects RX1 yX1_restOfHour yX1_restOfHour, Cond.code yX1_restOfHour cX1_restOfHour 2 (some .int), Cond.methodLink RX1 154 yX0_isWarm, Cond.instanceMethod yX0_isWarm, Cond.selects RX0 yX0_isWarm yX0_isWarm, Cond.code yX0_isWarm cX0_isWarm 2 (some .boolean), Cond.fieldLink RX0 17 "HotBeds$Beds" "warmth" "[I", Cond.methodLink RX1 58 yX0_changeWarmth, Cond.instanceMethod yX0_changeWarmth, Cond.selects RX0 yX0_changeWarmth yX0_changeWarmth, Cond.code yX0_changeWarmth cX0_changeWarmth 2 none, Cond.methodLink RX0 49 Lib.Math.max.name, Cond.methodLink RX0 55 Lib.Math.min.name]
def wsX3_pass : List Cond := .code yX3_pass cX3_pass 3 (some .int) :: ((wsX3_pass_r1 ++ (wsX3_pass_r2 ++ (wsX3_pass_r3 ++ (wsX3_pass_r4 ++ (wsX3_pass_r5 ++ (wsX3_pass_r6 ++ wsX3_pass_r7)))))) ++ wsX30 ++ wsX10 ++ wsX20 ++ wsX00 ++ (vx_atS RX3 23 "java/lang/IllegalArgumentException" ["java/lang/RuntimeException", "java/lang/Exception"]).filter goodWord)
def wsX3_told : List Cond := .code yX3_told cX3_told 4 (some .int) :: ([.classLink RX3 153 "java/lang/IndexOutOfBoundsException", .initialized "java/lang/IndexOutOfBoundsException", .fieldLink RX3 10 "HotBeds" "house" "LHotBeds$House;", .fieldLink RX3 48 "HotBeds$House" "sailors" "LHotBeds$Sailors;", .fieldLink RX3 119 "HotBeds$Sailors" "watch" "[I", .fieldLink RX3 132 "HotBeds$Sailors" "heavy" "[I", .fieldLink RX3 135 "HotBeds$Sailors" "wage" "[I", .fieldLink RX3 82 "HotBeds$Sailors" "purse" "[I", .fieldLink RX3 138 "HotBeds$Sailors" "boots" "[I", .fieldLink RX3 61 "HotBeds$Sailors" "kept" "[I", .fieldLink RX3 141 "HotBeds$Sailors" "place" "[I", .fieldLink RX3 110 "HotBeds$Sailors" "bed" "[I", .fieldLink RX3 144 "HotBeds$Sailors" "rest" "[I", .fieldLink RX3 147 "HotBeds$Sailors" "late" "[I", .fieldLink RX3 150 "HotBeds$Sailors" "floors" "[I", .methodLink RX3 55 yX3_requireSailor, .instanceMethod yX3_requireSailor, .selects RX3 yX3_requireSailor yX3_requireSailor, .initialized RX3, .code yX3_requireSailor cX3_requireSailor 2 none, .fieldLink RX3 181 "HotBeds$Sailors" "size" "I"] ++ wsX30 ++ wsX10 ++ wsX20 ++ (vx_atS RX3 157 "java/lang/IndexOutOfBoundsException" ["java/lang/RuntimeException", "java/lang/Exception"]).filter goodWord)
def wsX3_about : List Cond := .code yX3_about cX3_about 4 (some .int) :: ([.classLink RX3 153 "java/lang/IndexOutOfBoundsException", .initialized "java/lang/IndexOutOfBoundsException", .fieldLink RX3 10 "HotBeds" "house" "LHotBeds$House;", .fieldLink RX3 26 "HotBeds$House" "beds" "LHotBeds$Beds;", .fieldLink RX3 158 "HotBeds$Beds" "price" "[I", .fieldLink RX3 161 "HotBeds$Beds" "warmth" "[I", .fieldLink RX3 164 "HotBeds$Beds" "entries" "[I", .fieldLink RX3 167 "HotBeds$Beds" "paid" "[I", .fieldLink RX3 170 "HotBeds$Beds" "sleeper" "[I", .methodLink RX3 58 yX3_requireBed, .instanceMethod yX3_requireBed, .selects RX3 yX3_requireBed yX3_requireBed, .initialized RX3, .code yX3_requireBed cX3_requireBed 2 none, .methodLink RX3 216 yX0_has, .instanceMethod yX0_has, .selects RX0 yX0_has yX0_has, .initialized RX0, .code yX0_has cX0_has 2 (some .boolean), .fieldLink RX0 7 "HotBeds$Beds" "size" "I"] ++ wsX30 ++ wsX10 ++ wsX00 ++ (vx_atS RX3 157 "java/lang/IndexOutOfBoundsException" ["java/lang/RuntimeException", "java/lang/Exception"]).filter goodWord)
def wsX3_count_r1 : List Cond := [Cond.classLink RX3 153 "java/lang/IndexOutOfBoundsException", Cond.initialized "java/lang/IndexOutOfBoundsException", Cond.fieldLink RX3 10 "HotBeds" "house" "LHotBeds$House;", Cond.fieldLink RX3 175 "HotBeds$House" "hour" "I", Cond.fieldLink RX3 26 "HotBeds$House" "beds" "LHotBeds$Beds;", Cond.fieldLink RX3 178 "HotBeds$Beds" "size" "I", Cond.fieldLink RX3 48 "HotBeds$House" "sailors" "LHotBeds$Sailors;", Cond.fieldLink RX3 181 "HotBeds$Sailors" "size" "I", Cond.fieldLink RX3 67 "HotBeds$House" "bell" "I", Cond.fieldLink RX3 73 "HotBeds$House" "pawn" "I", Cond.methodLink RX3 182 yX1_watchNow, Cond.instanceMethod yX1_watchNow, Cond.selects RX1 yX1_watchNow yX1_watchNow, Cond.initialized RX1, Cond.code yX1_watchNow cX1_watchNow 1 (some .int), Cond.fieldLink RX1 7 "HotBeds$House" "hour" "I", Cond.methodLink RX3 185 yX2_howManyAt, Cond.instanceMethod yX2_howManyAt, Cond.selects RX2 yX2_howManyAt yX2_howManyAt, Cond.initialized RX2, Cond.code yX2_howManyAt cX2_howManyAt 4 (some .int), Cond.fieldLink RX2 7 "HotBeds$Sailors" "size" "I", Cond.fieldLink RX2 32 "HotBeds$Sailors" "place" "[I", Cond.methodLink RX3 188 yX2_allLate]
def wsX3_count_r2 : List Cond := [Cond.instanceMethod yX2_allLate, Cond.selects RX2 yX2_allLate yX2_allLate, Cond.code yX2_allLate cX2_allLate 1 (some .int), Cond.fieldLink RX2 41 "HotBeds$Sailors" "late" "[I", Cond.methodLink RX2 82 yX2_sum, Cond.instanceMethod yX2_sum, Cond.selects RX2 yX2_sum yX2_sum, Cond.code yX2_sum cX2_sum 4 (some .int), Cond.methodLink RX3 125 yX2_allFloors, Cond.instanceMethod yX2_allFloors, Cond.selects RX2 yX2_allFloors yX2_allFloors, Cond.code yX2_allFloors cX2_allFloors 1 (some .int), Cond.fieldLink RX2 47 "HotBeds$Sailors" "floors" "[I"]
def wsX3_count : List Cond := .code yX3_count cX3_count 2 (some .int) :: ((wsX3_count_r1 ++ wsX3_count_r2) ++ wsX30 ++ wsX10 ++ wsX00 ++ wsX20 ++ (vx_atS RX3 157 "java/lang/IndexOutOfBoundsException" ["java/lang/RuntimeException", "java/lang/Exception"]).filter goodWord)
def wsX3_would_r1 : List Cond := [Cond.fieldLink RX3 16 "HotBeds" "trial" "LHotBeds$House;", Cond.fieldLink RX3 10 "HotBeds" "house" "LHotBeds$House;", Cond.fieldLink RX3 48 "HotBeds$House" "sailors" "LHotBeds$Sailors;", Cond.fieldLink RX3 144 "HotBeds$Sailors" "rest" "[I", Cond.methodLink RX3 55 yX3_requireSailor, Cond.instanceMethod yX3_requireSailor, Cond.selects RX3 yX3_requireSailor yX3_requireSailor, Cond.initialized RX3, Cond.code yX3_requireSailor cX3_requireSailor 2 none, Cond.classLink RX3 153 "java/lang/IndexOutOfBoundsException", Cond.initialized "java/lang/IndexOutOfBoundsException", Cond.fieldLink RX3 181 "HotBeds$Sailors" "size" "I", Cond.methodLink RX3 122 yX3_requireHours, Cond.static yX3_requireHours, Cond.code yX3_requireHours cX3_requireHours 1 none, Cond.classLink RX3 19 "java/lang/IllegalArgumentException", Cond.initialized "java/lang/IllegalArgumentException", Cond.methodLink RX3 193 yX1_copyFrom, Cond.instanceMethod yX1_copyFrom, Cond.selects RX1 yX1_copyFrom yX1_copyFrom, Cond.initialized RX1, Cond.code yX1_copyFrom cX1_copyFrom 2 none, Cond.fieldLink RX1 7 "HotBeds$House" "hour" "I", Cond.fieldLink RX1 13 "HotBeds$House" "bell" "I"]
def wsX3_would_r2 : List Cond := [Cond.fieldLink RX1 16 "HotBeds$House" "pawn" "I", Cond.fieldLink RX1 22 "HotBeds$House" "beds" "LHotBeds$Beds;", Cond.fieldLink RX1 29 "HotBeds$House" "sailors" "LHotBeds$Sailors;", Cond.methodLink RX1 33 yX0_copyFrom, Cond.instanceMethod yX0_copyFrom, Cond.selects RX0 yX0_copyFrom yX0_copyFrom, Cond.initialized RX0, Cond.code yX0_copyFrom cX0_copyFrom 2 none, Cond.fieldLink RX0 7 "HotBeds$Beds" "size" "I", Cond.fieldLink RX0 13 "HotBeds$Beds" "price" "[I", Cond.fieldLink RX0 17 "HotBeds$Beds" "warmth" "[I", Cond.fieldLink RX0 20 "HotBeds$Beds" "entries" "[I", Cond.fieldLink RX0 23 "HotBeds$Beds" "paid" "[I", Cond.fieldLink RX0 26 "HotBeds$Beds" "sleeper" "[I", Cond.static yX3_copyRow, Cond.code yX3_copyRow cX3_copyRow 3 none, Cond.methodLink RX1 37 yX2_copyFrom, Cond.instanceMethod yX2_copyFrom, Cond.selects RX2 yX2_copyFrom yX2_copyFrom, Cond.initialized RX2, Cond.code yX2_copyFrom cX2_copyFrom 2 none, Cond.fieldLink RX2 7 "HotBeds$Sailors" "size" "I", Cond.fieldLink RX2 13 "HotBeds$Sailors" "watch" "[I", Cond.fieldLink RX2 17 "HotBeds$Sailors" "heavy" "[I"]
def wsX3_would_r3 : List Cond := [Cond.fieldLink RX2 20 "HotBeds$Sailors" "wage" "[I", Cond.fieldLink RX2 23 "HotBeds$Sailors" "purse" "[I", Cond.fieldLink RX2 26 "HotBeds$Sailors" "boots" "[I", Cond.fieldLink RX2 29 "HotBeds$Sailors" "kept" "[I", Cond.fieldLink RX2 32 "HotBeds$Sailors" "place" "[I", Cond.fieldLink RX2 35 "HotBeds$Sailors" "bed" "[I", Cond.fieldLink RX2 38 "HotBeds$Sailors" "rest" "[I", Cond.fieldLink RX2 41 "HotBeds$Sailors" "late" "[I", Cond.fieldLink RX2 44 "HotBeds$Sailors" "lateSincePay" "[I", Cond.fieldLink RX2 47 "HotBeds$Sailors" "floors" "[I", Cond.methodLink RX3 129 yX1_goOn, Cond.instanceMethod yX1_goOn, Cond.selects RX1 yX1_goOn yX1_goOn, Cond.code yX1_goOn cX1_goOn 4 none, Cond.fieldLink RX1 40 "HotBeds$Sailors" "size" "I", Cond.fieldLink RX1 50 "HotBeds$Sailors" "rest" "[I", Cond.methodLink RX1 43 yX1_ringBell, Cond.instanceMethod yX1_ringBell, Cond.selects RX1 yX1_ringBell yX1_ringBell, Cond.code yX1_ringBell cX1_ringBell 3 none, Cond.fieldLink RX1 96 "HotBeds$Sailors" "heavy" "[I", Cond.methodLink RX1 87 yX2_isUp, Cond.instanceMethod yX2_isUp, Cond.selects RX2 yX2_isUp yX2_isUp]
def wsX3_would_r4 : List Cond := [Cond.code yX2_isUp cX2_isUp 2 (some .boolean), Cond.methodLink RX1 90 yX1_isInWatch, Cond.instanceMethod yX1_isInWatch, Cond.selects RX1 yX1_isInWatch yX1_isInWatch, Cond.code yX1_isInWatch cX1_isInWatch 2 (some .boolean), Cond.fieldLink RX1 105 "HotBeds$Sailors" "watch" "[I", Cond.methodLink RX1 108 yX1_watchNow, Cond.instanceMethod yX1_watchNow, Cond.selects RX1 yX1_watchNow yX1_watchNow, Cond.code yX1_watchNow cX1_watchNow 1 (some .int), Cond.methodLink RX1 93 yX1_hoursSinceWatch, Cond.instanceMethod yX1_hoursSinceWatch, Cond.selects RX1 yX1_hoursSinceWatch yX1_hoursSinceWatch, Cond.code yX1_hoursSinceWatch cX1_hoursSinceWatch 3 (some .int), Cond.methodLink RX1 99 yX1_getUp, Cond.instanceMethod yX1_getUp, Cond.selects RX1 yX1_getUp yX1_getUp, Cond.code yX1_getUp cX1_getUp 3 none, Cond.fieldLink RX1 61 "HotBeds$Sailors" "bed" "[I", Cond.fieldLink RX1 68 "HotBeds$Beds" "sleeper" "[I", Cond.fieldLink RX1 71 "HotBeds$Sailors" "place" "[I", Cond.methodLink RX1 64 yX0_has, Cond.instanceMethod yX0_has, Cond.selects RX0 yX0_has yX0_has]
def wsX3_would_r5 : List Cond := [Cond.code yX0_has cX0_has 2 (some .boolean), Cond.methodLink RX1 102 yX2_beLate, Cond.instanceMethod yX2_beLate, Cond.selects RX2 yX2_beLate yX2_beLate, Cond.code yX2_beLate cX2_beLate 2 none, Cond.methodLink RX1 47 yX1_serve, Cond.instanceMethod yX1_serve, Cond.selects RX1 yX1_serve yX1_serve, Cond.code yX1_serve cX1_serve 2 none, Cond.methodLink RX1 112 yX2_payWage, Cond.instanceMethod yX2_payWage, Cond.selects RX2 yX2_payWage yX2_payWage, Cond.code yX2_payWage cX2_payWage 3 none, Cond.methodLink RX2 75 Lib.Math.max.name, Cond.static Lib.Math.max.name, Cond.initialized "java/lang/Math", Cond.code Lib.Math.max.name Lib.Math.max.code 2 (some .int), Cond.methodLink RX2 71 yX2_hasBoots, Cond.instanceMethod yX2_hasBoots, Cond.selects RX2 yX2_hasBoots yX2_hasBoots, Cond.code yX2_hasBoots cX2_hasBoots 2 (some .boolean), Cond.methodLink RX2 78 yX2_earn, Cond.instanceMethod yX2_earn, Cond.selects RX2 yX2_earn yX2_earn]
def wsX3_would_r6 : List Cond := [Cond.code yX2_earn cX2_earn 3 none, Cond.methodLink RX2 65 Lib.Math.min.name, Cond.static Lib.Math.min.name, Cond.code Lib.Math.min.name Lib.Math.min.code 2 (some .int), Cond.methodLink RX1 115 yX1_canRedeemBoots, Cond.instanceMethod yX1_canRedeemBoots, Cond.selects RX1 yX1_canRedeemBoots yX1_canRedeemBoots, Cond.code yX1_canRedeemBoots cX1_canRedeemBoots 2 (some .boolean), Cond.fieldLink RX1 84 "HotBeds$Sailors" "purse" "[I", Cond.methodLink RX1 81 yX2_hasBoots, Cond.methodLink RX1 118 yX1_redeemBoots, Cond.instanceMethod yX1_redeemBoots, Cond.selects RX1 yX1_redeemBoots yX1_redeemBoots, Cond.code yX1_redeemBoots cX1_redeemBoots 2 none, Cond.fieldLink RX1 74 "HotBeds$Sailors" "boots" "[I", Cond.methodLink RX1 121 yX1_lookForBed, Cond.instanceMethod yX1_lookForBed, Cond.selects RX1 yX1_lookForBed yX1_lookForBed, Cond.code yX1_lookForBed cX1_lookForBed 4 none, Cond.fieldLink RX1 124 "HotBeds$Sailors" "kept" "[I", Cond.methodLink RX1 127 yX0_isFree, Cond.instanceMethod yX0_isFree, Cond.selects RX0 yX0_isFree yX0_isFree, Cond.code yX0_isFree cX0_isFree 2 (some .boolean)]
def wsX3_would_r7 : List Cond := [Cond.methodLink RX0 42 yX0_has, Cond.methodLink RX1 130 yX0_cheapestFree, Cond.instanceMethod yX0_cheapestFree, Cond.selects RX0 yX0_cheapestFree yX0_cheapestFree, Cond.code yX0_cheapestFree cX0_cheapestFree 3 (some .int), Cond.methodLink RX0 46 yX0_isFree, Cond.methodLink RX1 133 yX1_tryBed, Cond.instanceMethod yX1_tryBed, Cond.selects RX1 yX1_tryBed yX1_tryBed, Cond.code yX1_tryBed cX1_tryBed 5 none, Cond.fieldLink RX1 139 "HotBeds$Beds" "price" "[I", Cond.methodLink RX1 142 yX1_pawnBoots, Cond.instanceMethod yX1_pawnBoots, Cond.selects RX1 yX1_pawnBoots yX1_pawnBoots, Cond.code yX1_pawnBoots cX1_pawnBoots 2 none, Cond.methodLink RX1 77 yX2_earn, Cond.methodLink RX1 145 yX1_getInto, Cond.instanceMethod yX1_getInto, Cond.selects RX1 yX1_getInto yX1_getInto, Cond.code yX1_getInto cX1_getInto 4 none, Cond.fieldLink RX1 148 "HotBeds$Beds" "paid" "[I", Cond.fieldLink RX1 151 "HotBeds$Beds" "entries" "[I", Cond.methodLink RX1 136 yX2_lieOnFloor, Cond.instanceMethod yX2_lieOnFloor]
def wsX3_would_r8 : List Cond := [Cond.selects RX2 yX2_lieOnFloor yX2_lieOnFloor, Cond.code yX2_lieOnFloor cX2_lieOnFloor 2 none, Cond.methodLink RX1 54 yX1_restOfHour, Cond.instanceMethod yX1_restOfHour, Cond.selects RX1 yX1_restOfHour yX1_restOfHour, Cond.code yX1_restOfHour cX1_restOfHour 2 (some .int), Cond.methodLink RX1 154 yX0_isWarm, Cond.instanceMethod yX0_isWarm, Cond.selects RX0 yX0_isWarm yX0_isWarm, Cond.code yX0_isWarm cX0_isWarm 2 (some .boolean), Cond.methodLink RX1 58 yX0_changeWarmth, Cond.instanceMethod yX0_changeWarmth, Cond.selects RX0 yX0_changeWarmth yX0_changeWarmth, Cond.code yX0_changeWarmth cX0_changeWarmth 2 none, Cond.methodLink RX0 49 Lib.Math.max.name, Cond.methodLink RX0 55 Lib.Math.min.name]
def wsX3_would : List Cond := .code yX3_would cX3_would 3 (some .int) :: ((wsX3_would_r1 ++ (wsX3_would_r2 ++ (wsX3_would_r3 ++ (wsX3_would_r4 ++ (wsX3_would_r5 ++ (wsX3_would_r6 ++ (wsX3_would_r7 ++ wsX3_would_r8))))))) ++ wsX30 ++ wsX10 ++ wsX20 ++ wsX00 ++ (vx_atS RX3 157 "java/lang/IndexOutOfBoundsException" ["java/lang/RuntimeException", "java/lang/Exception"]).filter goodWord ++ (vx_atS RX3 23 "java/lang/IllegalArgumentException" ["java/lang/RuntimeException", "java/lang/Exception"]).filter goodWord)
def wsX3_until_r1 : List Cond := [Cond.fieldLink RX3 16 "HotBeds" "trial" "LHotBeds$House;", Cond.fieldLink RX3 10 "HotBeds" "house" "LHotBeds$House;", Cond.fieldLink RX3 48 "HotBeds$House" "sailors" "LHotBeds$Sailors;", Cond.fieldLink RX3 141 "HotBeds$Sailors" "place" "[I", Cond.methodLink RX3 55 yX3_requireSailor, Cond.instanceMethod yX3_requireSailor, Cond.selects RX3 yX3_requireSailor yX3_requireSailor, Cond.initialized RX3, Cond.code yX3_requireSailor cX3_requireSailor 2 none, Cond.classLink RX3 153 "java/lang/IndexOutOfBoundsException", Cond.initialized "java/lang/IndexOutOfBoundsException", Cond.fieldLink RX3 181 "HotBeds$Sailors" "size" "I", Cond.methodLink RX3 193 yX1_copyFrom, Cond.instanceMethod yX1_copyFrom, Cond.selects RX1 yX1_copyFrom yX1_copyFrom, Cond.initialized RX1, Cond.code yX1_copyFrom cX1_copyFrom 2 none, Cond.fieldLink RX1 7 "HotBeds$House" "hour" "I", Cond.fieldLink RX1 13 "HotBeds$House" "bell" "I", Cond.fieldLink RX1 16 "HotBeds$House" "pawn" "I", Cond.fieldLink RX1 22 "HotBeds$House" "beds" "LHotBeds$Beds;", Cond.fieldLink RX1 29 "HotBeds$House" "sailors" "LHotBeds$Sailors;", Cond.methodLink RX1 33 yX0_copyFrom, Cond.instanceMethod yX0_copyFrom]
def wsX3_until_r2 : List Cond := [Cond.selects RX0 yX0_copyFrom yX0_copyFrom, Cond.initialized RX0, Cond.code yX0_copyFrom cX0_copyFrom 2 none, Cond.fieldLink RX0 7 "HotBeds$Beds" "size" "I", Cond.fieldLink RX0 13 "HotBeds$Beds" "price" "[I", Cond.fieldLink RX0 17 "HotBeds$Beds" "warmth" "[I", Cond.fieldLink RX0 20 "HotBeds$Beds" "entries" "[I", Cond.fieldLink RX0 23 "HotBeds$Beds" "paid" "[I", Cond.fieldLink RX0 26 "HotBeds$Beds" "sleeper" "[I", Cond.static yX3_copyRow, Cond.code yX3_copyRow cX3_copyRow 3 none, Cond.methodLink RX1 37 yX2_copyFrom, Cond.instanceMethod yX2_copyFrom, Cond.selects RX2 yX2_copyFrom yX2_copyFrom, Cond.initialized RX2, Cond.code yX2_copyFrom cX2_copyFrom 2 none, Cond.fieldLink RX2 7 "HotBeds$Sailors" "size" "I", Cond.fieldLink RX2 13 "HotBeds$Sailors" "watch" "[I", Cond.fieldLink RX2 17 "HotBeds$Sailors" "heavy" "[I", Cond.fieldLink RX2 20 "HotBeds$Sailors" "wage" "[I", Cond.fieldLink RX2 23 "HotBeds$Sailors" "purse" "[I", Cond.fieldLink RX2 26 "HotBeds$Sailors" "boots" "[I", Cond.fieldLink RX2 29 "HotBeds$Sailors" "kept" "[I", Cond.fieldLink RX2 32 "HotBeds$Sailors" "place" "[I"]
def wsX3_until_r3 : List Cond := [Cond.fieldLink RX2 35 "HotBeds$Sailors" "bed" "[I", Cond.fieldLink RX2 38 "HotBeds$Sailors" "rest" "[I", Cond.fieldLink RX2 41 "HotBeds$Sailors" "late" "[I", Cond.fieldLink RX2 44 "HotBeds$Sailors" "lateSincePay" "[I", Cond.fieldLink RX2 47 "HotBeds$Sailors" "floors" "[I", Cond.methodLink RX3 129 yX1_goOn, Cond.instanceMethod yX1_goOn, Cond.selects RX1 yX1_goOn yX1_goOn, Cond.code yX1_goOn cX1_goOn 4 none, Cond.fieldLink RX1 40 "HotBeds$Sailors" "size" "I", Cond.fieldLink RX1 50 "HotBeds$Sailors" "rest" "[I", Cond.methodLink RX1 43 yX1_ringBell, Cond.instanceMethod yX1_ringBell, Cond.selects RX1 yX1_ringBell yX1_ringBell, Cond.code yX1_ringBell cX1_ringBell 3 none, Cond.fieldLink RX1 96 "HotBeds$Sailors" "heavy" "[I", Cond.methodLink RX1 87 yX2_isUp, Cond.instanceMethod yX2_isUp, Cond.selects RX2 yX2_isUp yX2_isUp, Cond.code yX2_isUp cX2_isUp 2 (some .boolean), Cond.methodLink RX1 90 yX1_isInWatch, Cond.instanceMethod yX1_isInWatch, Cond.selects RX1 yX1_isInWatch yX1_isInWatch, Cond.code yX1_isInWatch cX1_isInWatch 2 (some .boolean)]
def wsX3_until_r4 : List Cond := [Cond.fieldLink RX1 105 "HotBeds$Sailors" "watch" "[I", Cond.methodLink RX1 108 yX1_watchNow, Cond.instanceMethod yX1_watchNow, Cond.selects RX1 yX1_watchNow yX1_watchNow, Cond.code yX1_watchNow cX1_watchNow 1 (some .int), Cond.methodLink RX1 93 yX1_hoursSinceWatch, Cond.instanceMethod yX1_hoursSinceWatch, Cond.selects RX1 yX1_hoursSinceWatch yX1_hoursSinceWatch, Cond.code yX1_hoursSinceWatch cX1_hoursSinceWatch 3 (some .int), Cond.methodLink RX1 99 yX1_getUp, Cond.instanceMethod yX1_getUp, Cond.selects RX1 yX1_getUp yX1_getUp, Cond.code yX1_getUp cX1_getUp 3 none, Cond.fieldLink RX1 61 "HotBeds$Sailors" "bed" "[I", Cond.fieldLink RX1 68 "HotBeds$Beds" "sleeper" "[I", Cond.fieldLink RX1 71 "HotBeds$Sailors" "place" "[I", Cond.methodLink RX1 64 yX0_has, Cond.instanceMethod yX0_has, Cond.selects RX0 yX0_has yX0_has, Cond.code yX0_has cX0_has 2 (some .boolean), Cond.methodLink RX1 102 yX2_beLate, Cond.instanceMethod yX2_beLate, Cond.selects RX2 yX2_beLate yX2_beLate, Cond.code yX2_beLate cX2_beLate 2 none]
def wsX3_until_r5 : List Cond := [Cond.methodLink RX1 47 yX1_serve, Cond.instanceMethod yX1_serve, Cond.selects RX1 yX1_serve yX1_serve, Cond.code yX1_serve cX1_serve 2 none, Cond.methodLink RX1 112 yX2_payWage, Cond.instanceMethod yX2_payWage, Cond.selects RX2 yX2_payWage yX2_payWage, Cond.code yX2_payWage cX2_payWage 3 none, Cond.methodLink RX2 75 Lib.Math.max.name, Cond.static Lib.Math.max.name, Cond.initialized "java/lang/Math", Cond.code Lib.Math.max.name Lib.Math.max.code 2 (some .int), Cond.methodLink RX2 71 yX2_hasBoots, Cond.instanceMethod yX2_hasBoots, Cond.selects RX2 yX2_hasBoots yX2_hasBoots, Cond.code yX2_hasBoots cX2_hasBoots 2 (some .boolean), Cond.methodLink RX2 78 yX2_earn, Cond.instanceMethod yX2_earn, Cond.selects RX2 yX2_earn yX2_earn, Cond.code yX2_earn cX2_earn 3 none, Cond.methodLink RX2 65 Lib.Math.min.name, Cond.static Lib.Math.min.name, Cond.code Lib.Math.min.name Lib.Math.min.code 2 (some .int), Cond.methodLink RX1 115 yX1_canRedeemBoots]
def wsX3_until_r6 : List Cond := [Cond.instanceMethod yX1_canRedeemBoots, Cond.selects RX1 yX1_canRedeemBoots yX1_canRedeemBoots, Cond.code yX1_canRedeemBoots cX1_canRedeemBoots 2 (some .boolean), Cond.fieldLink RX1 84 "HotBeds$Sailors" "purse" "[I", Cond.methodLink RX1 81 yX2_hasBoots, Cond.methodLink RX1 118 yX1_redeemBoots, Cond.instanceMethod yX1_redeemBoots, Cond.selects RX1 yX1_redeemBoots yX1_redeemBoots, Cond.code yX1_redeemBoots cX1_redeemBoots 2 none, Cond.fieldLink RX1 74 "HotBeds$Sailors" "boots" "[I", Cond.methodLink RX1 121 yX1_lookForBed, Cond.instanceMethod yX1_lookForBed, Cond.selects RX1 yX1_lookForBed yX1_lookForBed, Cond.code yX1_lookForBed cX1_lookForBed 4 none, Cond.fieldLink RX1 124 "HotBeds$Sailors" "kept" "[I", Cond.methodLink RX1 127 yX0_isFree, Cond.instanceMethod yX0_isFree, Cond.selects RX0 yX0_isFree yX0_isFree, Cond.code yX0_isFree cX0_isFree 2 (some .boolean), Cond.methodLink RX0 42 yX0_has, Cond.methodLink RX1 130 yX0_cheapestFree, Cond.instanceMethod yX0_cheapestFree, Cond.selects RX0 yX0_cheapestFree yX0_cheapestFree, Cond.code yX0_cheapestFree cX0_cheapestFree 3 (some .int)]
def wsX3_until_r7 : List Cond := [Cond.methodLink RX0 46 yX0_isFree, Cond.methodLink RX1 133 yX1_tryBed, Cond.instanceMethod yX1_tryBed, Cond.selects RX1 yX1_tryBed yX1_tryBed, Cond.code yX1_tryBed cX1_tryBed 5 none, Cond.fieldLink RX1 139 "HotBeds$Beds" "price" "[I", Cond.methodLink RX1 142 yX1_pawnBoots, Cond.instanceMethod yX1_pawnBoots, Cond.selects RX1 yX1_pawnBoots yX1_pawnBoots, Cond.code yX1_pawnBoots cX1_pawnBoots 2 none, Cond.methodLink RX1 77 yX2_earn, Cond.methodLink RX1 145 yX1_getInto, Cond.instanceMethod yX1_getInto, Cond.selects RX1 yX1_getInto yX1_getInto, Cond.code yX1_getInto cX1_getInto 4 none, Cond.fieldLink RX1 148 "HotBeds$Beds" "paid" "[I", Cond.fieldLink RX1 151 "HotBeds$Beds" "entries" "[I", Cond.methodLink RX1 136 yX2_lieOnFloor, Cond.instanceMethod yX2_lieOnFloor, Cond.selects RX2 yX2_lieOnFloor yX2_lieOnFloor, Cond.code yX2_lieOnFloor cX2_lieOnFloor 2 none, Cond.methodLink RX1 54 yX1_restOfHour, Cond.instanceMethod yX1_restOfHour, Cond.selects RX1 yX1_restOfHour yX1_restOfHour]
def wsX3_until_r8 : List Cond := [Cond.code yX1_restOfHour cX1_restOfHour 2 (some .int), Cond.methodLink RX1 154 yX0_isWarm, Cond.instanceMethod yX0_isWarm, Cond.selects RX0 yX0_isWarm yX0_isWarm, Cond.code yX0_isWarm cX0_isWarm 2 (some .boolean), Cond.methodLink RX1 58 yX0_changeWarmth, Cond.instanceMethod yX0_changeWarmth, Cond.selects RX0 yX0_changeWarmth yX0_changeWarmth, Cond.code yX0_changeWarmth cX0_changeWarmth 2 none, Cond.methodLink RX0 49 Lib.Math.max.name, Cond.methodLink RX0 55 Lib.Math.min.name]
def wsX3_until : List Cond := .code yX3_until cX3_until 3 (some .int) :: ((wsX3_until_r1 ++ (wsX3_until_r2 ++ (wsX3_until_r3 ++ (wsX3_until_r4 ++ (wsX3_until_r5 ++ (wsX3_until_r6 ++ (wsX3_until_r7 ++ wsX3_until_r8))))))) ++ wsX30 ++ wsX10 ++ wsX20 ++ wsX00 ++ (vx_atS RX3 157 "java/lang/IndexOutOfBoundsException" ["java/lang/RuntimeException", "java/lang/Exception"]).filter goodWord)
def wsX3_quiet_r1 : List Cond := [Cond.fieldLink RX3 10 "HotBeds" "house" "LHotBeds$House;", Cond.fieldLink RX3 48 "HotBeds$House" "sailors" "LHotBeds$Sailors;", Cond.fieldLink RX3 16 "HotBeds" "trial" "LHotBeds$House;", Cond.fieldLink RX3 67 "HotBeds$House" "bell" "I", Cond.methodLink RX3 188 yX2_allLate, Cond.instanceMethod yX2_allLate, Cond.selects RX2 yX2_allLate yX2_allLate, Cond.initialized RX2, Cond.code yX2_allLate cX2_allLate 1 (some .int), Cond.fieldLink RX2 41 "HotBeds$Sailors" "late" "[I", Cond.methodLink RX2 82 yX2_sum, Cond.instanceMethod yX2_sum, Cond.selects RX2 yX2_sum yX2_sum, Cond.code yX2_sum cX2_sum 4 (some .int), Cond.fieldLink RX2 7 "HotBeds$Sailors" "size" "I", Cond.methodLink RX3 193 yX1_copyFrom, Cond.instanceMethod yX1_copyFrom, Cond.selects RX1 yX1_copyFrom yX1_copyFrom, Cond.initialized RX1, Cond.code yX1_copyFrom cX1_copyFrom 2 none, Cond.fieldLink RX1 7 "HotBeds$House" "hour" "I", Cond.fieldLink RX1 13 "HotBeds$House" "bell" "I", Cond.fieldLink RX1 16 "HotBeds$House" "pawn" "I", Cond.fieldLink RX1 22 "HotBeds$House" "beds" "LHotBeds$Beds;"]
def wsX3_quiet_r2 : List Cond := [Cond.fieldLink RX1 29 "HotBeds$House" "sailors" "LHotBeds$Sailors;", Cond.methodLink RX1 33 yX0_copyFrom, Cond.instanceMethod yX0_copyFrom, Cond.selects RX0 yX0_copyFrom yX0_copyFrom, Cond.initialized RX0, Cond.code yX0_copyFrom cX0_copyFrom 2 none, Cond.fieldLink RX0 7 "HotBeds$Beds" "size" "I", Cond.fieldLink RX0 13 "HotBeds$Beds" "price" "[I", Cond.fieldLink RX0 17 "HotBeds$Beds" "warmth" "[I", Cond.fieldLink RX0 20 "HotBeds$Beds" "entries" "[I", Cond.fieldLink RX0 23 "HotBeds$Beds" "paid" "[I", Cond.fieldLink RX0 26 "HotBeds$Beds" "sleeper" "[I", Cond.static yX3_copyRow, Cond.initialized RX3, Cond.code yX3_copyRow cX3_copyRow 3 none, Cond.methodLink RX1 37 yX2_copyFrom, Cond.instanceMethod yX2_copyFrom, Cond.selects RX2 yX2_copyFrom yX2_copyFrom, Cond.code yX2_copyFrom cX2_copyFrom 2 none, Cond.fieldLink RX2 13 "HotBeds$Sailors" "watch" "[I", Cond.fieldLink RX2 17 "HotBeds$Sailors" "heavy" "[I", Cond.fieldLink RX2 20 "HotBeds$Sailors" "wage" "[I", Cond.fieldLink RX2 23 "HotBeds$Sailors" "purse" "[I", Cond.fieldLink RX2 26 "HotBeds$Sailors" "boots" "[I"]
def wsX3_quiet_r3 : List Cond := [Cond.fieldLink RX2 29 "HotBeds$Sailors" "kept" "[I", Cond.fieldLink RX2 32 "HotBeds$Sailors" "place" "[I", Cond.fieldLink RX2 35 "HotBeds$Sailors" "bed" "[I", Cond.fieldLink RX2 38 "HotBeds$Sailors" "rest" "[I", Cond.fieldLink RX2 44 "HotBeds$Sailors" "lateSincePay" "[I", Cond.fieldLink RX2 47 "HotBeds$Sailors" "floors" "[I", Cond.methodLink RX3 129 yX1_goOn, Cond.instanceMethod yX1_goOn, Cond.selects RX1 yX1_goOn yX1_goOn, Cond.code yX1_goOn cX1_goOn 4 none, Cond.fieldLink RX1 40 "HotBeds$Sailors" "size" "I", Cond.fieldLink RX1 50 "HotBeds$Sailors" "rest" "[I", Cond.methodLink RX1 43 yX1_ringBell, Cond.instanceMethod yX1_ringBell, Cond.selects RX1 yX1_ringBell yX1_ringBell, Cond.code yX1_ringBell cX1_ringBell 3 none, Cond.fieldLink RX1 96 "HotBeds$Sailors" "heavy" "[I", Cond.methodLink RX1 87 yX2_isUp, Cond.instanceMethod yX2_isUp, Cond.selects RX2 yX2_isUp yX2_isUp, Cond.code yX2_isUp cX2_isUp 2 (some .boolean), Cond.methodLink RX1 90 yX1_isInWatch, Cond.instanceMethod yX1_isInWatch, Cond.selects RX1 yX1_isInWatch yX1_isInWatch]
def wsX3_quiet_r4 : List Cond := [Cond.code yX1_isInWatch cX1_isInWatch 2 (some .boolean), Cond.fieldLink RX1 105 "HotBeds$Sailors" "watch" "[I", Cond.methodLink RX1 108 yX1_watchNow, Cond.instanceMethod yX1_watchNow, Cond.selects RX1 yX1_watchNow yX1_watchNow, Cond.code yX1_watchNow cX1_watchNow 1 (some .int), Cond.methodLink RX1 93 yX1_hoursSinceWatch, Cond.instanceMethod yX1_hoursSinceWatch, Cond.selects RX1 yX1_hoursSinceWatch yX1_hoursSinceWatch, Cond.code yX1_hoursSinceWatch cX1_hoursSinceWatch 3 (some .int), Cond.methodLink RX1 99 yX1_getUp, Cond.instanceMethod yX1_getUp, Cond.selects RX1 yX1_getUp yX1_getUp, Cond.code yX1_getUp cX1_getUp 3 none, Cond.fieldLink RX1 61 "HotBeds$Sailors" "bed" "[I", Cond.fieldLink RX1 68 "HotBeds$Beds" "sleeper" "[I", Cond.fieldLink RX1 71 "HotBeds$Sailors" "place" "[I", Cond.methodLink RX1 64 yX0_has, Cond.instanceMethod yX0_has, Cond.selects RX0 yX0_has yX0_has, Cond.code yX0_has cX0_has 2 (some .boolean), Cond.methodLink RX1 102 yX2_beLate, Cond.instanceMethod yX2_beLate, Cond.selects RX2 yX2_beLate yX2_beLate]
def wsX3_quiet_r5 : List Cond := [Cond.code yX2_beLate cX2_beLate 2 none, Cond.methodLink RX1 47 yX1_serve, Cond.instanceMethod yX1_serve, Cond.selects RX1 yX1_serve yX1_serve, Cond.code yX1_serve cX1_serve 2 none, Cond.methodLink RX1 112 yX2_payWage, Cond.instanceMethod yX2_payWage, Cond.selects RX2 yX2_payWage yX2_payWage, Cond.code yX2_payWage cX2_payWage 3 none, Cond.methodLink RX2 75 Lib.Math.max.name, Cond.static Lib.Math.max.name, Cond.initialized "java/lang/Math", Cond.code Lib.Math.max.name Lib.Math.max.code 2 (some .int), Cond.methodLink RX2 71 yX2_hasBoots, Cond.instanceMethod yX2_hasBoots, Cond.selects RX2 yX2_hasBoots yX2_hasBoots, Cond.code yX2_hasBoots cX2_hasBoots 2 (some .boolean), Cond.methodLink RX2 78 yX2_earn, Cond.instanceMethod yX2_earn, Cond.selects RX2 yX2_earn yX2_earn, Cond.code yX2_earn cX2_earn 3 none, Cond.methodLink RX2 65 Lib.Math.min.name, Cond.static Lib.Math.min.name, Cond.code Lib.Math.min.name Lib.Math.min.code 2 (some .int)]
def wsX3_quiet_r6 : List Cond := [Cond.methodLink RX1 115 yX1_canRedeemBoots, Cond.instanceMethod yX1_canRedeemBoots, Cond.selects RX1 yX1_canRedeemBoots yX1_canRedeemBoots, Cond.code yX1_canRedeemBoots cX1_canRedeemBoots 2 (some .boolean), Cond.fieldLink RX1 84 "HotBeds$Sailors" "purse" "[I", Cond.methodLink RX1 81 yX2_hasBoots, Cond.methodLink RX1 118 yX1_redeemBoots, Cond.instanceMethod yX1_redeemBoots, Cond.selects RX1 yX1_redeemBoots yX1_redeemBoots, Cond.code yX1_redeemBoots cX1_redeemBoots 2 none, Cond.fieldLink RX1 74 "HotBeds$Sailors" "boots" "[I", Cond.methodLink RX1 121 yX1_lookForBed, Cond.instanceMethod yX1_lookForBed, Cond.selects RX1 yX1_lookForBed yX1_lookForBed, Cond.code yX1_lookForBed cX1_lookForBed 4 none, Cond.fieldLink RX1 124 "HotBeds$Sailors" "kept" "[I", Cond.methodLink RX1 127 yX0_isFree, Cond.instanceMethod yX0_isFree, Cond.selects RX0 yX0_isFree yX0_isFree, Cond.code yX0_isFree cX0_isFree 2 (some .boolean), Cond.methodLink RX0 42 yX0_has, Cond.methodLink RX1 130 yX0_cheapestFree, Cond.instanceMethod yX0_cheapestFree, Cond.selects RX0 yX0_cheapestFree yX0_cheapestFree]
def wsX3_quiet_r7 : List Cond := [Cond.code yX0_cheapestFree cX0_cheapestFree 3 (some .int), Cond.methodLink RX0 46 yX0_isFree, Cond.methodLink RX1 133 yX1_tryBed, Cond.instanceMethod yX1_tryBed, Cond.selects RX1 yX1_tryBed yX1_tryBed, Cond.code yX1_tryBed cX1_tryBed 5 none, Cond.fieldLink RX1 139 "HotBeds$Beds" "price" "[I", Cond.methodLink RX1 142 yX1_pawnBoots, Cond.instanceMethod yX1_pawnBoots, Cond.selects RX1 yX1_pawnBoots yX1_pawnBoots, Cond.code yX1_pawnBoots cX1_pawnBoots 2 none, Cond.methodLink RX1 77 yX2_earn, Cond.methodLink RX1 145 yX1_getInto, Cond.instanceMethod yX1_getInto, Cond.selects RX1 yX1_getInto yX1_getInto, Cond.code yX1_getInto cX1_getInto 4 none, Cond.fieldLink RX1 148 "HotBeds$Beds" "paid" "[I", Cond.fieldLink RX1 151 "HotBeds$Beds" "entries" "[I", Cond.methodLink RX1 136 yX2_lieOnFloor, Cond.instanceMethod yX2_lieOnFloor, Cond.selects RX2 yX2_lieOnFloor yX2_lieOnFloor, Cond.code yX2_lieOnFloor cX2_lieOnFloor 2 none, Cond.methodLink RX1 54 yX1_restOfHour, Cond.instanceMethod yX1_restOfHour]
def wsX3_quiet_r8 : List Cond := [Cond.selects RX1 yX1_restOfHour yX1_restOfHour, Cond.code yX1_restOfHour cX1_restOfHour 2 (some .int), Cond.methodLink RX1 154 yX0_isWarm, Cond.instanceMethod yX0_isWarm, Cond.selects RX0 yX0_isWarm yX0_isWarm, Cond.code yX0_isWarm cX0_isWarm 2 (some .boolean), Cond.methodLink RX1 58 yX0_changeWarmth, Cond.instanceMethod yX0_changeWarmth, Cond.selects RX0 yX0_changeWarmth yX0_changeWarmth, Cond.code yX0_changeWarmth cX0_changeWarmth 2 none, Cond.methodLink RX0 49 Lib.Math.max.name, Cond.methodLink RX0 55 Lib.Math.min.name]
def wsX3_quiet : List Cond := .code yX3_quiet cX3_quiet 3 (some .int) :: ((wsX3_quiet_r1 ++ (wsX3_quiet_r2 ++ (wsX3_quiet_r3 ++ (wsX3_quiet_r4 ++ (wsX3_quiet_r5 ++ (wsX3_quiet_r6 ++ (wsX3_quiet_r7 ++ wsX3_quiet_r8))))))) ++ wsX30 ++ wsX10 ++ wsX20 ++ wsX00)
def wsX3_advise_r1 : List Cond := [Cond.fieldLink RX3 16 "HotBeds" "trial" "LHotBeds$House;", Cond.fieldLink RX3 10 "HotBeds" "house" "LHotBeds$House;", Cond.fieldLink RX3 48 "HotBeds$House" "sailors" "LHotBeds$Sailors;", Cond.fieldLink RX3 119 "HotBeds$Sailors" "watch" "[I", Cond.fieldLink RX3 144 "HotBeds$Sailors" "rest" "[I", Cond.methodLink RX3 55 yX3_requireSailor, Cond.instanceMethod yX3_requireSailor, Cond.selects RX3 yX3_requireSailor yX3_requireSailor, Cond.initialized RX3, Cond.code yX3_requireSailor cX3_requireSailor 2 none, Cond.classLink RX3 153 "java/lang/IndexOutOfBoundsException", Cond.initialized "java/lang/IndexOutOfBoundsException", Cond.fieldLink RX3 181 "HotBeds$Sailors" "size" "I", Cond.methodLink RX3 116 yX3_requireUp, Cond.instanceMethod yX3_requireUp, Cond.selects RX3 yX3_requireUp yX3_requireUp, Cond.code yX3_requireUp cX3_requireUp 2 none, Cond.classLink RX3 89 "java/lang/IllegalStateException", Cond.initialized "java/lang/IllegalStateException", Cond.methodLink RX3 105 yX2_isUp, Cond.instanceMethod yX2_isUp, Cond.selects RX2 yX2_isUp yX2_isUp, Cond.initialized RX2, Cond.code yX2_isUp cX2_isUp 2 (some .boolean)]
def wsX3_advise_r2 : List Cond := [Cond.fieldLink RX2 32 "HotBeds$Sailors" "place" "[I", Cond.methodLink RX3 193 yX1_copyFrom, Cond.instanceMethod yX1_copyFrom, Cond.selects RX1 yX1_copyFrom yX1_copyFrom, Cond.initialized RX1, Cond.code yX1_copyFrom cX1_copyFrom 2 none, Cond.fieldLink RX1 7 "HotBeds$House" "hour" "I", Cond.fieldLink RX1 13 "HotBeds$House" "bell" "I", Cond.fieldLink RX1 16 "HotBeds$House" "pawn" "I", Cond.fieldLink RX1 22 "HotBeds$House" "beds" "LHotBeds$Beds;", Cond.fieldLink RX1 29 "HotBeds$House" "sailors" "LHotBeds$Sailors;", Cond.methodLink RX1 33 yX0_copyFrom, Cond.instanceMethod yX0_copyFrom, Cond.selects RX0 yX0_copyFrom yX0_copyFrom, Cond.initialized RX0, Cond.code yX0_copyFrom cX0_copyFrom 2 none, Cond.fieldLink RX0 7 "HotBeds$Beds" "size" "I", Cond.fieldLink RX0 13 "HotBeds$Beds" "price" "[I", Cond.fieldLink RX0 17 "HotBeds$Beds" "warmth" "[I", Cond.fieldLink RX0 20 "HotBeds$Beds" "entries" "[I", Cond.fieldLink RX0 23 "HotBeds$Beds" "paid" "[I", Cond.fieldLink RX0 26 "HotBeds$Beds" "sleeper" "[I", Cond.static yX3_copyRow, Cond.code yX3_copyRow cX3_copyRow 3 none]
def wsX3_advise_r3 : List Cond := [Cond.methodLink RX1 37 yX2_copyFrom, Cond.instanceMethod yX2_copyFrom, Cond.selects RX2 yX2_copyFrom yX2_copyFrom, Cond.code yX2_copyFrom cX2_copyFrom 2 none, Cond.fieldLink RX2 7 "HotBeds$Sailors" "size" "I", Cond.fieldLink RX2 13 "HotBeds$Sailors" "watch" "[I", Cond.fieldLink RX2 17 "HotBeds$Sailors" "heavy" "[I", Cond.fieldLink RX2 20 "HotBeds$Sailors" "wage" "[I", Cond.fieldLink RX2 23 "HotBeds$Sailors" "purse" "[I", Cond.fieldLink RX2 26 "HotBeds$Sailors" "boots" "[I", Cond.fieldLink RX2 29 "HotBeds$Sailors" "kept" "[I", Cond.fieldLink RX2 35 "HotBeds$Sailors" "bed" "[I", Cond.fieldLink RX2 38 "HotBeds$Sailors" "rest" "[I", Cond.fieldLink RX2 41 "HotBeds$Sailors" "late" "[I", Cond.fieldLink RX2 44 "HotBeds$Sailors" "lateSincePay" "[I", Cond.fieldLink RX2 47 "HotBeds$Sailors" "floors" "[I", Cond.methodLink RX3 129 yX1_goOn, Cond.instanceMethod yX1_goOn, Cond.selects RX1 yX1_goOn yX1_goOn, Cond.code yX1_goOn cX1_goOn 4 none, Cond.fieldLink RX1 40 "HotBeds$Sailors" "size" "I", Cond.fieldLink RX1 50 "HotBeds$Sailors" "rest" "[I", Cond.methodLink RX1 43 yX1_ringBell, Cond.instanceMethod yX1_ringBell]
def wsX3_advise_r4 : List Cond := [Cond.selects RX1 yX1_ringBell yX1_ringBell, Cond.code yX1_ringBell cX1_ringBell 3 none, Cond.fieldLink RX1 96 "HotBeds$Sailors" "heavy" "[I", Cond.methodLink RX1 87 yX2_isUp, Cond.methodLink RX1 90 yX1_isInWatch, Cond.instanceMethod yX1_isInWatch, Cond.selects RX1 yX1_isInWatch yX1_isInWatch, Cond.code yX1_isInWatch cX1_isInWatch 2 (some .boolean), Cond.fieldLink RX1 105 "HotBeds$Sailors" "watch" "[I", Cond.methodLink RX1 108 yX1_watchNow, Cond.instanceMethod yX1_watchNow, Cond.selects RX1 yX1_watchNow yX1_watchNow, Cond.code yX1_watchNow cX1_watchNow 1 (some .int), Cond.methodLink RX1 93 yX1_hoursSinceWatch, Cond.instanceMethod yX1_hoursSinceWatch, Cond.selects RX1 yX1_hoursSinceWatch yX1_hoursSinceWatch, Cond.code yX1_hoursSinceWatch cX1_hoursSinceWatch 3 (some .int), Cond.methodLink RX1 99 yX1_getUp, Cond.instanceMethod yX1_getUp, Cond.selects RX1 yX1_getUp yX1_getUp, Cond.code yX1_getUp cX1_getUp 3 none, Cond.fieldLink RX1 61 "HotBeds$Sailors" "bed" "[I", Cond.fieldLink RX1 68 "HotBeds$Beds" "sleeper" "[I", Cond.fieldLink RX1 71 "HotBeds$Sailors" "place" "[I"]
def wsX3_advise_r5 : List Cond := [Cond.methodLink RX1 64 yX0_has, Cond.instanceMethod yX0_has, Cond.selects RX0 yX0_has yX0_has, Cond.code yX0_has cX0_has 2 (some .boolean), Cond.methodLink RX1 102 yX2_beLate, Cond.instanceMethod yX2_beLate, Cond.selects RX2 yX2_beLate yX2_beLate, Cond.code yX2_beLate cX2_beLate 2 none, Cond.methodLink RX1 47 yX1_serve, Cond.instanceMethod yX1_serve, Cond.selects RX1 yX1_serve yX1_serve, Cond.code yX1_serve cX1_serve 2 none, Cond.methodLink RX1 112 yX2_payWage, Cond.instanceMethod yX2_payWage, Cond.selects RX2 yX2_payWage yX2_payWage, Cond.code yX2_payWage cX2_payWage 3 none, Cond.methodLink RX2 75 Lib.Math.max.name, Cond.static Lib.Math.max.name, Cond.initialized "java/lang/Math", Cond.code Lib.Math.max.name Lib.Math.max.code 2 (some .int), Cond.methodLink RX2 71 yX2_hasBoots, Cond.instanceMethod yX2_hasBoots, Cond.selects RX2 yX2_hasBoots yX2_hasBoots, Cond.code yX2_hasBoots cX2_hasBoots 2 (some .boolean)]
def wsX3_advise_r6 : List Cond := [Cond.methodLink RX2 78 yX2_earn, Cond.instanceMethod yX2_earn, Cond.selects RX2 yX2_earn yX2_earn, Cond.code yX2_earn cX2_earn 3 none, Cond.methodLink RX2 65 Lib.Math.min.name, Cond.static Lib.Math.min.name, Cond.code Lib.Math.min.name Lib.Math.min.code 2 (some .int), Cond.methodLink RX1 115 yX1_canRedeemBoots, Cond.instanceMethod yX1_canRedeemBoots, Cond.selects RX1 yX1_canRedeemBoots yX1_canRedeemBoots, Cond.code yX1_canRedeemBoots cX1_canRedeemBoots 2 (some .boolean), Cond.fieldLink RX1 84 "HotBeds$Sailors" "purse" "[I", Cond.methodLink RX1 81 yX2_hasBoots, Cond.methodLink RX1 118 yX1_redeemBoots, Cond.instanceMethod yX1_redeemBoots, Cond.selects RX1 yX1_redeemBoots yX1_redeemBoots, Cond.code yX1_redeemBoots cX1_redeemBoots 2 none, Cond.fieldLink RX1 74 "HotBeds$Sailors" "boots" "[I", Cond.methodLink RX1 121 yX1_lookForBed, Cond.instanceMethod yX1_lookForBed, Cond.selects RX1 yX1_lookForBed yX1_lookForBed, Cond.code yX1_lookForBed cX1_lookForBed 4 none, Cond.fieldLink RX1 124 "HotBeds$Sailors" "kept" "[I", Cond.methodLink RX1 127 yX0_isFree]
def wsX3_advise_r7 : List Cond := [Cond.instanceMethod yX0_isFree, Cond.selects RX0 yX0_isFree yX0_isFree, Cond.code yX0_isFree cX0_isFree 2 (some .boolean), Cond.methodLink RX0 42 yX0_has, Cond.methodLink RX1 130 yX0_cheapestFree, Cond.instanceMethod yX0_cheapestFree, Cond.selects RX0 yX0_cheapestFree yX0_cheapestFree, Cond.code yX0_cheapestFree cX0_cheapestFree 3 (some .int), Cond.methodLink RX0 46 yX0_isFree, Cond.methodLink RX1 133 yX1_tryBed, Cond.instanceMethod yX1_tryBed, Cond.selects RX1 yX1_tryBed yX1_tryBed, Cond.code yX1_tryBed cX1_tryBed 5 none, Cond.fieldLink RX1 139 "HotBeds$Beds" "price" "[I", Cond.methodLink RX1 142 yX1_pawnBoots, Cond.instanceMethod yX1_pawnBoots, Cond.selects RX1 yX1_pawnBoots yX1_pawnBoots, Cond.code yX1_pawnBoots cX1_pawnBoots 2 none, Cond.methodLink RX1 77 yX2_earn, Cond.methodLink RX1 145 yX1_getInto, Cond.instanceMethod yX1_getInto, Cond.selects RX1 yX1_getInto yX1_getInto, Cond.code yX1_getInto cX1_getInto 4 none, Cond.fieldLink RX1 148 "HotBeds$Beds" "paid" "[I"]
def wsX3_advise_r8 : List Cond := [Cond.fieldLink RX1 151 "HotBeds$Beds" "entries" "[I", Cond.methodLink RX1 136 yX2_lieOnFloor, Cond.instanceMethod yX2_lieOnFloor, Cond.selects RX2 yX2_lieOnFloor yX2_lieOnFloor, Cond.code yX2_lieOnFloor cX2_lieOnFloor 2 none, Cond.methodLink RX1 54 yX1_restOfHour, Cond.instanceMethod yX1_restOfHour, Cond.selects RX1 yX1_restOfHour yX1_restOfHour, Cond.code yX1_restOfHour cX1_restOfHour 2 (some .int), Cond.methodLink RX1 154 yX0_isWarm, Cond.instanceMethod yX0_isWarm, Cond.selects RX0 yX0_isWarm yX0_isWarm, Cond.code yX0_isWarm cX0_isWarm 2 (some .boolean), Cond.methodLink RX1 58 yX0_changeWarmth, Cond.instanceMethod yX0_changeWarmth, Cond.selects RX0 yX0_changeWarmth yX0_changeWarmth, Cond.code yX0_changeWarmth cX0_changeWarmth 2 none, Cond.methodLink RX0 49 Lib.Math.max.name, Cond.methodLink RX0 55 Lib.Math.min.name]
def wsX3_advise : List Cond := .code yX3_advise cX3_advise 6 (some .int) :: ((wsX3_advise_r1 ++ (wsX3_advise_r2 ++ (wsX3_advise_r3 ++ (wsX3_advise_r4 ++ (wsX3_advise_r5 ++ (wsX3_advise_r6 ++ (wsX3_advise_r7 ++ wsX3_advise_r8))))))) ++ wsX30 ++ wsX10 ++ wsX20 ++ wsX00 ++ (vx_atS RX3 157 "java/lang/IndexOutOfBoundsException" ["java/lang/RuntimeException", "java/lang/Exception"]).filter goodWord ++ (vx_atS RX3 93 "java/lang/IllegalStateException" ["java/lang/RuntimeException", "java/lang/Exception"]).filter goodWord)
def wsX3_mean : List Cond := .code yX3_mean cX3_mean 2 (some .double) :: ([.fieldLink RX3 10 "HotBeds" "house" "LHotBeds$House;", .fieldLink RX3 48 "HotBeds$House" "sailors" "LHotBeds$Sailors;", .fieldLink RX3 181 "HotBeds$Sailors" "size" "I", .methodLink RX3 197 yX2_allRest, .instanceMethod yX2_allRest, .selects RX2 yX2_allRest yX2_allRest, .initialized RX2, .code yX2_allRest cX2_allRest 1 (some .int), .fieldLink RX2 38 "HotBeds$Sailors" "rest" "[I", .methodLink RX2 82 yX2_sum, .instanceMethod yX2_sum, .selects RX2 yX2_sum yX2_sum, .code yX2_sum cX2_sum 4 (some .int), .fieldLink RX2 7 "HotBeds$Sailors" "size" "I"] ++ wsX30 ++ wsX10 ++ wsX20)
def wsX3_digest_r1 : List Cond := [Cond.constantLong RX3 200 (1783), Cond.constantLong RX3 202 (31), Cond.fieldLink RX3 10 "HotBeds" "house" "LHotBeds$House;", Cond.fieldLink RX3 26 "HotBeds$House" "beds" "LHotBeds$Beds;", Cond.fieldLink RX3 178 "HotBeds$Beds" "size" "I", Cond.fieldLink RX3 48 "HotBeds$House" "sailors" "LHotBeds$Sailors;", Cond.fieldLink RX3 181 "HotBeds$Sailors" "size" "I", Cond.methodLink RX3 204 yX3_count, Cond.instanceMethod yX3_count, Cond.selects RX3 yX3_count yX3_count, Cond.initialized RX3, Cond.code yX3_count cX3_count 2 (some .int), Cond.classLink RX3 153 "java/lang/IndexOutOfBoundsException", Cond.initialized "java/lang/IndexOutOfBoundsException", Cond.fieldLink RX3 175 "HotBeds$House" "hour" "I", Cond.fieldLink RX3 67 "HotBeds$House" "bell" "I", Cond.fieldLink RX3 73 "HotBeds$House" "pawn" "I", Cond.methodLink RX3 182 yX1_watchNow, Cond.instanceMethod yX1_watchNow, Cond.selects RX1 yX1_watchNow yX1_watchNow, Cond.initialized RX1, Cond.code yX1_watchNow cX1_watchNow 1 (some .int), Cond.fieldLink RX1 7 "HotBeds$House" "hour" "I", Cond.methodLink RX3 185 yX2_howManyAt]
def wsX3_digest_r2 : List Cond := [Cond.instanceMethod yX2_howManyAt, Cond.selects RX2 yX2_howManyAt yX2_howManyAt, Cond.initialized RX2, Cond.code yX2_howManyAt cX2_howManyAt 4 (some .int), Cond.fieldLink RX2 7 "HotBeds$Sailors" "size" "I", Cond.fieldLink RX2 32 "HotBeds$Sailors" "place" "[I", Cond.methodLink RX3 188 yX2_allLate, Cond.instanceMethod yX2_allLate, Cond.selects RX2 yX2_allLate yX2_allLate, Cond.code yX2_allLate cX2_allLate 1 (some .int), Cond.fieldLink RX2 41 "HotBeds$Sailors" "late" "[I", Cond.methodLink RX2 82 yX2_sum, Cond.instanceMethod yX2_sum, Cond.selects RX2 yX2_sum yX2_sum, Cond.code yX2_sum cX2_sum 4 (some .int), Cond.methodLink RX3 125 yX2_allFloors, Cond.instanceMethod yX2_allFloors, Cond.selects RX2 yX2_allFloors yX2_allFloors, Cond.code yX2_allFloors cX2_allFloors 1 (some .int), Cond.fieldLink RX2 47 "HotBeds$Sailors" "floors" "[I", Cond.methodLink RX3 207 yX3_about, Cond.instanceMethod yX3_about, Cond.selects RX3 yX3_about yX3_about, Cond.code yX3_about cX3_about 4 (some .int)]
def wsX3_digest_r3 : List Cond := [Cond.fieldLink RX3 158 "HotBeds$Beds" "price" "[I", Cond.fieldLink RX3 161 "HotBeds$Beds" "warmth" "[I", Cond.fieldLink RX3 164 "HotBeds$Beds" "entries" "[I", Cond.fieldLink RX3 167 "HotBeds$Beds" "paid" "[I", Cond.fieldLink RX3 170 "HotBeds$Beds" "sleeper" "[I", Cond.methodLink RX3 58 yX3_requireBed, Cond.instanceMethod yX3_requireBed, Cond.selects RX3 yX3_requireBed yX3_requireBed, Cond.code yX3_requireBed cX3_requireBed 2 none, Cond.methodLink RX3 216 yX0_has, Cond.instanceMethod yX0_has, Cond.selects RX0 yX0_has yX0_has, Cond.initialized RX0, Cond.code yX0_has cX0_has 2 (some .boolean), Cond.fieldLink RX0 7 "HotBeds$Beds" "size" "I", Cond.methodLink RX3 211 yX3_told, Cond.instanceMethod yX3_told, Cond.selects RX3 yX3_told yX3_told, Cond.code yX3_told cX3_told 4 (some .int), Cond.fieldLink RX3 119 "HotBeds$Sailors" "watch" "[I", Cond.fieldLink RX3 132 "HotBeds$Sailors" "heavy" "[I", Cond.fieldLink RX3 135 "HotBeds$Sailors" "wage" "[I", Cond.fieldLink RX3 82 "HotBeds$Sailors" "purse" "[I", Cond.fieldLink RX3 138 "HotBeds$Sailors" "boots" "[I"]
def wsX3_digest_r4 : List Cond := [Cond.fieldLink RX3 61 "HotBeds$Sailors" "kept" "[I", Cond.fieldLink RX3 141 "HotBeds$Sailors" "place" "[I", Cond.fieldLink RX3 110 "HotBeds$Sailors" "bed" "[I", Cond.fieldLink RX3 144 "HotBeds$Sailors" "rest" "[I", Cond.fieldLink RX3 147 "HotBeds$Sailors" "late" "[I", Cond.fieldLink RX3 150 "HotBeds$Sailors" "floors" "[I", Cond.methodLink RX3 55 yX3_requireSailor, Cond.instanceMethod yX3_requireSailor, Cond.selects RX3 yX3_requireSailor yX3_requireSailor, Cond.code yX3_requireSailor cX3_requireSailor 2 none]
def wsX3_digest : List Cond := .code yX3_digest cX3_digest 5 (some .long) :: ((wsX3_digest_r1 ++ (wsX3_digest_r2 ++ (wsX3_digest_r3 ++ wsX3_digest_r4))) ++ wsX30 ++ wsX10 ++ wsX00 ++ wsX20 ++ (vx_atS RX3 157 "java/lang/IndexOutOfBoundsException" ["java/lang/RuntimeException", "java/lang/Exception"]).filter goodWord)
def wsX4_init : List Cond := .code yX4_init cX4_init 1 none :: ([.methodLink RX4 1 objectInit, .instanceMethod objectInit, .code objectInit ⟨#[0xb1]⟩ 1 none, .arrayClass .int, .fieldLink RX4 9 "HotBedsModel" "prices" "[I", .fieldLink RX4 13 "HotBedsModel" "heavy" "[I", .fieldLink RX4 16 "HotBedsModel" "wages" "[I", .fieldLink RX4 19 "HotBedsModel" "now" "[I", .fieldLink RX4 22 "HotBedsModel" "kept" "[I"] ++ wsX40)
def wsX4_thrown : List Cond := .code yX4_thrown cX4_thrown 1 (some .int) :: ([.fieldLink RX4 25 "HotBedsModel" "thrown" "I"] ++ wsX40)
def wsX4_fail : List Cond := .code yX4_fail cX4_fail 2 (some .int) :: ([.fieldLink RX4 25 "HotBedsModel" "thrown" "I"] ++ wsX40)
def wsX4_isIn : List Cond := .code yX4_isIn cX4_isIn 3 (some .boolean) :: ([])
def wsX4_isBed : List Cond := .code yX4_isBed cX4_isBed 2 (some .boolean) :: ([.fieldLink RX4 29 "HotBedsModel" "beds" "I", .methodLink RX4 32 yX4_isIn, .static yX4_isIn, .initialized RX4, .code yX4_isIn cX4_isIn 3 (some .boolean)] ++ wsX40)
def wsX4_isSailor : List Cond := .code yX4_isSailor cX4_isSailor 2 (some .boolean) :: ([.fieldLink RX4 36 "HotBedsModel" "sailors" "I", .methodLink RX4 32 yX4_isIn, .static yX4_isIn, .initialized RX4, .code yX4_isIn cX4_isIn 3 (some .boolean)] ++ wsX40)
def wsX4_be : List Cond := .code yX4_be cX4_be 3 (some .int) :: ([.fieldLink RX4 19 "HotBedsModel" "now" "[I"] ++ wsX40)
def wsX4_letBed : List Cond := .code yX4_letBed cX4_letBed 4 none :: ([.fieldLink RX4 19 "HotBedsModel" "now" "[I"] ++ wsX40)
def wsX4_sa : List Cond := .code yX4_sa cX4_sa 3 (some .int) :: ([.fieldLink RX4 19 "HotBedsModel" "now" "[I"] ++ wsX40)
def wsX4_let : List Cond := .code yX4_let cX4_let 4 none :: ([.fieldLink RX4 19 "HotBedsModel" "now" "[I"] ++ wsX40)
def wsX4_more : List Cond := .code yX4_more cX4_more 4 none :: ([.fieldLink RX4 19 "HotBedsModel" "now" "[I"] ++ wsX40)
def wsX4_keep : List Cond := .code yX4_keep cX4_keep 1 none :: ([.fieldLink RX4 19 "HotBedsModel" "now" "[I", .fieldLink RX4 22 "HotBedsModel" "kept" "[I", .methodLink RX4 39 arraycopyName, .native arraycopyName, .static arraycopyName, .initialized "java/lang/System"] ++ wsX40)
def wsX4_bringBack : List Cond := .code yX4_bringBack cX4_bringBack 1 none :: ([.fieldLink RX4 22 "HotBedsModel" "kept" "[I", .fieldLink RX4 19 "HotBedsModel" "now" "[I", .methodLink RX4 39 arraycopyName, .native arraycopyName, .static arraycopyName, .initialized "java/lang/System"] ++ wsX40)
def wsX4_watch : List Cond := .code yX4_watch cX4_watch 1 (some .int) :: ([.fieldLink RX4 19 "HotBedsModel" "now" "[I"] ++ wsX40)
def wsX4_bed : List Cond := .code yX4_bed cX4_bed 2 (some .int) :: ([.fieldLink RX4 25 "HotBedsModel" "thrown" "I", .fieldLink RX4 29 "HotBedsModel" "beds" "I", .fieldLink RX4 9 "HotBedsModel" "prices" "[I", .methodLink RX4 32 yX4_isIn, .static yX4_isIn, .initialized RX4, .code yX4_isIn cX4_isIn 3 (some .boolean), .methodLink RX4 45 yX4_fail, .instanceMethod yX4_fail, .selects RX4 yX4_fail yX4_fail, .code yX4_fail cX4_fail 2 (some .int), .methodLink RX4 49 yX4_letBed, .instanceMethod yX4_letBed, .selects RX4 yX4_letBed yX4_letBed, .code yX4_letBed cX4_letBed 4 none, .fieldLink RX4 19 "HotBedsModel" "now" "[I"] ++ wsX40)
def wsX4_sailor : List Cond := .code yX4_sailor cX4_sailor 5 (some .int) :: ([.fieldLink RX4 25 "HotBedsModel" "thrown" "I", .fieldLink RX4 36 "HotBedsModel" "sailors" "I", .fieldLink RX4 13 "HotBedsModel" "heavy" "[I", .fieldLink RX4 16 "HotBedsModel" "wages" "[I", .methodLink RX4 32 yX4_isIn, .static yX4_isIn, .initialized RX4, .code yX4_isIn cX4_isIn 3 (some .boolean), .methodLink RX4 45 yX4_fail, .instanceMethod yX4_fail, .selects RX4 yX4_fail yX4_fail, .code yX4_fail cX4_fail 2 (some .int), .methodLink RX4 53 yX4_let, .instanceMethod yX4_let, .selects RX4 yX4_let yX4_let, .code yX4_let cX4_let 4 none, .fieldLink RX4 19 "HotBedsModel" "now" "[I"] ++ wsX40)
def wsX4_keep__r1 : List Cond := [Cond.fieldLink RX4 25 "HotBedsModel" "thrown" "I", Cond.methodLink RX4 56 yX4_isSailor, Cond.instanceMethod yX4_isSailor, Cond.selects RX4 yX4_isSailor yX4_isSailor, Cond.initialized RX4, Cond.code yX4_isSailor cX4_isSailor 2 (some .boolean), Cond.fieldLink RX4 36 "HotBedsModel" "sailors" "I", Cond.methodLink RX4 32 yX4_isIn, Cond.static yX4_isIn, Cond.code yX4_isIn cX4_isIn 3 (some .boolean), Cond.methodLink RX4 60 yX4_isBed, Cond.instanceMethod yX4_isBed, Cond.selects RX4 yX4_isBed yX4_isBed, Cond.code yX4_isBed cX4_isBed 2 (some .boolean), Cond.fieldLink RX4 29 "HotBedsModel" "beds" "I", Cond.methodLink RX4 45 yX4_fail, Cond.instanceMethod yX4_fail, Cond.selects RX4 yX4_fail yX4_fail, Cond.code yX4_fail cX4_fail 2 (some .int), Cond.methodLink RX4 63 yX4_sa, Cond.instanceMethod yX4_sa, Cond.selects RX4 yX4_sa yX4_sa, Cond.code yX4_sa cX4_sa 3 (some .int), Cond.fieldLink RX4 19 "HotBedsModel" "now" "[I"]
def wsX4_keep__r2 : List Cond := [Cond.methodLink RX4 53 yX4_let, Cond.instanceMethod yX4_let, Cond.selects RX4 yX4_let yX4_let, Cond.code yX4_let cX4_let 4 none]
def wsX4_keep_ : List Cond := .code yX4_keep_ cX4_keep_ 4 (some .int) :: ((wsX4_keep__r1 ++ wsX4_keep__r2) ++ wsX40)
def wsX4_change : List Cond := .code yX4_change cX4_change 6 (some .int) :: ([.fieldLink RX4 19 "HotBedsModel" "now" "[I", .methodLink RX4 32 yX4_isIn, .static yX4_isIn, .initialized RX4, .code yX4_isIn cX4_isIn 3 (some .boolean), .methodLink RX4 45 yX4_fail, .instanceMethod yX4_fail, .selects RX4 yX4_fail yX4_fail, .code yX4_fail cX4_fail 2 (some .int), .fieldLink RX4 25 "HotBedsModel" "thrown" "I"] ++ wsX40)
def wsX4_setBell : List Cond := .code yX4_setBell cX4_setBell 2 (some .int) :: ([.fieldLink RX4 25 "HotBedsModel" "thrown" "I", .methodLink RX4 67 yX4_change, .instanceMethod yX4_change, .selects RX4 yX4_change yX4_change, .initialized RX4, .code yX4_change cX4_change 6 (some .int), .fieldLink RX4 19 "HotBedsModel" "now" "[I", .methodLink RX4 32 yX4_isIn, .static yX4_isIn, .code yX4_isIn cX4_isIn 3 (some .boolean), .methodLink RX4 45 yX4_fail, .instanceMethod yX4_fail, .selects RX4 yX4_fail yX4_fail, .code yX4_fail cX4_fail 2 (some .int)] ++ wsX40)
def wsX4_setPawn : List Cond := .code yX4_setPawn cX4_setPawn 2 (some .int) :: ([.fieldLink RX4 25 "HotBedsModel" "thrown" "I", .methodLink RX4 67 yX4_change, .instanceMethod yX4_change, .selects RX4 yX4_change yX4_change, .initialized RX4, .code yX4_change cX4_change 6 (some .int), .fieldLink RX4 19 "HotBedsModel" "now" "[I", .methodLink RX4 32 yX4_isIn, .static yX4_isIn, .code yX4_isIn cX4_isIn 3 (some .boolean), .methodLink RX4 45 yX4_fail, .instanceMethod yX4_fail, .selects RX4 yX4_fail yX4_fail, .code yX4_fail cX4_fail 2 (some .int)] ++ wsX40)
def wsX4_gets : List Cond := .code yX4_gets cX4_gets 3 (some .int) :: ([.methodLink RX4 71 Lib.Math.min.name, .static Lib.Math.min.name, .initialized "java/lang/Math", .code Lib.Math.min.name Lib.Math.min.code 2 (some .int), .methodLink RX4 63 yX4_sa, .instanceMethod yX4_sa, .selects RX4 yX4_sa yX4_sa, .initialized RX4, .code yX4_sa cX4_sa 3 (some .int), .fieldLink RX4 19 "HotBedsModel" "now" "[I", .methodLink RX4 53 yX4_let, .instanceMethod yX4_let, .selects RX4 yX4_let yX4_let, .code yX4_let cX4_let 4 none] ++ wsX40)
def wsX4_pawns : List Cond := .code yX4_pawns cX4_pawns 2 (some .int) :: ([.fieldLink RX4 19 "HotBedsModel" "now" "[I", .methodLink RX4 53 yX4_let, .instanceMethod yX4_let, .selects RX4 yX4_let yX4_let, .initialized RX4, .code yX4_let cX4_let 4 none, .methodLink RX4 76 yX4_gets, .instanceMethod yX4_gets, .selects RX4 yX4_gets yX4_gets, .code yX4_gets cX4_gets 3 (some .int), .methodLink RX4 71 Lib.Math.min.name, .static Lib.Math.min.name, .initialized "java/lang/Math", .code Lib.Math.min.name Lib.Math.min.code 2 (some .int), .methodLink RX4 63 yX4_sa, .instanceMethod yX4_sa, .selects RX4 yX4_sa yX4_sa, .code yX4_sa cX4_sa 3 (some .int)] ++ wsX40)
def wsX4_canRedeem : List Cond := .code yX4_canRedeem cX4_canRedeem 2 (some .boolean) :: ([.fieldLink RX4 19 "HotBedsModel" "now" "[I", .methodLink RX4 63 yX4_sa, .instanceMethod yX4_sa, .selects RX4 yX4_sa yX4_sa, .initialized RX4, .code yX4_sa cX4_sa 3 (some .int)] ++ wsX40)
def wsX4_redeems : List Cond := .code yX4_redeems cX4_redeems 2 (some .int) :: ([.fieldLink RX4 19 "HotBedsModel" "now" "[I", .methodLink RX4 53 yX4_let, .instanceMethod yX4_let, .selects RX4 yX4_let yX4_let, .initialized RX4, .code yX4_let cX4_let 4 none, .methodLink RX4 79 yX4_more, .instanceMethod yX4_more, .selects RX4 yX4_more yX4_more, .code yX4_more cX4_more 4 none, .methodLink RX4 63 yX4_sa, .instanceMethod yX4_sa, .selects RX4 yX4_sa yX4_sa, .code yX4_sa cX4_sa 3 (some .int)] ++ wsX40)
def wsX4_getsUp : List Cond := .code yX4_getsUp cX4_getsUp 2 none :: ([.methodLink RX4 63 yX4_sa, .instanceMethod yX4_sa, .selects RX4 yX4_sa yX4_sa, .initialized RX4, .code yX4_sa cX4_sa 3 (some .int), .fieldLink RX4 19 "HotBedsModel" "now" "[I", .methodLink RX4 49 yX4_letBed, .instanceMethod yX4_letBed, .selects RX4 yX4_letBed yX4_letBed, .code yX4_letBed cX4_letBed 4 none, .methodLink RX4 53 yX4_let, .instanceMethod yX4_let, .selects RX4 yX4_let yX4_let, .code yX4_let cX4_let 4 none] ++ wsX40)
def wsX4_give_r1 : List Cond := [Cond.fieldLink RX4 25 "HotBedsModel" "thrown" "I", Cond.methodLink RX4 56 yX4_isSailor, Cond.instanceMethod yX4_isSailor, Cond.selects RX4 yX4_isSailor yX4_isSailor, Cond.initialized RX4, Cond.code yX4_isSailor cX4_isSailor 2 (some .boolean), Cond.fieldLink RX4 36 "HotBedsModel" "sailors" "I", Cond.methodLink RX4 32 yX4_isIn, Cond.static yX4_isIn, Cond.code yX4_isIn cX4_isIn 3 (some .boolean), Cond.methodLink RX4 45 yX4_fail, Cond.instanceMethod yX4_fail, Cond.selects RX4 yX4_fail yX4_fail, Cond.code yX4_fail cX4_fail 2 (some .int), Cond.methodLink RX4 76 yX4_gets, Cond.instanceMethod yX4_gets, Cond.selects RX4 yX4_gets yX4_gets, Cond.code yX4_gets cX4_gets 3 (some .int), Cond.methodLink RX4 71 Lib.Math.min.name, Cond.static Lib.Math.min.name, Cond.initialized "java/lang/Math", Cond.code Lib.Math.min.name Lib.Math.min.code 2 (some .int), Cond.methodLink RX4 63 yX4_sa, Cond.instanceMethod yX4_sa]
def wsX4_give_r2 : List Cond := [Cond.selects RX4 yX4_sa yX4_sa, Cond.code yX4_sa cX4_sa 3 (some .int), Cond.fieldLink RX4 19 "HotBedsModel" "now" "[I", Cond.methodLink RX4 53 yX4_let, Cond.instanceMethod yX4_let, Cond.selects RX4 yX4_let yX4_let, Cond.code yX4_let cX4_let 4 none]
def wsX4_give : List Cond := .code yX4_give cX4_give 3 (some .int) :: ((wsX4_give_r1 ++ wsX4_give_r2) ++ wsX40)
def wsX4_pawn_r1 : List Cond := [Cond.fieldLink RX4 25 "HotBedsModel" "thrown" "I", Cond.methodLink RX4 56 yX4_isSailor, Cond.instanceMethod yX4_isSailor, Cond.selects RX4 yX4_isSailor yX4_isSailor, Cond.initialized RX4, Cond.code yX4_isSailor cX4_isSailor 2 (some .boolean), Cond.fieldLink RX4 36 "HotBedsModel" "sailors" "I", Cond.methodLink RX4 32 yX4_isIn, Cond.static yX4_isIn, Cond.code yX4_isIn cX4_isIn 3 (some .boolean), Cond.methodLink RX4 45 yX4_fail, Cond.instanceMethod yX4_fail, Cond.selects RX4 yX4_fail yX4_fail, Cond.code yX4_fail cX4_fail 2 (some .int), Cond.methodLink RX4 63 yX4_sa, Cond.instanceMethod yX4_sa, Cond.selects RX4 yX4_sa yX4_sa, Cond.code yX4_sa cX4_sa 3 (some .int), Cond.fieldLink RX4 19 "HotBedsModel" "now" "[I", Cond.methodLink RX4 82 yX4_pawns, Cond.instanceMethod yX4_pawns, Cond.selects RX4 yX4_pawns yX4_pawns, Cond.code yX4_pawns cX4_pawns 2 (some .int), Cond.methodLink RX4 53 yX4_let]
def wsX4_pawn_r2 : List Cond := [Cond.instanceMethod yX4_let, Cond.selects RX4 yX4_let yX4_let, Cond.code yX4_let cX4_let 4 none, Cond.methodLink RX4 76 yX4_gets, Cond.instanceMethod yX4_gets, Cond.selects RX4 yX4_gets yX4_gets, Cond.code yX4_gets cX4_gets 3 (some .int), Cond.methodLink RX4 71 Lib.Math.min.name, Cond.static Lib.Math.min.name, Cond.initialized "java/lang/Math", Cond.code Lib.Math.min.name Lib.Math.min.code 2 (some .int)]
def wsX4_pawn : List Cond := .code yX4_pawn cX4_pawn 2 (some .int) :: ((wsX4_pawn_r1 ++ wsX4_pawn_r2) ++ wsX40)
def wsX4_redeem_r1 : List Cond := [Cond.fieldLink RX4 25 "HotBedsModel" "thrown" "I", Cond.methodLink RX4 56 yX4_isSailor, Cond.instanceMethod yX4_isSailor, Cond.selects RX4 yX4_isSailor yX4_isSailor, Cond.initialized RX4, Cond.code yX4_isSailor cX4_isSailor 2 (some .boolean), Cond.fieldLink RX4 36 "HotBedsModel" "sailors" "I", Cond.methodLink RX4 32 yX4_isIn, Cond.static yX4_isIn, Cond.code yX4_isIn cX4_isIn 3 (some .boolean), Cond.methodLink RX4 45 yX4_fail, Cond.instanceMethod yX4_fail, Cond.selects RX4 yX4_fail yX4_fail, Cond.code yX4_fail cX4_fail 2 (some .int), Cond.methodLink RX4 85 yX4_canRedeem, Cond.instanceMethod yX4_canRedeem, Cond.selects RX4 yX4_canRedeem yX4_canRedeem, Cond.code yX4_canRedeem cX4_canRedeem 2 (some .boolean), Cond.fieldLink RX4 19 "HotBedsModel" "now" "[I", Cond.methodLink RX4 63 yX4_sa, Cond.instanceMethod yX4_sa, Cond.selects RX4 yX4_sa yX4_sa, Cond.code yX4_sa cX4_sa 3 (some .int), Cond.methodLink RX4 88 yX4_redeems]
def wsX4_redeem_r2 : List Cond := [Cond.instanceMethod yX4_redeems, Cond.selects RX4 yX4_redeems yX4_redeems, Cond.code yX4_redeems cX4_redeems 2 (some .int), Cond.methodLink RX4 53 yX4_let, Cond.instanceMethod yX4_let, Cond.selects RX4 yX4_let yX4_let, Cond.code yX4_let cX4_let 4 none, Cond.methodLink RX4 79 yX4_more, Cond.instanceMethod yX4_more, Cond.selects RX4 yX4_more yX4_more, Cond.code yX4_more cX4_more 4 none]
def wsX4_redeem : List Cond := .code yX4_redeem cX4_redeem 2 (some .int) :: ((wsX4_redeem_r1 ++ wsX4_redeem_r2) ++ wsX40)
def wsX4_call_r1 : List Cond := [Cond.fieldLink RX4 25 "HotBedsModel" "thrown" "I", Cond.methodLink RX4 56 yX4_isSailor, Cond.instanceMethod yX4_isSailor, Cond.selects RX4 yX4_isSailor yX4_isSailor, Cond.initialized RX4, Cond.code yX4_isSailor cX4_isSailor 2 (some .boolean), Cond.fieldLink RX4 36 "HotBedsModel" "sailors" "I", Cond.methodLink RX4 32 yX4_isIn, Cond.static yX4_isIn, Cond.code yX4_isIn cX4_isIn 3 (some .boolean), Cond.methodLink RX4 45 yX4_fail, Cond.instanceMethod yX4_fail, Cond.selects RX4 yX4_fail yX4_fail, Cond.code yX4_fail cX4_fail 2 (some .int), Cond.methodLink RX4 63 yX4_sa, Cond.instanceMethod yX4_sa, Cond.selects RX4 yX4_sa yX4_sa, Cond.code yX4_sa cX4_sa 3 (some .int), Cond.fieldLink RX4 19 "HotBedsModel" "now" "[I", Cond.methodLink RX4 91 yX4_getsUp, Cond.instanceMethod yX4_getsUp, Cond.selects RX4 yX4_getsUp yX4_getsUp, Cond.code yX4_getsUp cX4_getsUp 2 none, Cond.methodLink RX4 49 yX4_letBed]
def wsX4_call_r2 : List Cond := [Cond.instanceMethod yX4_letBed, Cond.selects RX4 yX4_letBed yX4_letBed, Cond.code yX4_letBed cX4_letBed 4 none, Cond.methodLink RX4 53 yX4_let, Cond.instanceMethod yX4_let, Cond.selects RX4 yX4_let yX4_let, Cond.code yX4_let cX4_let 4 none]
def wsX4_call : List Cond := .code yX4_call cX4_call 3 (some .int) :: ((wsX4_call_r1 ++ wsX4_call_r2) ++ wsX40)
def wsX4_shift : List Cond := .code yX4_shift cX4_shift 4 (some .int) :: ([.fieldLink RX4 25 "HotBedsModel" "thrown" "I", .methodLink RX4 56 yX4_isSailor, .instanceMethod yX4_isSailor, .selects RX4 yX4_isSailor yX4_isSailor, .initialized RX4, .code yX4_isSailor cX4_isSailor 2 (some .boolean), .fieldLink RX4 36 "HotBedsModel" "sailors" "I", .methodLink RX4 32 yX4_isIn, .static yX4_isIn, .code yX4_isIn cX4_isIn 3 (some .boolean), .methodLink RX4 45 yX4_fail, .instanceMethod yX4_fail, .selects RX4 yX4_fail yX4_fail, .code yX4_fail cX4_fail 2 (some .int), .methodLink RX4 63 yX4_sa, .instanceMethod yX4_sa, .selects RX4 yX4_sa yX4_sa, .code yX4_sa cX4_sa 3 (some .int), .fieldLink RX4 19 "HotBedsModel" "now" "[I", .methodLink RX4 53 yX4_let, .instanceMethod yX4_let, .selects RX4 yX4_let yX4_let, .code yX4_let cX4_let 4 none] ++ wsX40)
def wsX4_ring_r1 : List Cond := [Cond.fieldLink RX4 19 "HotBedsModel" "now" "[I", Cond.fieldLink RX4 13 "HotBedsModel" "heavy" "[I", Cond.methodLink RX4 95 yX4_watch, Cond.instanceMethod yX4_watch, Cond.selects RX4 yX4_watch yX4_watch, Cond.initialized RX4, Cond.code yX4_watch cX4_watch 1 (some .int), Cond.methodLink RX4 63 yX4_sa, Cond.instanceMethod yX4_sa, Cond.selects RX4 yX4_sa yX4_sa, Cond.code yX4_sa cX4_sa 3 (some .int), Cond.methodLink RX4 91 yX4_getsUp, Cond.instanceMethod yX4_getsUp, Cond.selects RX4 yX4_getsUp yX4_getsUp, Cond.code yX4_getsUp cX4_getsUp 2 none, Cond.methodLink RX4 49 yX4_letBed, Cond.instanceMethod yX4_letBed, Cond.selects RX4 yX4_letBed yX4_letBed, Cond.code yX4_letBed cX4_letBed 4 none, Cond.methodLink RX4 53 yX4_let, Cond.instanceMethod yX4_let, Cond.selects RX4 yX4_let yX4_let, Cond.code yX4_let cX4_let 4 none, Cond.methodLink RX4 79 yX4_more]
def wsX4_ring_r2 : List Cond := [Cond.instanceMethod yX4_more, Cond.selects RX4 yX4_more yX4_more, Cond.code yX4_more cX4_more 4 none]
def wsX4_ring : List Cond := .code yX4_ring cX4_ring 3 none :: ((wsX4_ring_r1 ++ wsX4_ring_r2) ++ wsX40)
def wsX4_pay_r1 : List Cond := [Cond.fieldLink RX4 16 "HotBedsModel" "wages" "[I", Cond.methodLink RX4 99 Lib.Math.max.name, Cond.static Lib.Math.max.name, Cond.initialized "java/lang/Math", Cond.code Lib.Math.max.name Lib.Math.max.code 2 (some .int), Cond.methodLink RX4 63 yX4_sa, Cond.instanceMethod yX4_sa, Cond.selects RX4 yX4_sa yX4_sa, Cond.initialized RX4, Cond.code yX4_sa cX4_sa 3 (some .int), Cond.fieldLink RX4 19 "HotBedsModel" "now" "[I", Cond.methodLink RX4 76 yX4_gets, Cond.instanceMethod yX4_gets, Cond.selects RX4 yX4_gets yX4_gets, Cond.code yX4_gets cX4_gets 3 (some .int), Cond.methodLink RX4 71 Lib.Math.min.name, Cond.static Lib.Math.min.name, Cond.code Lib.Math.min.name Lib.Math.min.code 2 (some .int), Cond.methodLink RX4 53 yX4_let, Cond.instanceMethod yX4_let, Cond.selects RX4 yX4_let yX4_let, Cond.code yX4_let cX4_let 4 none, Cond.methodLink RX4 85 yX4_canRedeem, Cond.instanceMethod yX4_canRedeem]
def wsX4_pay_r2 : List Cond := [Cond.selects RX4 yX4_canRedeem yX4_canRedeem, Cond.code yX4_canRedeem cX4_canRedeem 2 (some .boolean), Cond.methodLink RX4 88 yX4_redeems, Cond.instanceMethod yX4_redeems, Cond.selects RX4 yX4_redeems yX4_redeems, Cond.code yX4_redeems cX4_redeems 2 (some .int), Cond.methodLink RX4 79 yX4_more, Cond.instanceMethod yX4_more, Cond.selects RX4 yX4_more yX4_more, Cond.code yX4_more cX4_more 4 none]
def wsX4_pay : List Cond := .code yX4_pay cX4_pay 3 none :: ((wsX4_pay_r1 ++ wsX4_pay_r2) ++ wsX40)
def wsX4_bedFor : List Cond := .code yX4_bedFor cX4_bedFor 5 (some .int) :: ([.fieldLink RX4 29 "HotBedsModel" "beds" "I", .fieldLink RX4 9 "HotBedsModel" "prices" "[I", .methodLink RX4 63 yX4_sa, .instanceMethod yX4_sa, .selects RX4 yX4_sa yX4_sa, .initialized RX4, .code yX4_sa cX4_sa 3 (some .int), .fieldLink RX4 19 "HotBedsModel" "now" "[I", .methodLink RX4 102 yX4_be, .instanceMethod yX4_be, .selects RX4 yX4_be yX4_be, .code yX4_be cX4_be 3 (some .int)] ++ wsX40)
def wsX4_lieDown : List Cond := .code yX4_lieDown cX4_lieDown 2 none :: ([.methodLink RX4 53 yX4_let, .instanceMethod yX4_let, .selects RX4 yX4_let yX4_let, .initialized RX4, .code yX4_let cX4_let 4 none, .fieldLink RX4 19 "HotBedsModel" "now" "[I", .methodLink RX4 79 yX4_more, .instanceMethod yX4_more, .selects RX4 yX4_more yX4_more, .code yX4_more cX4_more 4 none] ++ wsX40)
def wsX4_look_r1 : List Cond := [Cond.fieldLink RX4 19 "HotBedsModel" "now" "[I", Cond.fieldLink RX4 9 "HotBedsModel" "prices" "[I", Cond.methodLink RX4 105 yX4_bedFor, Cond.instanceMethod yX4_bedFor, Cond.selects RX4 yX4_bedFor yX4_bedFor, Cond.initialized RX4, Cond.code yX4_bedFor cX4_bedFor 5 (some .int), Cond.fieldLink RX4 29 "HotBedsModel" "beds" "I", Cond.methodLink RX4 63 yX4_sa, Cond.instanceMethod yX4_sa, Cond.selects RX4 yX4_sa yX4_sa, Cond.code yX4_sa cX4_sa 3 (some .int), Cond.methodLink RX4 102 yX4_be, Cond.instanceMethod yX4_be, Cond.selects RX4 yX4_be yX4_be, Cond.code yX4_be cX4_be 3 (some .int), Cond.methodLink RX4 108 yX4_lieDown, Cond.instanceMethod yX4_lieDown, Cond.selects RX4 yX4_lieDown yX4_lieDown, Cond.code yX4_lieDown cX4_lieDown 2 none, Cond.methodLink RX4 53 yX4_let, Cond.instanceMethod yX4_let, Cond.selects RX4 yX4_let yX4_let, Cond.code yX4_let cX4_let 4 none]
def wsX4_look_r2 : List Cond := [Cond.methodLink RX4 79 yX4_more, Cond.instanceMethod yX4_more, Cond.selects RX4 yX4_more yX4_more, Cond.code yX4_more cX4_more 4 none, Cond.methodLink RX4 82 yX4_pawns, Cond.instanceMethod yX4_pawns, Cond.selects RX4 yX4_pawns yX4_pawns, Cond.code yX4_pawns cX4_pawns 2 (some .int), Cond.methodLink RX4 76 yX4_gets, Cond.instanceMethod yX4_gets, Cond.selects RX4 yX4_gets yX4_gets, Cond.code yX4_gets cX4_gets 3 (some .int), Cond.methodLink RX4 71 Lib.Math.min.name, Cond.static Lib.Math.min.name, Cond.initialized "java/lang/Math", Cond.code Lib.Math.min.name Lib.Math.min.code 2 (some .int), Cond.methodLink RX4 49 yX4_letBed, Cond.instanceMethod yX4_letBed, Cond.selects RX4 yX4_letBed yX4_letBed, Cond.code yX4_letBed cX4_letBed 4 none]
def wsX4_look : List Cond := .code yX4_look cX4_look 4 none :: ((wsX4_look_r1 ++ wsX4_look_r2) ++ wsX40)
def wsX4_hourOn_r1 : List Cond := [Cond.fieldLink RX4 36 "HotBedsModel" "sailors" "I", Cond.fieldLink RX4 19 "HotBedsModel" "now" "[I", Cond.fieldLink RX4 29 "HotBedsModel" "beds" "I", Cond.methodLink RX4 99 Lib.Math.max.name, Cond.static Lib.Math.max.name, Cond.initialized "java/lang/Math", Cond.code Lib.Math.max.name Lib.Math.max.code 2 (some .int), Cond.methodLink RX4 71 Lib.Math.min.name, Cond.static Lib.Math.min.name, Cond.code Lib.Math.min.name Lib.Math.min.code 2 (some .int), Cond.methodLink RX4 63 yX4_sa, Cond.instanceMethod yX4_sa, Cond.selects RX4 yX4_sa yX4_sa, Cond.initialized RX4, Cond.code yX4_sa cX4_sa 3 (some .int), Cond.methodLink RX4 95 yX4_watch, Cond.instanceMethod yX4_watch, Cond.selects RX4 yX4_watch yX4_watch, Cond.code yX4_watch cX4_watch 1 (some .int), Cond.methodLink RX4 111 yX4_ring, Cond.instanceMethod yX4_ring, Cond.selects RX4 yX4_ring yX4_ring, Cond.code yX4_ring cX4_ring 3 none, Cond.fieldLink RX4 13 "HotBedsModel" "heavy" "[I"]
def wsX4_hourOn_r2 : List Cond := [Cond.methodLink RX4 91 yX4_getsUp, Cond.instanceMethod yX4_getsUp, Cond.selects RX4 yX4_getsUp yX4_getsUp, Cond.code yX4_getsUp cX4_getsUp 2 none, Cond.methodLink RX4 49 yX4_letBed, Cond.instanceMethod yX4_letBed, Cond.selects RX4 yX4_letBed yX4_letBed, Cond.code yX4_letBed cX4_letBed 4 none, Cond.methodLink RX4 53 yX4_let, Cond.instanceMethod yX4_let, Cond.selects RX4 yX4_let yX4_let, Cond.code yX4_let cX4_let 4 none, Cond.methodLink RX4 79 yX4_more, Cond.instanceMethod yX4_more, Cond.selects RX4 yX4_more yX4_more, Cond.code yX4_more cX4_more 4 none, Cond.methodLink RX4 114 yX4_pay, Cond.instanceMethod yX4_pay, Cond.selects RX4 yX4_pay yX4_pay, Cond.code yX4_pay cX4_pay 3 none, Cond.fieldLink RX4 16 "HotBedsModel" "wages" "[I", Cond.methodLink RX4 76 yX4_gets, Cond.instanceMethod yX4_gets, Cond.selects RX4 yX4_gets yX4_gets]
def wsX4_hourOn_r3 : List Cond := [Cond.code yX4_gets cX4_gets 3 (some .int), Cond.methodLink RX4 85 yX4_canRedeem, Cond.instanceMethod yX4_canRedeem, Cond.selects RX4 yX4_canRedeem yX4_canRedeem, Cond.code yX4_canRedeem cX4_canRedeem 2 (some .boolean), Cond.methodLink RX4 88 yX4_redeems, Cond.instanceMethod yX4_redeems, Cond.selects RX4 yX4_redeems yX4_redeems, Cond.code yX4_redeems cX4_redeems 2 (some .int), Cond.methodLink RX4 117 yX4_look, Cond.instanceMethod yX4_look, Cond.selects RX4 yX4_look yX4_look, Cond.code yX4_look cX4_look 4 none, Cond.fieldLink RX4 9 "HotBedsModel" "prices" "[I", Cond.methodLink RX4 105 yX4_bedFor, Cond.instanceMethod yX4_bedFor, Cond.selects RX4 yX4_bedFor yX4_bedFor, Cond.code yX4_bedFor cX4_bedFor 5 (some .int), Cond.methodLink RX4 102 yX4_be, Cond.instanceMethod yX4_be, Cond.selects RX4 yX4_be yX4_be, Cond.code yX4_be cX4_be 3 (some .int), Cond.methodLink RX4 108 yX4_lieDown, Cond.instanceMethod yX4_lieDown]
def wsX4_hourOn_r4 : List Cond := [Cond.selects RX4 yX4_lieDown yX4_lieDown, Cond.code yX4_lieDown cX4_lieDown 2 none, Cond.methodLink RX4 82 yX4_pawns, Cond.instanceMethod yX4_pawns, Cond.selects RX4 yX4_pawns yX4_pawns, Cond.code yX4_pawns cX4_pawns 2 (some .int)]
def wsX4_hourOn : List Cond := .code yX4_hourOn cX4_hourOn 2 none :: ((wsX4_hourOn_r1 ++ (wsX4_hourOn_r2 ++ (wsX4_hourOn_r3 ++ wsX4_hourOn_r4))) ++ wsX40)
def wsX4_hoursOn_r1 : List Cond := [Cond.methodLink RX4 120 yX4_hourOn, Cond.instanceMethod yX4_hourOn, Cond.selects RX4 yX4_hourOn yX4_hourOn, Cond.initialized RX4, Cond.code yX4_hourOn cX4_hourOn 2 none, Cond.fieldLink RX4 36 "HotBedsModel" "sailors" "I", Cond.fieldLink RX4 19 "HotBedsModel" "now" "[I", Cond.fieldLink RX4 29 "HotBedsModel" "beds" "I", Cond.methodLink RX4 99 Lib.Math.max.name, Cond.static Lib.Math.max.name, Cond.initialized "java/lang/Math", Cond.code Lib.Math.max.name Lib.Math.max.code 2 (some .int), Cond.methodLink RX4 71 Lib.Math.min.name, Cond.static Lib.Math.min.name, Cond.code Lib.Math.min.name Lib.Math.min.code 2 (some .int), Cond.methodLink RX4 63 yX4_sa, Cond.instanceMethod yX4_sa, Cond.selects RX4 yX4_sa yX4_sa, Cond.code yX4_sa cX4_sa 3 (some .int), Cond.methodLink RX4 95 yX4_watch, Cond.instanceMethod yX4_watch, Cond.selects RX4 yX4_watch yX4_watch, Cond.code yX4_watch cX4_watch 1 (some .int), Cond.methodLink RX4 111 yX4_ring]
def wsX4_hoursOn_r2 : List Cond := [Cond.instanceMethod yX4_ring, Cond.selects RX4 yX4_ring yX4_ring, Cond.code yX4_ring cX4_ring 3 none, Cond.fieldLink RX4 13 "HotBedsModel" "heavy" "[I", Cond.methodLink RX4 91 yX4_getsUp, Cond.instanceMethod yX4_getsUp, Cond.selects RX4 yX4_getsUp yX4_getsUp, Cond.code yX4_getsUp cX4_getsUp 2 none, Cond.methodLink RX4 49 yX4_letBed, Cond.instanceMethod yX4_letBed, Cond.selects RX4 yX4_letBed yX4_letBed, Cond.code yX4_letBed cX4_letBed 4 none, Cond.methodLink RX4 53 yX4_let, Cond.instanceMethod yX4_let, Cond.selects RX4 yX4_let yX4_let, Cond.code yX4_let cX4_let 4 none, Cond.methodLink RX4 79 yX4_more, Cond.instanceMethod yX4_more, Cond.selects RX4 yX4_more yX4_more, Cond.code yX4_more cX4_more 4 none, Cond.methodLink RX4 114 yX4_pay, Cond.instanceMethod yX4_pay, Cond.selects RX4 yX4_pay yX4_pay, Cond.code yX4_pay cX4_pay 3 none]
def wsX4_hoursOn_r3 : List Cond := [Cond.fieldLink RX4 16 "HotBedsModel" "wages" "[I", Cond.methodLink RX4 76 yX4_gets, Cond.instanceMethod yX4_gets, Cond.selects RX4 yX4_gets yX4_gets, Cond.code yX4_gets cX4_gets 3 (some .int), Cond.methodLink RX4 85 yX4_canRedeem, Cond.instanceMethod yX4_canRedeem, Cond.selects RX4 yX4_canRedeem yX4_canRedeem, Cond.code yX4_canRedeem cX4_canRedeem 2 (some .boolean), Cond.methodLink RX4 88 yX4_redeems, Cond.instanceMethod yX4_redeems, Cond.selects RX4 yX4_redeems yX4_redeems, Cond.code yX4_redeems cX4_redeems 2 (some .int), Cond.methodLink RX4 117 yX4_look, Cond.instanceMethod yX4_look, Cond.selects RX4 yX4_look yX4_look, Cond.code yX4_look cX4_look 4 none, Cond.fieldLink RX4 9 "HotBedsModel" "prices" "[I", Cond.methodLink RX4 105 yX4_bedFor, Cond.instanceMethod yX4_bedFor, Cond.selects RX4 yX4_bedFor yX4_bedFor, Cond.code yX4_bedFor cX4_bedFor 5 (some .int), Cond.methodLink RX4 102 yX4_be, Cond.instanceMethod yX4_be]
def wsX4_hoursOn_r4 : List Cond := [Cond.selects RX4 yX4_be yX4_be, Cond.code yX4_be cX4_be 3 (some .int), Cond.methodLink RX4 108 yX4_lieDown, Cond.instanceMethod yX4_lieDown, Cond.selects RX4 yX4_lieDown yX4_lieDown, Cond.code yX4_lieDown cX4_lieDown 2 none, Cond.methodLink RX4 82 yX4_pawns, Cond.instanceMethod yX4_pawns, Cond.selects RX4 yX4_pawns yX4_pawns, Cond.code yX4_pawns cX4_pawns 2 (some .int)]
def wsX4_hoursOn : List Cond := .code yX4_hoursOn cX4_hoursOn 3 none :: ((wsX4_hoursOn_r1 ++ (wsX4_hoursOn_r2 ++ (wsX4_hoursOn_r3 ++ wsX4_hoursOn_r4))) ++ wsX40)
def wsX4_sum : List Cond := .code yX4_sum cX4_sum 4 (some .int) :: ([.fieldLink RX4 36 "HotBedsModel" "sailors" "I", .methodLink RX4 63 yX4_sa, .instanceMethod yX4_sa, .selects RX4 yX4_sa yX4_sa, .initialized RX4, .code yX4_sa cX4_sa 3 (some .int), .fieldLink RX4 19 "HotBedsModel" "now" "[I"] ++ wsX40)
def wsX4_pass_r1 : List Cond := [Cond.fieldLink RX4 25 "HotBedsModel" "thrown" "I", Cond.methodLink RX4 32 yX4_isIn, Cond.static yX4_isIn, Cond.initialized RX4, Cond.code yX4_isIn cX4_isIn 3 (some .boolean), Cond.methodLink RX4 45 yX4_fail, Cond.instanceMethod yX4_fail, Cond.selects RX4 yX4_fail yX4_fail, Cond.code yX4_fail cX4_fail 2 (some .int), Cond.methodLink RX4 123 yX4_sum, Cond.instanceMethod yX4_sum, Cond.selects RX4 yX4_sum yX4_sum, Cond.code yX4_sum cX4_sum 4 (some .int), Cond.fieldLink RX4 36 "HotBedsModel" "sailors" "I", Cond.methodLink RX4 63 yX4_sa, Cond.instanceMethod yX4_sa, Cond.selects RX4 yX4_sa yX4_sa, Cond.code yX4_sa cX4_sa 3 (some .int), Cond.fieldLink RX4 19 "HotBedsModel" "now" "[I", Cond.methodLink RX4 126 yX4_hoursOn, Cond.instanceMethod yX4_hoursOn, Cond.selects RX4 yX4_hoursOn yX4_hoursOn, Cond.code yX4_hoursOn cX4_hoursOn 3 none, Cond.methodLink RX4 120 yX4_hourOn]
def wsX4_pass_r2 : List Cond := [Cond.instanceMethod yX4_hourOn, Cond.selects RX4 yX4_hourOn yX4_hourOn, Cond.code yX4_hourOn cX4_hourOn 2 none, Cond.fieldLink RX4 29 "HotBedsModel" "beds" "I", Cond.methodLink RX4 99 Lib.Math.max.name, Cond.static Lib.Math.max.name, Cond.initialized "java/lang/Math", Cond.code Lib.Math.max.name Lib.Math.max.code 2 (some .int), Cond.methodLink RX4 71 Lib.Math.min.name, Cond.static Lib.Math.min.name, Cond.code Lib.Math.min.name Lib.Math.min.code 2 (some .int), Cond.methodLink RX4 95 yX4_watch, Cond.instanceMethod yX4_watch, Cond.selects RX4 yX4_watch yX4_watch, Cond.code yX4_watch cX4_watch 1 (some .int), Cond.methodLink RX4 111 yX4_ring, Cond.instanceMethod yX4_ring, Cond.selects RX4 yX4_ring yX4_ring, Cond.code yX4_ring cX4_ring 3 none, Cond.fieldLink RX4 13 "HotBedsModel" "heavy" "[I", Cond.methodLink RX4 91 yX4_getsUp, Cond.instanceMethod yX4_getsUp, Cond.selects RX4 yX4_getsUp yX4_getsUp, Cond.code yX4_getsUp cX4_getsUp 2 none]
def wsX4_pass_r3 : List Cond := [Cond.methodLink RX4 49 yX4_letBed, Cond.instanceMethod yX4_letBed, Cond.selects RX4 yX4_letBed yX4_letBed, Cond.code yX4_letBed cX4_letBed 4 none, Cond.methodLink RX4 53 yX4_let, Cond.instanceMethod yX4_let, Cond.selects RX4 yX4_let yX4_let, Cond.code yX4_let cX4_let 4 none, Cond.methodLink RX4 79 yX4_more, Cond.instanceMethod yX4_more, Cond.selects RX4 yX4_more yX4_more, Cond.code yX4_more cX4_more 4 none, Cond.methodLink RX4 114 yX4_pay, Cond.instanceMethod yX4_pay, Cond.selects RX4 yX4_pay yX4_pay, Cond.code yX4_pay cX4_pay 3 none, Cond.fieldLink RX4 16 "HotBedsModel" "wages" "[I", Cond.methodLink RX4 76 yX4_gets, Cond.instanceMethod yX4_gets, Cond.selects RX4 yX4_gets yX4_gets, Cond.code yX4_gets cX4_gets 3 (some .int), Cond.methodLink RX4 85 yX4_canRedeem, Cond.instanceMethod yX4_canRedeem, Cond.selects RX4 yX4_canRedeem yX4_canRedeem]
def wsX4_pass_r4 : List Cond := [Cond.code yX4_canRedeem cX4_canRedeem 2 (some .boolean), Cond.methodLink RX4 88 yX4_redeems, Cond.instanceMethod yX4_redeems, Cond.selects RX4 yX4_redeems yX4_redeems, Cond.code yX4_redeems cX4_redeems 2 (some .int), Cond.methodLink RX4 117 yX4_look, Cond.instanceMethod yX4_look, Cond.selects RX4 yX4_look yX4_look, Cond.code yX4_look cX4_look 4 none, Cond.fieldLink RX4 9 "HotBedsModel" "prices" "[I", Cond.methodLink RX4 105 yX4_bedFor, Cond.instanceMethod yX4_bedFor, Cond.selects RX4 yX4_bedFor yX4_bedFor, Cond.code yX4_bedFor cX4_bedFor 5 (some .int), Cond.methodLink RX4 102 yX4_be, Cond.instanceMethod yX4_be, Cond.selects RX4 yX4_be yX4_be, Cond.code yX4_be cX4_be 3 (some .int), Cond.methodLink RX4 108 yX4_lieDown, Cond.instanceMethod yX4_lieDown, Cond.selects RX4 yX4_lieDown yX4_lieDown, Cond.code yX4_lieDown cX4_lieDown 2 none, Cond.methodLink RX4 82 yX4_pawns, Cond.instanceMethod yX4_pawns]
def wsX4_pass_r5 : List Cond := [Cond.selects RX4 yX4_pawns yX4_pawns, Cond.code yX4_pawns cX4_pawns 2 (some .int)]
def wsX4_pass : List Cond := .code yX4_pass cX4_pass 3 (some .int) :: ((wsX4_pass_r1 ++ (wsX4_pass_r2 ++ (wsX4_pass_r3 ++ (wsX4_pass_r4 ++ wsX4_pass_r5)))) ++ wsX40)
def wsX4_sailorTold : List Cond := .code yX4_sailorTold cX4_sailorTold 3 (some .int) :: ([.fieldLink RX4 13 "HotBedsModel" "heavy" "[I", .fieldLink RX4 16 "HotBedsModel" "wages" "[I", .methodLink RX4 63 yX4_sa, .instanceMethod yX4_sa, .selects RX4 yX4_sa yX4_sa, .initialized RX4, .code yX4_sa cX4_sa 3 (some .int), .fieldLink RX4 19 "HotBedsModel" "now" "[I"] ++ wsX40)
def wsX4_told_r1 : List Cond := [Cond.fieldLink RX4 25 "HotBedsModel" "thrown" "I", Cond.methodLink RX4 56 yX4_isSailor, Cond.instanceMethod yX4_isSailor, Cond.selects RX4 yX4_isSailor yX4_isSailor, Cond.initialized RX4, Cond.code yX4_isSailor cX4_isSailor 2 (some .boolean), Cond.fieldLink RX4 36 "HotBedsModel" "sailors" "I", Cond.methodLink RX4 32 yX4_isIn, Cond.static yX4_isIn, Cond.code yX4_isIn cX4_isIn 3 (some .boolean), Cond.methodLink RX4 129 yX4_sailorTold, Cond.instanceMethod yX4_sailorTold, Cond.selects RX4 yX4_sailorTold yX4_sailorTold, Cond.code yX4_sailorTold cX4_sailorTold 3 (some .int), Cond.fieldLink RX4 13 "HotBedsModel" "heavy" "[I", Cond.fieldLink RX4 16 "HotBedsModel" "wages" "[I", Cond.methodLink RX4 63 yX4_sa, Cond.instanceMethod yX4_sa, Cond.selects RX4 yX4_sa yX4_sa, Cond.code yX4_sa cX4_sa 3 (some .int), Cond.fieldLink RX4 19 "HotBedsModel" "now" "[I", Cond.methodLink RX4 45 yX4_fail, Cond.instanceMethod yX4_fail, Cond.selects RX4 yX4_fail yX4_fail]
def wsX4_told_r2 : List Cond := [Cond.code yX4_fail cX4_fail 2 (some .int)]
def wsX4_told : List Cond := .code yX4_told cX4_told 3 (some .int) :: ((wsX4_told_r1 ++ wsX4_told_r2) ++ wsX40)
def wsX4_bedTold : List Cond := .code yX4_bedTold cX4_bedTold 3 (some .int) :: ([.fieldLink RX4 9 "HotBedsModel" "prices" "[I", .methodLink RX4 102 yX4_be, .instanceMethod yX4_be, .selects RX4 yX4_be yX4_be, .initialized RX4, .code yX4_be cX4_be 3 (some .int), .fieldLink RX4 19 "HotBedsModel" "now" "[I"] ++ wsX40)
def wsX4_about : List Cond := .code yX4_about cX4_about 3 (some .int) :: ([.fieldLink RX4 25 "HotBedsModel" "thrown" "I", .methodLink RX4 60 yX4_isBed, .instanceMethod yX4_isBed, .selects RX4 yX4_isBed yX4_isBed, .initialized RX4, .code yX4_isBed cX4_isBed 2 (some .boolean), .fieldLink RX4 29 "HotBedsModel" "beds" "I", .methodLink RX4 32 yX4_isIn, .static yX4_isIn, .code yX4_isIn cX4_isIn 3 (some .boolean), .methodLink RX4 132 yX4_bedTold, .instanceMethod yX4_bedTold, .selects RX4 yX4_bedTold yX4_bedTold, .code yX4_bedTold cX4_bedTold 3 (some .int), .fieldLink RX4 9 "HotBedsModel" "prices" "[I", .methodLink RX4 102 yX4_be, .instanceMethod yX4_be, .selects RX4 yX4_be yX4_be, .code yX4_be cX4_be 3 (some .int), .fieldLink RX4 19 "HotBedsModel" "now" "[I", .methodLink RX4 45 yX4_fail, .instanceMethod yX4_fail, .selects RX4 yX4_fail yX4_fail, .code yX4_fail cX4_fail 2 (some .int)] ++ wsX40)
def wsX4_many : List Cond := .code yX4_many cX4_many 4 (some .int) :: ([.fieldLink RX4 36 "HotBedsModel" "sailors" "I", .methodLink RX4 63 yX4_sa, .instanceMethod yX4_sa, .selects RX4 yX4_sa yX4_sa, .initialized RX4, .code yX4_sa cX4_sa 3 (some .int), .fieldLink RX4 19 "HotBedsModel" "now" "[I"] ++ wsX40)
def wsX4_counted : List Cond := .code yX4_counted cX4_counted 2 (some .int) :: ([.fieldLink RX4 19 "HotBedsModel" "now" "[I", .fieldLink RX4 29 "HotBedsModel" "beds" "I", .fieldLink RX4 36 "HotBedsModel" "sailors" "I", .methodLink RX4 95 yX4_watch, .instanceMethod yX4_watch, .selects RX4 yX4_watch yX4_watch, .initialized RX4, .code yX4_watch cX4_watch 1 (some .int), .methodLink RX4 135 yX4_many, .instanceMethod yX4_many, .selects RX4 yX4_many yX4_many, .code yX4_many cX4_many 4 (some .int), .methodLink RX4 63 yX4_sa, .instanceMethod yX4_sa, .selects RX4 yX4_sa yX4_sa, .code yX4_sa cX4_sa 3 (some .int), .methodLink RX4 123 yX4_sum, .instanceMethod yX4_sum, .selects RX4 yX4_sum yX4_sum, .code yX4_sum cX4_sum 4 (some .int)] ++ wsX40)
def wsX4_count_r1 : List Cond := [Cond.fieldLink RX4 25 "HotBedsModel" "thrown" "I", Cond.methodLink RX4 32 yX4_isIn, Cond.static yX4_isIn, Cond.initialized RX4, Cond.code yX4_isIn cX4_isIn 3 (some .boolean), Cond.methodLink RX4 138 yX4_counted, Cond.instanceMethod yX4_counted, Cond.selects RX4 yX4_counted yX4_counted, Cond.code yX4_counted cX4_counted 2 (some .int), Cond.fieldLink RX4 19 "HotBedsModel" "now" "[I", Cond.fieldLink RX4 29 "HotBedsModel" "beds" "I", Cond.fieldLink RX4 36 "HotBedsModel" "sailors" "I", Cond.methodLink RX4 95 yX4_watch, Cond.instanceMethod yX4_watch, Cond.selects RX4 yX4_watch yX4_watch, Cond.code yX4_watch cX4_watch 1 (some .int), Cond.methodLink RX4 135 yX4_many, Cond.instanceMethod yX4_many, Cond.selects RX4 yX4_many yX4_many, Cond.code yX4_many cX4_many 4 (some .int), Cond.methodLink RX4 63 yX4_sa, Cond.instanceMethod yX4_sa, Cond.selects RX4 yX4_sa yX4_sa, Cond.code yX4_sa cX4_sa 3 (some .int)]
def wsX4_count_r2 : List Cond := [Cond.methodLink RX4 123 yX4_sum, Cond.instanceMethod yX4_sum, Cond.selects RX4 yX4_sum yX4_sum, Cond.code yX4_sum cX4_sum 4 (some .int), Cond.methodLink RX4 45 yX4_fail, Cond.instanceMethod yX4_fail, Cond.selects RX4 yX4_fail yX4_fail, Cond.code yX4_fail cX4_fail 2 (some .int)]
def wsX4_count : List Cond := .code yX4_count cX4_count 2 (some .int) :: ((wsX4_count_r1 ++ wsX4_count_r2) ++ wsX40)
def wsX4_would_r1 : List Cond := [Cond.fieldLink RX4 25 "HotBedsModel" "thrown" "I", Cond.methodLink RX4 56 yX4_isSailor, Cond.instanceMethod yX4_isSailor, Cond.selects RX4 yX4_isSailor yX4_isSailor, Cond.initialized RX4, Cond.code yX4_isSailor cX4_isSailor 2 (some .boolean), Cond.fieldLink RX4 36 "HotBedsModel" "sailors" "I", Cond.methodLink RX4 32 yX4_isIn, Cond.static yX4_isIn, Cond.code yX4_isIn cX4_isIn 3 (some .boolean), Cond.methodLink RX4 45 yX4_fail, Cond.instanceMethod yX4_fail, Cond.selects RX4 yX4_fail yX4_fail, Cond.code yX4_fail cX4_fail 2 (some .int), Cond.methodLink RX4 141 yX4_keep, Cond.instanceMethod yX4_keep, Cond.selects RX4 yX4_keep yX4_keep, Cond.code yX4_keep cX4_keep 1 none, Cond.fieldLink RX4 19 "HotBedsModel" "now" "[I", Cond.fieldLink RX4 22 "HotBedsModel" "kept" "[I", Cond.methodLink RX4 39 arraycopyName, Cond.native arraycopyName, Cond.static arraycopyName, Cond.initialized "java/lang/System"]
def wsX4_would_r2 : List Cond := [Cond.methodLink RX4 63 yX4_sa, Cond.instanceMethod yX4_sa, Cond.selects RX4 yX4_sa yX4_sa, Cond.code yX4_sa cX4_sa 3 (some .int), Cond.methodLink RX4 126 yX4_hoursOn, Cond.instanceMethod yX4_hoursOn, Cond.selects RX4 yX4_hoursOn yX4_hoursOn, Cond.code yX4_hoursOn cX4_hoursOn 3 none, Cond.methodLink RX4 120 yX4_hourOn, Cond.instanceMethod yX4_hourOn, Cond.selects RX4 yX4_hourOn yX4_hourOn, Cond.code yX4_hourOn cX4_hourOn 2 none, Cond.fieldLink RX4 29 "HotBedsModel" "beds" "I", Cond.methodLink RX4 99 Lib.Math.max.name, Cond.static Lib.Math.max.name, Cond.initialized "java/lang/Math", Cond.code Lib.Math.max.name Lib.Math.max.code 2 (some .int), Cond.methodLink RX4 71 Lib.Math.min.name, Cond.static Lib.Math.min.name, Cond.code Lib.Math.min.name Lib.Math.min.code 2 (some .int), Cond.methodLink RX4 95 yX4_watch, Cond.instanceMethod yX4_watch, Cond.selects RX4 yX4_watch yX4_watch, Cond.code yX4_watch cX4_watch 1 (some .int)]
def wsX4_would_r3 : List Cond := [Cond.methodLink RX4 111 yX4_ring, Cond.instanceMethod yX4_ring, Cond.selects RX4 yX4_ring yX4_ring, Cond.code yX4_ring cX4_ring 3 none, Cond.fieldLink RX4 13 "HotBedsModel" "heavy" "[I", Cond.methodLink RX4 91 yX4_getsUp, Cond.instanceMethod yX4_getsUp, Cond.selects RX4 yX4_getsUp yX4_getsUp, Cond.code yX4_getsUp cX4_getsUp 2 none, Cond.methodLink RX4 49 yX4_letBed, Cond.instanceMethod yX4_letBed, Cond.selects RX4 yX4_letBed yX4_letBed, Cond.code yX4_letBed cX4_letBed 4 none, Cond.methodLink RX4 53 yX4_let, Cond.instanceMethod yX4_let, Cond.selects RX4 yX4_let yX4_let, Cond.code yX4_let cX4_let 4 none, Cond.methodLink RX4 79 yX4_more, Cond.instanceMethod yX4_more, Cond.selects RX4 yX4_more yX4_more, Cond.code yX4_more cX4_more 4 none, Cond.methodLink RX4 114 yX4_pay, Cond.instanceMethod yX4_pay, Cond.selects RX4 yX4_pay yX4_pay]
def wsX4_would_r4 : List Cond := [Cond.code yX4_pay cX4_pay 3 none, Cond.fieldLink RX4 16 "HotBedsModel" "wages" "[I", Cond.methodLink RX4 76 yX4_gets, Cond.instanceMethod yX4_gets, Cond.selects RX4 yX4_gets yX4_gets, Cond.code yX4_gets cX4_gets 3 (some .int), Cond.methodLink RX4 85 yX4_canRedeem, Cond.instanceMethod yX4_canRedeem, Cond.selects RX4 yX4_canRedeem yX4_canRedeem, Cond.code yX4_canRedeem cX4_canRedeem 2 (some .boolean), Cond.methodLink RX4 88 yX4_redeems, Cond.instanceMethod yX4_redeems, Cond.selects RX4 yX4_redeems yX4_redeems, Cond.code yX4_redeems cX4_redeems 2 (some .int), Cond.methodLink RX4 117 yX4_look, Cond.instanceMethod yX4_look, Cond.selects RX4 yX4_look yX4_look, Cond.code yX4_look cX4_look 4 none, Cond.fieldLink RX4 9 "HotBedsModel" "prices" "[I", Cond.methodLink RX4 105 yX4_bedFor, Cond.instanceMethod yX4_bedFor, Cond.selects RX4 yX4_bedFor yX4_bedFor, Cond.code yX4_bedFor cX4_bedFor 5 (some .int), Cond.methodLink RX4 102 yX4_be]
def wsX4_would_r5 : List Cond := [Cond.instanceMethod yX4_be, Cond.selects RX4 yX4_be yX4_be, Cond.code yX4_be cX4_be 3 (some .int), Cond.methodLink RX4 108 yX4_lieDown, Cond.instanceMethod yX4_lieDown, Cond.selects RX4 yX4_lieDown yX4_lieDown, Cond.code yX4_lieDown cX4_lieDown 2 none, Cond.methodLink RX4 82 yX4_pawns, Cond.instanceMethod yX4_pawns, Cond.selects RX4 yX4_pawns yX4_pawns, Cond.code yX4_pawns cX4_pawns 2 (some .int), Cond.methodLink RX4 144 yX4_bringBack, Cond.instanceMethod yX4_bringBack, Cond.selects RX4 yX4_bringBack yX4_bringBack, Cond.code yX4_bringBack cX4_bringBack 1 none]
def wsX4_would : List Cond := .code yX4_would cX4_would 5 (some .int) :: ((wsX4_would_r1 ++ (wsX4_would_r2 ++ (wsX4_would_r3 ++ (wsX4_would_r4 ++ wsX4_would_r5)))) ++ wsX40)
def wsX4_until_r1 : List Cond := [Cond.fieldLink RX4 25 "HotBedsModel" "thrown" "I", Cond.methodLink RX4 56 yX4_isSailor, Cond.instanceMethod yX4_isSailor, Cond.selects RX4 yX4_isSailor yX4_isSailor, Cond.initialized RX4, Cond.code yX4_isSailor cX4_isSailor 2 (some .boolean), Cond.fieldLink RX4 36 "HotBedsModel" "sailors" "I", Cond.methodLink RX4 32 yX4_isIn, Cond.static yX4_isIn, Cond.code yX4_isIn cX4_isIn 3 (some .boolean), Cond.methodLink RX4 45 yX4_fail, Cond.instanceMethod yX4_fail, Cond.selects RX4 yX4_fail yX4_fail, Cond.code yX4_fail cX4_fail 2 (some .int), Cond.methodLink RX4 141 yX4_keep, Cond.instanceMethod yX4_keep, Cond.selects RX4 yX4_keep yX4_keep, Cond.code yX4_keep cX4_keep 1 none, Cond.fieldLink RX4 19 "HotBedsModel" "now" "[I", Cond.fieldLink RX4 22 "HotBedsModel" "kept" "[I", Cond.methodLink RX4 39 arraycopyName, Cond.native arraycopyName, Cond.static arraycopyName, Cond.initialized "java/lang/System"]
def wsX4_until_r2 : List Cond := [Cond.methodLink RX4 63 yX4_sa, Cond.instanceMethod yX4_sa, Cond.selects RX4 yX4_sa yX4_sa, Cond.code yX4_sa cX4_sa 3 (some .int), Cond.methodLink RX4 120 yX4_hourOn, Cond.instanceMethod yX4_hourOn, Cond.selects RX4 yX4_hourOn yX4_hourOn, Cond.code yX4_hourOn cX4_hourOn 2 none, Cond.fieldLink RX4 29 "HotBedsModel" "beds" "I", Cond.methodLink RX4 99 Lib.Math.max.name, Cond.static Lib.Math.max.name, Cond.initialized "java/lang/Math", Cond.code Lib.Math.max.name Lib.Math.max.code 2 (some .int), Cond.methodLink RX4 71 Lib.Math.min.name, Cond.static Lib.Math.min.name, Cond.code Lib.Math.min.name Lib.Math.min.code 2 (some .int), Cond.methodLink RX4 95 yX4_watch, Cond.instanceMethod yX4_watch, Cond.selects RX4 yX4_watch yX4_watch, Cond.code yX4_watch cX4_watch 1 (some .int), Cond.methodLink RX4 111 yX4_ring, Cond.instanceMethod yX4_ring, Cond.selects RX4 yX4_ring yX4_ring, Cond.code yX4_ring cX4_ring 3 none]
def wsX4_until_r3 : List Cond := [Cond.fieldLink RX4 13 "HotBedsModel" "heavy" "[I", Cond.methodLink RX4 91 yX4_getsUp, Cond.instanceMethod yX4_getsUp, Cond.selects RX4 yX4_getsUp yX4_getsUp, Cond.code yX4_getsUp cX4_getsUp 2 none, Cond.methodLink RX4 49 yX4_letBed, Cond.instanceMethod yX4_letBed, Cond.selects RX4 yX4_letBed yX4_letBed, Cond.code yX4_letBed cX4_letBed 4 none, Cond.methodLink RX4 53 yX4_let, Cond.instanceMethod yX4_let, Cond.selects RX4 yX4_let yX4_let, Cond.code yX4_let cX4_let 4 none, Cond.methodLink RX4 79 yX4_more, Cond.instanceMethod yX4_more, Cond.selects RX4 yX4_more yX4_more, Cond.code yX4_more cX4_more 4 none, Cond.methodLink RX4 114 yX4_pay, Cond.instanceMethod yX4_pay, Cond.selects RX4 yX4_pay yX4_pay, Cond.code yX4_pay cX4_pay 3 none, Cond.fieldLink RX4 16 "HotBedsModel" "wages" "[I", Cond.methodLink RX4 76 yX4_gets, Cond.instanceMethod yX4_gets]
def wsX4_until_r4 : List Cond := [Cond.selects RX4 yX4_gets yX4_gets, Cond.code yX4_gets cX4_gets 3 (some .int), Cond.methodLink RX4 85 yX4_canRedeem, Cond.instanceMethod yX4_canRedeem, Cond.selects RX4 yX4_canRedeem yX4_canRedeem, Cond.code yX4_canRedeem cX4_canRedeem 2 (some .boolean), Cond.methodLink RX4 88 yX4_redeems, Cond.instanceMethod yX4_redeems, Cond.selects RX4 yX4_redeems yX4_redeems, Cond.code yX4_redeems cX4_redeems 2 (some .int), Cond.methodLink RX4 117 yX4_look, Cond.instanceMethod yX4_look, Cond.selects RX4 yX4_look yX4_look, Cond.code yX4_look cX4_look 4 none, Cond.fieldLink RX4 9 "HotBedsModel" "prices" "[I", Cond.methodLink RX4 105 yX4_bedFor, Cond.instanceMethod yX4_bedFor, Cond.selects RX4 yX4_bedFor yX4_bedFor, Cond.code yX4_bedFor cX4_bedFor 5 (some .int), Cond.methodLink RX4 102 yX4_be, Cond.instanceMethod yX4_be, Cond.selects RX4 yX4_be yX4_be, Cond.code yX4_be cX4_be 3 (some .int), Cond.methodLink RX4 108 yX4_lieDown]
def wsX4_until_r5 : List Cond := [Cond.instanceMethod yX4_lieDown, Cond.selects RX4 yX4_lieDown yX4_lieDown, Cond.code yX4_lieDown cX4_lieDown 2 none, Cond.methodLink RX4 82 yX4_pawns, Cond.instanceMethod yX4_pawns, Cond.selects RX4 yX4_pawns yX4_pawns, Cond.code yX4_pawns cX4_pawns 2 (some .int), Cond.methodLink RX4 144 yX4_bringBack, Cond.instanceMethod yX4_bringBack, Cond.selects RX4 yX4_bringBack yX4_bringBack, Cond.code yX4_bringBack cX4_bringBack 1 none]
def wsX4_until : List Cond := .code yX4_until cX4_until 3 (some .int) :: ((wsX4_until_r1 ++ (wsX4_until_r2 ++ (wsX4_until_r3 ++ (wsX4_until_r4 ++ wsX4_until_r5)))) ++ wsX40)
def wsX4_quiet_r1 : List Cond := [Cond.fieldLink RX4 25 "HotBedsModel" "thrown" "I", Cond.fieldLink RX4 19 "HotBedsModel" "now" "[I", Cond.methodLink RX4 141 yX4_keep, Cond.instanceMethod yX4_keep, Cond.selects RX4 yX4_keep yX4_keep, Cond.initialized RX4, Cond.code yX4_keep cX4_keep 1 none, Cond.fieldLink RX4 22 "HotBedsModel" "kept" "[I", Cond.methodLink RX4 39 arraycopyName, Cond.native arraycopyName, Cond.static arraycopyName, Cond.initialized "java/lang/System", Cond.methodLink RX4 123 yX4_sum, Cond.instanceMethod yX4_sum, Cond.selects RX4 yX4_sum yX4_sum, Cond.code yX4_sum cX4_sum 4 (some .int), Cond.fieldLink RX4 36 "HotBedsModel" "sailors" "I", Cond.methodLink RX4 63 yX4_sa, Cond.instanceMethod yX4_sa, Cond.selects RX4 yX4_sa yX4_sa, Cond.code yX4_sa cX4_sa 3 (some .int), Cond.methodLink RX4 126 yX4_hoursOn, Cond.instanceMethod yX4_hoursOn, Cond.selects RX4 yX4_hoursOn yX4_hoursOn]
def wsX4_quiet_r2 : List Cond := [Cond.code yX4_hoursOn cX4_hoursOn 3 none, Cond.methodLink RX4 120 yX4_hourOn, Cond.instanceMethod yX4_hourOn, Cond.selects RX4 yX4_hourOn yX4_hourOn, Cond.code yX4_hourOn cX4_hourOn 2 none, Cond.fieldLink RX4 29 "HotBedsModel" "beds" "I", Cond.methodLink RX4 99 Lib.Math.max.name, Cond.static Lib.Math.max.name, Cond.initialized "java/lang/Math", Cond.code Lib.Math.max.name Lib.Math.max.code 2 (some .int), Cond.methodLink RX4 71 Lib.Math.min.name, Cond.static Lib.Math.min.name, Cond.code Lib.Math.min.name Lib.Math.min.code 2 (some .int), Cond.methodLink RX4 95 yX4_watch, Cond.instanceMethod yX4_watch, Cond.selects RX4 yX4_watch yX4_watch, Cond.code yX4_watch cX4_watch 1 (some .int), Cond.methodLink RX4 111 yX4_ring, Cond.instanceMethod yX4_ring, Cond.selects RX4 yX4_ring yX4_ring, Cond.code yX4_ring cX4_ring 3 none, Cond.fieldLink RX4 13 "HotBedsModel" "heavy" "[I", Cond.methodLink RX4 91 yX4_getsUp, Cond.instanceMethod yX4_getsUp]
def wsX4_quiet_r3 : List Cond := [Cond.selects RX4 yX4_getsUp yX4_getsUp, Cond.code yX4_getsUp cX4_getsUp 2 none, Cond.methodLink RX4 49 yX4_letBed, Cond.instanceMethod yX4_letBed, Cond.selects RX4 yX4_letBed yX4_letBed, Cond.code yX4_letBed cX4_letBed 4 none, Cond.methodLink RX4 53 yX4_let, Cond.instanceMethod yX4_let, Cond.selects RX4 yX4_let yX4_let, Cond.code yX4_let cX4_let 4 none, Cond.methodLink RX4 79 yX4_more, Cond.instanceMethod yX4_more, Cond.selects RX4 yX4_more yX4_more, Cond.code yX4_more cX4_more 4 none, Cond.methodLink RX4 114 yX4_pay, Cond.instanceMethod yX4_pay, Cond.selects RX4 yX4_pay yX4_pay, Cond.code yX4_pay cX4_pay 3 none, Cond.fieldLink RX4 16 "HotBedsModel" "wages" "[I", Cond.methodLink RX4 76 yX4_gets, Cond.instanceMethod yX4_gets, Cond.selects RX4 yX4_gets yX4_gets, Cond.code yX4_gets cX4_gets 3 (some .int), Cond.methodLink RX4 85 yX4_canRedeem]
def wsX4_quiet_r4 : List Cond := [Cond.instanceMethod yX4_canRedeem, Cond.selects RX4 yX4_canRedeem yX4_canRedeem, Cond.code yX4_canRedeem cX4_canRedeem 2 (some .boolean), Cond.methodLink RX4 88 yX4_redeems, Cond.instanceMethod yX4_redeems, Cond.selects RX4 yX4_redeems yX4_redeems, Cond.code yX4_redeems cX4_redeems 2 (some .int), Cond.methodLink RX4 117 yX4_look, Cond.instanceMethod yX4_look, Cond.selects RX4 yX4_look yX4_look, Cond.code yX4_look cX4_look 4 none, Cond.fieldLink RX4 9 "HotBedsModel" "prices" "[I", Cond.methodLink RX4 105 yX4_bedFor, Cond.instanceMethod yX4_bedFor, Cond.selects RX4 yX4_bedFor yX4_bedFor, Cond.code yX4_bedFor cX4_bedFor 5 (some .int), Cond.methodLink RX4 102 yX4_be, Cond.instanceMethod yX4_be, Cond.selects RX4 yX4_be yX4_be, Cond.code yX4_be cX4_be 3 (some .int), Cond.methodLink RX4 108 yX4_lieDown, Cond.instanceMethod yX4_lieDown, Cond.selects RX4 yX4_lieDown yX4_lieDown, Cond.code yX4_lieDown cX4_lieDown 2 none]
def wsX4_quiet_r5 : List Cond := [Cond.methodLink RX4 82 yX4_pawns, Cond.instanceMethod yX4_pawns, Cond.selects RX4 yX4_pawns yX4_pawns, Cond.code yX4_pawns cX4_pawns 2 (some .int), Cond.methodLink RX4 144 yX4_bringBack, Cond.instanceMethod yX4_bringBack, Cond.selects RX4 yX4_bringBack yX4_bringBack, Cond.code yX4_bringBack cX4_bringBack 1 none]
def wsX4_quiet : List Cond := .code yX4_quiet cX4_quiet 4 (some .int) :: ((wsX4_quiet_r1 ++ (wsX4_quiet_r2 ++ (wsX4_quiet_r3 ++ (wsX4_quiet_r4 ++ wsX4_quiet_r5)))) ++ wsX40)
def wsX4_advise_r1 : List Cond := [Cond.fieldLink RX4 25 "HotBedsModel" "thrown" "I", Cond.methodLink RX4 56 yX4_isSailor, Cond.instanceMethod yX4_isSailor, Cond.selects RX4 yX4_isSailor yX4_isSailor, Cond.initialized RX4, Cond.code yX4_isSailor cX4_isSailor 2 (some .boolean), Cond.fieldLink RX4 36 "HotBedsModel" "sailors" "I", Cond.methodLink RX4 32 yX4_isIn, Cond.static yX4_isIn, Cond.code yX4_isIn cX4_isIn 3 (some .boolean), Cond.methodLink RX4 45 yX4_fail, Cond.instanceMethod yX4_fail, Cond.selects RX4 yX4_fail yX4_fail, Cond.code yX4_fail cX4_fail 2 (some .int), Cond.methodLink RX4 63 yX4_sa, Cond.instanceMethod yX4_sa, Cond.selects RX4 yX4_sa yX4_sa, Cond.code yX4_sa cX4_sa 3 (some .int), Cond.fieldLink RX4 19 "HotBedsModel" "now" "[I", Cond.methodLink RX4 141 yX4_keep, Cond.instanceMethod yX4_keep, Cond.selects RX4 yX4_keep yX4_keep, Cond.code yX4_keep cX4_keep 1 none, Cond.fieldLink RX4 22 "HotBedsModel" "kept" "[I"]
def wsX4_advise_r2 : List Cond := [Cond.methodLink RX4 39 arraycopyName, Cond.native arraycopyName, Cond.static arraycopyName, Cond.initialized "java/lang/System", Cond.methodLink RX4 53 yX4_let, Cond.instanceMethod yX4_let, Cond.selects RX4 yX4_let yX4_let, Cond.code yX4_let cX4_let 4 none, Cond.methodLink RX4 126 yX4_hoursOn, Cond.instanceMethod yX4_hoursOn, Cond.selects RX4 yX4_hoursOn yX4_hoursOn, Cond.code yX4_hoursOn cX4_hoursOn 3 none, Cond.methodLink RX4 120 yX4_hourOn, Cond.instanceMethod yX4_hourOn, Cond.selects RX4 yX4_hourOn yX4_hourOn, Cond.code yX4_hourOn cX4_hourOn 2 none, Cond.fieldLink RX4 29 "HotBedsModel" "beds" "I", Cond.methodLink RX4 99 Lib.Math.max.name, Cond.static Lib.Math.max.name, Cond.initialized "java/lang/Math", Cond.code Lib.Math.max.name Lib.Math.max.code 2 (some .int), Cond.methodLink RX4 71 Lib.Math.min.name, Cond.static Lib.Math.min.name, Cond.code Lib.Math.min.name Lib.Math.min.code 2 (some .int)]
def wsX4_advise_r3 : List Cond := [Cond.methodLink RX4 95 yX4_watch, Cond.instanceMethod yX4_watch, Cond.selects RX4 yX4_watch yX4_watch, Cond.code yX4_watch cX4_watch 1 (some .int), Cond.methodLink RX4 111 yX4_ring, Cond.instanceMethod yX4_ring, Cond.selects RX4 yX4_ring yX4_ring, Cond.code yX4_ring cX4_ring 3 none, Cond.fieldLink RX4 13 "HotBedsModel" "heavy" "[I", Cond.methodLink RX4 91 yX4_getsUp, Cond.instanceMethod yX4_getsUp, Cond.selects RX4 yX4_getsUp yX4_getsUp, Cond.code yX4_getsUp cX4_getsUp 2 none, Cond.methodLink RX4 49 yX4_letBed, Cond.instanceMethod yX4_letBed, Cond.selects RX4 yX4_letBed yX4_letBed, Cond.code yX4_letBed cX4_letBed 4 none, Cond.methodLink RX4 79 yX4_more, Cond.instanceMethod yX4_more, Cond.selects RX4 yX4_more yX4_more, Cond.code yX4_more cX4_more 4 none, Cond.methodLink RX4 114 yX4_pay, Cond.instanceMethod yX4_pay, Cond.selects RX4 yX4_pay yX4_pay]
def wsX4_advise_r4 : List Cond := [Cond.code yX4_pay cX4_pay 3 none, Cond.fieldLink RX4 16 "HotBedsModel" "wages" "[I", Cond.methodLink RX4 76 yX4_gets, Cond.instanceMethod yX4_gets, Cond.selects RX4 yX4_gets yX4_gets, Cond.code yX4_gets cX4_gets 3 (some .int), Cond.methodLink RX4 85 yX4_canRedeem, Cond.instanceMethod yX4_canRedeem, Cond.selects RX4 yX4_canRedeem yX4_canRedeem, Cond.code yX4_canRedeem cX4_canRedeem 2 (some .boolean), Cond.methodLink RX4 88 yX4_redeems, Cond.instanceMethod yX4_redeems, Cond.selects RX4 yX4_redeems yX4_redeems, Cond.code yX4_redeems cX4_redeems 2 (some .int), Cond.methodLink RX4 117 yX4_look, Cond.instanceMethod yX4_look, Cond.selects RX4 yX4_look yX4_look, Cond.code yX4_look cX4_look 4 none, Cond.fieldLink RX4 9 "HotBedsModel" "prices" "[I", Cond.methodLink RX4 105 yX4_bedFor, Cond.instanceMethod yX4_bedFor, Cond.selects RX4 yX4_bedFor yX4_bedFor, Cond.code yX4_bedFor cX4_bedFor 5 (some .int), Cond.methodLink RX4 102 yX4_be]
def wsX4_advise_r5 : List Cond := [Cond.instanceMethod yX4_be, Cond.selects RX4 yX4_be yX4_be, Cond.code yX4_be cX4_be 3 (some .int), Cond.methodLink RX4 108 yX4_lieDown, Cond.instanceMethod yX4_lieDown, Cond.selects RX4 yX4_lieDown yX4_lieDown, Cond.code yX4_lieDown cX4_lieDown 2 none, Cond.methodLink RX4 82 yX4_pawns, Cond.instanceMethod yX4_pawns, Cond.selects RX4 yX4_pawns yX4_pawns, Cond.code yX4_pawns cX4_pawns 2 (some .int), Cond.methodLink RX4 144 yX4_bringBack, Cond.instanceMethod yX4_bringBack, Cond.selects RX4 yX4_bringBack yX4_bringBack, Cond.code yX4_bringBack cX4_bringBack 1 none]
def wsX4_advise : List Cond := .code yX4_advise cX4_advise 6 (some .int) :: ((wsX4_advise_r1 ++ (wsX4_advise_r2 ++ (wsX4_advise_r3 ++ (wsX4_advise_r4 ++ wsX4_advise_r5)))) ++ wsX40)
def wsX4_mean : List Cond := .code yX4_mean cX4_mean 1 (some .double) :: ([.fieldLink RX4 25 "HotBedsModel" "thrown" "I", .fieldLink RX4 36 "HotBedsModel" "sailors" "I", .methodLink RX4 123 yX4_sum, .instanceMethod yX4_sum, .selects RX4 yX4_sum yX4_sum, .initialized RX4, .code yX4_sum cX4_sum 4 (some .int), .methodLink RX4 63 yX4_sa, .instanceMethod yX4_sa, .selects RX4 yX4_sa yX4_sa, .code yX4_sa cX4_sa 3 (some .int), .fieldLink RX4 19 "HotBedsModel" "now" "[I"] ++ wsX40)
def wsX4_digest_r1 : List Cond := [Cond.fieldLink RX4 25 "HotBedsModel" "thrown" "I", Cond.constantLong RX4 147 (1783), Cond.constantLong RX4 149 (31), Cond.fieldLink RX4 29 "HotBedsModel" "beds" "I", Cond.fieldLink RX4 36 "HotBedsModel" "sailors" "I", Cond.methodLink RX4 138 yX4_counted, Cond.instanceMethod yX4_counted, Cond.selects RX4 yX4_counted yX4_counted, Cond.initialized RX4, Cond.code yX4_counted cX4_counted 2 (some .int), Cond.fieldLink RX4 19 "HotBedsModel" "now" "[I", Cond.methodLink RX4 95 yX4_watch, Cond.instanceMethod yX4_watch, Cond.selects RX4 yX4_watch yX4_watch, Cond.code yX4_watch cX4_watch 1 (some .int), Cond.methodLink RX4 135 yX4_many, Cond.instanceMethod yX4_many, Cond.selects RX4 yX4_many yX4_many, Cond.code yX4_many cX4_many 4 (some .int), Cond.methodLink RX4 63 yX4_sa, Cond.instanceMethod yX4_sa, Cond.selects RX4 yX4_sa yX4_sa, Cond.code yX4_sa cX4_sa 3 (some .int), Cond.methodLink RX4 123 yX4_sum]
def wsX4_digest_r2 : List Cond := [Cond.instanceMethod yX4_sum, Cond.selects RX4 yX4_sum yX4_sum, Cond.code yX4_sum cX4_sum 4 (some .int), Cond.methodLink RX4 132 yX4_bedTold, Cond.instanceMethod yX4_bedTold, Cond.selects RX4 yX4_bedTold yX4_bedTold, Cond.code yX4_bedTold cX4_bedTold 3 (some .int), Cond.fieldLink RX4 9 "HotBedsModel" "prices" "[I", Cond.methodLink RX4 102 yX4_be, Cond.instanceMethod yX4_be, Cond.selects RX4 yX4_be yX4_be, Cond.code yX4_be cX4_be 3 (some .int), Cond.methodLink RX4 129 yX4_sailorTold, Cond.instanceMethod yX4_sailorTold, Cond.selects RX4 yX4_sailorTold yX4_sailorTold, Cond.code yX4_sailorTold cX4_sailorTold 3 (some .int), Cond.fieldLink RX4 13 "HotBedsModel" "heavy" "[I", Cond.fieldLink RX4 16 "HotBedsModel" "wages" "[I"]
def wsX4_digest : List Cond := .code yX4_digest cX4_digest 5 (some .long) :: ((wsX4_digest_r1 ++ wsX4_digest_r2) ++ wsX40)
def wsJ9_max_7cf53 : List Cond := .code yJ9_max_7cf53 cJ9_max_7cf53 2 (some .int) :: ([])
def wsJ9_min_7cf53 : List Cond := .code yJ9_min_7cf53 cJ9_min_7cf53 2 (some .int) :: ([])
def wsL_bed : List Cond := .codeWith yL_bed cL_bed 4 (some .int) [(0, 9, 12, 13), (0, 9, 15, 15)] :: ([.classLink RL 13 "java/lang/IllegalArgumentException", .classLink RL 15 "java/lang/IllegalStateException", .methodLink RL 7 yX3_bed, .instanceMethod yX3_bed, .selects RX3 yX3_bed yX3_bed, .initialized RX3, .code yX3_bed cX3_bed 2 (some .int), .classLink RX3 19 "java/lang/IllegalArgumentException", .initialized "java/lang/IllegalArgumentException", .fieldLink RX3 10 "HotBeds" "house" "LHotBeds$House;", .fieldLink RX3 26 "HotBeds$House" "beds" "LHotBeds$Beds;", .methodLink RX3 30 yX0_add, .instanceMethod yX0_add, .selects RX0 yX0_add yX0_add, .initialized RX0, .code yX0_add cX0_add 3 (some .int), .classLink RX0 29 "java/lang/IllegalStateException", .initialized "java/lang/IllegalStateException", .fieldLink RX0 7 "HotBeds$Beds" "size" "I", .fieldLink RX0 13 "HotBeds$Beds" "price" "[I", .fieldLink RX0 26 "HotBeds$Beds" "sleeper" "[I"] ++ wsX30 ++ wsX10 ++ wsX00 ++ (vx_atS RX3 23 "java/lang/IllegalArgumentException" ["java/lang/RuntimeException", "java/lang/Exception"]).filter goodWord ++ (vx_atS RX0 33 "java/lang/IllegalStateException" ["java/lang/RuntimeException", "java/lang/Exception"]).filter goodWord)
def wsL_sailor_r1 : List Cond := [Cond.classLink RL 21 "java/lang/IndexOutOfBoundsException", Cond.classLink RL 13 "java/lang/IllegalArgumentException", Cond.classLink RL 15 "java/lang/IllegalStateException", Cond.methodLink RL 17 yX3_sailor, Cond.instanceMethod yX3_sailor, Cond.selects RX3 yX3_sailor yX3_sailor, Cond.initialized RX3, Cond.code yX3_sailor cX3_sailor 5 (some .int), Cond.classLink RX3 19 "java/lang/IllegalArgumentException", Cond.initialized "java/lang/IllegalArgumentException", Cond.fieldLink RX3 10 "HotBeds" "house" "LHotBeds$House;", Cond.fieldLink RX3 48 "HotBeds$House" "sailors" "LHotBeds$Sailors;", Cond.methodLink RX3 36 yX3_requireWatch, Cond.static yX3_requireWatch, Cond.code yX3_requireWatch cX3_requireWatch 1 none, Cond.classLink RX3 153 "java/lang/IndexOutOfBoundsException", Cond.initialized "java/lang/IndexOutOfBoundsException", Cond.methodLink RX3 52 yX2_add, Cond.instanceMethod yX2_add, Cond.selects RX2 yX2_add yX2_add, Cond.initialized RX2, Cond.code yX2_add cX2_add 6 (some .int), Cond.classLink RX2 50 "java/lang/IllegalStateException", Cond.initialized "java/lang/IllegalStateException"]
def wsL_sailor_r2 : List Cond := [Cond.fieldLink RX2 7 "HotBeds$Sailors" "size" "I", Cond.fieldLink RX2 13 "HotBeds$Sailors" "watch" "[I", Cond.fieldLink RX2 17 "HotBeds$Sailors" "heavy" "[I", Cond.fieldLink RX2 20 "HotBeds$Sailors" "wage" "[I", Cond.fieldLink RX2 23 "HotBeds$Sailors" "purse" "[I", Cond.fieldLink RX2 26 "HotBeds$Sailors" "boots" "[I", Cond.fieldLink RX2 29 "HotBeds$Sailors" "kept" "[I", Cond.fieldLink RX2 32 "HotBeds$Sailors" "place" "[I", Cond.fieldLink RX2 35 "HotBeds$Sailors" "bed" "[I"]
def wsL_sailor : List Cond := .codeWith yL_sailor cL_sailor 7 (some .int) [(0, 14, 17, 21), (0, 14, 21, 13), (0, 14, 25, 15)] :: ((wsL_sailor_r1 ++ wsL_sailor_r2) ++ wsX30 ++ wsX10 ++ wsX20 ++ (vx_atS RX3 23 "java/lang/IllegalArgumentException" ["java/lang/RuntimeException", "java/lang/Exception"]).filter goodWord ++ (vx_atS RX3 157 "java/lang/IndexOutOfBoundsException" ["java/lang/RuntimeException", "java/lang/Exception"]).filter goodWord ++ (vx_atS RX2 54 "java/lang/IllegalStateException" ["java/lang/RuntimeException", "java/lang/Exception"]).filter goodWord)
def wsL_keep_r1 : List Cond := [Cond.classLink RL 21 "java/lang/IndexOutOfBoundsException", Cond.methodLink RL 23 yX3_keep, Cond.instanceMethod yX3_keep, Cond.selects RX3 yX3_keep yX3_keep, Cond.initialized RX3, Cond.code yX3_keep cX3_keep 4 (some .int), Cond.fieldLink RX3 10 "HotBeds" "house" "LHotBeds$House;", Cond.fieldLink RX3 48 "HotBeds$House" "sailors" "LHotBeds$Sailors;", Cond.fieldLink RX3 61 "HotBeds$Sailors" "kept" "[I", Cond.methodLink RX3 55 yX3_requireSailor, Cond.instanceMethod yX3_requireSailor, Cond.selects RX3 yX3_requireSailor yX3_requireSailor, Cond.code yX3_requireSailor cX3_requireSailor 2 none, Cond.classLink RX3 153 "java/lang/IndexOutOfBoundsException", Cond.initialized "java/lang/IndexOutOfBoundsException", Cond.fieldLink RX3 181 "HotBeds$Sailors" "size" "I", Cond.methodLink RX3 58 yX3_requireBed, Cond.instanceMethod yX3_requireBed, Cond.selects RX3 yX3_requireBed yX3_requireBed, Cond.code yX3_requireBed cX3_requireBed 2 none, Cond.fieldLink RX3 26 "HotBeds$House" "beds" "LHotBeds$Beds;", Cond.methodLink RX3 216 yX0_has, Cond.instanceMethod yX0_has, Cond.selects RX0 yX0_has yX0_has]
def wsL_keep_r2 : List Cond := [Cond.initialized RX0, Cond.code yX0_has cX0_has 2 (some .boolean), Cond.fieldLink RX0 7 "HotBeds$Beds" "size" "I"]
def wsL_keep : List Cond := .codeWith yL_keep cL_keep 5 (some .int) [(0, 10, 13, 21)] :: ((wsL_keep_r1 ++ wsL_keep_r2) ++ wsX30 ++ wsX10 ++ wsX20 ++ wsX00 ++ (vx_atS RX3 157 "java/lang/IndexOutOfBoundsException" ["java/lang/RuntimeException", "java/lang/Exception"]).filter goodWord)
def wsL_setBell : List Cond := .codeWith yL_setBell cL_setBell 4 (some .int) [(0, 9, 12, 13)] :: ([.classLink RL 13 "java/lang/IllegalArgumentException", .methodLink RL 27 yX3_setBell, .instanceMethod yX3_setBell, .selects RX3 yX3_setBell yX3_setBell, .initialized RX3, .code yX3_setBell cX3_setBell 3 (some .int), .classLink RX3 19 "java/lang/IllegalArgumentException", .initialized "java/lang/IllegalArgumentException", .fieldLink RX3 10 "HotBeds" "house" "LHotBeds$House;", .fieldLink RX3 67 "HotBeds$House" "bell" "I"] ++ wsX30 ++ wsX10 ++ (vx_atS RX3 23 "java/lang/IllegalArgumentException" ["java/lang/RuntimeException", "java/lang/Exception"]).filter goodWord)
def wsL_setPawn : List Cond := .codeWith yL_setPawn cL_setPawn 4 (some .int) [(0, 9, 12, 13)] :: ([.classLink RL 13 "java/lang/IllegalArgumentException", .methodLink RL 30 yX3_setPawn, .instanceMethod yX3_setPawn, .selects RX3 yX3_setPawn yX3_setPawn, .initialized RX3, .code yX3_setPawn cX3_setPawn 3 (some .int), .classLink RX3 19 "java/lang/IllegalArgumentException", .initialized "java/lang/IllegalArgumentException", .fieldLink RX3 10 "HotBeds" "house" "LHotBeds$House;", .fieldLink RX3 73 "HotBeds$House" "pawn" "I"] ++ wsX30 ++ wsX10 ++ (vx_atS RX3 23 "java/lang/IllegalArgumentException" ["java/lang/RuntimeException", "java/lang/Exception"]).filter goodWord)
def wsL_give_r1 : List Cond := [Cond.classLink RL 21 "java/lang/IndexOutOfBoundsException", Cond.classLink RL 13 "java/lang/IllegalArgumentException", Cond.methodLink RL 33 yX3_give, Cond.instanceMethod yX3_give, Cond.selects RX3 yX3_give yX3_give, Cond.initialized RX3, Cond.code yX3_give cX3_give 3 (some .int), Cond.classLink RX3 19 "java/lang/IllegalArgumentException", Cond.initialized "java/lang/IllegalArgumentException", Cond.fieldLink RX3 10 "HotBeds" "house" "LHotBeds$House;", Cond.fieldLink RX3 48 "HotBeds$House" "sailors" "LHotBeds$Sailors;", Cond.fieldLink RX3 82 "HotBeds$Sailors" "purse" "[I", Cond.methodLink RX3 55 yX3_requireSailor, Cond.instanceMethod yX3_requireSailor, Cond.selects RX3 yX3_requireSailor yX3_requireSailor, Cond.code yX3_requireSailor cX3_requireSailor 2 none, Cond.classLink RX3 153 "java/lang/IndexOutOfBoundsException", Cond.initialized "java/lang/IndexOutOfBoundsException", Cond.fieldLink RX3 181 "HotBeds$Sailors" "size" "I", Cond.methodLink RX3 78 yX2_earn, Cond.instanceMethod yX2_earn, Cond.selects RX2 yX2_earn yX2_earn, Cond.initialized RX2, Cond.code yX2_earn cX2_earn 3 none]
def wsL_give_r2 : List Cond := [Cond.fieldLink RX2 23 "HotBeds$Sailors" "purse" "[I", Cond.methodLink RX2 65 Lib.Math.min.name, Cond.static Lib.Math.min.name, Cond.initialized "java/lang/Math", Cond.code Lib.Math.min.name Lib.Math.min.code 2 (some .int)]
def wsL_give : List Cond := .codeWith yL_give cL_give 5 (some .int) [(0, 10, 13, 21), (0, 10, 17, 13)] :: ((wsL_give_r1 ++ wsL_give_r2) ++ wsX30 ++ wsX10 ++ wsX20 ++ (vx_atS RX3 23 "java/lang/IllegalArgumentException" ["java/lang/RuntimeException", "java/lang/Exception"]).filter goodWord ++ (vx_atS RX3 157 "java/lang/IndexOutOfBoundsException" ["java/lang/RuntimeException", "java/lang/Exception"]).filter goodWord)
def wsL_pawn_r1 : List Cond := [Cond.classLink RL 21 "java/lang/IndexOutOfBoundsException", Cond.classLink RL 15 "java/lang/IllegalStateException", Cond.methodLink RL 36 yX3_pawn, Cond.instanceMethod yX3_pawn, Cond.selects RX3 yX3_pawn yX3_pawn, Cond.initialized RX3, Cond.code yX3_pawn cX3_pawn 2 (some .int), Cond.classLink RX3 89 "java/lang/IllegalStateException", Cond.initialized "java/lang/IllegalStateException", Cond.fieldLink RX3 10 "HotBeds" "house" "LHotBeds$House;", Cond.fieldLink RX3 48 "HotBeds$House" "sailors" "LHotBeds$Sailors;", Cond.fieldLink RX3 82 "HotBeds$Sailors" "purse" "[I", Cond.methodLink RX3 55 yX3_requireSailor, Cond.instanceMethod yX3_requireSailor, Cond.selects RX3 yX3_requireSailor yX3_requireSailor, Cond.code yX3_requireSailor cX3_requireSailor 2 none, Cond.classLink RX3 153 "java/lang/IndexOutOfBoundsException", Cond.initialized "java/lang/IndexOutOfBoundsException", Cond.fieldLink RX3 181 "HotBeds$Sailors" "size" "I", Cond.methodLink RX3 85 yX2_hasBoots, Cond.instanceMethod yX2_hasBoots, Cond.selects RX2 yX2_hasBoots yX2_hasBoots, Cond.initialized RX2, Cond.code yX2_hasBoots cX2_hasBoots 2 (some .boolean)]
def wsL_pawn_r2 : List Cond := [Cond.fieldLink RX2 26 "HotBeds$Sailors" "boots" "[I", Cond.methodLink RX3 94 yX1_pawnBoots, Cond.instanceMethod yX1_pawnBoots, Cond.selects RX1 yX1_pawnBoots yX1_pawnBoots, Cond.initialized RX1, Cond.code yX1_pawnBoots cX1_pawnBoots 2 none, Cond.fieldLink RX1 29 "HotBeds$House" "sailors" "LHotBeds$Sailors;", Cond.fieldLink RX1 74 "HotBeds$Sailors" "boots" "[I", Cond.fieldLink RX1 16 "HotBeds$House" "pawn" "I", Cond.methodLink RX1 77 yX2_earn, Cond.instanceMethod yX2_earn, Cond.selects RX2 yX2_earn yX2_earn, Cond.code yX2_earn cX2_earn 3 none, Cond.fieldLink RX2 23 "HotBeds$Sailors" "purse" "[I", Cond.methodLink RX2 65 Lib.Math.min.name, Cond.static Lib.Math.min.name, Cond.initialized "java/lang/Math", Cond.code Lib.Math.min.name Lib.Math.min.code 2 (some .int)]
def wsL_pawn : List Cond := .codeWith yL_pawn cL_pawn 4 (some .int) [(0, 9, 12, 21), (0, 9, 15, 15)] :: ((wsL_pawn_r1 ++ wsL_pawn_r2) ++ wsX30 ++ wsX10 ++ wsX20 ++ (vx_atS RX3 93 "java/lang/IllegalStateException" ["java/lang/RuntimeException", "java/lang/Exception"]).filter goodWord ++ (vx_atS RX3 157 "java/lang/IndexOutOfBoundsException" ["java/lang/RuntimeException", "java/lang/Exception"]).filter goodWord)
def wsL_redeem_r1 : List Cond := [Cond.classLink RL 21 "java/lang/IndexOutOfBoundsException", Cond.classLink RL 15 "java/lang/IllegalStateException", Cond.methodLink RL 39 yX3_redeem, Cond.instanceMethod yX3_redeem, Cond.selects RX3 yX3_redeem yX3_redeem, Cond.initialized RX3, Cond.code yX3_redeem cX3_redeem 2 (some .int), Cond.classLink RX3 89 "java/lang/IllegalStateException", Cond.initialized "java/lang/IllegalStateException", Cond.fieldLink RX3 10 "HotBeds" "house" "LHotBeds$House;", Cond.fieldLink RX3 48 "HotBeds$House" "sailors" "LHotBeds$Sailors;", Cond.fieldLink RX3 82 "HotBeds$Sailors" "purse" "[I", Cond.methodLink RX3 55 yX3_requireSailor, Cond.instanceMethod yX3_requireSailor, Cond.selects RX3 yX3_requireSailor yX3_requireSailor, Cond.code yX3_requireSailor cX3_requireSailor 2 none, Cond.classLink RX3 153 "java/lang/IndexOutOfBoundsException", Cond.initialized "java/lang/IndexOutOfBoundsException", Cond.fieldLink RX3 181 "HotBeds$Sailors" "size" "I", Cond.methodLink RX3 97 yX1_canRedeemBoots, Cond.instanceMethod yX1_canRedeemBoots, Cond.selects RX1 yX1_canRedeemBoots yX1_canRedeemBoots, Cond.initialized RX1, Cond.code yX1_canRedeemBoots cX1_canRedeemBoots 2 (some .boolean)]
def wsL_redeem_r2 : List Cond := [Cond.fieldLink RX1 29 "HotBeds$House" "sailors" "LHotBeds$Sailors;", Cond.fieldLink RX1 84 "HotBeds$Sailors" "purse" "[I", Cond.fieldLink RX1 16 "HotBeds$House" "pawn" "I", Cond.methodLink RX1 81 yX2_hasBoots, Cond.instanceMethod yX2_hasBoots, Cond.selects RX2 yX2_hasBoots yX2_hasBoots, Cond.initialized RX2, Cond.code yX2_hasBoots cX2_hasBoots 2 (some .boolean), Cond.fieldLink RX2 26 "HotBeds$Sailors" "boots" "[I", Cond.methodLink RX3 102 yX1_redeemBoots, Cond.instanceMethod yX1_redeemBoots, Cond.selects RX1 yX1_redeemBoots yX1_redeemBoots, Cond.code yX1_redeemBoots cX1_redeemBoots 2 none, Cond.fieldLink RX1 74 "HotBeds$Sailors" "boots" "[I"]
def wsL_redeem : List Cond := .codeWith yL_redeem cL_redeem 4 (some .int) [(0, 9, 12, 21), (0, 9, 15, 15)] :: ((wsL_redeem_r1 ++ wsL_redeem_r2) ++ wsX30 ++ wsX10 ++ wsX20 ++ (vx_atS RX3 93 "java/lang/IllegalStateException" ["java/lang/RuntimeException", "java/lang/Exception"]).filter goodWord ++ (vx_atS RX3 157 "java/lang/IndexOutOfBoundsException" ["java/lang/RuntimeException", "java/lang/Exception"]).filter goodWord)
def wsL_call_r1 : List Cond := [Cond.classLink RL 21 "java/lang/IndexOutOfBoundsException", Cond.classLink RL 15 "java/lang/IllegalStateException", Cond.methodLink RL 42 yX3_call, Cond.instanceMethod yX3_call, Cond.selects RX3 yX3_call yX3_call, Cond.initialized RX3, Cond.code yX3_call cX3_call 3 (some .int), Cond.classLink RX3 89 "java/lang/IllegalStateException", Cond.initialized "java/lang/IllegalStateException", Cond.fieldLink RX3 10 "HotBeds" "house" "LHotBeds$House;", Cond.fieldLink RX3 48 "HotBeds$House" "sailors" "LHotBeds$Sailors;", Cond.fieldLink RX3 110 "HotBeds$Sailors" "bed" "[I", Cond.methodLink RX3 55 yX3_requireSailor, Cond.instanceMethod yX3_requireSailor, Cond.selects RX3 yX3_requireSailor yX3_requireSailor, Cond.code yX3_requireSailor cX3_requireSailor 2 none, Cond.classLink RX3 153 "java/lang/IndexOutOfBoundsException", Cond.initialized "java/lang/IndexOutOfBoundsException", Cond.fieldLink RX3 181 "HotBeds$Sailors" "size" "I", Cond.methodLink RX3 105 yX2_isUp, Cond.instanceMethod yX2_isUp, Cond.selects RX2 yX2_isUp yX2_isUp, Cond.initialized RX2, Cond.code yX2_isUp cX2_isUp 2 (some .boolean)]
def wsL_call_r2 : List Cond := [Cond.fieldLink RX2 32 "HotBeds$Sailors" "place" "[I", Cond.methodLink RX3 113 yX1_getUp, Cond.instanceMethod yX1_getUp, Cond.selects RX1 yX1_getUp yX1_getUp, Cond.initialized RX1, Cond.code yX1_getUp cX1_getUp 3 none, Cond.fieldLink RX1 29 "HotBeds$House" "sailors" "LHotBeds$Sailors;", Cond.fieldLink RX1 61 "HotBeds$Sailors" "bed" "[I", Cond.fieldLink RX1 22 "HotBeds$House" "beds" "LHotBeds$Beds;", Cond.fieldLink RX1 68 "HotBeds$Beds" "sleeper" "[I", Cond.fieldLink RX1 71 "HotBeds$Sailors" "place" "[I", Cond.methodLink RX1 64 yX0_has, Cond.instanceMethod yX0_has, Cond.selects RX0 yX0_has yX0_has, Cond.initialized RX0, Cond.code yX0_has cX0_has 2 (some .boolean), Cond.fieldLink RX0 7 "HotBeds$Beds" "size" "I"]
def wsL_call : List Cond := .codeWith yL_call cL_call 4 (some .int) [(0, 9, 12, 21), (0, 9, 15, 15)] :: ((wsL_call_r1 ++ wsL_call_r2) ++ wsX30 ++ wsX10 ++ wsX20 ++ wsX00 ++ (vx_atS RX3 93 "java/lang/IllegalStateException" ["java/lang/RuntimeException", "java/lang/Exception"]).filter goodWord ++ (vx_atS RX3 157 "java/lang/IndexOutOfBoundsException" ["java/lang/RuntimeException", "java/lang/Exception"]).filter goodWord)
def wsL_shift_r1 : List Cond := [Cond.classLink RL 21 "java/lang/IndexOutOfBoundsException", Cond.classLink RL 15 "java/lang/IllegalStateException", Cond.methodLink RL 45 yX3_shift, Cond.instanceMethod yX3_shift, Cond.selects RX3 yX3_shift yX3_shift, Cond.initialized RX3, Cond.code yX3_shift cX3_shift 4 (some .int), Cond.fieldLink RX3 10 "HotBeds" "house" "LHotBeds$House;", Cond.fieldLink RX3 48 "HotBeds$House" "sailors" "LHotBeds$Sailors;", Cond.fieldLink RX3 119 "HotBeds$Sailors" "watch" "[I", Cond.methodLink RX3 55 yX3_requireSailor, Cond.instanceMethod yX3_requireSailor, Cond.selects RX3 yX3_requireSailor yX3_requireSailor, Cond.code yX3_requireSailor cX3_requireSailor 2 none, Cond.classLink RX3 153 "java/lang/IndexOutOfBoundsException", Cond.initialized "java/lang/IndexOutOfBoundsException", Cond.fieldLink RX3 181 "HotBeds$Sailors" "size" "I", Cond.methodLink RX3 36 yX3_requireWatch, Cond.static yX3_requireWatch, Cond.code yX3_requireWatch cX3_requireWatch 1 none, Cond.methodLink RX3 116 yX3_requireUp, Cond.instanceMethod yX3_requireUp, Cond.selects RX3 yX3_requireUp yX3_requireUp, Cond.code yX3_requireUp cX3_requireUp 2 none]
def wsL_shift_r2 : List Cond := [Cond.classLink RX3 89 "java/lang/IllegalStateException", Cond.initialized "java/lang/IllegalStateException", Cond.methodLink RX3 105 yX2_isUp, Cond.instanceMethod yX2_isUp, Cond.selects RX2 yX2_isUp yX2_isUp, Cond.initialized RX2, Cond.code yX2_isUp cX2_isUp 2 (some .boolean), Cond.fieldLink RX2 32 "HotBeds$Sailors" "place" "[I"]
def wsL_shift : List Cond := .codeWith yL_shift cL_shift 5 (some .int) [(0, 10, 13, 21), (0, 10, 17, 15)] :: ((wsL_shift_r1 ++ wsL_shift_r2) ++ wsX30 ++ wsX10 ++ wsX20 ++ (vx_atS RX3 157 "java/lang/IndexOutOfBoundsException" ["java/lang/RuntimeException", "java/lang/Exception"]).filter goodWord ++ (vx_atS RX3 93 "java/lang/IllegalStateException" ["java/lang/RuntimeException", "java/lang/Exception"]).filter goodWord)
def wsL_pass_r1 : List Cond := [Cond.classLink RL 13 "java/lang/IllegalArgumentException", Cond.methodLink RL 48 yX3_pass, Cond.instanceMethod yX3_pass, Cond.selects RX3 yX3_pass yX3_pass, Cond.initialized RX3, Cond.code yX3_pass cX3_pass 3 (some .int), Cond.fieldLink RX3 10 "HotBeds" "house" "LHotBeds$House;", Cond.fieldLink RX3 48 "HotBeds$House" "sailors" "LHotBeds$Sailors;", Cond.methodLink RX3 122 yX3_requireHours, Cond.static yX3_requireHours, Cond.code yX3_requireHours cX3_requireHours 1 none, Cond.classLink RX3 19 "java/lang/IllegalArgumentException", Cond.initialized "java/lang/IllegalArgumentException", Cond.methodLink RX3 125 yX2_allFloors, Cond.instanceMethod yX2_allFloors, Cond.selects RX2 yX2_allFloors yX2_allFloors, Cond.initialized RX2, Cond.code yX2_allFloors cX2_allFloors 1 (some .int), Cond.fieldLink RX2 47 "HotBeds$Sailors" "floors" "[I", Cond.methodLink RX2 82 yX2_sum, Cond.instanceMethod yX2_sum, Cond.selects RX2 yX2_sum yX2_sum, Cond.code yX2_sum cX2_sum 4 (some .int), Cond.fieldLink RX2 7 "HotBeds$Sailors" "size" "I"]
def wsL_pass_r2 : List Cond := [Cond.methodLink RX3 129 yX1_goOn, Cond.instanceMethod yX1_goOn, Cond.selects RX1 yX1_goOn yX1_goOn, Cond.initialized RX1, Cond.code yX1_goOn cX1_goOn 4 none, Cond.fieldLink RX1 29 "HotBeds$House" "sailors" "LHotBeds$Sailors;", Cond.fieldLink RX1 40 "HotBeds$Sailors" "size" "I", Cond.fieldLink RX1 50 "HotBeds$Sailors" "rest" "[I", Cond.fieldLink RX1 22 "HotBeds$House" "beds" "LHotBeds$Beds;", Cond.fieldLink RX1 7 "HotBeds$House" "hour" "I", Cond.methodLink RX1 43 yX1_ringBell, Cond.instanceMethod yX1_ringBell, Cond.selects RX1 yX1_ringBell yX1_ringBell, Cond.code yX1_ringBell cX1_ringBell 3 none, Cond.fieldLink RX1 13 "HotBeds$House" "bell" "I", Cond.fieldLink RX1 96 "HotBeds$Sailors" "heavy" "[I", Cond.methodLink RX1 87 yX2_isUp, Cond.instanceMethod yX2_isUp, Cond.selects RX2 yX2_isUp yX2_isUp, Cond.code yX2_isUp cX2_isUp 2 (some .boolean), Cond.fieldLink RX2 32 "HotBeds$Sailors" "place" "[I", Cond.methodLink RX1 90 yX1_isInWatch, Cond.instanceMethod yX1_isInWatch, Cond.selects RX1 yX1_isInWatch yX1_isInWatch]
def wsL_pass_r3 : List Cond := [Cond.code yX1_isInWatch cX1_isInWatch 2 (some .boolean), Cond.fieldLink RX1 105 "HotBeds$Sailors" "watch" "[I", Cond.methodLink RX1 108 yX1_watchNow, Cond.instanceMethod yX1_watchNow, Cond.selects RX1 yX1_watchNow yX1_watchNow, Cond.code yX1_watchNow cX1_watchNow 1 (some .int), Cond.methodLink RX1 93 yX1_hoursSinceWatch, Cond.instanceMethod yX1_hoursSinceWatch, Cond.selects RX1 yX1_hoursSinceWatch yX1_hoursSinceWatch, Cond.code yX1_hoursSinceWatch cX1_hoursSinceWatch 3 (some .int), Cond.methodLink RX1 99 yX1_getUp, Cond.instanceMethod yX1_getUp, Cond.selects RX1 yX1_getUp yX1_getUp, Cond.code yX1_getUp cX1_getUp 3 none, Cond.fieldLink RX1 61 "HotBeds$Sailors" "bed" "[I", Cond.fieldLink RX1 68 "HotBeds$Beds" "sleeper" "[I", Cond.fieldLink RX1 71 "HotBeds$Sailors" "place" "[I", Cond.methodLink RX1 64 yX0_has, Cond.instanceMethod yX0_has, Cond.selects RX0 yX0_has yX0_has, Cond.initialized RX0, Cond.code yX0_has cX0_has 2 (some .boolean), Cond.fieldLink RX0 7 "HotBeds$Beds" "size" "I", Cond.methodLink RX1 102 yX2_beLate]
def wsL_pass_r4 : List Cond := [Cond.instanceMethod yX2_beLate, Cond.selects RX2 yX2_beLate yX2_beLate, Cond.code yX2_beLate cX2_beLate 2 none, Cond.fieldLink RX2 41 "HotBeds$Sailors" "late" "[I", Cond.fieldLink RX2 44 "HotBeds$Sailors" "lateSincePay" "[I", Cond.methodLink RX1 47 yX1_serve, Cond.instanceMethod yX1_serve, Cond.selects RX1 yX1_serve yX1_serve, Cond.code yX1_serve cX1_serve 2 none, Cond.methodLink RX1 112 yX2_payWage, Cond.instanceMethod yX2_payWage, Cond.selects RX2 yX2_payWage yX2_payWage, Cond.code yX2_payWage cX2_payWage 3 none, Cond.fieldLink RX2 20 "HotBeds$Sailors" "wage" "[I", Cond.methodLink RX2 75 Lib.Math.max.name, Cond.static Lib.Math.max.name, Cond.initialized "java/lang/Math", Cond.code Lib.Math.max.name Lib.Math.max.code 2 (some .int), Cond.methodLink RX2 71 yX2_hasBoots, Cond.instanceMethod yX2_hasBoots, Cond.selects RX2 yX2_hasBoots yX2_hasBoots, Cond.code yX2_hasBoots cX2_hasBoots 2 (some .boolean), Cond.fieldLink RX2 26 "HotBeds$Sailors" "boots" "[I", Cond.methodLink RX2 78 yX2_earn]
def wsL_pass_r5 : List Cond := [Cond.instanceMethod yX2_earn, Cond.selects RX2 yX2_earn yX2_earn, Cond.code yX2_earn cX2_earn 3 none, Cond.fieldLink RX2 23 "HotBeds$Sailors" "purse" "[I", Cond.methodLink RX2 65 Lib.Math.min.name, Cond.static Lib.Math.min.name, Cond.code Lib.Math.min.name Lib.Math.min.code 2 (some .int), Cond.methodLink RX1 115 yX1_canRedeemBoots, Cond.instanceMethod yX1_canRedeemBoots, Cond.selects RX1 yX1_canRedeemBoots yX1_canRedeemBoots, Cond.code yX1_canRedeemBoots cX1_canRedeemBoots 2 (some .boolean), Cond.fieldLink RX1 84 "HotBeds$Sailors" "purse" "[I", Cond.fieldLink RX1 16 "HotBeds$House" "pawn" "I", Cond.methodLink RX1 81 yX2_hasBoots, Cond.methodLink RX1 118 yX1_redeemBoots, Cond.instanceMethod yX1_redeemBoots, Cond.selects RX1 yX1_redeemBoots yX1_redeemBoots, Cond.code yX1_redeemBoots cX1_redeemBoots 2 none, Cond.fieldLink RX1 74 "HotBeds$Sailors" "boots" "[I", Cond.methodLink RX1 121 yX1_lookForBed, Cond.instanceMethod yX1_lookForBed, Cond.selects RX1 yX1_lookForBed yX1_lookForBed, Cond.code yX1_lookForBed cX1_lookForBed 4 none, Cond.fieldLink RX1 124 "HotBeds$Sailors" "kept" "[I"]
def wsL_pass_r6 : List Cond := [Cond.methodLink RX1 127 yX0_isFree, Cond.instanceMethod yX0_isFree, Cond.selects RX0 yX0_isFree yX0_isFree, Cond.code yX0_isFree cX0_isFree 2 (some .boolean), Cond.fieldLink RX0 26 "HotBeds$Beds" "sleeper" "[I", Cond.methodLink RX0 42 yX0_has, Cond.methodLink RX1 130 yX0_cheapestFree, Cond.instanceMethod yX0_cheapestFree, Cond.selects RX0 yX0_cheapestFree yX0_cheapestFree, Cond.code yX0_cheapestFree cX0_cheapestFree 3 (some .int), Cond.fieldLink RX0 13 "HotBeds$Beds" "price" "[I", Cond.methodLink RX0 46 yX0_isFree, Cond.methodLink RX1 133 yX1_tryBed, Cond.instanceMethod yX1_tryBed, Cond.selects RX1 yX1_tryBed yX1_tryBed, Cond.code yX1_tryBed cX1_tryBed 5 none, Cond.fieldLink RX1 139 "HotBeds$Beds" "price" "[I", Cond.methodLink RX1 142 yX1_pawnBoots, Cond.instanceMethod yX1_pawnBoots, Cond.selects RX1 yX1_pawnBoots yX1_pawnBoots, Cond.code yX1_pawnBoots cX1_pawnBoots 2 none, Cond.methodLink RX1 77 yX2_earn, Cond.methodLink RX1 145 yX1_getInto, Cond.instanceMethod yX1_getInto]
def wsL_pass_r7 : List Cond := [Cond.selects RX1 yX1_getInto yX1_getInto, Cond.code yX1_getInto cX1_getInto 4 none, Cond.fieldLink RX1 148 "HotBeds$Beds" "paid" "[I", Cond.fieldLink RX1 151 "HotBeds$Beds" "entries" "[I", Cond.methodLink RX1 136 yX2_lieOnFloor, Cond.instanceMethod yX2_lieOnFloor, Cond.selects RX2 yX2_lieOnFloor yX2_lieOnFloor, Cond.code yX2_lieOnFloor cX2_lieOnFloor 2 none, Cond.methodLink RX1 54 yX1_restOfHour, Cond.instanceMethod yX1_restOfHour, Cond.selects RX1 yX1_restOfHour yX1_restOfHour, Cond.code yX1_restOfHour cX1_restOfHour 2 (some .int), Cond.methodLink RX1 154 yX0_isWarm, Cond.instanceMethod yX0_isWarm, Cond.selects RX0 yX0_isWarm yX0_isWarm, Cond.code yX0_isWarm cX0_isWarm 2 (some .boolean), Cond.fieldLink RX0 17 "HotBeds$Beds" "warmth" "[I", Cond.methodLink RX1 58 yX0_changeWarmth, Cond.instanceMethod yX0_changeWarmth, Cond.selects RX0 yX0_changeWarmth yX0_changeWarmth, Cond.code yX0_changeWarmth cX0_changeWarmth 2 none, Cond.methodLink RX0 49 Lib.Math.max.name, Cond.methodLink RX0 55 Lib.Math.min.name]
def wsL_pass : List Cond := .codeWith yL_pass cL_pass 4 (some .int) [(0, 9, 12, 13)] :: ((wsL_pass_r1 ++ (wsL_pass_r2 ++ (wsL_pass_r3 ++ (wsL_pass_r4 ++ (wsL_pass_r5 ++ (wsL_pass_r6 ++ wsL_pass_r7)))))) ++ wsX30 ++ wsX10 ++ wsX20 ++ wsX00 ++ (vx_atS RX3 23 "java/lang/IllegalArgumentException" ["java/lang/RuntimeException", "java/lang/Exception"]).filter goodWord)
def wsL_told_r1 : List Cond := [Cond.classLink RL 21 "java/lang/IndexOutOfBoundsException", Cond.methodLink RL 51 yX3_told, Cond.instanceMethod yX3_told, Cond.selects RX3 yX3_told yX3_told, Cond.initialized RX3, Cond.code yX3_told cX3_told 4 (some .int), Cond.classLink RX3 153 "java/lang/IndexOutOfBoundsException", Cond.initialized "java/lang/IndexOutOfBoundsException", Cond.fieldLink RX3 10 "HotBeds" "house" "LHotBeds$House;", Cond.fieldLink RX3 48 "HotBeds$House" "sailors" "LHotBeds$Sailors;", Cond.fieldLink RX3 119 "HotBeds$Sailors" "watch" "[I", Cond.fieldLink RX3 132 "HotBeds$Sailors" "heavy" "[I", Cond.fieldLink RX3 135 "HotBeds$Sailors" "wage" "[I", Cond.fieldLink RX3 82 "HotBeds$Sailors" "purse" "[I", Cond.fieldLink RX3 138 "HotBeds$Sailors" "boots" "[I", Cond.fieldLink RX3 61 "HotBeds$Sailors" "kept" "[I", Cond.fieldLink RX3 141 "HotBeds$Sailors" "place" "[I", Cond.fieldLink RX3 110 "HotBeds$Sailors" "bed" "[I", Cond.fieldLink RX3 144 "HotBeds$Sailors" "rest" "[I", Cond.fieldLink RX3 147 "HotBeds$Sailors" "late" "[I", Cond.fieldLink RX3 150 "HotBeds$Sailors" "floors" "[I", Cond.methodLink RX3 55 yX3_requireSailor, Cond.instanceMethod yX3_requireSailor, Cond.selects RX3 yX3_requireSailor yX3_requireSailor]
def wsL_told_r2 : List Cond := [Cond.code yX3_requireSailor cX3_requireSailor 2 none, Cond.fieldLink RX3 181 "HotBeds$Sailors" "size" "I"]
def wsL_told : List Cond := .codeWith yL_told cL_told 5 (some .int) [(0, 10, 13, 21)] :: ((wsL_told_r1 ++ wsL_told_r2) ++ wsX30 ++ wsX10 ++ wsX20 ++ (vx_atS RX3 157 "java/lang/IndexOutOfBoundsException" ["java/lang/RuntimeException", "java/lang/Exception"]).filter goodWord)
def wsL_about_r1 : List Cond := [Cond.classLink RL 21 "java/lang/IndexOutOfBoundsException", Cond.methodLink RL 54 yX3_about, Cond.instanceMethod yX3_about, Cond.selects RX3 yX3_about yX3_about, Cond.initialized RX3, Cond.code yX3_about cX3_about 4 (some .int), Cond.classLink RX3 153 "java/lang/IndexOutOfBoundsException", Cond.initialized "java/lang/IndexOutOfBoundsException", Cond.fieldLink RX3 10 "HotBeds" "house" "LHotBeds$House;", Cond.fieldLink RX3 26 "HotBeds$House" "beds" "LHotBeds$Beds;", Cond.fieldLink RX3 158 "HotBeds$Beds" "price" "[I", Cond.fieldLink RX3 161 "HotBeds$Beds" "warmth" "[I", Cond.fieldLink RX3 164 "HotBeds$Beds" "entries" "[I", Cond.fieldLink RX3 167 "HotBeds$Beds" "paid" "[I", Cond.fieldLink RX3 170 "HotBeds$Beds" "sleeper" "[I", Cond.methodLink RX3 58 yX3_requireBed, Cond.instanceMethod yX3_requireBed, Cond.selects RX3 yX3_requireBed yX3_requireBed, Cond.code yX3_requireBed cX3_requireBed 2 none, Cond.methodLink RX3 216 yX0_has, Cond.instanceMethod yX0_has, Cond.selects RX0 yX0_has yX0_has, Cond.initialized RX0, Cond.code yX0_has cX0_has 2 (some .boolean)]
def wsL_about_r2 : List Cond := [Cond.fieldLink RX0 7 "HotBeds$Beds" "size" "I"]
def wsL_about : List Cond := .codeWith yL_about cL_about 5 (some .int) [(0, 10, 13, 21)] :: ((wsL_about_r1 ++ wsL_about_r2) ++ wsX30 ++ wsX10 ++ wsX00 ++ (vx_atS RX3 157 "java/lang/IndexOutOfBoundsException" ["java/lang/RuntimeException", "java/lang/Exception"]).filter goodWord)
def wsL_count_r1 : List Cond := [Cond.classLink RL 21 "java/lang/IndexOutOfBoundsException", Cond.methodLink RL 57 yX3_count, Cond.instanceMethod yX3_count, Cond.selects RX3 yX3_count yX3_count, Cond.initialized RX3, Cond.code yX3_count cX3_count 2 (some .int), Cond.classLink RX3 153 "java/lang/IndexOutOfBoundsException", Cond.initialized "java/lang/IndexOutOfBoundsException", Cond.fieldLink RX3 10 "HotBeds" "house" "LHotBeds$House;", Cond.fieldLink RX3 175 "HotBeds$House" "hour" "I", Cond.fieldLink RX3 26 "HotBeds$House" "beds" "LHotBeds$Beds;", Cond.fieldLink RX3 178 "HotBeds$Beds" "size" "I", Cond.fieldLink RX3 48 "HotBeds$House" "sailors" "LHotBeds$Sailors;", Cond.fieldLink RX3 181 "HotBeds$Sailors" "size" "I", Cond.fieldLink RX3 67 "HotBeds$House" "bell" "I", Cond.fieldLink RX3 73 "HotBeds$House" "pawn" "I", Cond.methodLink RX3 182 yX1_watchNow, Cond.instanceMethod yX1_watchNow, Cond.selects RX1 yX1_watchNow yX1_watchNow, Cond.initialized RX1, Cond.code yX1_watchNow cX1_watchNow 1 (some .int), Cond.fieldLink RX1 7 "HotBeds$House" "hour" "I", Cond.methodLink RX3 185 yX2_howManyAt, Cond.instanceMethod yX2_howManyAt]
def wsL_count_r2 : List Cond := [Cond.selects RX2 yX2_howManyAt yX2_howManyAt, Cond.initialized RX2, Cond.code yX2_howManyAt cX2_howManyAt 4 (some .int), Cond.fieldLink RX2 7 "HotBeds$Sailors" "size" "I", Cond.fieldLink RX2 32 "HotBeds$Sailors" "place" "[I", Cond.methodLink RX3 188 yX2_allLate, Cond.instanceMethod yX2_allLate, Cond.selects RX2 yX2_allLate yX2_allLate, Cond.code yX2_allLate cX2_allLate 1 (some .int), Cond.fieldLink RX2 41 "HotBeds$Sailors" "late" "[I", Cond.methodLink RX2 82 yX2_sum, Cond.instanceMethod yX2_sum, Cond.selects RX2 yX2_sum yX2_sum, Cond.code yX2_sum cX2_sum 4 (some .int), Cond.methodLink RX3 125 yX2_allFloors, Cond.instanceMethod yX2_allFloors, Cond.selects RX2 yX2_allFloors yX2_allFloors, Cond.code yX2_allFloors cX2_allFloors 1 (some .int), Cond.fieldLink RX2 47 "HotBeds$Sailors" "floors" "[I"]
def wsL_count : List Cond := .codeWith yL_count cL_count 4 (some .int) [(0, 9, 12, 21)] :: ((wsL_count_r1 ++ wsL_count_r2) ++ wsX30 ++ wsX10 ++ wsX00 ++ wsX20 ++ (vx_atS RX3 157 "java/lang/IndexOutOfBoundsException" ["java/lang/RuntimeException", "java/lang/Exception"]).filter goodWord)
def wsL_would_r1 : List Cond := [Cond.classLink RL 21 "java/lang/IndexOutOfBoundsException", Cond.classLink RL 13 "java/lang/IllegalArgumentException", Cond.methodLink RL 60 yX3_would, Cond.instanceMethod yX3_would, Cond.selects RX3 yX3_would yX3_would, Cond.initialized RX3, Cond.code yX3_would cX3_would 3 (some .int), Cond.fieldLink RX3 16 "HotBeds" "trial" "LHotBeds$House;", Cond.fieldLink RX3 10 "HotBeds" "house" "LHotBeds$House;", Cond.fieldLink RX3 48 "HotBeds$House" "sailors" "LHotBeds$Sailors;", Cond.fieldLink RX3 144 "HotBeds$Sailors" "rest" "[I", Cond.methodLink RX3 55 yX3_requireSailor, Cond.instanceMethod yX3_requireSailor, Cond.selects RX3 yX3_requireSailor yX3_requireSailor, Cond.code yX3_requireSailor cX3_requireSailor 2 none, Cond.classLink RX3 153 "java/lang/IndexOutOfBoundsException", Cond.initialized "java/lang/IndexOutOfBoundsException", Cond.fieldLink RX3 181 "HotBeds$Sailors" "size" "I", Cond.methodLink RX3 122 yX3_requireHours, Cond.static yX3_requireHours, Cond.code yX3_requireHours cX3_requireHours 1 none, Cond.classLink RX3 19 "java/lang/IllegalArgumentException", Cond.initialized "java/lang/IllegalArgumentException", Cond.methodLink RX3 193 yX1_copyFrom]
def wsL_would_r2 : List Cond := [Cond.instanceMethod yX1_copyFrom, Cond.selects RX1 yX1_copyFrom yX1_copyFrom, Cond.initialized RX1, Cond.code yX1_copyFrom cX1_copyFrom 2 none, Cond.fieldLink RX1 7 "HotBeds$House" "hour" "I", Cond.fieldLink RX1 13 "HotBeds$House" "bell" "I", Cond.fieldLink RX1 16 "HotBeds$House" "pawn" "I", Cond.fieldLink RX1 22 "HotBeds$House" "beds" "LHotBeds$Beds;", Cond.fieldLink RX1 29 "HotBeds$House" "sailors" "LHotBeds$Sailors;", Cond.methodLink RX1 33 yX0_copyFrom, Cond.instanceMethod yX0_copyFrom, Cond.selects RX0 yX0_copyFrom yX0_copyFrom, Cond.initialized RX0, Cond.code yX0_copyFrom cX0_copyFrom 2 none, Cond.fieldLink RX0 7 "HotBeds$Beds" "size" "I", Cond.fieldLink RX0 13 "HotBeds$Beds" "price" "[I", Cond.fieldLink RX0 17 "HotBeds$Beds" "warmth" "[I", Cond.fieldLink RX0 20 "HotBeds$Beds" "entries" "[I", Cond.fieldLink RX0 23 "HotBeds$Beds" "paid" "[I", Cond.fieldLink RX0 26 "HotBeds$Beds" "sleeper" "[I", Cond.static yX3_copyRow, Cond.code yX3_copyRow cX3_copyRow 3 none, Cond.methodLink RX1 37 yX2_copyFrom, Cond.instanceMethod yX2_copyFrom]
def wsL_would_r3 : List Cond := [Cond.selects RX2 yX2_copyFrom yX2_copyFrom, Cond.initialized RX2, Cond.code yX2_copyFrom cX2_copyFrom 2 none, Cond.fieldLink RX2 7 "HotBeds$Sailors" "size" "I", Cond.fieldLink RX2 13 "HotBeds$Sailors" "watch" "[I", Cond.fieldLink RX2 17 "HotBeds$Sailors" "heavy" "[I", Cond.fieldLink RX2 20 "HotBeds$Sailors" "wage" "[I", Cond.fieldLink RX2 23 "HotBeds$Sailors" "purse" "[I", Cond.fieldLink RX2 26 "HotBeds$Sailors" "boots" "[I", Cond.fieldLink RX2 29 "HotBeds$Sailors" "kept" "[I", Cond.fieldLink RX2 32 "HotBeds$Sailors" "place" "[I", Cond.fieldLink RX2 35 "HotBeds$Sailors" "bed" "[I", Cond.fieldLink RX2 38 "HotBeds$Sailors" "rest" "[I", Cond.fieldLink RX2 41 "HotBeds$Sailors" "late" "[I", Cond.fieldLink RX2 44 "HotBeds$Sailors" "lateSincePay" "[I", Cond.fieldLink RX2 47 "HotBeds$Sailors" "floors" "[I", Cond.methodLink RX3 129 yX1_goOn, Cond.instanceMethod yX1_goOn, Cond.selects RX1 yX1_goOn yX1_goOn, Cond.code yX1_goOn cX1_goOn 4 none, Cond.fieldLink RX1 40 "HotBeds$Sailors" "size" "I", Cond.fieldLink RX1 50 "HotBeds$Sailors" "rest" "[I", Cond.methodLink RX1 43 yX1_ringBell, Cond.instanceMethod yX1_ringBell]
def wsL_would_r4 : List Cond := [Cond.selects RX1 yX1_ringBell yX1_ringBell, Cond.code yX1_ringBell cX1_ringBell 3 none, Cond.fieldLink RX1 96 "HotBeds$Sailors" "heavy" "[I", Cond.methodLink RX1 87 yX2_isUp, Cond.instanceMethod yX2_isUp, Cond.selects RX2 yX2_isUp yX2_isUp, Cond.code yX2_isUp cX2_isUp 2 (some .boolean), Cond.methodLink RX1 90 yX1_isInWatch, Cond.instanceMethod yX1_isInWatch, Cond.selects RX1 yX1_isInWatch yX1_isInWatch, Cond.code yX1_isInWatch cX1_isInWatch 2 (some .boolean), Cond.fieldLink RX1 105 "HotBeds$Sailors" "watch" "[I", Cond.methodLink RX1 108 yX1_watchNow, Cond.instanceMethod yX1_watchNow, Cond.selects RX1 yX1_watchNow yX1_watchNow, Cond.code yX1_watchNow cX1_watchNow 1 (some .int), Cond.methodLink RX1 93 yX1_hoursSinceWatch, Cond.instanceMethod yX1_hoursSinceWatch, Cond.selects RX1 yX1_hoursSinceWatch yX1_hoursSinceWatch, Cond.code yX1_hoursSinceWatch cX1_hoursSinceWatch 3 (some .int), Cond.methodLink RX1 99 yX1_getUp, Cond.instanceMethod yX1_getUp, Cond.selects RX1 yX1_getUp yX1_getUp, Cond.code yX1_getUp cX1_getUp 3 none]
def wsL_would_r5 : List Cond := [Cond.fieldLink RX1 61 "HotBeds$Sailors" "bed" "[I", Cond.fieldLink RX1 68 "HotBeds$Beds" "sleeper" "[I", Cond.fieldLink RX1 71 "HotBeds$Sailors" "place" "[I", Cond.methodLink RX1 64 yX0_has, Cond.instanceMethod yX0_has, Cond.selects RX0 yX0_has yX0_has, Cond.code yX0_has cX0_has 2 (some .boolean), Cond.methodLink RX1 102 yX2_beLate, Cond.instanceMethod yX2_beLate, Cond.selects RX2 yX2_beLate yX2_beLate, Cond.code yX2_beLate cX2_beLate 2 none, Cond.methodLink RX1 47 yX1_serve, Cond.instanceMethod yX1_serve, Cond.selects RX1 yX1_serve yX1_serve, Cond.code yX1_serve cX1_serve 2 none, Cond.methodLink RX1 112 yX2_payWage, Cond.instanceMethod yX2_payWage, Cond.selects RX2 yX2_payWage yX2_payWage, Cond.code yX2_payWage cX2_payWage 3 none, Cond.methodLink RX2 75 Lib.Math.max.name, Cond.static Lib.Math.max.name, Cond.initialized "java/lang/Math", Cond.code Lib.Math.max.name Lib.Math.max.code 2 (some .int), Cond.methodLink RX2 71 yX2_hasBoots]
def wsL_would_r6 : List Cond := [Cond.instanceMethod yX2_hasBoots, Cond.selects RX2 yX2_hasBoots yX2_hasBoots, Cond.code yX2_hasBoots cX2_hasBoots 2 (some .boolean), Cond.methodLink RX2 78 yX2_earn, Cond.instanceMethod yX2_earn, Cond.selects RX2 yX2_earn yX2_earn, Cond.code yX2_earn cX2_earn 3 none, Cond.methodLink RX2 65 Lib.Math.min.name, Cond.static Lib.Math.min.name, Cond.code Lib.Math.min.name Lib.Math.min.code 2 (some .int), Cond.methodLink RX1 115 yX1_canRedeemBoots, Cond.instanceMethod yX1_canRedeemBoots, Cond.selects RX1 yX1_canRedeemBoots yX1_canRedeemBoots, Cond.code yX1_canRedeemBoots cX1_canRedeemBoots 2 (some .boolean), Cond.fieldLink RX1 84 "HotBeds$Sailors" "purse" "[I", Cond.methodLink RX1 81 yX2_hasBoots, Cond.methodLink RX1 118 yX1_redeemBoots, Cond.instanceMethod yX1_redeemBoots, Cond.selects RX1 yX1_redeemBoots yX1_redeemBoots, Cond.code yX1_redeemBoots cX1_redeemBoots 2 none, Cond.fieldLink RX1 74 "HotBeds$Sailors" "boots" "[I", Cond.methodLink RX1 121 yX1_lookForBed, Cond.instanceMethod yX1_lookForBed, Cond.selects RX1 yX1_lookForBed yX1_lookForBed]
def wsL_would_r7 : List Cond := [Cond.code yX1_lookForBed cX1_lookForBed 4 none, Cond.fieldLink RX1 124 "HotBeds$Sailors" "kept" "[I", Cond.methodLink RX1 127 yX0_isFree, Cond.instanceMethod yX0_isFree, Cond.selects RX0 yX0_isFree yX0_isFree, Cond.code yX0_isFree cX0_isFree 2 (some .boolean), Cond.methodLink RX0 42 yX0_has, Cond.methodLink RX1 130 yX0_cheapestFree, Cond.instanceMethod yX0_cheapestFree, Cond.selects RX0 yX0_cheapestFree yX0_cheapestFree, Cond.code yX0_cheapestFree cX0_cheapestFree 3 (some .int), Cond.methodLink RX0 46 yX0_isFree, Cond.methodLink RX1 133 yX1_tryBed, Cond.instanceMethod yX1_tryBed, Cond.selects RX1 yX1_tryBed yX1_tryBed, Cond.code yX1_tryBed cX1_tryBed 5 none, Cond.fieldLink RX1 139 "HotBeds$Beds" "price" "[I", Cond.methodLink RX1 142 yX1_pawnBoots, Cond.instanceMethod yX1_pawnBoots, Cond.selects RX1 yX1_pawnBoots yX1_pawnBoots, Cond.code yX1_pawnBoots cX1_pawnBoots 2 none, Cond.methodLink RX1 77 yX2_earn, Cond.methodLink RX1 145 yX1_getInto, Cond.instanceMethod yX1_getInto]
def wsL_would_r8 : List Cond := [Cond.selects RX1 yX1_getInto yX1_getInto, Cond.code yX1_getInto cX1_getInto 4 none, Cond.fieldLink RX1 148 "HotBeds$Beds" "paid" "[I", Cond.fieldLink RX1 151 "HotBeds$Beds" "entries" "[I", Cond.methodLink RX1 136 yX2_lieOnFloor, Cond.instanceMethod yX2_lieOnFloor, Cond.selects RX2 yX2_lieOnFloor yX2_lieOnFloor, Cond.code yX2_lieOnFloor cX2_lieOnFloor 2 none, Cond.methodLink RX1 54 yX1_restOfHour, Cond.instanceMethod yX1_restOfHour, Cond.selects RX1 yX1_restOfHour yX1_restOfHour, Cond.code yX1_restOfHour cX1_restOfHour 2 (some .int), Cond.methodLink RX1 154 yX0_isWarm, Cond.instanceMethod yX0_isWarm, Cond.selects RX0 yX0_isWarm yX0_isWarm, Cond.code yX0_isWarm cX0_isWarm 2 (some .boolean), Cond.methodLink RX1 58 yX0_changeWarmth, Cond.instanceMethod yX0_changeWarmth, Cond.selects RX0 yX0_changeWarmth yX0_changeWarmth, Cond.code yX0_changeWarmth cX0_changeWarmth 2 none, Cond.methodLink RX0 49 Lib.Math.max.name, Cond.methodLink RX0 55 Lib.Math.min.name]
def wsL_would : List Cond := .codeWith yL_would cL_would 5 (some .int) [(0, 10, 13, 21), (0, 10, 17, 13)] :: ((wsL_would_r1 ++ (wsL_would_r2 ++ (wsL_would_r3 ++ (wsL_would_r4 ++ (wsL_would_r5 ++ (wsL_would_r6 ++ (wsL_would_r7 ++ wsL_would_r8))))))) ++ wsX30 ++ wsX10 ++ wsX20 ++ wsX00 ++ (vx_atS RX3 157 "java/lang/IndexOutOfBoundsException" ["java/lang/RuntimeException", "java/lang/Exception"]).filter goodWord ++ (vx_atS RX3 23 "java/lang/IllegalArgumentException" ["java/lang/RuntimeException", "java/lang/Exception"]).filter goodWord)
def wsL_until_r1 : List Cond := [Cond.classLink RL 21 "java/lang/IndexOutOfBoundsException", Cond.methodLink RL 63 yX3_until, Cond.instanceMethod yX3_until, Cond.selects RX3 yX3_until yX3_until, Cond.initialized RX3, Cond.code yX3_until cX3_until 3 (some .int), Cond.fieldLink RX3 16 "HotBeds" "trial" "LHotBeds$House;", Cond.fieldLink RX3 10 "HotBeds" "house" "LHotBeds$House;", Cond.fieldLink RX3 48 "HotBeds$House" "sailors" "LHotBeds$Sailors;", Cond.fieldLink RX3 141 "HotBeds$Sailors" "place" "[I", Cond.methodLink RX3 55 yX3_requireSailor, Cond.instanceMethod yX3_requireSailor, Cond.selects RX3 yX3_requireSailor yX3_requireSailor, Cond.code yX3_requireSailor cX3_requireSailor 2 none, Cond.classLink RX3 153 "java/lang/IndexOutOfBoundsException", Cond.initialized "java/lang/IndexOutOfBoundsException", Cond.fieldLink RX3 181 "HotBeds$Sailors" "size" "I", Cond.methodLink RX3 193 yX1_copyFrom, Cond.instanceMethod yX1_copyFrom, Cond.selects RX1 yX1_copyFrom yX1_copyFrom, Cond.initialized RX1, Cond.code yX1_copyFrom cX1_copyFrom 2 none, Cond.fieldLink RX1 7 "HotBeds$House" "hour" "I", Cond.fieldLink RX1 13 "HotBeds$House" "bell" "I"]
def wsL_until_r2 : List Cond := [Cond.fieldLink RX1 16 "HotBeds$House" "pawn" "I", Cond.fieldLink RX1 22 "HotBeds$House" "beds" "LHotBeds$Beds;", Cond.fieldLink RX1 29 "HotBeds$House" "sailors" "LHotBeds$Sailors;", Cond.methodLink RX1 33 yX0_copyFrom, Cond.instanceMethod yX0_copyFrom, Cond.selects RX0 yX0_copyFrom yX0_copyFrom, Cond.initialized RX0, Cond.code yX0_copyFrom cX0_copyFrom 2 none, Cond.fieldLink RX0 7 "HotBeds$Beds" "size" "I", Cond.fieldLink RX0 13 "HotBeds$Beds" "price" "[I", Cond.fieldLink RX0 17 "HotBeds$Beds" "warmth" "[I", Cond.fieldLink RX0 20 "HotBeds$Beds" "entries" "[I", Cond.fieldLink RX0 23 "HotBeds$Beds" "paid" "[I", Cond.fieldLink RX0 26 "HotBeds$Beds" "sleeper" "[I", Cond.static yX3_copyRow, Cond.code yX3_copyRow cX3_copyRow 3 none, Cond.methodLink RX1 37 yX2_copyFrom, Cond.instanceMethod yX2_copyFrom, Cond.selects RX2 yX2_copyFrom yX2_copyFrom, Cond.initialized RX2, Cond.code yX2_copyFrom cX2_copyFrom 2 none, Cond.fieldLink RX2 7 "HotBeds$Sailors" "size" "I", Cond.fieldLink RX2 13 "HotBeds$Sailors" "watch" "[I", Cond.fieldLink RX2 17 "HotBeds$Sailors" "heavy" "[I"]
def wsL_until_r3 : List Cond := [Cond.fieldLink RX2 20 "HotBeds$Sailors" "wage" "[I", Cond.fieldLink RX2 23 "HotBeds$Sailors" "purse" "[I", Cond.fieldLink RX2 26 "HotBeds$Sailors" "boots" "[I", Cond.fieldLink RX2 29 "HotBeds$Sailors" "kept" "[I", Cond.fieldLink RX2 32 "HotBeds$Sailors" "place" "[I", Cond.fieldLink RX2 35 "HotBeds$Sailors" "bed" "[I", Cond.fieldLink RX2 38 "HotBeds$Sailors" "rest" "[I", Cond.fieldLink RX2 41 "HotBeds$Sailors" "late" "[I", Cond.fieldLink RX2 44 "HotBeds$Sailors" "lateSincePay" "[I", Cond.fieldLink RX2 47 "HotBeds$Sailors" "floors" "[I", Cond.methodLink RX3 129 yX1_goOn, Cond.instanceMethod yX1_goOn, Cond.selects RX1 yX1_goOn yX1_goOn, Cond.code yX1_goOn cX1_goOn 4 none, Cond.fieldLink RX1 40 "HotBeds$Sailors" "size" "I", Cond.fieldLink RX1 50 "HotBeds$Sailors" "rest" "[I", Cond.methodLink RX1 43 yX1_ringBell, Cond.instanceMethod yX1_ringBell, Cond.selects RX1 yX1_ringBell yX1_ringBell, Cond.code yX1_ringBell cX1_ringBell 3 none, Cond.fieldLink RX1 96 "HotBeds$Sailors" "heavy" "[I", Cond.methodLink RX1 87 yX2_isUp, Cond.instanceMethod yX2_isUp, Cond.selects RX2 yX2_isUp yX2_isUp]
def wsL_until_r4 : List Cond := [Cond.code yX2_isUp cX2_isUp 2 (some .boolean), Cond.methodLink RX1 90 yX1_isInWatch, Cond.instanceMethod yX1_isInWatch, Cond.selects RX1 yX1_isInWatch yX1_isInWatch, Cond.code yX1_isInWatch cX1_isInWatch 2 (some .boolean), Cond.fieldLink RX1 105 "HotBeds$Sailors" "watch" "[I", Cond.methodLink RX1 108 yX1_watchNow, Cond.instanceMethod yX1_watchNow, Cond.selects RX1 yX1_watchNow yX1_watchNow, Cond.code yX1_watchNow cX1_watchNow 1 (some .int), Cond.methodLink RX1 93 yX1_hoursSinceWatch, Cond.instanceMethod yX1_hoursSinceWatch, Cond.selects RX1 yX1_hoursSinceWatch yX1_hoursSinceWatch, Cond.code yX1_hoursSinceWatch cX1_hoursSinceWatch 3 (some .int), Cond.methodLink RX1 99 yX1_getUp, Cond.instanceMethod yX1_getUp, Cond.selects RX1 yX1_getUp yX1_getUp, Cond.code yX1_getUp cX1_getUp 3 none, Cond.fieldLink RX1 61 "HotBeds$Sailors" "bed" "[I", Cond.fieldLink RX1 68 "HotBeds$Beds" "sleeper" "[I", Cond.fieldLink RX1 71 "HotBeds$Sailors" "place" "[I", Cond.methodLink RX1 64 yX0_has, Cond.instanceMethod yX0_has, Cond.selects RX0 yX0_has yX0_has]
def wsL_until_r5 : List Cond := [Cond.code yX0_has cX0_has 2 (some .boolean), Cond.methodLink RX1 102 yX2_beLate, Cond.instanceMethod yX2_beLate, Cond.selects RX2 yX2_beLate yX2_beLate, Cond.code yX2_beLate cX2_beLate 2 none, Cond.methodLink RX1 47 yX1_serve, Cond.instanceMethod yX1_serve, Cond.selects RX1 yX1_serve yX1_serve, Cond.code yX1_serve cX1_serve 2 none, Cond.methodLink RX1 112 yX2_payWage, Cond.instanceMethod yX2_payWage, Cond.selects RX2 yX2_payWage yX2_payWage, Cond.code yX2_payWage cX2_payWage 3 none, Cond.methodLink RX2 75 Lib.Math.max.name, Cond.static Lib.Math.max.name, Cond.initialized "java/lang/Math", Cond.code Lib.Math.max.name Lib.Math.max.code 2 (some .int), Cond.methodLink RX2 71 yX2_hasBoots, Cond.instanceMethod yX2_hasBoots, Cond.selects RX2 yX2_hasBoots yX2_hasBoots, Cond.code yX2_hasBoots cX2_hasBoots 2 (some .boolean), Cond.methodLink RX2 78 yX2_earn, Cond.instanceMethod yX2_earn, Cond.selects RX2 yX2_earn yX2_earn]
def wsL_until_r6 : List Cond := [Cond.code yX2_earn cX2_earn 3 none, Cond.methodLink RX2 65 Lib.Math.min.name, Cond.static Lib.Math.min.name, Cond.code Lib.Math.min.name Lib.Math.min.code 2 (some .int), Cond.methodLink RX1 115 yX1_canRedeemBoots, Cond.instanceMethod yX1_canRedeemBoots, Cond.selects RX1 yX1_canRedeemBoots yX1_canRedeemBoots, Cond.code yX1_canRedeemBoots cX1_canRedeemBoots 2 (some .boolean), Cond.fieldLink RX1 84 "HotBeds$Sailors" "purse" "[I", Cond.methodLink RX1 81 yX2_hasBoots, Cond.methodLink RX1 118 yX1_redeemBoots, Cond.instanceMethod yX1_redeemBoots, Cond.selects RX1 yX1_redeemBoots yX1_redeemBoots, Cond.code yX1_redeemBoots cX1_redeemBoots 2 none, Cond.fieldLink RX1 74 "HotBeds$Sailors" "boots" "[I", Cond.methodLink RX1 121 yX1_lookForBed, Cond.instanceMethod yX1_lookForBed, Cond.selects RX1 yX1_lookForBed yX1_lookForBed, Cond.code yX1_lookForBed cX1_lookForBed 4 none, Cond.fieldLink RX1 124 "HotBeds$Sailors" "kept" "[I", Cond.methodLink RX1 127 yX0_isFree, Cond.instanceMethod yX0_isFree, Cond.selects RX0 yX0_isFree yX0_isFree, Cond.code yX0_isFree cX0_isFree 2 (some .boolean)]
def wsL_until_r7 : List Cond := [Cond.methodLink RX0 42 yX0_has, Cond.methodLink RX1 130 yX0_cheapestFree, Cond.instanceMethod yX0_cheapestFree, Cond.selects RX0 yX0_cheapestFree yX0_cheapestFree, Cond.code yX0_cheapestFree cX0_cheapestFree 3 (some .int), Cond.methodLink RX0 46 yX0_isFree, Cond.methodLink RX1 133 yX1_tryBed, Cond.instanceMethod yX1_tryBed, Cond.selects RX1 yX1_tryBed yX1_tryBed, Cond.code yX1_tryBed cX1_tryBed 5 none, Cond.fieldLink RX1 139 "HotBeds$Beds" "price" "[I", Cond.methodLink RX1 142 yX1_pawnBoots, Cond.instanceMethod yX1_pawnBoots, Cond.selects RX1 yX1_pawnBoots yX1_pawnBoots, Cond.code yX1_pawnBoots cX1_pawnBoots 2 none, Cond.methodLink RX1 77 yX2_earn, Cond.methodLink RX1 145 yX1_getInto, Cond.instanceMethod yX1_getInto, Cond.selects RX1 yX1_getInto yX1_getInto, Cond.code yX1_getInto cX1_getInto 4 none, Cond.fieldLink RX1 148 "HotBeds$Beds" "paid" "[I", Cond.fieldLink RX1 151 "HotBeds$Beds" "entries" "[I", Cond.methodLink RX1 136 yX2_lieOnFloor, Cond.instanceMethod yX2_lieOnFloor]
def wsL_until_r8 : List Cond := [Cond.selects RX2 yX2_lieOnFloor yX2_lieOnFloor, Cond.code yX2_lieOnFloor cX2_lieOnFloor 2 none, Cond.methodLink RX1 54 yX1_restOfHour, Cond.instanceMethod yX1_restOfHour, Cond.selects RX1 yX1_restOfHour yX1_restOfHour, Cond.code yX1_restOfHour cX1_restOfHour 2 (some .int), Cond.methodLink RX1 154 yX0_isWarm, Cond.instanceMethod yX0_isWarm, Cond.selects RX0 yX0_isWarm yX0_isWarm, Cond.code yX0_isWarm cX0_isWarm 2 (some .boolean), Cond.methodLink RX1 58 yX0_changeWarmth, Cond.instanceMethod yX0_changeWarmth, Cond.selects RX0 yX0_changeWarmth yX0_changeWarmth, Cond.code yX0_changeWarmth cX0_changeWarmth 2 none, Cond.methodLink RX0 49 Lib.Math.max.name, Cond.methodLink RX0 55 Lib.Math.min.name]
def wsL_until : List Cond := .codeWith yL_until cL_until 4 (some .int) [(0, 9, 12, 21)] :: ((wsL_until_r1 ++ (wsL_until_r2 ++ (wsL_until_r3 ++ (wsL_until_r4 ++ (wsL_until_r5 ++ (wsL_until_r6 ++ (wsL_until_r7 ++ wsL_until_r8))))))) ++ wsX30 ++ wsX10 ++ wsX20 ++ wsX00 ++ (vx_atS RX3 157 "java/lang/IndexOutOfBoundsException" ["java/lang/RuntimeException", "java/lang/Exception"]).filter goodWord)
def wsL_advise_r1 : List Cond := [Cond.classLink RL 21 "java/lang/IndexOutOfBoundsException", Cond.classLink RL 15 "java/lang/IllegalStateException", Cond.methodLink RL 66 yX3_advise, Cond.instanceMethod yX3_advise, Cond.selects RX3 yX3_advise yX3_advise, Cond.initialized RX3, Cond.code yX3_advise cX3_advise 6 (some .int), Cond.fieldLink RX3 16 "HotBeds" "trial" "LHotBeds$House;", Cond.fieldLink RX3 10 "HotBeds" "house" "LHotBeds$House;", Cond.fieldLink RX3 48 "HotBeds$House" "sailors" "LHotBeds$Sailors;", Cond.fieldLink RX3 119 "HotBeds$Sailors" "watch" "[I", Cond.fieldLink RX3 144 "HotBeds$Sailors" "rest" "[I", Cond.methodLink RX3 55 yX3_requireSailor, Cond.instanceMethod yX3_requireSailor, Cond.selects RX3 yX3_requireSailor yX3_requireSailor, Cond.code yX3_requireSailor cX3_requireSailor 2 none, Cond.classLink RX3 153 "java/lang/IndexOutOfBoundsException", Cond.initialized "java/lang/IndexOutOfBoundsException", Cond.fieldLink RX3 181 "HotBeds$Sailors" "size" "I", Cond.methodLink RX3 116 yX3_requireUp, Cond.instanceMethod yX3_requireUp, Cond.selects RX3 yX3_requireUp yX3_requireUp, Cond.code yX3_requireUp cX3_requireUp 2 none, Cond.classLink RX3 89 "java/lang/IllegalStateException"]
def wsL_advise_r2 : List Cond := [Cond.initialized "java/lang/IllegalStateException", Cond.methodLink RX3 105 yX2_isUp, Cond.instanceMethod yX2_isUp, Cond.selects RX2 yX2_isUp yX2_isUp, Cond.initialized RX2, Cond.code yX2_isUp cX2_isUp 2 (some .boolean), Cond.fieldLink RX2 32 "HotBeds$Sailors" "place" "[I", Cond.methodLink RX3 193 yX1_copyFrom, Cond.instanceMethod yX1_copyFrom, Cond.selects RX1 yX1_copyFrom yX1_copyFrom, Cond.initialized RX1, Cond.code yX1_copyFrom cX1_copyFrom 2 none, Cond.fieldLink RX1 7 "HotBeds$House" "hour" "I", Cond.fieldLink RX1 13 "HotBeds$House" "bell" "I", Cond.fieldLink RX1 16 "HotBeds$House" "pawn" "I", Cond.fieldLink RX1 22 "HotBeds$House" "beds" "LHotBeds$Beds;", Cond.fieldLink RX1 29 "HotBeds$House" "sailors" "LHotBeds$Sailors;", Cond.methodLink RX1 33 yX0_copyFrom, Cond.instanceMethod yX0_copyFrom, Cond.selects RX0 yX0_copyFrom yX0_copyFrom, Cond.initialized RX0, Cond.code yX0_copyFrom cX0_copyFrom 2 none, Cond.fieldLink RX0 7 "HotBeds$Beds" "size" "I", Cond.fieldLink RX0 13 "HotBeds$Beds" "price" "[I"]
def wsL_advise_r3 : List Cond := [Cond.fieldLink RX0 17 "HotBeds$Beds" "warmth" "[I", Cond.fieldLink RX0 20 "HotBeds$Beds" "entries" "[I", Cond.fieldLink RX0 23 "HotBeds$Beds" "paid" "[I", Cond.fieldLink RX0 26 "HotBeds$Beds" "sleeper" "[I", Cond.static yX3_copyRow, Cond.code yX3_copyRow cX3_copyRow 3 none, Cond.methodLink RX1 37 yX2_copyFrom, Cond.instanceMethod yX2_copyFrom, Cond.selects RX2 yX2_copyFrom yX2_copyFrom, Cond.code yX2_copyFrom cX2_copyFrom 2 none, Cond.fieldLink RX2 7 "HotBeds$Sailors" "size" "I", Cond.fieldLink RX2 13 "HotBeds$Sailors" "watch" "[I", Cond.fieldLink RX2 17 "HotBeds$Sailors" "heavy" "[I", Cond.fieldLink RX2 20 "HotBeds$Sailors" "wage" "[I", Cond.fieldLink RX2 23 "HotBeds$Sailors" "purse" "[I", Cond.fieldLink RX2 26 "HotBeds$Sailors" "boots" "[I", Cond.fieldLink RX2 29 "HotBeds$Sailors" "kept" "[I", Cond.fieldLink RX2 35 "HotBeds$Sailors" "bed" "[I", Cond.fieldLink RX2 38 "HotBeds$Sailors" "rest" "[I", Cond.fieldLink RX2 41 "HotBeds$Sailors" "late" "[I", Cond.fieldLink RX2 44 "HotBeds$Sailors" "lateSincePay" "[I", Cond.fieldLink RX2 47 "HotBeds$Sailors" "floors" "[I", Cond.methodLink RX3 129 yX1_goOn, Cond.instanceMethod yX1_goOn]
def wsL_advise_r4 : List Cond := [Cond.selects RX1 yX1_goOn yX1_goOn, Cond.code yX1_goOn cX1_goOn 4 none, Cond.fieldLink RX1 40 "HotBeds$Sailors" "size" "I", Cond.fieldLink RX1 50 "HotBeds$Sailors" "rest" "[I", Cond.methodLink RX1 43 yX1_ringBell, Cond.instanceMethod yX1_ringBell, Cond.selects RX1 yX1_ringBell yX1_ringBell, Cond.code yX1_ringBell cX1_ringBell 3 none, Cond.fieldLink RX1 96 "HotBeds$Sailors" "heavy" "[I", Cond.methodLink RX1 87 yX2_isUp, Cond.methodLink RX1 90 yX1_isInWatch, Cond.instanceMethod yX1_isInWatch, Cond.selects RX1 yX1_isInWatch yX1_isInWatch, Cond.code yX1_isInWatch cX1_isInWatch 2 (some .boolean), Cond.fieldLink RX1 105 "HotBeds$Sailors" "watch" "[I", Cond.methodLink RX1 108 yX1_watchNow, Cond.instanceMethod yX1_watchNow, Cond.selects RX1 yX1_watchNow yX1_watchNow, Cond.code yX1_watchNow cX1_watchNow 1 (some .int), Cond.methodLink RX1 93 yX1_hoursSinceWatch, Cond.instanceMethod yX1_hoursSinceWatch, Cond.selects RX1 yX1_hoursSinceWatch yX1_hoursSinceWatch, Cond.code yX1_hoursSinceWatch cX1_hoursSinceWatch 3 (some .int), Cond.methodLink RX1 99 yX1_getUp]
def wsL_advise_r5 : List Cond := [Cond.instanceMethod yX1_getUp, Cond.selects RX1 yX1_getUp yX1_getUp, Cond.code yX1_getUp cX1_getUp 3 none, Cond.fieldLink RX1 61 "HotBeds$Sailors" "bed" "[I", Cond.fieldLink RX1 68 "HotBeds$Beds" "sleeper" "[I", Cond.fieldLink RX1 71 "HotBeds$Sailors" "place" "[I", Cond.methodLink RX1 64 yX0_has, Cond.instanceMethod yX0_has, Cond.selects RX0 yX0_has yX0_has, Cond.code yX0_has cX0_has 2 (some .boolean), Cond.methodLink RX1 102 yX2_beLate, Cond.instanceMethod yX2_beLate, Cond.selects RX2 yX2_beLate yX2_beLate, Cond.code yX2_beLate cX2_beLate 2 none, Cond.methodLink RX1 47 yX1_serve, Cond.instanceMethod yX1_serve, Cond.selects RX1 yX1_serve yX1_serve, Cond.code yX1_serve cX1_serve 2 none, Cond.methodLink RX1 112 yX2_payWage, Cond.instanceMethod yX2_payWage, Cond.selects RX2 yX2_payWage yX2_payWage, Cond.code yX2_payWage cX2_payWage 3 none, Cond.methodLink RX2 75 Lib.Math.max.name, Cond.static Lib.Math.max.name]
def wsL_advise_r6 : List Cond := [Cond.initialized "java/lang/Math", Cond.code Lib.Math.max.name Lib.Math.max.code 2 (some .int), Cond.methodLink RX2 71 yX2_hasBoots, Cond.instanceMethod yX2_hasBoots, Cond.selects RX2 yX2_hasBoots yX2_hasBoots, Cond.code yX2_hasBoots cX2_hasBoots 2 (some .boolean), Cond.methodLink RX2 78 yX2_earn, Cond.instanceMethod yX2_earn, Cond.selects RX2 yX2_earn yX2_earn, Cond.code yX2_earn cX2_earn 3 none, Cond.methodLink RX2 65 Lib.Math.min.name, Cond.static Lib.Math.min.name, Cond.code Lib.Math.min.name Lib.Math.min.code 2 (some .int), Cond.methodLink RX1 115 yX1_canRedeemBoots, Cond.instanceMethod yX1_canRedeemBoots, Cond.selects RX1 yX1_canRedeemBoots yX1_canRedeemBoots, Cond.code yX1_canRedeemBoots cX1_canRedeemBoots 2 (some .boolean), Cond.fieldLink RX1 84 "HotBeds$Sailors" "purse" "[I", Cond.methodLink RX1 81 yX2_hasBoots, Cond.methodLink RX1 118 yX1_redeemBoots, Cond.instanceMethod yX1_redeemBoots, Cond.selects RX1 yX1_redeemBoots yX1_redeemBoots, Cond.code yX1_redeemBoots cX1_redeemBoots 2 none, Cond.fieldLink RX1 74 "HotBeds$Sailors" "boots" "[I"]
def wsL_advise_r7 : List Cond := [Cond.methodLink RX1 121 yX1_lookForBed, Cond.instanceMethod yX1_lookForBed, Cond.selects RX1 yX1_lookForBed yX1_lookForBed, Cond.code yX1_lookForBed cX1_lookForBed 4 none, Cond.fieldLink RX1 124 "HotBeds$Sailors" "kept" "[I", Cond.methodLink RX1 127 yX0_isFree, Cond.instanceMethod yX0_isFree, Cond.selects RX0 yX0_isFree yX0_isFree, Cond.code yX0_isFree cX0_isFree 2 (some .boolean), Cond.methodLink RX0 42 yX0_has, Cond.methodLink RX1 130 yX0_cheapestFree, Cond.instanceMethod yX0_cheapestFree, Cond.selects RX0 yX0_cheapestFree yX0_cheapestFree, Cond.code yX0_cheapestFree cX0_cheapestFree 3 (some .int), Cond.methodLink RX0 46 yX0_isFree, Cond.methodLink RX1 133 yX1_tryBed, Cond.instanceMethod yX1_tryBed, Cond.selects RX1 yX1_tryBed yX1_tryBed, Cond.code yX1_tryBed cX1_tryBed 5 none, Cond.fieldLink RX1 139 "HotBeds$Beds" "price" "[I", Cond.methodLink RX1 142 yX1_pawnBoots, Cond.instanceMethod yX1_pawnBoots, Cond.selects RX1 yX1_pawnBoots yX1_pawnBoots, Cond.code yX1_pawnBoots cX1_pawnBoots 2 none]
def wsL_advise_r8 : List Cond := [Cond.methodLink RX1 77 yX2_earn, Cond.methodLink RX1 145 yX1_getInto, Cond.instanceMethod yX1_getInto, Cond.selects RX1 yX1_getInto yX1_getInto, Cond.code yX1_getInto cX1_getInto 4 none, Cond.fieldLink RX1 148 "HotBeds$Beds" "paid" "[I", Cond.fieldLink RX1 151 "HotBeds$Beds" "entries" "[I", Cond.methodLink RX1 136 yX2_lieOnFloor, Cond.instanceMethod yX2_lieOnFloor, Cond.selects RX2 yX2_lieOnFloor yX2_lieOnFloor, Cond.code yX2_lieOnFloor cX2_lieOnFloor 2 none, Cond.methodLink RX1 54 yX1_restOfHour, Cond.instanceMethod yX1_restOfHour, Cond.selects RX1 yX1_restOfHour yX1_restOfHour, Cond.code yX1_restOfHour cX1_restOfHour 2 (some .int), Cond.methodLink RX1 154 yX0_isWarm, Cond.instanceMethod yX0_isWarm, Cond.selects RX0 yX0_isWarm yX0_isWarm, Cond.code yX0_isWarm cX0_isWarm 2 (some .boolean), Cond.methodLink RX1 58 yX0_changeWarmth, Cond.instanceMethod yX0_changeWarmth, Cond.selects RX0 yX0_changeWarmth yX0_changeWarmth, Cond.code yX0_changeWarmth cX0_changeWarmth 2 none, Cond.methodLink RX0 49 Lib.Math.max.name]
def wsL_advise_r9 : List Cond := [Cond.methodLink RX0 55 Lib.Math.min.name]
def wsL_advise : List Cond := .codeWith yL_advise cL_advise 4 (some .int) [(0, 9, 12, 21), (0, 9, 15, 15)] :: ((wsL_advise_r1 ++ (wsL_advise_r2 ++ (wsL_advise_r3 ++ (wsL_advise_r4 ++ (wsL_advise_r5 ++ (wsL_advise_r6 ++ (wsL_advise_r7 ++ (wsL_advise_r8 ++ wsL_advise_r9)))))))) ++ wsX30 ++ wsX10 ++ wsX20 ++ wsX00 ++ (vx_atS RX3 157 "java/lang/IndexOutOfBoundsException" ["java/lang/RuntimeException", "java/lang/Exception"]).filter goodWord ++ (vx_atS RX3 93 "java/lang/IllegalStateException" ["java/lang/RuntimeException", "java/lang/Exception"]).filter goodWord)
def wsL_law0_r1 : List Cond := [Cond.classLink RL 8 RX3, Cond.instantiable RX3 2, Cond.initialized RX3, Cond.classLink RL 70 RX4, Cond.instantiable RX4 8, Cond.initialized RX4, Cond.arrayClass .long, Cond.methodLink RL 69 yX3_init, Cond.instanceMethod yX3_init, Cond.code yX3_init cX3_init 1 none, Cond.methodLink RX3 1 objectInit, Cond.instanceMethod objectInit, Cond.code objectInit ⟨#[0xb1]⟩ 1 none, Cond.classLink RX3 7 RX1, Cond.instantiable RX1 5, Cond.initialized RX1, Cond.fieldLink RX3 10 "HotBeds" "house" "LHotBeds$House;", Cond.fieldLink RX3 16 "HotBeds" "trial" "LHotBeds$House;", Cond.instanceMethod yX1_init, Cond.code yX1_init cX1_init 1 none, Cond.methodLink RX1 1 objectInit, Cond.fieldLink RX1 7 "HotBeds$House" "hour" "I", Cond.fieldLink RX1 13 "HotBeds$House" "bell" "I", Cond.fieldLink RX1 16 "HotBeds$House" "pawn" "I"]
def wsL_law0_r2 : List Cond := [Cond.classLink RX1 19 RX0, Cond.instantiable RX0 6, Cond.initialized RX0, Cond.fieldLink RX1 22 "HotBeds$House" "beds" "LHotBeds$Beds;", Cond.classLink RX1 26 RX2, Cond.instantiable RX2 13, Cond.initialized RX2, Cond.fieldLink RX1 29 "HotBeds$House" "sailors" "LHotBeds$Sailors;", Cond.instanceMethod yX0_init, Cond.code yX0_init cX0_init 1 none, Cond.methodLink RX0 1 objectInit, Cond.fieldLink RX0 7 "HotBeds$Beds" "size" "I", Cond.arrayClass .int, Cond.fieldLink RX0 13 "HotBeds$Beds" "price" "[I", Cond.fieldLink RX0 17 "HotBeds$Beds" "warmth" "[I", Cond.fieldLink RX0 20 "HotBeds$Beds" "entries" "[I", Cond.fieldLink RX0 23 "HotBeds$Beds" "paid" "[I", Cond.fieldLink RX0 26 "HotBeds$Beds" "sleeper" "[I", Cond.instanceMethod yX2_init, Cond.code yX2_init cX2_init 1 none, Cond.methodLink RX2 1 objectInit, Cond.fieldLink RX2 7 "HotBeds$Sailors" "size" "I", Cond.fieldLink RX2 13 "HotBeds$Sailors" "watch" "[I", Cond.fieldLink RX2 17 "HotBeds$Sailors" "heavy" "[I"]
def wsL_law0_r3 : List Cond := [Cond.fieldLink RX2 20 "HotBeds$Sailors" "wage" "[I", Cond.fieldLink RX2 23 "HotBeds$Sailors" "purse" "[I", Cond.fieldLink RX2 26 "HotBeds$Sailors" "boots" "[I", Cond.fieldLink RX2 29 "HotBeds$Sailors" "kept" "[I", Cond.fieldLink RX2 32 "HotBeds$Sailors" "place" "[I", Cond.fieldLink RX2 35 "HotBeds$Sailors" "bed" "[I", Cond.fieldLink RX2 38 "HotBeds$Sailors" "rest" "[I", Cond.fieldLink RX2 41 "HotBeds$Sailors" "late" "[I", Cond.fieldLink RX2 44 "HotBeds$Sailors" "lateSincePay" "[I", Cond.fieldLink RX2 47 "HotBeds$Sailors" "floors" "[I", Cond.methodLink RL 72 yX4_init, Cond.instanceMethod yX4_init, Cond.code yX4_init cX4_init 1 none, Cond.methodLink RX4 1 objectInit, Cond.fieldLink RX4 9 "HotBedsModel" "prices" "[I", Cond.fieldLink RX4 13 "HotBedsModel" "heavy" "[I", Cond.fieldLink RX4 16 "HotBedsModel" "wages" "[I", Cond.fieldLink RX4 19 "HotBedsModel" "now" "[I", Cond.fieldLink RX4 22 "HotBedsModel" "kept" "[I", Cond.methodLink RL 73 yL_bed, Cond.static yL_bed, Cond.initialized RL, Cond.codeWith yL_bed cL_bed 4 (some .int) [(0, 9, 12, 13), (0, 9, 15, 15)], Cond.classLink RL 13 "java/lang/IllegalArgumentException"]
def wsL_law0_r4 : List Cond := [Cond.classLink RL 15 "java/lang/IllegalStateException", Cond.methodLink RL 7 yX3_bed, Cond.instanceMethod yX3_bed, Cond.selects RX3 yX3_bed yX3_bed, Cond.code yX3_bed cX3_bed 2 (some .int), Cond.classLink RX3 19 "java/lang/IllegalArgumentException", Cond.initialized "java/lang/IllegalArgumentException", Cond.fieldLink RX3 26 "HotBeds$House" "beds" "LHotBeds$Beds;", Cond.methodLink RX3 30 yX0_add, Cond.instanceMethod yX0_add, Cond.selects RX0 yX0_add yX0_add, Cond.code yX0_add cX0_add 3 (some .int), Cond.classLink RX0 29 "java/lang/IllegalStateException", Cond.initialized "java/lang/IllegalStateException", Cond.methodLink RL 78 yX4_bed, Cond.instanceMethod yX4_bed, Cond.selects RX4 yX4_bed yX4_bed, Cond.code yX4_bed cX4_bed 2 (some .int), Cond.fieldLink RX4 25 "HotBedsModel" "thrown" "I", Cond.fieldLink RX4 29 "HotBedsModel" "beds" "I", Cond.methodLink RX4 32 yX4_isIn, Cond.static yX4_isIn, Cond.code yX4_isIn cX4_isIn 3 (some .boolean), Cond.methodLink RX4 45 yX4_fail]
def wsL_law0_r5 : List Cond := [Cond.instanceMethod yX4_fail, Cond.selects RX4 yX4_fail yX4_fail, Cond.code yX4_fail cX4_fail 2 (some .int), Cond.methodLink RX4 49 yX4_letBed, Cond.instanceMethod yX4_letBed, Cond.selects RX4 yX4_letBed yX4_letBed, Cond.code yX4_letBed cX4_letBed 4 none, Cond.methodLink RL 79 yX4_thrown, Cond.instanceMethod yX4_thrown, Cond.selects RX4 yX4_thrown yX4_thrown, Cond.code yX4_thrown cX4_thrown 1 (some .int), Cond.methodLink RL 83 yL_sailor, Cond.static yL_sailor, Cond.codeWith yL_sailor cL_sailor 7 (some .int) [(0, 14, 17, 21), (0, 14, 21, 13), (0, 14, 25, 15)], Cond.classLink RL 21 "java/lang/IndexOutOfBoundsException", Cond.methodLink RL 17 yX3_sailor, Cond.instanceMethod yX3_sailor, Cond.selects RX3 yX3_sailor yX3_sailor, Cond.code yX3_sailor cX3_sailor 5 (some .int), Cond.fieldLink RX3 48 "HotBeds$House" "sailors" "LHotBeds$Sailors;", Cond.methodLink RX3 36 yX3_requireWatch, Cond.static yX3_requireWatch, Cond.code yX3_requireWatch cX3_requireWatch 1 none, Cond.classLink RX3 153 "java/lang/IndexOutOfBoundsException"]
def wsL_law0_r6 : List Cond := [Cond.initialized "java/lang/IndexOutOfBoundsException", Cond.methodLink RX3 52 yX2_add, Cond.instanceMethod yX2_add, Cond.selects RX2 yX2_add yX2_add, Cond.code yX2_add cX2_add 6 (some .int), Cond.classLink RX2 50 "java/lang/IllegalStateException", Cond.methodLink RL 86 yX4_sailor, Cond.instanceMethod yX4_sailor, Cond.selects RX4 yX4_sailor yX4_sailor, Cond.code yX4_sailor cX4_sailor 5 (some .int), Cond.fieldLink RX4 36 "HotBedsModel" "sailors" "I", Cond.methodLink RX4 53 yX4_let, Cond.instanceMethod yX4_let, Cond.selects RX4 yX4_let yX4_let, Cond.code yX4_let cX4_let 4 none, Cond.methodLink RL 87 yL_keep, Cond.static yL_keep, Cond.codeWith yL_keep cL_keep 5 (some .int) [(0, 10, 13, 21)], Cond.methodLink RL 23 yX3_keep, Cond.instanceMethod yX3_keep, Cond.selects RX3 yX3_keep yX3_keep, Cond.code yX3_keep cX3_keep 4 (some .int), Cond.fieldLink RX3 61 "HotBeds$Sailors" "kept" "[I", Cond.methodLink RX3 55 yX3_requireSailor]
def wsL_law0_r7 : List Cond := [Cond.instanceMethod yX3_requireSailor, Cond.selects RX3 yX3_requireSailor yX3_requireSailor, Cond.code yX3_requireSailor cX3_requireSailor 2 none, Cond.fieldLink RX3 181 "HotBeds$Sailors" "size" "I", Cond.methodLink RX3 58 yX3_requireBed, Cond.instanceMethod yX3_requireBed, Cond.selects RX3 yX3_requireBed yX3_requireBed, Cond.code yX3_requireBed cX3_requireBed 2 none, Cond.methodLink RX3 216 yX0_has, Cond.instanceMethod yX0_has, Cond.selects RX0 yX0_has yX0_has, Cond.code yX0_has cX0_has 2 (some .boolean), Cond.methodLink RL 90 yX4_keep_, Cond.instanceMethod yX4_keep_, Cond.selects RX4 yX4_keep_ yX4_keep_, Cond.code yX4_keep_ cX4_keep_ 4 (some .int), Cond.methodLink RX4 56 yX4_isSailor, Cond.instanceMethod yX4_isSailor, Cond.selects RX4 yX4_isSailor yX4_isSailor, Cond.code yX4_isSailor cX4_isSailor 2 (some .boolean), Cond.methodLink RX4 60 yX4_isBed, Cond.instanceMethod yX4_isBed, Cond.selects RX4 yX4_isBed yX4_isBed, Cond.code yX4_isBed cX4_isBed 2 (some .boolean)]
def wsL_law0_r8 : List Cond := [Cond.methodLink RX4 63 yX4_sa, Cond.instanceMethod yX4_sa, Cond.selects RX4 yX4_sa yX4_sa, Cond.code yX4_sa cX4_sa 3 (some .int), Cond.methodLink RL 91 yL_setBell, Cond.static yL_setBell, Cond.codeWith yL_setBell cL_setBell 4 (some .int) [(0, 9, 12, 13)], Cond.methodLink RL 27 yX3_setBell, Cond.instanceMethod yX3_setBell, Cond.selects RX3 yX3_setBell yX3_setBell, Cond.code yX3_setBell cX3_setBell 3 (some .int), Cond.fieldLink RX3 67 "HotBeds$House" "bell" "I", Cond.methodLink RL 93 yX4_setBell, Cond.instanceMethod yX4_setBell, Cond.selects RX4 yX4_setBell yX4_setBell, Cond.code yX4_setBell cX4_setBell 2 (some .int), Cond.methodLink RX4 67 yX4_change, Cond.instanceMethod yX4_change, Cond.selects RX4 yX4_change yX4_change, Cond.code yX4_change cX4_change 6 (some .int), Cond.methodLink RL 94 yL_setPawn, Cond.static yL_setPawn, Cond.codeWith yL_setPawn cL_setPawn 4 (some .int) [(0, 9, 12, 13)], Cond.methodLink RL 30 yX3_setPawn]
def wsL_law0_r9 : List Cond := [Cond.instanceMethod yX3_setPawn, Cond.selects RX3 yX3_setPawn yX3_setPawn, Cond.code yX3_setPawn cX3_setPawn 3 (some .int), Cond.fieldLink RX3 73 "HotBeds$House" "pawn" "I", Cond.methodLink RL 96 yX4_setPawn, Cond.instanceMethod yX4_setPawn, Cond.selects RX4 yX4_setPawn yX4_setPawn, Cond.code yX4_setPawn cX4_setPawn 2 (some .int), Cond.methodLink RL 97 yL_give, Cond.static yL_give, Cond.codeWith yL_give cL_give 5 (some .int) [(0, 10, 13, 21), (0, 10, 17, 13)], Cond.methodLink RL 33 yX3_give, Cond.instanceMethod yX3_give, Cond.selects RX3 yX3_give yX3_give, Cond.code yX3_give cX3_give 3 (some .int), Cond.fieldLink RX3 82 "HotBeds$Sailors" "purse" "[I", Cond.methodLink RX3 78 yX2_earn, Cond.instanceMethod yX2_earn, Cond.selects RX2 yX2_earn yX2_earn, Cond.code yX2_earn cX2_earn 3 none, Cond.methodLink RX2 65 Lib.Math.min.name, Cond.static Lib.Math.min.name, Cond.initialized "java/lang/Math", Cond.code Lib.Math.min.name Lib.Math.min.code 2 (some .int)]
def wsL_law0_r10 : List Cond := [Cond.methodLink RL 99 yX4_give, Cond.instanceMethod yX4_give, Cond.selects RX4 yX4_give yX4_give, Cond.code yX4_give cX4_give 3 (some .int), Cond.methodLink RX4 76 yX4_gets, Cond.instanceMethod yX4_gets, Cond.selects RX4 yX4_gets yX4_gets, Cond.code yX4_gets cX4_gets 3 (some .int), Cond.methodLink RX4 71 Lib.Math.min.name, Cond.methodLink RL 100 yL_pawn, Cond.static yL_pawn, Cond.codeWith yL_pawn cL_pawn 4 (some .int) [(0, 9, 12, 21), (0, 9, 15, 15)], Cond.methodLink RL 36 yX3_pawn, Cond.instanceMethod yX3_pawn, Cond.selects RX3 yX3_pawn yX3_pawn, Cond.code yX3_pawn cX3_pawn 2 (some .int), Cond.classLink RX3 89 "java/lang/IllegalStateException", Cond.methodLink RX3 85 yX2_hasBoots, Cond.instanceMethod yX2_hasBoots, Cond.selects RX2 yX2_hasBoots yX2_hasBoots, Cond.code yX2_hasBoots cX2_hasBoots 2 (some .boolean), Cond.methodLink RX3 94 yX1_pawnBoots, Cond.instanceMethod yX1_pawnBoots, Cond.selects RX1 yX1_pawnBoots yX1_pawnBoots]
def wsL_law0_r11 : List Cond := [Cond.code yX1_pawnBoots cX1_pawnBoots 2 none, Cond.fieldLink RX1 74 "HotBeds$Sailors" "boots" "[I", Cond.methodLink RX1 77 yX2_earn, Cond.methodLink RL 102 yX4_pawn, Cond.instanceMethod yX4_pawn, Cond.selects RX4 yX4_pawn yX4_pawn, Cond.code yX4_pawn cX4_pawn 2 (some .int), Cond.methodLink RX4 82 yX4_pawns, Cond.instanceMethod yX4_pawns, Cond.selects RX4 yX4_pawns yX4_pawns, Cond.code yX4_pawns cX4_pawns 2 (some .int), Cond.methodLink RL 103 yL_redeem, Cond.static yL_redeem, Cond.codeWith yL_redeem cL_redeem 4 (some .int) [(0, 9, 12, 21), (0, 9, 15, 15)], Cond.methodLink RL 39 yX3_redeem, Cond.instanceMethod yX3_redeem, Cond.selects RX3 yX3_redeem yX3_redeem, Cond.code yX3_redeem cX3_redeem 2 (some .int), Cond.methodLink RX3 97 yX1_canRedeemBoots, Cond.instanceMethod yX1_canRedeemBoots, Cond.selects RX1 yX1_canRedeemBoots yX1_canRedeemBoots, Cond.code yX1_canRedeemBoots cX1_canRedeemBoots 2 (some .boolean), Cond.fieldLink RX1 84 "HotBeds$Sailors" "purse" "[I", Cond.methodLink RX1 81 yX2_hasBoots]
def wsL_law0_r12 : List Cond := [Cond.methodLink RX3 102 yX1_redeemBoots, Cond.instanceMethod yX1_redeemBoots, Cond.selects RX1 yX1_redeemBoots yX1_redeemBoots, Cond.code yX1_redeemBoots cX1_redeemBoots 2 none, Cond.methodLink RL 105 yX4_redeem, Cond.instanceMethod yX4_redeem, Cond.selects RX4 yX4_redeem yX4_redeem, Cond.code yX4_redeem cX4_redeem 2 (some .int), Cond.methodLink RX4 85 yX4_canRedeem, Cond.instanceMethod yX4_canRedeem, Cond.selects RX4 yX4_canRedeem yX4_canRedeem, Cond.code yX4_canRedeem cX4_canRedeem 2 (some .boolean), Cond.methodLink RX4 88 yX4_redeems, Cond.instanceMethod yX4_redeems, Cond.selects RX4 yX4_redeems yX4_redeems, Cond.code yX4_redeems cX4_redeems 2 (some .int), Cond.methodLink RX4 79 yX4_more, Cond.instanceMethod yX4_more, Cond.selects RX4 yX4_more yX4_more, Cond.code yX4_more cX4_more 4 none, Cond.methodLink RL 106 yL_call, Cond.static yL_call, Cond.codeWith yL_call cL_call 4 (some .int) [(0, 9, 12, 21), (0, 9, 15, 15)], Cond.methodLink RL 42 yX3_call]
def wsL_law0_r13 : List Cond := [Cond.instanceMethod yX3_call, Cond.selects RX3 yX3_call yX3_call, Cond.code yX3_call cX3_call 3 (some .int), Cond.fieldLink RX3 110 "HotBeds$Sailors" "bed" "[I", Cond.methodLink RX3 105 yX2_isUp, Cond.instanceMethod yX2_isUp, Cond.selects RX2 yX2_isUp yX2_isUp, Cond.code yX2_isUp cX2_isUp 2 (some .boolean), Cond.methodLink RX3 113 yX1_getUp, Cond.instanceMethod yX1_getUp, Cond.selects RX1 yX1_getUp yX1_getUp, Cond.code yX1_getUp cX1_getUp 3 none, Cond.fieldLink RX1 61 "HotBeds$Sailors" "bed" "[I", Cond.fieldLink RX1 68 "HotBeds$Beds" "sleeper" "[I", Cond.fieldLink RX1 71 "HotBeds$Sailors" "place" "[I", Cond.methodLink RX1 64 yX0_has, Cond.methodLink RL 108 yX4_call, Cond.instanceMethod yX4_call, Cond.selects RX4 yX4_call yX4_call, Cond.code yX4_call cX4_call 3 (some .int), Cond.methodLink RX4 91 yX4_getsUp, Cond.instanceMethod yX4_getsUp, Cond.selects RX4 yX4_getsUp yX4_getsUp, Cond.code yX4_getsUp cX4_getsUp 2 none]
def wsL_law0_r14 : List Cond := [Cond.methodLink RL 109 yL_shift, Cond.static yL_shift, Cond.codeWith yL_shift cL_shift 5 (some .int) [(0, 10, 13, 21), (0, 10, 17, 15)], Cond.methodLink RL 45 yX3_shift, Cond.instanceMethod yX3_shift, Cond.selects RX3 yX3_shift yX3_shift, Cond.code yX3_shift cX3_shift 4 (some .int), Cond.fieldLink RX3 119 "HotBeds$Sailors" "watch" "[I", Cond.methodLink RX3 116 yX3_requireUp, Cond.instanceMethod yX3_requireUp, Cond.selects RX3 yX3_requireUp yX3_requireUp, Cond.code yX3_requireUp cX3_requireUp 2 none, Cond.methodLink RL 111 yX4_shift, Cond.instanceMethod yX4_shift, Cond.selects RX4 yX4_shift yX4_shift, Cond.code yX4_shift cX4_shift 4 (some .int), Cond.methodLink RL 112 yL_pass, Cond.static yL_pass, Cond.codeWith yL_pass cL_pass 4 (some .int) [(0, 9, 12, 13)], Cond.methodLink RL 48 yX3_pass, Cond.instanceMethod yX3_pass, Cond.selects RX3 yX3_pass yX3_pass, Cond.code yX3_pass cX3_pass 3 (some .int), Cond.methodLink RX3 122 yX3_requireHours]
def wsL_law0_r15 : List Cond := [Cond.static yX3_requireHours, Cond.code yX3_requireHours cX3_requireHours 1 none, Cond.methodLink RX3 125 yX2_allFloors, Cond.instanceMethod yX2_allFloors, Cond.selects RX2 yX2_allFloors yX2_allFloors, Cond.code yX2_allFloors cX2_allFloors 1 (some .int), Cond.methodLink RX2 82 yX2_sum, Cond.instanceMethod yX2_sum, Cond.selects RX2 yX2_sum yX2_sum, Cond.code yX2_sum cX2_sum 4 (some .int), Cond.methodLink RX3 129 yX1_goOn, Cond.instanceMethod yX1_goOn, Cond.selects RX1 yX1_goOn yX1_goOn, Cond.code yX1_goOn cX1_goOn 4 none, Cond.fieldLink RX1 40 "HotBeds$Sailors" "size" "I", Cond.fieldLink RX1 50 "HotBeds$Sailors" "rest" "[I", Cond.methodLink RX1 43 yX1_ringBell, Cond.instanceMethod yX1_ringBell, Cond.selects RX1 yX1_ringBell yX1_ringBell, Cond.code yX1_ringBell cX1_ringBell 3 none, Cond.fieldLink RX1 96 "HotBeds$Sailors" "heavy" "[I", Cond.methodLink RX1 87 yX2_isUp, Cond.methodLink RX1 90 yX1_isInWatch, Cond.instanceMethod yX1_isInWatch]
def wsL_law0_r16 : List Cond := [Cond.selects RX1 yX1_isInWatch yX1_isInWatch, Cond.code yX1_isInWatch cX1_isInWatch 2 (some .boolean), Cond.fieldLink RX1 105 "HotBeds$Sailors" "watch" "[I", Cond.methodLink RX1 108 yX1_watchNow, Cond.instanceMethod yX1_watchNow, Cond.selects RX1 yX1_watchNow yX1_watchNow, Cond.code yX1_watchNow cX1_watchNow 1 (some .int), Cond.methodLink RX1 93 yX1_hoursSinceWatch, Cond.instanceMethod yX1_hoursSinceWatch, Cond.selects RX1 yX1_hoursSinceWatch yX1_hoursSinceWatch, Cond.code yX1_hoursSinceWatch cX1_hoursSinceWatch 3 (some .int), Cond.methodLink RX1 99 yX1_getUp, Cond.methodLink RX1 102 yX2_beLate, Cond.instanceMethod yX2_beLate, Cond.selects RX2 yX2_beLate yX2_beLate, Cond.code yX2_beLate cX2_beLate 2 none, Cond.methodLink RX1 47 yX1_serve, Cond.instanceMethod yX1_serve, Cond.selects RX1 yX1_serve yX1_serve, Cond.code yX1_serve cX1_serve 2 none, Cond.methodLink RX1 112 yX2_payWage, Cond.instanceMethod yX2_payWage, Cond.selects RX2 yX2_payWage yX2_payWage, Cond.code yX2_payWage cX2_payWage 3 none]
def wsL_law0_r17 : List Cond := [Cond.methodLink RX2 75 Lib.Math.max.name, Cond.static Lib.Math.max.name, Cond.code Lib.Math.max.name Lib.Math.max.code 2 (some .int), Cond.methodLink RX2 71 yX2_hasBoots, Cond.methodLink RX2 78 yX2_earn, Cond.methodLink RX1 115 yX1_canRedeemBoots, Cond.methodLink RX1 118 yX1_redeemBoots, Cond.methodLink RX1 121 yX1_lookForBed, Cond.instanceMethod yX1_lookForBed, Cond.selects RX1 yX1_lookForBed yX1_lookForBed, Cond.code yX1_lookForBed cX1_lookForBed 4 none, Cond.fieldLink RX1 124 "HotBeds$Sailors" "kept" "[I", Cond.methodLink RX1 127 yX0_isFree, Cond.instanceMethod yX0_isFree, Cond.selects RX0 yX0_isFree yX0_isFree, Cond.code yX0_isFree cX0_isFree 2 (some .boolean), Cond.methodLink RX0 42 yX0_has, Cond.methodLink RX1 130 yX0_cheapestFree, Cond.instanceMethod yX0_cheapestFree, Cond.selects RX0 yX0_cheapestFree yX0_cheapestFree, Cond.code yX0_cheapestFree cX0_cheapestFree 3 (some .int), Cond.methodLink RX0 46 yX0_isFree, Cond.methodLink RX1 133 yX1_tryBed, Cond.instanceMethod yX1_tryBed]
def wsL_law0_r18 : List Cond := [Cond.selects RX1 yX1_tryBed yX1_tryBed, Cond.code yX1_tryBed cX1_tryBed 5 none, Cond.fieldLink RX1 139 "HotBeds$Beds" "price" "[I", Cond.methodLink RX1 142 yX1_pawnBoots, Cond.methodLink RX1 145 yX1_getInto, Cond.instanceMethod yX1_getInto, Cond.selects RX1 yX1_getInto yX1_getInto, Cond.code yX1_getInto cX1_getInto 4 none, Cond.fieldLink RX1 148 "HotBeds$Beds" "paid" "[I", Cond.fieldLink RX1 151 "HotBeds$Beds" "entries" "[I", Cond.methodLink RX1 136 yX2_lieOnFloor, Cond.instanceMethod yX2_lieOnFloor, Cond.selects RX2 yX2_lieOnFloor yX2_lieOnFloor, Cond.code yX2_lieOnFloor cX2_lieOnFloor 2 none, Cond.methodLink RX1 54 yX1_restOfHour, Cond.instanceMethod yX1_restOfHour, Cond.selects RX1 yX1_restOfHour yX1_restOfHour, Cond.code yX1_restOfHour cX1_restOfHour 2 (some .int), Cond.methodLink RX1 154 yX0_isWarm, Cond.instanceMethod yX0_isWarm, Cond.selects RX0 yX0_isWarm yX0_isWarm, Cond.code yX0_isWarm cX0_isWarm 2 (some .boolean), Cond.methodLink RX1 58 yX0_changeWarmth, Cond.instanceMethod yX0_changeWarmth]
def wsL_law0_r19 : List Cond := [Cond.selects RX0 yX0_changeWarmth yX0_changeWarmth, Cond.code yX0_changeWarmth cX0_changeWarmth 2 none, Cond.methodLink RX0 49 Lib.Math.max.name, Cond.methodLink RX0 55 Lib.Math.min.name, Cond.methodLink RL 114 yX4_pass, Cond.instanceMethod yX4_pass, Cond.selects RX4 yX4_pass yX4_pass, Cond.code yX4_pass cX4_pass 3 (some .int), Cond.methodLink RX4 123 yX4_sum, Cond.instanceMethod yX4_sum, Cond.selects RX4 yX4_sum yX4_sum, Cond.code yX4_sum cX4_sum 4 (some .int), Cond.methodLink RX4 126 yX4_hoursOn, Cond.instanceMethod yX4_hoursOn, Cond.selects RX4 yX4_hoursOn yX4_hoursOn, Cond.code yX4_hoursOn cX4_hoursOn 3 none, Cond.methodLink RX4 120 yX4_hourOn, Cond.instanceMethod yX4_hourOn, Cond.selects RX4 yX4_hourOn yX4_hourOn, Cond.code yX4_hourOn cX4_hourOn 2 none, Cond.methodLink RX4 99 Lib.Math.max.name, Cond.methodLink RX4 95 yX4_watch, Cond.instanceMethod yX4_watch, Cond.selects RX4 yX4_watch yX4_watch]
def wsL_law0_r20 : List Cond := [Cond.code yX4_watch cX4_watch 1 (some .int), Cond.methodLink RX4 111 yX4_ring, Cond.instanceMethod yX4_ring, Cond.selects RX4 yX4_ring yX4_ring, Cond.code yX4_ring cX4_ring 3 none, Cond.methodLink RX4 114 yX4_pay, Cond.instanceMethod yX4_pay, Cond.selects RX4 yX4_pay yX4_pay, Cond.code yX4_pay cX4_pay 3 none, Cond.methodLink RX4 117 yX4_look, Cond.instanceMethod yX4_look, Cond.selects RX4 yX4_look yX4_look, Cond.code yX4_look cX4_look 4 none, Cond.methodLink RX4 105 yX4_bedFor, Cond.instanceMethod yX4_bedFor, Cond.selects RX4 yX4_bedFor yX4_bedFor, Cond.code yX4_bedFor cX4_bedFor 5 (some .int), Cond.methodLink RX4 102 yX4_be, Cond.instanceMethod yX4_be, Cond.selects RX4 yX4_be yX4_be, Cond.code yX4_be cX4_be 3 (some .int), Cond.methodLink RX4 108 yX4_lieDown, Cond.instanceMethod yX4_lieDown, Cond.selects RX4 yX4_lieDown yX4_lieDown]
def wsL_law0_r21 : List Cond := [Cond.code yX4_lieDown cX4_lieDown 2 none, Cond.methodLink RL 115 yL_told, Cond.static yL_told, Cond.codeWith yL_told cL_told 5 (some .int) [(0, 10, 13, 21)], Cond.methodLink RL 51 yX3_told, Cond.instanceMethod yX3_told, Cond.selects RX3 yX3_told yX3_told, Cond.code yX3_told cX3_told 4 (some .int), Cond.fieldLink RX3 132 "HotBeds$Sailors" "heavy" "[I", Cond.fieldLink RX3 135 "HotBeds$Sailors" "wage" "[I", Cond.fieldLink RX3 138 "HotBeds$Sailors" "boots" "[I", Cond.fieldLink RX3 141 "HotBeds$Sailors" "place" "[I", Cond.fieldLink RX3 144 "HotBeds$Sailors" "rest" "[I", Cond.fieldLink RX3 147 "HotBeds$Sailors" "late" "[I", Cond.fieldLink RX3 150 "HotBeds$Sailors" "floors" "[I", Cond.methodLink RL 117 yX4_told, Cond.instanceMethod yX4_told, Cond.selects RX4 yX4_told yX4_told, Cond.code yX4_told cX4_told 3 (some .int), Cond.methodLink RX4 129 yX4_sailorTold, Cond.instanceMethod yX4_sailorTold, Cond.selects RX4 yX4_sailorTold yX4_sailorTold, Cond.code yX4_sailorTold cX4_sailorTold 3 (some .int), Cond.methodLink RL 118 yL_about]
def wsL_law0_r22 : List Cond := [Cond.static yL_about, Cond.codeWith yL_about cL_about 5 (some .int) [(0, 10, 13, 21)], Cond.methodLink RL 54 yX3_about, Cond.instanceMethod yX3_about, Cond.selects RX3 yX3_about yX3_about, Cond.code yX3_about cX3_about 4 (some .int), Cond.fieldLink RX3 158 "HotBeds$Beds" "price" "[I", Cond.fieldLink RX3 161 "HotBeds$Beds" "warmth" "[I", Cond.fieldLink RX3 164 "HotBeds$Beds" "entries" "[I", Cond.fieldLink RX3 167 "HotBeds$Beds" "paid" "[I", Cond.fieldLink RX3 170 "HotBeds$Beds" "sleeper" "[I", Cond.methodLink RL 120 yX4_about, Cond.instanceMethod yX4_about, Cond.selects RX4 yX4_about yX4_about, Cond.code yX4_about cX4_about 3 (some .int), Cond.methodLink RX4 132 yX4_bedTold, Cond.instanceMethod yX4_bedTold, Cond.selects RX4 yX4_bedTold yX4_bedTold, Cond.code yX4_bedTold cX4_bedTold 3 (some .int), Cond.methodLink RL 121 yL_count, Cond.static yL_count, Cond.codeWith yL_count cL_count 4 (some .int) [(0, 9, 12, 21)], Cond.methodLink RL 57 yX3_count, Cond.instanceMethod yX3_count]
def wsL_law0_r23 : List Cond := [Cond.selects RX3 yX3_count yX3_count, Cond.code yX3_count cX3_count 2 (some .int), Cond.fieldLink RX3 175 "HotBeds$House" "hour" "I", Cond.fieldLink RX3 178 "HotBeds$Beds" "size" "I", Cond.methodLink RX3 182 yX1_watchNow, Cond.methodLink RX3 185 yX2_howManyAt, Cond.instanceMethod yX2_howManyAt, Cond.selects RX2 yX2_howManyAt yX2_howManyAt, Cond.code yX2_howManyAt cX2_howManyAt 4 (some .int), Cond.methodLink RX3 188 yX2_allLate, Cond.instanceMethod yX2_allLate, Cond.selects RX2 yX2_allLate yX2_allLate, Cond.code yX2_allLate cX2_allLate 1 (some .int), Cond.methodLink RL 123 yX4_count, Cond.instanceMethod yX4_count, Cond.selects RX4 yX4_count yX4_count, Cond.code yX4_count cX4_count 2 (some .int), Cond.methodLink RX4 138 yX4_counted, Cond.instanceMethod yX4_counted, Cond.selects RX4 yX4_counted yX4_counted, Cond.code yX4_counted cX4_counted 2 (some .int), Cond.methodLink RX4 135 yX4_many, Cond.instanceMethod yX4_many, Cond.selects RX4 yX4_many yX4_many]
def wsL_law0_r24 : List Cond := [Cond.code yX4_many cX4_many 4 (some .int), Cond.methodLink RL 124 yL_would, Cond.static yL_would, Cond.codeWith yL_would cL_would 5 (some .int) [(0, 10, 13, 21), (0, 10, 17, 13)], Cond.methodLink RL 60 yX3_would, Cond.instanceMethod yX3_would, Cond.selects RX3 yX3_would yX3_would, Cond.code yX3_would cX3_would 3 (some .int), Cond.methodLink RX3 193 yX1_copyFrom, Cond.instanceMethod yX1_copyFrom, Cond.selects RX1 yX1_copyFrom yX1_copyFrom, Cond.code yX1_copyFrom cX1_copyFrom 2 none, Cond.methodLink RX1 33 yX0_copyFrom, Cond.instanceMethod yX0_copyFrom, Cond.selects RX0 yX0_copyFrom yX0_copyFrom, Cond.code yX0_copyFrom cX0_copyFrom 2 none, Cond.static yX3_copyRow, Cond.code yX3_copyRow cX3_copyRow 3 none, Cond.methodLink RX1 37 yX2_copyFrom, Cond.instanceMethod yX2_copyFrom, Cond.selects RX2 yX2_copyFrom yX2_copyFrom, Cond.code yX2_copyFrom cX2_copyFrom 2 none, Cond.methodLink RL 126 yX4_would, Cond.instanceMethod yX4_would]
def wsL_law0_r25 : List Cond := [Cond.selects RX4 yX4_would yX4_would, Cond.code yX4_would cX4_would 5 (some .int), Cond.methodLink RX4 141 yX4_keep, Cond.instanceMethod yX4_keep, Cond.selects RX4 yX4_keep yX4_keep, Cond.code yX4_keep cX4_keep 1 none, Cond.methodLink RX4 39 arraycopyName, Cond.native arraycopyName, Cond.static arraycopyName, Cond.initialized "java/lang/System", Cond.methodLink RX4 144 yX4_bringBack, Cond.instanceMethod yX4_bringBack, Cond.selects RX4 yX4_bringBack yX4_bringBack, Cond.code yX4_bringBack cX4_bringBack 1 none, Cond.methodLink RL 127 yL_until, Cond.static yL_until, Cond.codeWith yL_until cL_until 4 (some .int) [(0, 9, 12, 21)], Cond.methodLink RL 63 yX3_until, Cond.instanceMethod yX3_until, Cond.selects RX3 yX3_until yX3_until, Cond.code yX3_until cX3_until 3 (some .int), Cond.methodLink RL 129 yX4_until, Cond.instanceMethod yX4_until, Cond.selects RX4 yX4_until yX4_until]
def wsL_law0_r26 : List Cond := [Cond.code yX4_until cX4_until 3 (some .int), Cond.methodLink RL 130 yX3_quiet, Cond.instanceMethod yX3_quiet, Cond.selects RX3 yX3_quiet yX3_quiet, Cond.code yX3_quiet cX3_quiet 3 (some .int), Cond.methodLink RL 133 yX4_quiet, Cond.instanceMethod yX4_quiet, Cond.selects RX4 yX4_quiet yX4_quiet, Cond.code yX4_quiet cX4_quiet 4 (some .int), Cond.methodLink RL 134 yL_advise, Cond.static yL_advise, Cond.codeWith yL_advise cL_advise 4 (some .int) [(0, 9, 12, 21), (0, 9, 15, 15)], Cond.methodLink RL 66 yX3_advise, Cond.instanceMethod yX3_advise, Cond.selects RX3 yX3_advise yX3_advise, Cond.code yX3_advise cX3_advise 6 (some .int), Cond.methodLink RL 136 yX4_advise, Cond.instanceMethod yX4_advise, Cond.selects RX4 yX4_advise yX4_advise, Cond.code yX4_advise cX4_advise 6 (some .int), Cond.methodLink RL 137 yX3_mean, Cond.instanceMethod yX3_mean, Cond.selects RX3 yX3_mean yX3_mean, Cond.code yX3_mean cX3_mean 2 (some .double)]
def wsL_law0_r27 : List Cond := [Cond.methodLink RX3 197 yX2_allRest, Cond.instanceMethod yX2_allRest, Cond.selects RX2 yX2_allRest yX2_allRest, Cond.code yX2_allRest cX2_allRest 1 (some .int), Cond.methodLink RL 141 yX4_mean, Cond.instanceMethod yX4_mean, Cond.selects RX4 yX4_mean yX4_mean, Cond.code yX4_mean cX4_mean 1 (some .double), Cond.methodLink RL 142 yX3_digest, Cond.instanceMethod yX3_digest, Cond.selects RX3 yX3_digest yX3_digest, Cond.code yX3_digest cX3_digest 5 (some .long), Cond.constantLong RX3 200 (1783), Cond.constantLong RX3 202 (31), Cond.methodLink RX3 204 yX3_count, Cond.methodLink RX3 207 yX3_about, Cond.methodLink RX3 211 yX3_told, Cond.methodLink RL 146 yX4_digest, Cond.instanceMethod yX4_digest, Cond.selects RX4 yX4_digest yX4_digest, Cond.code yX4_digest cX4_digest 5 (some .long), Cond.constantLong RX4 147 (1783), Cond.constantLong RX4 149 (31)]
def wsL_law0 : List Cond := (wsL_law0_r1 ++ (wsL_law0_r2 ++ (wsL_law0_r3 ++ (wsL_law0_r4 ++ (wsL_law0_r5 ++ (wsL_law0_r6 ++ (wsL_law0_r7 ++ (wsL_law0_r8 ++ (wsL_law0_r9 ++ (wsL_law0_r10 ++ (wsL_law0_r11 ++ (wsL_law0_r12 ++ (wsL_law0_r13 ++ (wsL_law0_r14 ++ (wsL_law0_r15 ++ (wsL_law0_r16 ++ (wsL_law0_r17 ++ (wsL_law0_r18 ++ (wsL_law0_r19 ++ (wsL_law0_r20 ++ (wsL_law0_r21 ++ (wsL_law0_r22 ++ (wsL_law0_r23 ++ (wsL_law0_r24 ++ (wsL_law0_r25 ++ (wsL_law0_r26 ++ wsL_law0_r27)))))))))))))))))))))))))) ++ wsX30 ++ wsX40 ++ wsX10 ++ wsX00 ++ wsX20 ++ ([] : List Cond)
def wsL_law : List Cond := wsL_law0 ++ (vx_atS RX3 23 "java/lang/IllegalArgumentException" ["java/lang/RuntimeException", "java/lang/Exception"]).filter goodWord ++ (vx_atS RX0 33 "java/lang/IllegalStateException" ["java/lang/RuntimeException", "java/lang/Exception"]).filter goodWord ++ (vx_atS RX3 157 "java/lang/IndexOutOfBoundsException" ["java/lang/RuntimeException", "java/lang/Exception"]).filter goodWord ++ (vx_atS RX2 54 "java/lang/IllegalStateException" ["java/lang/RuntimeException", "java/lang/Exception"]).filter goodWord ++ (vx_atS RX3 93 "java/lang/IllegalStateException" ["java/lang/RuntimeException", "java/lang/Exception"]).filter goodWord
abbrev vwCl : List vw_C := [(RX0, TX0, 6), (RX1, TX1, 5), (RX2, TX2, 13), (RX3, TX3, 2), (RX4, TX4, 8)]
end
section
theorem dX0_init_0 : decode cX0_init 0 = .ok (.aload_n 0, 1) := by decide +kernel
theorem dX0_init_1 : decode cX0_init 1 = .ok (.invokespecial 1, 3) := by decide +kernel
theorem dX0_init_4 : decode cX0_init 4 = .ok (.aload_n 0, 1) := by decide +kernel
theorem dX0_init_5 : decode cX0_init 5 = .ok (.iconst 0, 1) := by decide +kernel
theorem dX0_init_6 : decode cX0_init 6 = .ok (.putfield 7, 3) := by decide +kernel
theorem dX0_init_9 : decode cX0_init 9 = .ok (.aload_n 0, 1) := by decide +kernel
theorem dX0_init_10 : decode cX0_init 10 = .ok (.bipush 6, 2) := by decide +kernel
theorem dX0_init_12 : decode cX0_init 12 = .ok (.newarray .int, 2) := by decide +kernel
theorem dX0_init_14 : decode cX0_init 14 = .ok (.putfield 13, 3) := by decide +kernel
theorem dX0_init_17 : decode cX0_init 17 = .ok (.aload_n 0, 1) := by decide +kernel
theorem dX0_init_18 : decode cX0_init 18 = .ok (.bipush 6, 2) := by decide +kernel
theorem dX0_init_20 : decode cX0_init 20 = .ok (.newarray .int, 2) := by decide +kernel
theorem dX0_init_22 : decode cX0_init 22 = .ok (.putfield 17, 3) := by decide +kernel
theorem dX0_init_25 : decode cX0_init 25 = .ok (.aload_n 0, 1) := by decide +kernel
theorem dX0_init_26 : decode cX0_init 26 = .ok (.bipush 6, 2) := by decide +kernel
theorem dX0_init_28 : decode cX0_init 28 = .ok (.newarray .int, 2) := by decide +kernel
theorem dX0_init_30 : decode cX0_init 30 = .ok (.putfield 20, 3) := by decide +kernel
theorem dX0_init_33 : decode cX0_init 33 = .ok (.aload_n 0, 1) := by decide +kernel
theorem dX0_init_34 : decode cX0_init 34 = .ok (.bipush 6, 2) := by decide +kernel
theorem dX0_init_36 : decode cX0_init 36 = .ok (.newarray .int, 2) := by decide +kernel
theorem dX0_init_38 : decode cX0_init 38 = .ok (.putfield 23, 3) := by decide +kernel
theorem dX0_init_41 : decode cX0_init 41 = .ok (.aload_n 0, 1) := by decide +kernel
theorem dX0_init_42 : decode cX0_init 42 = .ok (.bipush 6, 2) := by decide +kernel
theorem dX0_init_44 : decode cX0_init 44 = .ok (.newarray .int, 2) := by decide +kernel
theorem dX0_init_46 : decode cX0_init 46 = .ok (.putfield 26, 3) := by decide +kernel
theorem dX0_init_49 : decode cX0_init 49 = .ok (.return_, 1) := by decide +kernel
theorem dX0_add_0 : decode cX0_add 0 = .ok (.aload_n 0, 1) := by decide +kernel
theorem dX0_add_1 : decode cX0_add 1 = .ok (.getfield 7, 3) := by decide +kernel
theorem dX0_add_4 : decode cX0_add 4 = .ok (.bipush 6, 2) := by decide +kernel
theorem dX0_add_6 : decode cX0_add 6 = .ok (.if_icmp .lt 13, 3) := by decide +kernel
theorem dX0_add_9 : decode cX0_add 9 = .ok (.new 29, 3) := by decide +kernel
theorem dX0_add_12 : decode cX0_add 12 = .ok (.dup, 1) := by decide +kernel
theorem dX0_add_13 : decode cX0_add 13 = .ok (.ldc 31, 2) := by decide +kernel
theorem dX0_add_15 : decode cX0_add 15 = .ok (.invokespecial 33, 3) := by decide +kernel
theorem dX0_add_18 : decode cX0_add 18 = .ok (.athrow, 1) := by decide +kernel
theorem dX0_add_19 : decode cX0_add 19 = .ok (.aload_n 0, 1) := by decide +kernel
theorem dX0_add_20 : decode cX0_add 20 = .ok (.getfield 7, 3) := by decide +kernel
theorem dX0_add_23 : decode cX0_add 23 = .ok (.istore_n 2, 1) := by decide +kernel
theorem dX0_add_24 : decode cX0_add 24 = .ok (.aload_n 0, 1) := by decide +kernel
theorem dX0_add_25 : decode cX0_add 25 = .ok (.getfield 13, 3) := by decide +kernel
theorem dX0_add_28 : decode cX0_add 28 = .ok (.iload_n 2, 1) := by decide +kernel
theorem dX0_add_29 : decode cX0_add 29 = .ok (.iload_n 1, 1) := by decide +kernel
theorem dX0_add_30 : decode cX0_add 30 = .ok (.iastore, 1) := by decide +kernel
theorem dX0_add_31 : decode cX0_add 31 = .ok (.aload_n 0, 1) := by decide +kernel
theorem dX0_add_32 : decode cX0_add 32 = .ok (.getfield 26, 3) := by decide +kernel
theorem dX0_add_35 : decode cX0_add 35 = .ok (.iload_n 2, 1) := by decide +kernel
theorem dX0_add_36 : decode cX0_add 36 = .ok (.iconst (-1), 1) := by decide +kernel
theorem dX0_add_37 : decode cX0_add 37 = .ok (.iastore, 1) := by decide +kernel
theorem dX0_add_38 : decode cX0_add 38 = .ok (.aload_n 0, 1) := by decide +kernel
theorem dX0_add_39 : decode cX0_add 39 = .ok (.iload_n 2, 1) := by decide +kernel
theorem dX0_add_40 : decode cX0_add 40 = .ok (.iconst 1, 1) := by decide +kernel
theorem dX0_add_41 : decode cX0_add 41 = .ok (.iadd, 1) := by decide +kernel
theorem dX0_add_42 : decode cX0_add 42 = .ok (.putfield 7, 3) := by decide +kernel
theorem dX0_add_45 : decode cX0_add 45 = .ok (.iload_n 2, 1) := by decide +kernel
theorem dX0_add_46 : decode cX0_add 46 = .ok (.ireturn, 1) := by decide +kernel
set_option maxRecDepth 20000 in
theorem ggX0_copyFrom_X3_copyRow : GoodIn wsX0_copyFrom wsX3_copyRow := goodIn_r _ [9] (by decide +kernel) (by decide +kernel)
set_option maxRecDepth 20000 in
theorem gX0_copyFrom_X3_copyRow_n36 : GoodIn wsX0_copyFrom (wsX3_copyRow) := ggX0_copyFrom_X3_copyRow
theorem dX0_copyFrom_0 : decode cX0_copyFrom 0 = .ok (.aload_n 0, 1) := by decide +kernel
theorem dX0_copyFrom_1 : decode cX0_copyFrom 1 = .ok (.aload_n 1, 1) := by decide +kernel
theorem dX0_copyFrom_2 : decode cX0_copyFrom 2 = .ok (.getfield 7, 3) := by decide +kernel
theorem dX0_copyFrom_5 : decode cX0_copyFrom 5 = .ok (.putfield 7, 3) := by decide +kernel
theorem dX0_copyFrom_8 : decode cX0_copyFrom 8 = .ok (.aload_n 1, 1) := by decide +kernel
theorem dX0_copyFrom_9 : decode cX0_copyFrom 9 = .ok (.getfield 13, 3) := by decide +kernel
theorem dX0_copyFrom_12 : decode cX0_copyFrom 12 = .ok (.aload_n 0, 1) := by decide +kernel
theorem dX0_copyFrom_13 : decode cX0_copyFrom 13 = .ok (.getfield 13, 3) := by decide +kernel
theorem dX0_copyFrom_16 : decode cX0_copyFrom 16 = .ok (.invokestatic 36, 3) := by decide +kernel
theorem dX0_copyFrom_19 : decode cX0_copyFrom 19 = .ok (.aload_n 1, 1) := by decide +kernel
theorem dX0_copyFrom_20 : decode cX0_copyFrom 20 = .ok (.getfield 17, 3) := by decide +kernel
theorem dX0_copyFrom_23 : decode cX0_copyFrom 23 = .ok (.aload_n 0, 1) := by decide +kernel
theorem dX0_copyFrom_24 : decode cX0_copyFrom 24 = .ok (.getfield 17, 3) := by decide +kernel
theorem dX0_copyFrom_27 : decode cX0_copyFrom 27 = .ok (.invokestatic 36, 3) := by decide +kernel
theorem dX0_copyFrom_30 : decode cX0_copyFrom 30 = .ok (.aload_n 1, 1) := by decide +kernel
theorem dX0_copyFrom_31 : decode cX0_copyFrom 31 = .ok (.getfield 20, 3) := by decide +kernel
theorem dX0_copyFrom_34 : decode cX0_copyFrom 34 = .ok (.aload_n 0, 1) := by decide +kernel
theorem dX0_copyFrom_35 : decode cX0_copyFrom 35 = .ok (.getfield 20, 3) := by decide +kernel
theorem dX0_copyFrom_38 : decode cX0_copyFrom 38 = .ok (.invokestatic 36, 3) := by decide +kernel
theorem dX0_copyFrom_41 : decode cX0_copyFrom 41 = .ok (.aload_n 1, 1) := by decide +kernel
theorem dX0_copyFrom_42 : decode cX0_copyFrom 42 = .ok (.getfield 23, 3) := by decide +kernel
theorem dX0_copyFrom_45 : decode cX0_copyFrom 45 = .ok (.aload_n 0, 1) := by decide +kernel
theorem dX0_copyFrom_46 : decode cX0_copyFrom 46 = .ok (.getfield 23, 3) := by decide +kernel
theorem dX0_copyFrom_49 : decode cX0_copyFrom 49 = .ok (.invokestatic 36, 3) := by decide +kernel
theorem dX0_copyFrom_52 : decode cX0_copyFrom 52 = .ok (.aload_n 1, 1) := by decide +kernel
theorem dX0_copyFrom_53 : decode cX0_copyFrom 53 = .ok (.getfield 26, 3) := by decide +kernel
theorem dX0_copyFrom_56 : decode cX0_copyFrom 56 = .ok (.aload_n 0, 1) := by decide +kernel
theorem dX0_copyFrom_57 : decode cX0_copyFrom 57 = .ok (.getfield 26, 3) := by decide +kernel
theorem dX0_copyFrom_60 : decode cX0_copyFrom 60 = .ok (.invokestatic 36, 3) := by decide +kernel
theorem dX0_copyFrom_63 : decode cX0_copyFrom 63 = .ok (.return_, 1) := by decide +kernel
theorem dX0_has_0 : decode cX0_has 0 = .ok (.iload_n 1, 1) := by decide +kernel
theorem dX0_has_1 : decode cX0_has 1 = .ok (.ifCond .lt 15, 3) := by decide +kernel
theorem dX0_has_4 : decode cX0_has 4 = .ok (.iload_n 1, 1) := by decide +kernel
theorem dX0_has_5 : decode cX0_has 5 = .ok (.aload_n 0, 1) := by decide +kernel
theorem dX0_has_6 : decode cX0_has 6 = .ok (.getfield 7, 3) := by decide +kernel
theorem dX0_has_9 : decode cX0_has 9 = .ok (.if_icmp .ge 7, 3) := by decide +kernel
theorem dX0_has_12 : decode cX0_has 12 = .ok (.iconst 1, 1) := by decide +kernel
theorem dX0_has_13 : decode cX0_has 13 = .ok (.goto 4, 3) := by decide +kernel
theorem dX0_has_16 : decode cX0_has 16 = .ok (.iconst 0, 1) := by decide +kernel
theorem dX0_has_17 : decode cX0_has 17 = .ok (.ireturn, 1) := by decide +kernel
set_option maxRecDepth 20000 in
theorem ggX0_isFree_X0_has : GoodIn wsX0_isFree wsX0_has := goodIn_r _ [6, 7, 8, 9, 10, 11, 12, 13] (by decide +kernel) (by decide +kernel)
set_option maxRecDepth 20000 in
theorem gX0_isFree_X0_has : GoodIn wsX0_isFree (wsV RX0 42 RX0 yX0_has wsX0_has) := goodIn_app (goodIn_of _ (by decide +kernel)) ggX0_isFree_X0_has
theorem dX0_isFree_0 : decode cX0_isFree 0 = .ok (.aload_n 0, 1) := by decide +kernel
theorem dX0_isFree_1 : decode cX0_isFree 1 = .ok (.iload_n 1, 1) := by decide +kernel
theorem dX0_isFree_2 : decode cX0_isFree 2 = .ok (.invokevirtual 42, 3) := by decide +kernel
theorem dX0_isFree_5 : decode cX0_isFree 5 = .ok (.ifCond .eq 17, 3) := by decide +kernel
theorem dX0_isFree_8 : decode cX0_isFree 8 = .ok (.aload_n 0, 1) := by decide +kernel
theorem dX0_isFree_9 : decode cX0_isFree 9 = .ok (.getfield 26, 3) := by decide +kernel
theorem dX0_isFree_12 : decode cX0_isFree 12 = .ok (.iload_n 1, 1) := by decide +kernel
theorem dX0_isFree_13 : decode cX0_isFree 13 = .ok (.iaload, 1) := by decide +kernel
theorem dX0_isFree_14 : decode cX0_isFree 14 = .ok (.iconst (-1), 1) := by decide +kernel
theorem dX0_isFree_15 : decode cX0_isFree 15 = .ok (.if_icmp .ne 7, 3) := by decide +kernel
theorem dX0_isFree_18 : decode cX0_isFree 18 = .ok (.iconst 1, 1) := by decide +kernel
theorem dX0_isFree_19 : decode cX0_isFree 19 = .ok (.goto 4, 3) := by decide +kernel
theorem dX0_isFree_22 : decode cX0_isFree 22 = .ok (.iconst 0, 1) := by decide +kernel
theorem dX0_isFree_23 : decode cX0_isFree 23 = .ok (.ireturn, 1) := by decide +kernel
set_option maxRecDepth 20000 in
theorem ggX0_isWarm_X0_has : GoodIn wsX0_isWarm wsX0_has := goodIn_r _ [6, 7, 8, 9, 10, 11, 12, 13] (by decide +kernel) (by decide +kernel)
set_option maxRecDepth 20000 in
theorem gX0_isWarm_X0_has : GoodIn wsX0_isWarm (wsV RX0 42 RX0 yX0_has wsX0_has) := goodIn_app (goodIn_of _ (by decide +kernel)) ggX0_isWarm_X0_has
theorem dX0_isWarm_0 : decode cX0_isWarm 0 = .ok (.aload_n 0, 1) := by decide +kernel
theorem dX0_isWarm_1 : decode cX0_isWarm 1 = .ok (.iload_n 1, 1) := by decide +kernel
theorem dX0_isWarm_2 : decode cX0_isWarm 2 = .ok (.invokevirtual 42, 3) := by decide +kernel
theorem dX0_isWarm_5 : decode cX0_isWarm 5 = .ok (.ifCond .eq 17, 3) := by decide +kernel
theorem dX0_isWarm_8 : decode cX0_isWarm 8 = .ok (.aload_n 0, 1) := by decide +kernel
theorem dX0_isWarm_9 : decode cX0_isWarm 9 = .ok (.getfield 17, 3) := by decide +kernel
theorem dX0_isWarm_12 : decode cX0_isWarm 12 = .ok (.iload_n 1, 1) := by decide +kernel
theorem dX0_isWarm_13 : decode cX0_isWarm 13 = .ok (.iaload, 1) := by decide +kernel
theorem dX0_isWarm_14 : decode cX0_isWarm 14 = .ok (.iconst 4, 1) := by decide +kernel
theorem dX0_isWarm_15 : decode cX0_isWarm 15 = .ok (.if_icmp .lt 7, 3) := by decide +kernel
theorem dX0_isWarm_18 : decode cX0_isWarm 18 = .ok (.iconst 1, 1) := by decide +kernel
theorem dX0_isWarm_19 : decode cX0_isWarm 19 = .ok (.goto 4, 3) := by decide +kernel
theorem dX0_isWarm_22 : decode cX0_isWarm 22 = .ok (.iconst 0, 1) := by decide +kernel
theorem dX0_isWarm_23 : decode cX0_isWarm 23 = .ok (.ireturn, 1) := by decide +kernel
set_option maxRecDepth 20000 in
theorem ggX0_cheapestFree_X0_isFree : GoodIn wsX0_cheapestFree wsX0_isFree := goodIn_r _ [7, 8, 9, 10, 11, 6, 12, 1, 13, 14, 15, 16, 17, 18] (by decide +kernel) (by decide +kernel)
set_option maxRecDepth 20000 in
theorem gX0_cheapestFree_X0_isFree : GoodIn wsX0_cheapestFree (wsV RX0 46 RX0 yX0_isFree wsX0_isFree) := goodIn_app (goodIn_of _ (by decide +kernel)) ggX0_cheapestFree_X0_isFree
theorem dX0_cheapestFree_0 : decode cX0_cheapestFree 0 = .ok (.iconst (-1), 1) := by decide +kernel
theorem dX0_cheapestFree_1 : decode cX0_cheapestFree 1 = .ok (.istore_n 1, 1) := by decide +kernel
theorem dX0_cheapestFree_2 : decode cX0_cheapestFree 2 = .ok (.iconst 0, 1) := by decide +kernel
theorem dX0_cheapestFree_3 : decode cX0_cheapestFree 3 = .ok (.istore_n 2, 1) := by decide +kernel
theorem dX0_cheapestFree_4 : decode cX0_cheapestFree 4 = .ok (.iload_n 2, 1) := by decide +kernel
theorem dX0_cheapestFree_5 : decode cX0_cheapestFree 5 = .ok (.aload_n 0, 1) := by decide +kernel
theorem dX0_cheapestFree_6 : decode cX0_cheapestFree 6 = .ok (.getfield 7, 3) := by decide +kernel
theorem dX0_cheapestFree_9 : decode cX0_cheapestFree 9 = .ok (.if_icmp .ge 39, 3) := by decide +kernel
theorem dX0_cheapestFree_12 : decode cX0_cheapestFree 12 = .ok (.aload_n 0, 1) := by decide +kernel
theorem dX0_cheapestFree_13 : decode cX0_cheapestFree 13 = .ok (.iload_n 2, 1) := by decide +kernel
theorem dX0_cheapestFree_14 : decode cX0_cheapestFree 14 = .ok (.invokevirtual 46, 3) := by decide +kernel
theorem dX0_cheapestFree_17 : decode cX0_cheapestFree 17 = .ok (.ifCond .eq 25, 3) := by decide +kernel
theorem dX0_cheapestFree_20 : decode cX0_cheapestFree 20 = .ok (.iload_n 1, 1) := by decide +kernel
theorem dX0_cheapestFree_21 : decode cX0_cheapestFree 21 = .ok (.iconst (-1), 1) := by decide +kernel
theorem dX0_cheapestFree_22 : decode cX0_cheapestFree 22 = .ok (.if_icmp .eq 18, 3) := by decide +kernel
theorem dX0_cheapestFree_25 : decode cX0_cheapestFree 25 = .ok (.aload_n 0, 1) := by decide +kernel
theorem dX0_cheapestFree_26 : decode cX0_cheapestFree 26 = .ok (.getfield 13, 3) := by decide +kernel
theorem dX0_cheapestFree_29 : decode cX0_cheapestFree 29 = .ok (.iload_n 2, 1) := by decide +kernel
theorem dX0_cheapestFree_30 : decode cX0_cheapestFree 30 = .ok (.iaload, 1) := by decide +kernel
theorem dX0_cheapestFree_31 : decode cX0_cheapestFree 31 = .ok (.aload_n 0, 1) := by decide +kernel
theorem dX0_cheapestFree_32 : decode cX0_cheapestFree 32 = .ok (.getfield 13, 3) := by decide +kernel
theorem dX0_cheapestFree_35 : decode cX0_cheapestFree 35 = .ok (.iload_n 1, 1) := by decide +kernel
theorem dX0_cheapestFree_36 : decode cX0_cheapestFree 36 = .ok (.iaload, 1) := by decide +kernel
theorem dX0_cheapestFree_37 : decode cX0_cheapestFree 37 = .ok (.if_icmp .ge 5, 3) := by decide +kernel
theorem dX0_cheapestFree_40 : decode cX0_cheapestFree 40 = .ok (.iload_n 2, 1) := by decide +kernel
theorem dX0_cheapestFree_41 : decode cX0_cheapestFree 41 = .ok (.istore_n 1, 1) := by decide +kernel
theorem dX0_cheapestFree_42 : decode cX0_cheapestFree 42 = .ok (.iinc 2 1, 3) := by decide +kernel
theorem dX0_cheapestFree_45 : decode cX0_cheapestFree 45 = .ok (.goto (-41), 3) := by decide +kernel
theorem dX0_cheapestFree_48 : decode cX0_cheapestFree 48 = .ok (.iload_n 1, 1) := by decide +kernel
theorem dX0_cheapestFree_49 : decode cX0_cheapestFree 49 = .ok (.ireturn, 1) := by decide +kernel
theorem dX0_changeWarmth_0 : decode cX0_changeWarmth 0 = .ok (.iconst 0, 1) := by decide +kernel
theorem dX0_changeWarmth_1 : decode cX0_changeWarmth 1 = .ok (.istore_n 1, 1) := by decide +kernel
theorem dX0_changeWarmth_2 : decode cX0_changeWarmth 2 = .ok (.iload_n 1, 1) := by decide +kernel
theorem dX0_changeWarmth_3 : decode cX0_changeWarmth 3 = .ok (.aload_n 0, 1) := by decide +kernel
theorem dX0_changeWarmth_4 : decode cX0_changeWarmth 4 = .ok (.getfield 7, 3) := by decide +kernel
theorem dX0_changeWarmth_7 : decode cX0_changeWarmth 7 = .ok (.if_icmp .ge 59, 3) := by decide +kernel
theorem dX0_changeWarmth_10 : decode cX0_changeWarmth 10 = .ok (.aload_n 0, 1) := by decide +kernel
theorem dX0_changeWarmth_11 : decode cX0_changeWarmth 11 = .ok (.getfield 26, 3) := by decide +kernel
theorem dX0_changeWarmth_14 : decode cX0_changeWarmth 14 = .ok (.iload_n 1, 1) := by decide +kernel
theorem dX0_changeWarmth_15 : decode cX0_changeWarmth 15 = .ok (.iaload, 1) := by decide +kernel
theorem dX0_changeWarmth_16 : decode cX0_changeWarmth 16 = .ok (.iconst (-1), 1) := by decide +kernel
theorem dX0_changeWarmth_17 : decode cX0_changeWarmth 17 = .ok (.if_icmp .ne 24, 3) := by decide +kernel
theorem dX0_changeWarmth_20 : decode cX0_changeWarmth 20 = .ok (.aload_n 0, 1) := by decide +kernel
theorem dX0_changeWarmth_21 : decode cX0_changeWarmth 21 = .ok (.getfield 17, 3) := by decide +kernel
theorem dX0_changeWarmth_24 : decode cX0_changeWarmth 24 = .ok (.iload_n 1, 1) := by decide +kernel
theorem dX0_changeWarmth_25 : decode cX0_changeWarmth 25 = .ok (.iconst 0, 1) := by decide +kernel
theorem dX0_changeWarmth_26 : decode cX0_changeWarmth 26 = .ok (.aload_n 0, 1) := by decide +kernel
theorem dX0_changeWarmth_27 : decode cX0_changeWarmth 27 = .ok (.getfield 17, 3) := by decide +kernel
theorem dX0_changeWarmth_30 : decode cX0_changeWarmth 30 = .ok (.iload_n 1, 1) := by decide +kernel
theorem dX0_changeWarmth_31 : decode cX0_changeWarmth 31 = .ok (.iaload, 1) := by decide +kernel
theorem dX0_changeWarmth_32 : decode cX0_changeWarmth 32 = .ok (.iconst 1, 1) := by decide +kernel
theorem dX0_changeWarmth_33 : decode cX0_changeWarmth 33 = .ok (.isub, 1) := by decide +kernel
theorem dX0_changeWarmth_34 : decode cX0_changeWarmth 34 = .ok (.invokestatic 49, 3) := by decide +kernel
theorem dX0_changeWarmth_37 : decode cX0_changeWarmth 37 = .ok (.iastore, 1) := by decide +kernel
theorem dX0_changeWarmth_38 : decode cX0_changeWarmth 38 = .ok (.goto 22, 3) := by decide +kernel
theorem dX0_changeWarmth_41 : decode cX0_changeWarmth 41 = .ok (.aload_n 0, 1) := by decide +kernel
theorem dX0_changeWarmth_42 : decode cX0_changeWarmth 42 = .ok (.getfield 17, 3) := by decide +kernel
theorem dX0_changeWarmth_45 : decode cX0_changeWarmth 45 = .ok (.iload_n 1, 1) := by decide +kernel
theorem dX0_changeWarmth_46 : decode cX0_changeWarmth 46 = .ok (.bipush 8, 2) := by decide +kernel
theorem dX0_changeWarmth_48 : decode cX0_changeWarmth 48 = .ok (.aload_n 0, 1) := by decide +kernel
theorem dX0_changeWarmth_49 : decode cX0_changeWarmth 49 = .ok (.getfield 17, 3) := by decide +kernel
theorem dX0_changeWarmth_52 : decode cX0_changeWarmth 52 = .ok (.iload_n 1, 1) := by decide +kernel
theorem dX0_changeWarmth_53 : decode cX0_changeWarmth 53 = .ok (.iaload, 1) := by decide +kernel
theorem dX0_changeWarmth_54 : decode cX0_changeWarmth 54 = .ok (.iconst 2, 1) := by decide +kernel
theorem dX0_changeWarmth_55 : decode cX0_changeWarmth 55 = .ok (.iadd, 1) := by decide +kernel
theorem dX0_changeWarmth_56 : decode cX0_changeWarmth 56 = .ok (.invokestatic 55, 3) := by decide +kernel
theorem dX0_changeWarmth_59 : decode cX0_changeWarmth 59 = .ok (.iastore, 1) := by decide +kernel
theorem dX0_changeWarmth_60 : decode cX0_changeWarmth 60 = .ok (.iinc 1 1, 3) := by decide +kernel
theorem dX0_changeWarmth_63 : decode cX0_changeWarmth 63 = .ok (.goto (-61), 3) := by decide +kernel
theorem dX0_changeWarmth_66 : decode cX0_changeWarmth 66 = .ok (.return_, 1) := by decide +kernel
set_option maxRecDepth 20000 in
theorem ggX1_init_X0_init : GoodIn wsX1_init wsX0_init := goodIn_r _ [16, 17, 2, 3, 18, 19, 20, 21, 22, 23, 24, 46, 47, 48, 49, 50, 51] (by decide +kernel) (by decide +kernel)
set_option maxRecDepth 20000 in
theorem gX1_init_X0_init_n21 : GoodIn wsX1_init (wsX0_init) := ggX1_init_X0_init
set_option maxRecDepth 20000 in
theorem ggX1_init_X2_init : GoodIn wsX1_init wsX2_init := goodIn_r _ [26, 27, 2, 3, 28, 19, 29, 30, 31, 32, 33, 34, 35, 36, 37, 38, 39, 40, 52, 53, 54, 55, 56, 57, 58, 59, 60, 61, 62, 63, 64] (by decide +kernel) (by decide +kernel)
set_option maxRecDepth 20000 in
theorem gX1_init_X2_init_n28 : GoodIn wsX1_init (wsX2_init) := ggX1_init_X2_init
theorem dX1_init_0 : decode cX1_init 0 = .ok (.aload_n 0, 1) := by decide +kernel
theorem dX1_init_1 : decode cX1_init 1 = .ok (.invokespecial 1, 3) := by decide +kernel
theorem dX1_init_4 : decode cX1_init 4 = .ok (.aload_n 0, 1) := by decide +kernel
theorem dX1_init_5 : decode cX1_init 5 = .ok (.iconst 0, 1) := by decide +kernel
theorem dX1_init_6 : decode cX1_init 6 = .ok (.putfield 7, 3) := by decide +kernel
theorem dX1_init_9 : decode cX1_init 9 = .ok (.aload_n 0, 1) := by decide +kernel
theorem dX1_init_10 : decode cX1_init 10 = .ok (.iconst 5, 1) := by decide +kernel
theorem dX1_init_11 : decode cX1_init 11 = .ok (.putfield 13, 3) := by decide +kernel
theorem dX1_init_14 : decode cX1_init 14 = .ok (.aload_n 0, 1) := by decide +kernel
theorem dX1_init_15 : decode cX1_init 15 = .ok (.bipush 6, 2) := by decide +kernel
theorem dX1_init_17 : decode cX1_init 17 = .ok (.putfield 16, 3) := by decide +kernel
theorem dX1_init_20 : decode cX1_init 20 = .ok (.aload_n 0, 1) := by decide +kernel
theorem dX1_init_21 : decode cX1_init 21 = .ok (.new 19, 3) := by decide +kernel
theorem dX1_init_24 : decode cX1_init 24 = .ok (.dup, 1) := by decide +kernel
theorem dX1_init_25 : decode cX1_init 25 = .ok (.invokespecial 21, 3) := by decide +kernel
theorem dX1_init_28 : decode cX1_init 28 = .ok (.putfield 22, 3) := by decide +kernel
theorem dX1_init_31 : decode cX1_init 31 = .ok (.aload_n 0, 1) := by decide +kernel
theorem dX1_init_32 : decode cX1_init 32 = .ok (.new 26, 3) := by decide +kernel
theorem dX1_init_35 : decode cX1_init 35 = .ok (.dup, 1) := by decide +kernel
theorem dX1_init_36 : decode cX1_init 36 = .ok (.invokespecial 28, 3) := by decide +kernel
theorem dX1_init_39 : decode cX1_init 39 = .ok (.putfield 29, 3) := by decide +kernel
theorem dX1_init_42 : decode cX1_init 42 = .ok (.return_, 1) := by decide +kernel
set_option maxRecDepth 20000 in
theorem ggX1_copyFrom_X0_copyFrom : GoodIn wsX1_copyFrom wsX0_copyFrom := goodIn_r _ [10, 11, 12, 13, 14, 15, 16, 17, 18, 19, 43, 44, 45, 46, 47, 48] (by decide +kernel) (by decide +kernel)
set_option maxRecDepth 20000 in
theorem gX1_copyFrom_X0_copyFrom : GoodIn wsX1_copyFrom (wsV RX1 33 RX0 yX0_copyFrom wsX0_copyFrom) := goodIn_app (goodIn_of _ (by decide +kernel)) ggX1_copyFrom_X0_copyFrom
set_option maxRecDepth 20000 in
theorem ggX1_copyFrom_X2_copyFrom : GoodIn wsX1_copyFrom wsX2_copyFrom := goodIn_r _ [24, 25, 26, 27, 28, 29, 30, 31, 32, 33, 34, 35, 36, 37, 17, 18, 19, 49, 50, 51, 52, 53, 54, 55, 56, 57, 58, 59, 60, 61] (by decide +kernel) (by decide +kernel)
set_option maxRecDepth 20000 in
theorem gX1_copyFrom_X2_copyFrom : GoodIn wsX1_copyFrom (wsV RX1 37 RX2 yX2_copyFrom wsX2_copyFrom) := goodIn_app (goodIn_of _ (by decide +kernel)) ggX1_copyFrom_X2_copyFrom
theorem dX1_copyFrom_0 : decode cX1_copyFrom 0 = .ok (.aload_n 0, 1) := by decide +kernel
theorem dX1_copyFrom_1 : decode cX1_copyFrom 1 = .ok (.aload_n 1, 1) := by decide +kernel
theorem dX1_copyFrom_2 : decode cX1_copyFrom 2 = .ok (.getfield 7, 3) := by decide +kernel
theorem dX1_copyFrom_5 : decode cX1_copyFrom 5 = .ok (.putfield 7, 3) := by decide +kernel
theorem dX1_copyFrom_8 : decode cX1_copyFrom 8 = .ok (.aload_n 0, 1) := by decide +kernel
theorem dX1_copyFrom_9 : decode cX1_copyFrom 9 = .ok (.aload_n 1, 1) := by decide +kernel
theorem dX1_copyFrom_10 : decode cX1_copyFrom 10 = .ok (.getfield 13, 3) := by decide +kernel
theorem dX1_copyFrom_13 : decode cX1_copyFrom 13 = .ok (.putfield 13, 3) := by decide +kernel
theorem dX1_copyFrom_16 : decode cX1_copyFrom 16 = .ok (.aload_n 0, 1) := by decide +kernel
theorem dX1_copyFrom_17 : decode cX1_copyFrom 17 = .ok (.aload_n 1, 1) := by decide +kernel
theorem dX1_copyFrom_18 : decode cX1_copyFrom 18 = .ok (.getfield 16, 3) := by decide +kernel
theorem dX1_copyFrom_21 : decode cX1_copyFrom 21 = .ok (.putfield 16, 3) := by decide +kernel
theorem dX1_copyFrom_24 : decode cX1_copyFrom 24 = .ok (.aload_n 0, 1) := by decide +kernel
theorem dX1_copyFrom_25 : decode cX1_copyFrom 25 = .ok (.getfield 22, 3) := by decide +kernel
theorem dX1_copyFrom_28 : decode cX1_copyFrom 28 = .ok (.aload_n 1, 1) := by decide +kernel
theorem dX1_copyFrom_29 : decode cX1_copyFrom 29 = .ok (.getfield 22, 3) := by decide +kernel
theorem dX1_copyFrom_32 : decode cX1_copyFrom 32 = .ok (.invokevirtual 33, 3) := by decide +kernel
theorem dX1_copyFrom_35 : decode cX1_copyFrom 35 = .ok (.aload_n 0, 1) := by decide +kernel
theorem dX1_copyFrom_36 : decode cX1_copyFrom 36 = .ok (.getfield 29, 3) := by decide +kernel
theorem dX1_copyFrom_39 : decode cX1_copyFrom 39 = .ok (.aload_n 1, 1) := by decide +kernel
theorem dX1_copyFrom_40 : decode cX1_copyFrom 40 = .ok (.getfield 29, 3) := by decide +kernel
theorem dX1_copyFrom_43 : decode cX1_copyFrom 43 = .ok (.invokevirtual 37, 3) := by decide +kernel
theorem dX1_copyFrom_46 : decode cX1_copyFrom 46 = .ok (.return_, 1) := by decide +kernel
theorem dX1_watchNow_0 : decode cX1_watchNow 0 = .ok (.aload_n 0, 1) := by decide +kernel
theorem dX1_watchNow_1 : decode cX1_watchNow 1 = .ok (.getfield 7, 3) := by decide +kernel
theorem dX1_watchNow_4 : decode cX1_watchNow 4 = .ok (.bipush 24, 2) := by decide +kernel
theorem dX1_watchNow_6 : decode cX1_watchNow 6 = .ok (.irem, 1) := by decide +kernel
theorem dX1_watchNow_7 : decode cX1_watchNow 7 = .ok (.bipush 8, 2) := by decide +kernel
theorem dX1_watchNow_9 : decode cX1_watchNow 9 = .ok (.idiv, 1) := by decide +kernel
theorem dX1_watchNow_10 : decode cX1_watchNow 10 = .ok (.ireturn, 1) := by decide +kernel
set_option maxRecDepth 20000 in
theorem ggX1_goOn_X1_ringBell : GoodIn wsX1_goOn wsX1_ringBell := goodIn_r _ [10, 1, 11, 12, 13, 14, 15, 16, 17, 18, 19, 20, 21, 9, 22, 23, 24, 25, 26, 27, 5, 28, 29, 30, 31, 32, 33, 34, 35, 36, 4, 37, 38, 39, 40, 41, 42, 43, 44, 45, 46, 47, 48, 49, 50, 142, 143, 144, 145, 146, 147, 148, 149, 150, 151, 152, 153, 154, 155, 156, 157, 158, 159, 160, 161, 162, 163, 164, 165] (by decide +kernel) (by decide +kernel)
set_option maxRecDepth 20000 in
theorem gX1_goOn_X1_ringBell : GoodIn wsX1_goOn (wsV RX1 43 RX1 yX1_ringBell wsX1_ringBell) := goodIn_app (goodIn_of _ (by decide +kernel)) ggX1_goOn_X1_ringBell
set_option maxRecDepth 20000 in
theorem ggX1_goOn_X1_serve : GoodIn wsX1_goOn wsX1_serve := goodIn_r _ [54, 5, 1, 19, 20, 21, 9, 22, 23, 24, 25, 26, 27, 55, 56, 57, 16, 58, 59, 50, 60, 61, 62, 63, 64, 65, 66, 67, 68, 69, 70, 71, 72, 73, 74, 75, 76, 77, 78, 79, 80, 81, 82, 83, 84, 85, 86, 87, 88, 13, 14, 15, 17, 18, 89, 90, 91, 92, 93, 4, 94, 95, 96, 42, 97, 98, 99, 40, 41, 43, 44, 100, 101, 102, 103, 104, 105, 39, 106, 107, 108, 109, 110, 111, 112, 113, 114, 115, 116, 117, 118, 119, 38, 36, 120, 121, 37, 122, 123, 124, 125, 126, 142, 143, 144, 145, 146, 147, 148, 149, 150, 151, 152, 153, 154, 155, 156, 157, 158, 159, 160, 161, 162, 163, 164, 165] (by decide +kernel) (by decide +kernel)
set_option maxRecDepth 20000 in
theorem gX1_goOn_X1_serve : GoodIn wsX1_goOn (wsV RX1 47 RX1 yX1_serve wsX1_serve) := goodIn_app (goodIn_of _ (by decide +kernel)) ggX1_goOn_X1_serve
set_option maxRecDepth 20000 in
theorem ggX1_goOn_X1_restOfHour : GoodIn wsX1_goOn wsX1_restOfHour := goodIn_r _ [130, 1, 38, 4, 36, 5, 131, 132, 133, 42, 134, 135, 99, 40, 41, 43, 44, 142, 143, 144, 145, 146, 147, 148, 149, 150, 151, 152, 153, 154, 155, 156, 157, 158, 159, 160, 161, 162, 163, 164, 165] (by decide +kernel) (by decide +kernel)
set_option maxRecDepth 20000 in
theorem gX1_goOn_X1_restOfHour : GoodIn wsX1_goOn (wsV RX1 54 RX1 yX1_restOfHour wsX1_restOfHour) := goodIn_app (goodIn_of _ (by decide +kernel)) ggX1_goOn_X1_restOfHour
set_option maxRecDepth 20000 in
theorem ggX1_goOn_X0_changeWarmth : GoodIn wsX1_goOn wsX0_changeWarmth := goodIn_r _ [139, 44, 98, 135, 140, 61, 62, 63, 141, 75, 76, 160, 161, 162, 163, 164, 165] (by decide +kernel) (by decide +kernel)
set_option maxRecDepth 20000 in
theorem gX1_goOn_X0_changeWarmth : GoodIn wsX1_goOn (wsV RX1 58 RX0 yX0_changeWarmth wsX0_changeWarmth) := goodIn_app (goodIn_of _ (by decide +kernel)) ggX1_goOn_X0_changeWarmth
theorem dX1_goOn_0 : decode cX1_goOn 0 = .ok (.iconst 0, 1) := by decide +kernel
theorem dX1_goOn_1 : decode cX1_goOn 1 = .ok (.istore_n 2, 1) := by decide +kernel
theorem dX1_goOn_2 : decode cX1_goOn 2 = .ok (.iload_n 2, 1) := by decide +kernel
theorem dX1_goOn_3 : decode cX1_goOn 3 = .ok (.iload_n 1, 1) := by decide +kernel
theorem dX1_goOn_4 : decode cX1_goOn 4 = .ok (.if_icmp .ge 110, 3) := by decide +kernel
theorem dX1_goOn_7 : decode cX1_goOn 7 = .ok (.iconst 0, 1) := by decide +kernel
theorem dX1_goOn_8 : decode cX1_goOn 8 = .ok (.istore_n 3, 1) := by decide +kernel
theorem dX1_goOn_9 : decode cX1_goOn 9 = .ok (.iload_n 3, 1) := by decide +kernel
theorem dX1_goOn_10 : decode cX1_goOn 10 = .ok (.aload_n 0, 1) := by decide +kernel
theorem dX1_goOn_11 : decode cX1_goOn 11 = .ok (.getfield 29, 3) := by decide +kernel
theorem dX1_goOn_14 : decode cX1_goOn 14 = .ok (.getfield 40, 3) := by decide +kernel
theorem dX1_goOn_17 : decode cX1_goOn 17 = .ok (.if_icmp .ge 14, 3) := by decide +kernel
theorem dX1_goOn_20 : decode cX1_goOn 20 = .ok (.aload_n 0, 1) := by decide +kernel
theorem dX1_goOn_21 : decode cX1_goOn 21 = .ok (.iload_n 3, 1) := by decide +kernel
theorem dX1_goOn_22 : decode cX1_goOn 22 = .ok (.invokevirtual 43, 3) := by decide +kernel
theorem dX1_goOn_25 : decode cX1_goOn 25 = .ok (.iinc 3 1, 3) := by decide +kernel
theorem dX1_goOn_28 : decode cX1_goOn 28 = .ok (.goto (-19), 3) := by decide +kernel
theorem dX1_goOn_31 : decode cX1_goOn 31 = .ok (.iconst 0, 1) := by decide +kernel
theorem dX1_goOn_32 : decode cX1_goOn 32 = .ok (.istore_n 3, 1) := by decide +kernel
theorem dX1_goOn_33 : decode cX1_goOn 33 = .ok (.iload_n 3, 1) := by decide +kernel
theorem dX1_goOn_34 : decode cX1_goOn 34 = .ok (.aload_n 0, 1) := by decide +kernel
theorem dX1_goOn_35 : decode cX1_goOn 35 = .ok (.getfield 29, 3) := by decide +kernel
theorem dX1_goOn_38 : decode cX1_goOn 38 = .ok (.getfield 40, 3) := by decide +kernel
theorem dX1_goOn_41 : decode cX1_goOn 41 = .ok (.if_icmp .ge 14, 3) := by decide +kernel
theorem dX1_goOn_44 : decode cX1_goOn 44 = .ok (.aload_n 0, 1) := by decide +kernel
theorem dX1_goOn_45 : decode cX1_goOn 45 = .ok (.iload_n 3, 1) := by decide +kernel
theorem dX1_goOn_46 : decode cX1_goOn 46 = .ok (.invokevirtual 47, 3) := by decide +kernel
theorem dX1_goOn_49 : decode cX1_goOn 49 = .ok (.iinc 3 1, 3) := by decide +kernel
theorem dX1_goOn_52 : decode cX1_goOn 52 = .ok (.goto (-19), 3) := by decide +kernel
theorem dX1_goOn_55 : decode cX1_goOn 55 = .ok (.iconst 0, 1) := by decide +kernel
theorem dX1_goOn_56 : decode cX1_goOn 56 = .ok (.istore_n 3, 1) := by decide +kernel
theorem dX1_goOn_57 : decode cX1_goOn 57 = .ok (.iload_n 3, 1) := by decide +kernel
theorem dX1_goOn_58 : decode cX1_goOn 58 = .ok (.aload_n 0, 1) := by decide +kernel
theorem dX1_goOn_59 : decode cX1_goOn 59 = .ok (.getfield 29, 3) := by decide +kernel
theorem dX1_goOn_62 : decode cX1_goOn 62 = .ok (.getfield 40, 3) := by decide +kernel
theorem dX1_goOn_65 : decode cX1_goOn 65 = .ok (.if_icmp .ge 26, 3) := by decide +kernel
theorem dX1_goOn_68 : decode cX1_goOn 68 = .ok (.aload_n 0, 1) := by decide +kernel
theorem dX1_goOn_69 : decode cX1_goOn 69 = .ok (.getfield 29, 3) := by decide +kernel
theorem dX1_goOn_72 : decode cX1_goOn 72 = .ok (.getfield 50, 3) := by decide +kernel
theorem dX1_goOn_75 : decode cX1_goOn 75 = .ok (.iload_n 3, 1) := by decide +kernel
theorem dX1_goOn_76 : decode cX1_goOn 76 = .ok (.dup2, 1) := by decide +kernel
theorem dX1_goOn_77 : decode cX1_goOn 77 = .ok (.iaload, 1) := by decide +kernel
theorem dX1_goOn_78 : decode cX1_goOn 78 = .ok (.aload_n 0, 1) := by decide +kernel
theorem dX1_goOn_79 : decode cX1_goOn 79 = .ok (.iload_n 3, 1) := by decide +kernel
theorem dX1_goOn_80 : decode cX1_goOn 80 = .ok (.invokevirtual 54, 3) := by decide +kernel
theorem dX1_goOn_83 : decode cX1_goOn 83 = .ok (.iadd, 1) := by decide +kernel
theorem dX1_goOn_84 : decode cX1_goOn 84 = .ok (.iastore, 1) := by decide +kernel
theorem dX1_goOn_85 : decode cX1_goOn 85 = .ok (.iinc 3 1, 3) := by decide +kernel
theorem dX1_goOn_88 : decode cX1_goOn 88 = .ok (.goto (-31), 3) := by decide +kernel
theorem dX1_goOn_91 : decode cX1_goOn 91 = .ok (.aload_n 0, 1) := by decide +kernel
theorem dX1_goOn_92 : decode cX1_goOn 92 = .ok (.getfield 22, 3) := by decide +kernel
theorem dX1_goOn_95 : decode cX1_goOn 95 = .ok (.invokevirtual 58, 3) := by decide +kernel
theorem dX1_goOn_98 : decode cX1_goOn 98 = .ok (.aload_n 0, 1) := by decide +kernel
theorem dX1_goOn_99 : decode cX1_goOn 99 = .ok (.dup, 1) := by decide +kernel
theorem dX1_goOn_100 : decode cX1_goOn 100 = .ok (.getfield 7, 3) := by decide +kernel
theorem dX1_goOn_103 : decode cX1_goOn 103 = .ok (.iconst 1, 1) := by decide +kernel
theorem dX1_goOn_104 : decode cX1_goOn 104 = .ok (.iadd, 1) := by decide +kernel
theorem dX1_goOn_105 : decode cX1_goOn 105 = .ok (.putfield 7, 3) := by decide +kernel
theorem dX1_goOn_108 : decode cX1_goOn 108 = .ok (.iinc 2 1, 3) := by decide +kernel
theorem dX1_goOn_111 : decode cX1_goOn 111 = .ok (.goto (-109), 3) := by decide +kernel
theorem dX1_goOn_114 : decode cX1_goOn 114 = .ok (.return_, 1) := by decide +kernel
set_option maxRecDepth 20000 in
theorem ggX1_getUp_X0_has : GoodIn wsX1_getUp wsX0_has := goodIn_r _ [10, 11, 30, 31, 32, 33, 34, 35] (by decide +kernel) (by decide +kernel)
set_option maxRecDepth 20000 in
theorem gX1_getUp_X0_has : GoodIn wsX1_getUp (wsV RX1 64 RX0 yX0_has wsX0_has) := goodIn_app (goodIn_of _ (by decide +kernel)) ggX1_getUp_X0_has
theorem dX1_getUp_0 : decode cX1_getUp 0 = .ok (.aload_n 0, 1) := by decide +kernel
theorem dX1_getUp_1 : decode cX1_getUp 1 = .ok (.getfield 29, 3) := by decide +kernel
theorem dX1_getUp_4 : decode cX1_getUp 4 = .ok (.getfield 61, 3) := by decide +kernel
theorem dX1_getUp_7 : decode cX1_getUp 7 = .ok (.iload_n 1, 1) := by decide +kernel
theorem dX1_getUp_8 : decode cX1_getUp 8 = .ok (.iaload, 1) := by decide +kernel
theorem dX1_getUp_9 : decode cX1_getUp 9 = .ok (.istore_n 2, 1) := by decide +kernel
theorem dX1_getUp_10 : decode cX1_getUp 10 = .ok (.aload_n 0, 1) := by decide +kernel
theorem dX1_getUp_11 : decode cX1_getUp 11 = .ok (.getfield 22, 3) := by decide +kernel
theorem dX1_getUp_14 : decode cX1_getUp 14 = .ok (.iload_n 2, 1) := by decide +kernel
theorem dX1_getUp_15 : decode cX1_getUp 15 = .ok (.invokevirtual 64, 3) := by decide +kernel
theorem dX1_getUp_18 : decode cX1_getUp 18 = .ok (.ifCond .eq 13, 3) := by decide +kernel
theorem dX1_getUp_21 : decode cX1_getUp 21 = .ok (.aload_n 0, 1) := by decide +kernel
theorem dX1_getUp_22 : decode cX1_getUp 22 = .ok (.getfield 22, 3) := by decide +kernel
theorem dX1_getUp_25 : decode cX1_getUp 25 = .ok (.getfield 68, 3) := by decide +kernel
theorem dX1_getUp_28 : decode cX1_getUp 28 = .ok (.iload_n 2, 1) := by decide +kernel
theorem dX1_getUp_29 : decode cX1_getUp 29 = .ok (.iconst (-1), 1) := by decide +kernel
theorem dX1_getUp_30 : decode cX1_getUp 30 = .ok (.iastore, 1) := by decide +kernel
theorem dX1_getUp_31 : decode cX1_getUp 31 = .ok (.aload_n 0, 1) := by decide +kernel
theorem dX1_getUp_32 : decode cX1_getUp 32 = .ok (.getfield 29, 3) := by decide +kernel
theorem dX1_getUp_35 : decode cX1_getUp 35 = .ok (.getfield 61, 3) := by decide +kernel
theorem dX1_getUp_38 : decode cX1_getUp 38 = .ok (.iload_n 1, 1) := by decide +kernel
theorem dX1_getUp_39 : decode cX1_getUp 39 = .ok (.iconst (-1), 1) := by decide +kernel
theorem dX1_getUp_40 : decode cX1_getUp 40 = .ok (.iastore, 1) := by decide +kernel
theorem dX1_getUp_41 : decode cX1_getUp 41 = .ok (.aload_n 0, 1) := by decide +kernel
theorem dX1_getUp_42 : decode cX1_getUp 42 = .ok (.getfield 29, 3) := by decide +kernel
theorem dX1_getUp_45 : decode cX1_getUp 45 = .ok (.getfield 71, 3) := by decide +kernel
theorem dX1_getUp_48 : decode cX1_getUp 48 = .ok (.iload_n 1, 1) := by decide +kernel
theorem dX1_getUp_49 : decode cX1_getUp 49 = .ok (.iconst 0, 1) := by decide +kernel
theorem dX1_getUp_50 : decode cX1_getUp 50 = .ok (.iastore, 1) := by decide +kernel
theorem dX1_getUp_51 : decode cX1_getUp 51 = .ok (.return_, 1) := by decide +kernel
set_option maxRecDepth 20000 in
theorem ggX1_pawnBoots_X2_earn : GoodIn wsX1_pawnBoots wsX2_earn := goodIn_r _ [8, 9, 10, 11, 12, 13, 19, 20, 21, 22, 23, 24, 25, 26, 27, 28, 29, 30, 31] (by decide +kernel) (by decide +kernel)
set_option maxRecDepth 20000 in
theorem gX1_pawnBoots_X2_earn : GoodIn wsX1_pawnBoots (wsV RX1 77 RX2 yX2_earn wsX2_earn) := goodIn_app (goodIn_of _ (by decide +kernel)) ggX1_pawnBoots_X2_earn
theorem dX1_pawnBoots_0 : decode cX1_pawnBoots 0 = .ok (.aload_n 0, 1) := by decide +kernel
theorem dX1_pawnBoots_1 : decode cX1_pawnBoots 1 = .ok (.getfield 29, 3) := by decide +kernel
theorem dX1_pawnBoots_4 : decode cX1_pawnBoots 4 = .ok (.getfield 74, 3) := by decide +kernel
theorem dX1_pawnBoots_7 : decode cX1_pawnBoots 7 = .ok (.iload_n 1, 1) := by decide +kernel
theorem dX1_pawnBoots_8 : decode cX1_pawnBoots 8 = .ok (.iconst 0, 1) := by decide +kernel
theorem dX1_pawnBoots_9 : decode cX1_pawnBoots 9 = .ok (.iastore, 1) := by decide +kernel
theorem dX1_pawnBoots_10 : decode cX1_pawnBoots 10 = .ok (.aload_n 0, 1) := by decide +kernel
theorem dX1_pawnBoots_11 : decode cX1_pawnBoots 11 = .ok (.getfield 29, 3) := by decide +kernel
theorem dX1_pawnBoots_14 : decode cX1_pawnBoots 14 = .ok (.iload_n 1, 1) := by decide +kernel
theorem dX1_pawnBoots_15 : decode cX1_pawnBoots 15 = .ok (.aload_n 0, 1) := by decide +kernel
theorem dX1_pawnBoots_16 : decode cX1_pawnBoots 16 = .ok (.getfield 16, 3) := by decide +kernel
theorem dX1_pawnBoots_19 : decode cX1_pawnBoots 19 = .ok (.invokevirtual 77, 3) := by decide +kernel
theorem dX1_pawnBoots_22 : decode cX1_pawnBoots 22 = .ok (.return_, 1) := by decide +kernel
set_option maxRecDepth 20000 in
theorem ggX1_canRedeemBoots_X2_hasBoots : GoodIn wsX1_canRedeemBoots wsX2_hasBoots := goodIn_r _ [8, 9, 15, 16, 17, 18, 19, 20, 21, 22, 23, 24, 25, 26, 27] (by decide +kernel) (by decide +kernel)
set_option maxRecDepth 20000 in
theorem gX1_canRedeemBoots_X2_hasBoots : GoodIn wsX1_canRedeemBoots (wsV RX1 81 RX2 yX2_hasBoots wsX2_hasBoots) := goodIn_app (goodIn_of _ (by decide +kernel)) ggX1_canRedeemBoots_X2_hasBoots
theorem dX1_canRedeemBoots_0 : decode cX1_canRedeemBoots 0 = .ok (.aload_n 0, 1) := by decide +kernel
theorem dX1_canRedeemBoots_1 : decode cX1_canRedeemBoots 1 = .ok (.getfield 29, 3) := by decide +kernel
theorem dX1_canRedeemBoots_4 : decode cX1_canRedeemBoots 4 = .ok (.iload_n 1, 1) := by decide +kernel
theorem dX1_canRedeemBoots_5 : decode cX1_canRedeemBoots 5 = .ok (.invokevirtual 81, 3) := by decide +kernel
theorem dX1_canRedeemBoots_8 : decode cX1_canRedeemBoots 8 = .ok (.ifCond .ne 25, 3) := by decide +kernel
theorem dX1_canRedeemBoots_11 : decode cX1_canRedeemBoots 11 = .ok (.aload_n 0, 1) := by decide +kernel
theorem dX1_canRedeemBoots_12 : decode cX1_canRedeemBoots 12 = .ok (.getfield 29, 3) := by decide +kernel
theorem dX1_canRedeemBoots_15 : decode cX1_canRedeemBoots 15 = .ok (.getfield 84, 3) := by decide +kernel
theorem dX1_canRedeemBoots_18 : decode cX1_canRedeemBoots 18 = .ok (.iload_n 1, 1) := by decide +kernel
theorem dX1_canRedeemBoots_19 : decode cX1_canRedeemBoots 19 = .ok (.iaload, 1) := by decide +kernel
theorem dX1_canRedeemBoots_20 : decode cX1_canRedeemBoots 20 = .ok (.aload_n 0, 1) := by decide +kernel
theorem dX1_canRedeemBoots_21 : decode cX1_canRedeemBoots 21 = .ok (.getfield 16, 3) := by decide +kernel
theorem dX1_canRedeemBoots_24 : decode cX1_canRedeemBoots 24 = .ok (.iconst 2, 1) := by decide +kernel
theorem dX1_canRedeemBoots_25 : decode cX1_canRedeemBoots 25 = .ok (.iadd, 1) := by decide +kernel
theorem dX1_canRedeemBoots_26 : decode cX1_canRedeemBoots 26 = .ok (.if_icmp .lt 7, 3) := by decide +kernel
theorem dX1_canRedeemBoots_29 : decode cX1_canRedeemBoots 29 = .ok (.iconst 1, 1) := by decide +kernel
theorem dX1_canRedeemBoots_30 : decode cX1_canRedeemBoots 30 = .ok (.goto 4, 3) := by decide +kernel
theorem dX1_canRedeemBoots_33 : decode cX1_canRedeemBoots 33 = .ok (.iconst 0, 1) := by decide +kernel
theorem dX1_canRedeemBoots_34 : decode cX1_canRedeemBoots 34 = .ok (.ireturn, 1) := by decide +kernel
theorem dX1_redeemBoots_0 : decode cX1_redeemBoots 0 = .ok (.aload_n 0, 1) := by decide +kernel
theorem dX1_redeemBoots_1 : decode cX1_redeemBoots 1 = .ok (.getfield 29, 3) := by decide +kernel
theorem dX1_redeemBoots_4 : decode cX1_redeemBoots 4 = .ok (.getfield 84, 3) := by decide +kernel
theorem dX1_redeemBoots_7 : decode cX1_redeemBoots 7 = .ok (.iload_n 1, 1) := by decide +kernel
theorem dX1_redeemBoots_8 : decode cX1_redeemBoots 8 = .ok (.dup2, 1) := by decide +kernel
theorem dX1_redeemBoots_9 : decode cX1_redeemBoots 9 = .ok (.iaload, 1) := by decide +kernel
theorem dX1_redeemBoots_10 : decode cX1_redeemBoots 10 = .ok (.aload_n 0, 1) := by decide +kernel
theorem dX1_redeemBoots_11 : decode cX1_redeemBoots 11 = .ok (.getfield 16, 3) := by decide +kernel
theorem dX1_redeemBoots_14 : decode cX1_redeemBoots 14 = .ok (.iconst 2, 1) := by decide +kernel
theorem dX1_redeemBoots_15 : decode cX1_redeemBoots 15 = .ok (.iadd, 1) := by decide +kernel
theorem dX1_redeemBoots_16 : decode cX1_redeemBoots 16 = .ok (.isub, 1) := by decide +kernel
theorem dX1_redeemBoots_17 : decode cX1_redeemBoots 17 = .ok (.iastore, 1) := by decide +kernel
theorem dX1_redeemBoots_18 : decode cX1_redeemBoots 18 = .ok (.aload_n 0, 1) := by decide +kernel
theorem dX1_redeemBoots_19 : decode cX1_redeemBoots 19 = .ok (.getfield 29, 3) := by decide +kernel
theorem dX1_redeemBoots_22 : decode cX1_redeemBoots 22 = .ok (.getfield 74, 3) := by decide +kernel
theorem dX1_redeemBoots_25 : decode cX1_redeemBoots 25 = .ok (.iload_n 1, 1) := by decide +kernel
theorem dX1_redeemBoots_26 : decode cX1_redeemBoots 26 = .ok (.iconst 1, 1) := by decide +kernel
theorem dX1_redeemBoots_27 : decode cX1_redeemBoots 27 = .ok (.iastore, 1) := by decide +kernel
theorem dX1_redeemBoots_28 : decode cX1_redeemBoots 28 = .ok (.return_, 1) := by decide +kernel
set_option maxRecDepth 20000 in
theorem ggX1_ringBell_X2_isUp : GoodIn wsX1_ringBell wsX2_isUp := goodIn_r _ [8, 9, 50, 51, 52, 53, 54, 55, 56, 57, 58, 59, 60, 61, 62] (by decide +kernel) (by decide +kernel)
set_option maxRecDepth 20000 in
theorem gX1_ringBell_X2_isUp : GoodIn wsX1_ringBell (wsV RX1 87 RX2 yX2_isUp wsX2_isUp) := goodIn_app (goodIn_of _ (by decide +kernel)) ggX1_ringBell_X2_isUp
set_option maxRecDepth 20000 in
theorem ggX1_ringBell_X1_isInWatch : GoodIn wsX1_ringBell wsX1_isInWatch := goodIn_r _ [14, 1, 15, 16, 17, 18, 13, 19, 20, 45, 46, 47, 48, 49, 50, 51, 52, 53, 54, 55, 56, 57, 58, 59, 60, 61, 62] (by decide +kernel) (by decide +kernel)
set_option maxRecDepth 20000 in
theorem gX1_ringBell_X1_isInWatch : GoodIn wsX1_ringBell (wsV RX1 90 RX1 yX1_isInWatch wsX1_isInWatch) := goodIn_app (goodIn_of _ (by decide +kernel)) ggX1_ringBell_X1_isInWatch
set_option maxRecDepth 20000 in
theorem ggX1_ringBell_X1_hoursSinceWatch : GoodIn wsX1_ringBell wsX1_hoursSinceWatch := goodIn_r _ [24, 1, 15, 20, 45, 46, 47, 48, 49, 50, 51, 52, 53, 54, 55, 56, 57, 58, 59, 60, 61, 62] (by decide +kernel) (by decide +kernel)
set_option maxRecDepth 20000 in
theorem gX1_ringBell_X1_hoursSinceWatch : GoodIn wsX1_ringBell (wsV RX1 93 RX1 yX1_hoursSinceWatch wsX1_hoursSinceWatch) := goodIn_app (goodIn_of _ (by decide +kernel)) ggX1_ringBell_X1_hoursSinceWatch
set_option maxRecDepth 20000 in
theorem ggX1_ringBell_X1_getUp : GoodIn wsX1_ringBell wsX1_getUp := goodIn_r _ [28, 1, 29, 30, 31, 32, 33, 34, 35, 36, 37, 38, 45, 46, 47, 48, 49, 50, 51, 52, 53, 54, 55, 56, 57, 58, 59, 60, 61, 62, 63, 64, 65, 66, 67, 68] (by decide +kernel) (by decide +kernel)
set_option maxRecDepth 20000 in
theorem gX1_ringBell_X1_getUp : GoodIn wsX1_ringBell (wsV RX1 99 RX1 yX1_getUp wsX1_getUp) := goodIn_app (goodIn_of _ (by decide +kernel)) ggX1_ringBell_X1_getUp
set_option maxRecDepth 20000 in
theorem ggX1_ringBell_X2_beLate : GoodIn wsX1_ringBell wsX2_beLate := goodIn_r _ [42, 43, 44, 50, 51, 52, 53, 54, 55, 56, 57, 58, 59, 60, 61, 62] (by decide +kernel) (by decide +kernel)
set_option maxRecDepth 20000 in
theorem gX1_ringBell_X2_beLate : GoodIn wsX1_ringBell (wsV RX1 102 RX2 yX2_beLate wsX2_beLate) := goodIn_app (goodIn_of _ (by decide +kernel)) ggX1_ringBell_X2_beLate
theorem dX1_ringBell_0 : decode cX1_ringBell 0 = .ok (.aload_n 0, 1) := by decide +kernel
theorem dX1_ringBell_1 : decode cX1_ringBell 1 = .ok (.getfield 29, 3) := by decide +kernel
theorem dX1_ringBell_4 : decode cX1_ringBell 4 = .ok (.iload_n 1, 1) := by decide +kernel
theorem dX1_ringBell_5 : decode cX1_ringBell 5 = .ok (.invokevirtual 87, 3) := by decide +kernel
theorem dX1_ringBell_8 : decode cX1_ringBell 8 = .ok (.ifCond .ne 11, 3) := by decide +kernel
theorem dX1_ringBell_11 : decode cX1_ringBell 11 = .ok (.aload_n 0, 1) := by decide +kernel
theorem dX1_ringBell_12 : decode cX1_ringBell 12 = .ok (.iload_n 1, 1) := by decide +kernel
theorem dX1_ringBell_13 : decode cX1_ringBell 13 = .ok (.invokevirtual 90, 3) := by decide +kernel
theorem dX1_ringBell_16 : decode cX1_ringBell 16 = .ok (.ifCond .eq 4, 3) := by decide +kernel
theorem dX1_ringBell_19 : decode cX1_ringBell 19 = .ok (.return_, 1) := by decide +kernel
theorem dX1_ringBell_20 : decode cX1_ringBell 20 = .ok (.aload_n 0, 1) := by decide +kernel
theorem dX1_ringBell_21 : decode cX1_ringBell 21 = .ok (.getfield 13, 3) := by decide +kernel
theorem dX1_ringBell_24 : decode cX1_ringBell 24 = .ok (.iconst 2, 1) := by decide +kernel
theorem dX1_ringBell_25 : decode cX1_ringBell 25 = .ok (.aload_n 0, 1) := by decide +kernel
theorem dX1_ringBell_26 : decode cX1_ringBell 26 = .ok (.iload_n 1, 1) := by decide +kernel
theorem dX1_ringBell_27 : decode cX1_ringBell 27 = .ok (.invokevirtual 93, 3) := by decide +kernel
theorem dX1_ringBell_30 : decode cX1_ringBell 30 = .ok (.imul, 1) := by decide +kernel
theorem dX1_ringBell_31 : decode cX1_ringBell 31 = .ok (.iadd, 1) := by decide +kernel
theorem dX1_ringBell_32 : decode cX1_ringBell 32 = .ok (.istore_n 2, 1) := by decide +kernel
theorem dX1_ringBell_33 : decode cX1_ringBell 33 = .ok (.iload_n 2, 1) := by decide +kernel
theorem dX1_ringBell_34 : decode cX1_ringBell 34 = .ok (.aload_n 0, 1) := by decide +kernel
theorem dX1_ringBell_35 : decode cX1_ringBell 35 = .ok (.getfield 29, 3) := by decide +kernel
theorem dX1_ringBell_38 : decode cX1_ringBell 38 = .ok (.getfield 96, 3) := by decide +kernel
theorem dX1_ringBell_41 : decode cX1_ringBell 41 = .ok (.iload_n 1, 1) := by decide +kernel
theorem dX1_ringBell_42 : decode cX1_ringBell 42 = .ok (.iaload, 1) := by decide +kernel
theorem dX1_ringBell_43 : decode cX1_ringBell 43 = .ok (.if_icmp .lt 11, 3) := by decide +kernel
theorem dX1_ringBell_46 : decode cX1_ringBell 46 = .ok (.aload_n 0, 1) := by decide +kernel
theorem dX1_ringBell_47 : decode cX1_ringBell 47 = .ok (.iload_n 1, 1) := by decide +kernel
theorem dX1_ringBell_48 : decode cX1_ringBell 48 = .ok (.invokevirtual 99, 3) := by decide +kernel
theorem dX1_ringBell_51 : decode cX1_ringBell 51 = .ok (.goto 11, 3) := by decide +kernel
theorem dX1_ringBell_54 : decode cX1_ringBell 54 = .ok (.aload_n 0, 1) := by decide +kernel
theorem dX1_ringBell_55 : decode cX1_ringBell 55 = .ok (.getfield 29, 3) := by decide +kernel
theorem dX1_ringBell_58 : decode cX1_ringBell 58 = .ok (.iload_n 1, 1) := by decide +kernel
theorem dX1_ringBell_59 : decode cX1_ringBell 59 = .ok (.invokevirtual 102, 3) := by decide +kernel
theorem dX1_ringBell_62 : decode cX1_ringBell 62 = .ok (.return_, 1) := by decide +kernel
set_option maxRecDepth 20000 in
theorem ggX1_isInWatch_X1_watchNow : GoodIn wsX1_isInWatch wsX1_watchNow := goodIn_r _ [7, 8, 9, 10, 11, 12, 13] (by decide +kernel) (by decide +kernel)
set_option maxRecDepth 20000 in
theorem gX1_isInWatch_X1_watchNow : GoodIn wsX1_isInWatch (wsV RX1 108 RX1 yX1_watchNow wsX1_watchNow) := goodIn_app (goodIn_of _ (by decide +kernel)) ggX1_isInWatch_X1_watchNow
theorem dX1_isInWatch_0 : decode cX1_isInWatch 0 = .ok (.aload_n 0, 1) := by decide +kernel
theorem dX1_isInWatch_1 : decode cX1_isInWatch 1 = .ok (.getfield 29, 3) := by decide +kernel
theorem dX1_isInWatch_4 : decode cX1_isInWatch 4 = .ok (.getfield 105, 3) := by decide +kernel
theorem dX1_isInWatch_7 : decode cX1_isInWatch 7 = .ok (.iload_n 1, 1) := by decide +kernel
theorem dX1_isInWatch_8 : decode cX1_isInWatch 8 = .ok (.iaload, 1) := by decide +kernel
theorem dX1_isInWatch_9 : decode cX1_isInWatch 9 = .ok (.aload_n 0, 1) := by decide +kernel
theorem dX1_isInWatch_10 : decode cX1_isInWatch 10 = .ok (.invokevirtual 108, 3) := by decide +kernel
theorem dX1_isInWatch_13 : decode cX1_isInWatch 13 = .ok (.if_icmp .ne 7, 3) := by decide +kernel
theorem dX1_isInWatch_16 : decode cX1_isInWatch 16 = .ok (.iconst 1, 1) := by decide +kernel
theorem dX1_isInWatch_17 : decode cX1_isInWatch 17 = .ok (.goto 4, 3) := by decide +kernel
theorem dX1_isInWatch_20 : decode cX1_isInWatch 20 = .ok (.iconst 0, 1) := by decide +kernel
theorem dX1_isInWatch_21 : decode cX1_isInWatch 21 = .ok (.ireturn, 1) := by decide +kernel
theorem dX1_hoursSinceWatch_0 : decode cX1_hoursSinceWatch 0 = .ok (.aload_n 0, 1) := by decide +kernel
theorem dX1_hoursSinceWatch_1 : decode cX1_hoursSinceWatch 1 = .ok (.getfield 29, 3) := by decide +kernel
theorem dX1_hoursSinceWatch_4 : decode cX1_hoursSinceWatch 4 = .ok (.getfield 105, 3) := by decide +kernel
theorem dX1_hoursSinceWatch_7 : decode cX1_hoursSinceWatch 7 = .ok (.iload_n 1, 1) := by decide +kernel
theorem dX1_hoursSinceWatch_8 : decode cX1_hoursSinceWatch 8 = .ok (.iaload, 1) := by decide +kernel
theorem dX1_hoursSinceWatch_9 : decode cX1_hoursSinceWatch 9 = .ok (.iconst 1, 1) := by decide +kernel
theorem dX1_hoursSinceWatch_10 : decode cX1_hoursSinceWatch 10 = .ok (.iadd, 1) := by decide +kernel
theorem dX1_hoursSinceWatch_11 : decode cX1_hoursSinceWatch 11 = .ok (.bipush 8, 2) := by decide +kernel
theorem dX1_hoursSinceWatch_13 : decode cX1_hoursSinceWatch 13 = .ok (.imul, 1) := by decide +kernel
theorem dX1_hoursSinceWatch_14 : decode cX1_hoursSinceWatch 14 = .ok (.istore_n 2, 1) := by decide +kernel
theorem dX1_hoursSinceWatch_15 : decode cX1_hoursSinceWatch 15 = .ok (.aload_n 0, 1) := by decide +kernel
theorem dX1_hoursSinceWatch_16 : decode cX1_hoursSinceWatch 16 = .ok (.getfield 7, 3) := by decide +kernel
theorem dX1_hoursSinceWatch_19 : decode cX1_hoursSinceWatch 19 = .ok (.bipush 24, 2) := by decide +kernel
theorem dX1_hoursSinceWatch_21 : decode cX1_hoursSinceWatch 21 = .ok (.irem, 1) := by decide +kernel
theorem dX1_hoursSinceWatch_22 : decode cX1_hoursSinceWatch 22 = .ok (.bipush 24, 2) := by decide +kernel
theorem dX1_hoursSinceWatch_24 : decode cX1_hoursSinceWatch 24 = .ok (.iadd, 1) := by decide +kernel
theorem dX1_hoursSinceWatch_25 : decode cX1_hoursSinceWatch 25 = .ok (.iload_n 2, 1) := by decide +kernel
theorem dX1_hoursSinceWatch_26 : decode cX1_hoursSinceWatch 26 = .ok (.isub, 1) := by decide +kernel
theorem dX1_hoursSinceWatch_27 : decode cX1_hoursSinceWatch 27 = .ok (.bipush 24, 2) := by decide +kernel
theorem dX1_hoursSinceWatch_29 : decode cX1_hoursSinceWatch 29 = .ok (.irem, 1) := by decide +kernel
theorem dX1_hoursSinceWatch_30 : decode cX1_hoursSinceWatch 30 = .ok (.ireturn, 1) := by decide +kernel
set_option maxRecDepth 20000 in
theorem ggX1_serve_X1_isInWatch : GoodIn wsX1_serve wsX1_isInWatch := goodIn_r _ [7, 2, 8, 9, 10, 11, 6, 12, 1, 102, 103, 104, 105, 106, 107, 108, 109, 110, 111, 112, 113, 114, 115, 116, 117, 118, 119] (by decide +kernel) (by decide +kernel)
set_option maxRecDepth 20000 in
theorem gX1_serve_X1_isInWatch : GoodIn wsX1_serve (wsV RX1 90 RX1 yX1_isInWatch wsX1_isInWatch) := goodIn_app (goodIn_of _ (by decide +kernel)) ggX1_serve_X1_isInWatch
set_option maxRecDepth 20000 in
theorem ggX1_serve_X2_payWage : GoodIn wsX1_serve wsX2_payWage := goodIn_r _ [17, 18, 19, 20, 21, 22, 23, 24, 25, 26, 16, 27, 28, 29, 30, 31, 32, 33, 34, 35, 36, 107, 108, 109, 110, 111, 112, 113, 114, 115, 116, 117, 118, 119] (by decide +kernel) (by decide +kernel)
set_option maxRecDepth 20000 in
theorem gX1_serve_X2_payWage : GoodIn wsX1_serve (wsV RX1 112 RX2 yX2_payWage wsX2_payWage) := goodIn_app (goodIn_of _ (by decide +kernel)) ggX1_serve_X2_payWage
set_option maxRecDepth 20000 in
theorem ggX1_serve_X1_canRedeemBoots : GoodIn wsX1_serve wsX1_canRedeemBoots := goodIn_r _ [40, 2, 41, 42, 43, 25, 26, 16, 27, 28, 102, 103, 104, 105, 106, 107, 108, 109, 110, 111, 112, 113, 114, 115, 116, 117, 118, 119] (by decide +kernel) (by decide +kernel)
set_option maxRecDepth 20000 in
theorem gX1_serve_X1_canRedeemBoots : GoodIn wsX1_serve (wsV RX1 115 RX1 yX1_canRedeemBoots wsX1_canRedeemBoots) := goodIn_app (goodIn_of _ (by decide +kernel)) ggX1_serve_X1_canRedeemBoots
set_option maxRecDepth 20000 in
theorem ggX1_serve_X1_redeemBoots : GoodIn wsX1_serve wsX1_redeemBoots := goodIn_r _ [47, 2, 41, 42, 48, 102, 103, 104, 105, 106, 107, 108, 109, 110, 111, 112, 113, 114, 115, 116, 117, 118, 119] (by decide +kernel) (by decide +kernel)
set_option maxRecDepth 20000 in
theorem gX1_serve_X1_redeemBoots : GoodIn wsX1_serve (wsV RX1 118 RX1 yX1_redeemBoots wsX1_redeemBoots) := goodIn_app (goodIn_of _ (by decide +kernel)) ggX1_serve_X1_redeemBoots
set_option maxRecDepth 20000 in
theorem ggX1_serve_X2_isUp : GoodIn wsX1_serve wsX2_isUp := goodIn_r _ [52, 53, 107, 108, 109, 110, 111, 112, 113, 114, 115, 116, 117, 118, 119] (by decide +kernel) (by decide +kernel)
set_option maxRecDepth 20000 in
theorem gX1_serve_X2_isUp : GoodIn wsX1_serve (wsV RX1 87 RX2 yX2_isUp wsX2_isUp) := goodIn_app (goodIn_of _ (by decide +kernel)) ggX1_serve_X2_isUp
set_option maxRecDepth 20000 in
theorem ggX1_serve_X1_lookForBed : GoodIn wsX1_serve wsX1_lookForBed := goodIn_r _ [57, 2, 58, 59, 1, 60, 61, 62, 63, 64, 65, 66, 67, 68, 69, 70, 71, 72, 73, 74, 75, 76, 77, 78, 79, 80, 6, 81, 82, 41, 42, 43, 25, 26, 16, 27, 28, 83, 84, 85, 86, 48, 87, 30, 31, 32, 33, 34, 35, 22, 36, 88, 89, 90, 91, 92, 93, 94, 95, 96, 97, 98, 99, 100, 53, 101, 102, 103, 104, 105, 106, 107, 108, 109, 110, 111, 112, 113, 114, 115, 116, 117, 118, 119, 120, 121, 122, 123, 124, 125] (by decide +kernel) (by decide +kernel)
set_option maxRecDepth 20000 in
theorem gX1_serve_X1_lookForBed : GoodIn wsX1_serve (wsV RX1 121 RX1 yX1_lookForBed wsX1_lookForBed) := goodIn_app (goodIn_of _ (by decide +kernel)) ggX1_serve_X1_lookForBed
theorem dX1_serve_0 : decode cX1_serve 0 = .ok (.aload_n 0, 1) := by decide +kernel
theorem dX1_serve_1 : decode cX1_serve 1 = .ok (.iload_n 1, 1) := by decide +kernel
theorem dX1_serve_2 : decode cX1_serve 2 = .ok (.invokevirtual 90, 3) := by decide +kernel
theorem dX1_serve_5 : decode cX1_serve 5 = .ok (.ifCond .ne 4, 3) := by decide +kernel
theorem dX1_serve_8 : decode cX1_serve 8 = .ok (.return_, 1) := by decide +kernel
theorem dX1_serve_9 : decode cX1_serve 9 = .ok (.aload_n 0, 1) := by decide +kernel
theorem dX1_serve_10 : decode cX1_serve 10 = .ok (.getfield 7, 3) := by decide +kernel
theorem dX1_serve_13 : decode cX1_serve 13 = .ok (.bipush 8, 2) := by decide +kernel
theorem dX1_serve_15 : decode cX1_serve 15 = .ok (.irem, 1) := by decide +kernel
theorem dX1_serve_16 : decode cX1_serve 16 = .ok (.ifCond .ne 24, 3) := by decide +kernel
theorem dX1_serve_19 : decode cX1_serve 19 = .ok (.aload_n 0, 1) := by decide +kernel
theorem dX1_serve_20 : decode cX1_serve 20 = .ok (.getfield 29, 3) := by decide +kernel
theorem dX1_serve_23 : decode cX1_serve 23 = .ok (.iload_n 1, 1) := by decide +kernel
theorem dX1_serve_24 : decode cX1_serve 24 = .ok (.invokevirtual 112, 3) := by decide +kernel
theorem dX1_serve_27 : decode cX1_serve 27 = .ok (.aload_n 0, 1) := by decide +kernel
theorem dX1_serve_28 : decode cX1_serve 28 = .ok (.iload_n 1, 1) := by decide +kernel
theorem dX1_serve_29 : decode cX1_serve 29 = .ok (.invokevirtual 115, 3) := by decide +kernel
theorem dX1_serve_32 : decode cX1_serve 32 = .ok (.ifCond .eq 8, 3) := by decide +kernel
theorem dX1_serve_35 : decode cX1_serve 35 = .ok (.aload_n 0, 1) := by decide +kernel
theorem dX1_serve_36 : decode cX1_serve 36 = .ok (.iload_n 1, 1) := by decide +kernel
theorem dX1_serve_37 : decode cX1_serve 37 = .ok (.invokevirtual 118, 3) := by decide +kernel
theorem dX1_serve_40 : decode cX1_serve 40 = .ok (.aload_n 0, 1) := by decide +kernel
theorem dX1_serve_41 : decode cX1_serve 41 = .ok (.getfield 29, 3) := by decide +kernel
theorem dX1_serve_44 : decode cX1_serve 44 = .ok (.iload_n 1, 1) := by decide +kernel
theorem dX1_serve_45 : decode cX1_serve 45 = .ok (.invokevirtual 87, 3) := by decide +kernel
theorem dX1_serve_48 : decode cX1_serve 48 = .ok (.ifCond .eq 8, 3) := by decide +kernel
theorem dX1_serve_51 : decode cX1_serve 51 = .ok (.aload_n 0, 1) := by decide +kernel
theorem dX1_serve_52 : decode cX1_serve 52 = .ok (.iload_n 1, 1) := by decide +kernel
theorem dX1_serve_53 : decode cX1_serve 53 = .ok (.invokevirtual 121, 3) := by decide +kernel
theorem dX1_serve_56 : decode cX1_serve 56 = .ok (.return_, 1) := by decide +kernel
set_option maxRecDepth 20000 in
theorem ggX1_lookForBed_X0_isFree : GoodIn wsX1_lookForBed wsX0_isFree := goodIn_r _ [9, 10, 11, 12, 13, 8, 14, 15, 84, 85, 86, 87, 88, 89] (by decide +kernel) (by decide +kernel)
set_option maxRecDepth 20000 in
theorem gX1_lookForBed_X0_isFree : GoodIn wsX1_lookForBed (wsV RX1 127 RX0 yX0_isFree wsX0_isFree) := goodIn_app (goodIn_of _ (by decide +kernel)) ggX1_lookForBed_X0_isFree
set_option maxRecDepth 20000 in
theorem ggX1_lookForBed_X0_cheapestFree : GoodIn wsX1_lookForBed wsX0_cheapestFree := goodIn_r _ [19, 15, 20, 21, 6, 7, 8, 9, 10, 11, 12, 13, 14, 84, 85, 86, 87, 88, 89] (by decide +kernel) (by decide +kernel)
set_option maxRecDepth 20000 in
theorem gX1_lookForBed_X0_cheapestFree : GoodIn wsX1_lookForBed (wsV RX1 130 RX0 yX0_cheapestFree wsX0_cheapestFree) := goodIn_app (goodIn_of _ (by decide +kernel)) ggX1_lookForBed_X0_cheapestFree
set_option maxRecDepth 20000 in
theorem ggX1_lookForBed_X0_has : GoodIn wsX1_lookForBed wsX0_has := goodIn_r _ [14, 15, 84, 85, 86, 87, 88, 89] (by decide +kernel) (by decide +kernel)
set_option maxRecDepth 20000 in
theorem gX1_lookForBed_X0_has : GoodIn wsX1_lookForBed (wsV RX1 64 RX0 yX0_has wsX0_has) := goodIn_app (goodIn_of _ (by decide +kernel)) ggX1_lookForBed_X0_has
set_option maxRecDepth 20000 in
theorem ggX1_lookForBed_X1_tryBed : GoodIn wsX1_lookForBed wsX1_tryBed := goodIn_r _ [27, 3, 28, 1, 29, 30, 31, 32, 33, 34, 35, 36, 37, 38, 39, 26, 40, 41, 42, 43, 44, 45, 46, 47, 48, 49, 50, 51, 52, 53, 54, 55, 56, 57, 58, 59, 60, 61, 62, 63, 64, 65, 66, 67, 68, 69, 70, 84, 85, 86, 87, 88, 89, 71, 72, 73, 74, 75, 76, 77, 78, 79, 80, 81, 82, 83] (by decide +kernel) (by decide +kernel)
set_option maxRecDepth 20000 in
theorem gX1_lookForBed_X1_tryBed : GoodIn wsX1_lookForBed (wsV RX1 133 RX1 yX1_tryBed wsX1_tryBed) := goodIn_app (goodIn_of _ (by decide +kernel)) ggX1_lookForBed_X1_tryBed
set_option maxRecDepth 20000 in
theorem ggX1_lookForBed_X2_lieOnFloor : GoodIn wsX1_lookForBed wsX2_lieOnFloor := goodIn_r _ [63, 64, 65, 71, 72, 73, 74, 75, 76, 77, 78, 79, 80, 81, 82, 83] (by decide +kernel) (by decide +kernel)
set_option maxRecDepth 20000 in
theorem gX1_lookForBed_X2_lieOnFloor : GoodIn wsX1_lookForBed (wsV RX1 136 RX2 yX2_lieOnFloor wsX2_lieOnFloor) := goodIn_app (goodIn_of _ (by decide +kernel)) ggX1_lookForBed_X2_lieOnFloor
theorem dX1_lookForBed_0 : decode cX1_lookForBed 0 = .ok (.aload_n 0, 1) := by decide +kernel
theorem dX1_lookForBed_1 : decode cX1_lookForBed 1 = .ok (.getfield 29, 3) := by decide +kernel
theorem dX1_lookForBed_4 : decode cX1_lookForBed 4 = .ok (.getfield 124, 3) := by decide +kernel
theorem dX1_lookForBed_7 : decode cX1_lookForBed 7 = .ok (.iload_n 1, 1) := by decide +kernel
theorem dX1_lookForBed_8 : decode cX1_lookForBed 8 = .ok (.iaload, 1) := by decide +kernel
theorem dX1_lookForBed_9 : decode cX1_lookForBed 9 = .ok (.istore_n 2, 1) := by decide +kernel
theorem dX1_lookForBed_10 : decode cX1_lookForBed 10 = .ok (.aload_n 0, 1) := by decide +kernel
theorem dX1_lookForBed_11 : decode cX1_lookForBed 11 = .ok (.getfield 22, 3) := by decide +kernel
theorem dX1_lookForBed_14 : decode cX1_lookForBed 14 = .ok (.iload_n 2, 1) := by decide +kernel
theorem dX1_lookForBed_15 : decode cX1_lookForBed 15 = .ok (.invokevirtual 127, 3) := by decide +kernel
theorem dX1_lookForBed_18 : decode cX1_lookForBed 18 = .ok (.ifCond .eq 7, 3) := by decide +kernel
theorem dX1_lookForBed_21 : decode cX1_lookForBed 21 = .ok (.iload_n 2, 1) := by decide +kernel
theorem dX1_lookForBed_22 : decode cX1_lookForBed 22 = .ok (.goto 10, 3) := by decide +kernel
theorem dX1_lookForBed_25 : decode cX1_lookForBed 25 = .ok (.aload_n 0, 1) := by decide +kernel
theorem dX1_lookForBed_26 : decode cX1_lookForBed 26 = .ok (.getfield 22, 3) := by decide +kernel
theorem dX1_lookForBed_29 : decode cX1_lookForBed 29 = .ok (.invokevirtual 130, 3) := by decide +kernel
theorem dX1_lookForBed_32 : decode cX1_lookForBed 32 = .ok (.istore_n 3, 1) := by decide +kernel
theorem dX1_lookForBed_33 : decode cX1_lookForBed 33 = .ok (.aload_n 0, 1) := by decide +kernel
theorem dX1_lookForBed_34 : decode cX1_lookForBed 34 = .ok (.getfield 22, 3) := by decide +kernel
theorem dX1_lookForBed_37 : decode cX1_lookForBed 37 = .ok (.iload_n 3, 1) := by decide +kernel
theorem dX1_lookForBed_38 : decode cX1_lookForBed 38 = .ok (.invokevirtual 64, 3) := by decide +kernel
theorem dX1_lookForBed_41 : decode cX1_lookForBed 41 = .ok (.ifCond .eq 12, 3) := by decide +kernel
theorem dX1_lookForBed_44 : decode cX1_lookForBed 44 = .ok (.aload_n 0, 1) := by decide +kernel
theorem dX1_lookForBed_45 : decode cX1_lookForBed 45 = .ok (.iload_n 1, 1) := by decide +kernel
theorem dX1_lookForBed_46 : decode cX1_lookForBed 46 = .ok (.iload_n 3, 1) := by decide +kernel
theorem dX1_lookForBed_47 : decode cX1_lookForBed 47 = .ok (.invokevirtual 133, 3) := by decide +kernel
theorem dX1_lookForBed_50 : decode cX1_lookForBed 50 = .ok (.goto 22, 3) := by decide +kernel
theorem dX1_lookForBed_53 : decode cX1_lookForBed 53 = .ok (.aload_n 0, 1) := by decide +kernel
theorem dX1_lookForBed_54 : decode cX1_lookForBed 54 = .ok (.getfield 7, 3) := by decide +kernel
theorem dX1_lookForBed_57 : decode cX1_lookForBed 57 = .ok (.bipush 8, 2) := by decide +kernel
theorem dX1_lookForBed_59 : decode cX1_lookForBed 59 = .ok (.irem, 1) := by decide +kernel
theorem dX1_lookForBed_60 : decode cX1_lookForBed 60 = .ok (.iconst 4, 1) := by decide +kernel
theorem dX1_lookForBed_61 : decode cX1_lookForBed 61 = .ok (.if_icmp .lt 11, 3) := by decide +kernel
theorem dX1_lookForBed_64 : decode cX1_lookForBed 64 = .ok (.aload_n 0, 1) := by decide +kernel
theorem dX1_lookForBed_65 : decode cX1_lookForBed 65 = .ok (.getfield 29, 3) := by decide +kernel
theorem dX1_lookForBed_68 : decode cX1_lookForBed 68 = .ok (.iload_n 1, 1) := by decide +kernel
theorem dX1_lookForBed_69 : decode cX1_lookForBed 69 = .ok (.invokevirtual 136, 3) := by decide +kernel
theorem dX1_lookForBed_72 : decode cX1_lookForBed 72 = .ok (.return_, 1) := by decide +kernel
set_option maxRecDepth 20000 in
theorem ggX1_tryBed_X2_hasBoots : GoodIn wsX1_tryBed wsX2_hasBoots := goodIn_r _ [10, 11, 53, 54, 55, 56, 57, 58, 59, 60, 61, 62, 63, 64, 65] (by decide +kernel) (by decide +kernel)
set_option maxRecDepth 20000 in
theorem gX1_tryBed_X2_hasBoots : GoodIn wsX1_tryBed (wsV RX1 81 RX2 yX2_hasBoots wsX2_hasBoots) := goodIn_app (goodIn_of _ (by decide +kernel)) ggX1_tryBed_X2_hasBoots
set_option maxRecDepth 20000 in
theorem ggX1_tryBed_X1_pawnBoots : GoodIn wsX1_tryBed wsX1_pawnBoots := goodIn_r _ [16, 3, 17, 5, 18, 19, 20, 9, 21, 22, 23, 24, 25, 26, 42, 43, 44, 45, 46, 53, 54, 55, 56, 57, 58, 59, 60, 61, 62, 63, 64, 65] (by decide +kernel) (by decide +kernel)
set_option maxRecDepth 20000 in
theorem gX1_tryBed_X1_pawnBoots : GoodIn wsX1_tryBed (wsV RX1 142 RX1 yX1_pawnBoots wsX1_pawnBoots) := goodIn_app (goodIn_of _ (by decide +kernel)) ggX1_tryBed_X1_pawnBoots
set_option maxRecDepth 20000 in
theorem ggX1_tryBed_X1_getInto : GoodIn wsX1_tryBed wsX1_getInto := goodIn_r _ [30, 1, 2, 3, 4, 31, 32, 33, 34, 35, 42, 43, 44, 45, 46, 47, 48, 49, 50, 51, 52, 53, 54, 55, 56, 57, 58, 59, 60, 61, 62, 63, 64, 65] (by decide +kernel) (by decide +kernel)
set_option maxRecDepth 20000 in
theorem gX1_tryBed_X1_getInto : GoodIn wsX1_tryBed (wsV RX1 145 RX1 yX1_getInto wsX1_getInto) := goodIn_app (goodIn_of _ (by decide +kernel)) ggX1_tryBed_X1_getInto
set_option maxRecDepth 20000 in
theorem ggX1_tryBed_X2_lieOnFloor : GoodIn wsX1_tryBed wsX2_lieOnFloor := goodIn_r _ [39, 40, 41, 53, 54, 55, 56, 57, 58, 59, 60, 61, 62, 63, 64, 65] (by decide +kernel) (by decide +kernel)
set_option maxRecDepth 20000 in
theorem gX1_tryBed_X2_lieOnFloor : GoodIn wsX1_tryBed (wsV RX1 136 RX2 yX2_lieOnFloor wsX2_lieOnFloor) := goodIn_app (goodIn_of _ (by decide +kernel)) ggX1_tryBed_X2_lieOnFloor
theorem dX1_tryBed_0 : decode cX1_tryBed 0 = .ok (.aload_n 0, 1) := by decide +kernel
theorem dX1_tryBed_1 : decode cX1_tryBed 1 = .ok (.getfield 22, 3) := by decide +kernel
theorem dX1_tryBed_4 : decode cX1_tryBed 4 = .ok (.getfield 139, 3) := by decide +kernel
theorem dX1_tryBed_7 : decode cX1_tryBed 7 = .ok (.iload_n 2, 1) := by decide +kernel
theorem dX1_tryBed_8 : decode cX1_tryBed 8 = .ok (.iaload, 1) := by decide +kernel
theorem dX1_tryBed_9 : decode cX1_tryBed 9 = .ok (.istore_n 3, 1) := by decide +kernel
theorem dX1_tryBed_10 : decode cX1_tryBed 10 = .ok (.aload_n 0, 1) := by decide +kernel
theorem dX1_tryBed_11 : decode cX1_tryBed 11 = .ok (.getfield 29, 3) := by decide +kernel
theorem dX1_tryBed_14 : decode cX1_tryBed 14 = .ok (.getfield 84, 3) := by decide +kernel
theorem dX1_tryBed_17 : decode cX1_tryBed 17 = .ok (.iload_n 1, 1) := by decide +kernel
theorem dX1_tryBed_18 : decode cX1_tryBed 18 = .ok (.iaload, 1) := by decide +kernel
theorem dX1_tryBed_19 : decode cX1_tryBed 19 = .ok (.istore 4, 2) := by decide +kernel
theorem dX1_tryBed_21 : decode cX1_tryBed 21 = .ok (.iload 4, 2) := by decide +kernel
theorem dX1_tryBed_23 : decode cX1_tryBed 23 = .ok (.iload_n 3, 1) := by decide +kernel
theorem dX1_tryBed_24 : decode cX1_tryBed 24 = .ok (.if_icmp .ge 30, 3) := by decide +kernel
theorem dX1_tryBed_27 : decode cX1_tryBed 27 = .ok (.iload 4, 2) := by decide +kernel
theorem dX1_tryBed_29 : decode cX1_tryBed 29 = .ok (.aload_n 0, 1) := by decide +kernel
theorem dX1_tryBed_30 : decode cX1_tryBed 30 = .ok (.getfield 16, 3) := by decide +kernel
theorem dX1_tryBed_33 : decode cX1_tryBed 33 = .ok (.iadd, 1) := by decide +kernel
theorem dX1_tryBed_34 : decode cX1_tryBed 34 = .ok (.iload_n 3, 1) := by decide +kernel
theorem dX1_tryBed_35 : decode cX1_tryBed 35 = .ok (.if_icmp .lt 19, 3) := by decide +kernel
theorem dX1_tryBed_38 : decode cX1_tryBed 38 = .ok (.aload_n 0, 1) := by decide +kernel
theorem dX1_tryBed_39 : decode cX1_tryBed 39 = .ok (.getfield 29, 3) := by decide +kernel
theorem dX1_tryBed_42 : decode cX1_tryBed 42 = .ok (.iload_n 1, 1) := by decide +kernel
theorem dX1_tryBed_43 : decode cX1_tryBed 43 = .ok (.invokevirtual 81, 3) := by decide +kernel
theorem dX1_tryBed_46 : decode cX1_tryBed 46 = .ok (.ifCond .eq 8, 3) := by decide +kernel
theorem dX1_tryBed_49 : decode cX1_tryBed 49 = .ok (.aload_n 0, 1) := by decide +kernel
theorem dX1_tryBed_50 : decode cX1_tryBed 50 = .ok (.iload_n 1, 1) := by decide +kernel
theorem dX1_tryBed_51 : decode cX1_tryBed 51 = .ok (.invokevirtual 142, 3) := by decide +kernel
theorem dX1_tryBed_54 : decode cX1_tryBed 54 = .ok (.aload_n 0, 1) := by decide +kernel
theorem dX1_tryBed_55 : decode cX1_tryBed 55 = .ok (.getfield 29, 3) := by decide +kernel
theorem dX1_tryBed_58 : decode cX1_tryBed 58 = .ok (.getfield 84, 3) := by decide +kernel
theorem dX1_tryBed_61 : decode cX1_tryBed 61 = .ok (.iload_n 1, 1) := by decide +kernel
theorem dX1_tryBed_62 : decode cX1_tryBed 62 = .ok (.iaload, 1) := by decide +kernel
theorem dX1_tryBed_63 : decode cX1_tryBed 63 = .ok (.iload_n 3, 1) := by decide +kernel
theorem dX1_tryBed_64 : decode cX1_tryBed 64 = .ok (.if_icmp .lt 12, 3) := by decide +kernel
theorem dX1_tryBed_67 : decode cX1_tryBed 67 = .ok (.aload_n 0, 1) := by decide +kernel
theorem dX1_tryBed_68 : decode cX1_tryBed 68 = .ok (.iload_n 1, 1) := by decide +kernel
theorem dX1_tryBed_69 : decode cX1_tryBed 69 = .ok (.iload_n 2, 1) := by decide +kernel
theorem dX1_tryBed_70 : decode cX1_tryBed 70 = .ok (.invokevirtual 145, 3) := by decide +kernel
theorem dX1_tryBed_73 : decode cX1_tryBed 73 = .ok (.goto 11, 3) := by decide +kernel
theorem dX1_tryBed_76 : decode cX1_tryBed 76 = .ok (.aload_n 0, 1) := by decide +kernel
theorem dX1_tryBed_77 : decode cX1_tryBed 77 = .ok (.getfield 29, 3) := by decide +kernel
theorem dX1_tryBed_80 : decode cX1_tryBed 80 = .ok (.iload_n 1, 1) := by decide +kernel
theorem dX1_tryBed_81 : decode cX1_tryBed 81 = .ok (.invokevirtual 136, 3) := by decide +kernel
theorem dX1_tryBed_84 : decode cX1_tryBed 84 = .ok (.return_, 1) := by decide +kernel
theorem dX1_getInto_0 : decode cX1_getInto 0 = .ok (.aload_n 0, 1) := by decide +kernel
theorem dX1_getInto_1 : decode cX1_getInto 1 = .ok (.getfield 22, 3) := by decide +kernel
theorem dX1_getInto_4 : decode cX1_getInto 4 = .ok (.getfield 139, 3) := by decide +kernel
theorem dX1_getInto_7 : decode cX1_getInto 7 = .ok (.iload_n 2, 1) := by decide +kernel
theorem dX1_getInto_8 : decode cX1_getInto 8 = .ok (.iaload, 1) := by decide +kernel
theorem dX1_getInto_9 : decode cX1_getInto 9 = .ok (.istore_n 3, 1) := by decide +kernel
theorem dX1_getInto_10 : decode cX1_getInto 10 = .ok (.aload_n 0, 1) := by decide +kernel
theorem dX1_getInto_11 : decode cX1_getInto 11 = .ok (.getfield 29, 3) := by decide +kernel
theorem dX1_getInto_14 : decode cX1_getInto 14 = .ok (.getfield 84, 3) := by decide +kernel
theorem dX1_getInto_17 : decode cX1_getInto 17 = .ok (.iload_n 1, 1) := by decide +kernel
theorem dX1_getInto_18 : decode cX1_getInto 18 = .ok (.dup2, 1) := by decide +kernel
theorem dX1_getInto_19 : decode cX1_getInto 19 = .ok (.iaload, 1) := by decide +kernel
theorem dX1_getInto_20 : decode cX1_getInto 20 = .ok (.iload_n 3, 1) := by decide +kernel
theorem dX1_getInto_21 : decode cX1_getInto 21 = .ok (.isub, 1) := by decide +kernel
theorem dX1_getInto_22 : decode cX1_getInto 22 = .ok (.iastore, 1) := by decide +kernel
theorem dX1_getInto_23 : decode cX1_getInto 23 = .ok (.aload_n 0, 1) := by decide +kernel
theorem dX1_getInto_24 : decode cX1_getInto 24 = .ok (.getfield 29, 3) := by decide +kernel
theorem dX1_getInto_27 : decode cX1_getInto 27 = .ok (.getfield 71, 3) := by decide +kernel
theorem dX1_getInto_30 : decode cX1_getInto 30 = .ok (.iload_n 1, 1) := by decide +kernel
theorem dX1_getInto_31 : decode cX1_getInto 31 = .ok (.iconst 1, 1) := by decide +kernel
theorem dX1_getInto_32 : decode cX1_getInto 32 = .ok (.iastore, 1) := by decide +kernel
theorem dX1_getInto_33 : decode cX1_getInto 33 = .ok (.aload_n 0, 1) := by decide +kernel
theorem dX1_getInto_34 : decode cX1_getInto 34 = .ok (.getfield 29, 3) := by decide +kernel
theorem dX1_getInto_37 : decode cX1_getInto 37 = .ok (.getfield 61, 3) := by decide +kernel
theorem dX1_getInto_40 : decode cX1_getInto 40 = .ok (.iload_n 1, 1) := by decide +kernel
theorem dX1_getInto_41 : decode cX1_getInto 41 = .ok (.iload_n 2, 1) := by decide +kernel
theorem dX1_getInto_42 : decode cX1_getInto 42 = .ok (.iastore, 1) := by decide +kernel
theorem dX1_getInto_43 : decode cX1_getInto 43 = .ok (.aload_n 0, 1) := by decide +kernel
theorem dX1_getInto_44 : decode cX1_getInto 44 = .ok (.getfield 22, 3) := by decide +kernel
theorem dX1_getInto_47 : decode cX1_getInto 47 = .ok (.getfield 148, 3) := by decide +kernel
theorem dX1_getInto_50 : decode cX1_getInto 50 = .ok (.iload_n 2, 1) := by decide +kernel
theorem dX1_getInto_51 : decode cX1_getInto 51 = .ok (.dup2, 1) := by decide +kernel
theorem dX1_getInto_52 : decode cX1_getInto 52 = .ok (.iaload, 1) := by decide +kernel
theorem dX1_getInto_53 : decode cX1_getInto 53 = .ok (.iload_n 3, 1) := by decide +kernel
theorem dX1_getInto_54 : decode cX1_getInto 54 = .ok (.iadd, 1) := by decide +kernel
theorem dX1_getInto_55 : decode cX1_getInto 55 = .ok (.iastore, 1) := by decide +kernel
theorem dX1_getInto_56 : decode cX1_getInto 56 = .ok (.aload_n 0, 1) := by decide +kernel
theorem dX1_getInto_57 : decode cX1_getInto 57 = .ok (.getfield 22, 3) := by decide +kernel
theorem dX1_getInto_60 : decode cX1_getInto 60 = .ok (.getfield 151, 3) := by decide +kernel
theorem dX1_getInto_63 : decode cX1_getInto 63 = .ok (.iload_n 2, 1) := by decide +kernel
theorem dX1_getInto_64 : decode cX1_getInto 64 = .ok (.dup2, 1) := by decide +kernel
theorem dX1_getInto_65 : decode cX1_getInto 65 = .ok (.iaload, 1) := by decide +kernel
theorem dX1_getInto_66 : decode cX1_getInto 66 = .ok (.iconst 1, 1) := by decide +kernel
theorem dX1_getInto_67 : decode cX1_getInto 67 = .ok (.iadd, 1) := by decide +kernel
theorem dX1_getInto_68 : decode cX1_getInto 68 = .ok (.iastore, 1) := by decide +kernel
theorem dX1_getInto_69 : decode cX1_getInto 69 = .ok (.aload_n 0, 1) := by decide +kernel
theorem dX1_getInto_70 : decode cX1_getInto 70 = .ok (.getfield 22, 3) := by decide +kernel
theorem dX1_getInto_73 : decode cX1_getInto 73 = .ok (.getfield 68, 3) := by decide +kernel
theorem dX1_getInto_76 : decode cX1_getInto 76 = .ok (.iload_n 2, 1) := by decide +kernel
theorem dX1_getInto_77 : decode cX1_getInto 77 = .ok (.iload_n 1, 1) := by decide +kernel
theorem dX1_getInto_78 : decode cX1_getInto 78 = .ok (.iastore, 1) := by decide +kernel
theorem dX1_getInto_79 : decode cX1_getInto 79 = .ok (.return_, 1) := by decide +kernel
set_option maxRecDepth 20000 in
theorem ggX1_restOfHour_X0_isWarm : GoodIn wsX1_restOfHour wsX0_isWarm := goodIn_r _ [10, 11, 12, 13, 14, 9, 15, 16, 35, 36, 37, 38, 39, 40] (by decide +kernel) (by decide +kernel)
set_option maxRecDepth 20000 in
theorem gX1_restOfHour_X0_isWarm : GoodIn wsX1_restOfHour (wsV RX1 154 RX0 yX0_isWarm wsX0_isWarm) := goodIn_app (goodIn_of _ (by decide +kernel)) ggX1_restOfHour_X0_isWarm
theorem dX1_restOfHour_0 : decode cX1_restOfHour 0 = .ok (.aload_n 0, 1) := by decide +kernel
theorem dX1_restOfHour_1 : decode cX1_restOfHour 1 = .ok (.getfield 29, 3) := by decide +kernel
theorem dX1_restOfHour_4 : decode cX1_restOfHour 4 = .ok (.getfield 71, 3) := by decide +kernel
theorem dX1_restOfHour_7 : decode cX1_restOfHour 7 = .ok (.iload_n 1, 1) := by decide +kernel
theorem dX1_restOfHour_8 : decode cX1_restOfHour 8 = .ok (.iaload, 1) := by decide +kernel
theorem dX1_restOfHour_9 : decode cX1_restOfHour 9 = .ok (.lookupswitch 67 #[(1, 27), (2, 52)], 27) := by decide +kernel
theorem dX1_restOfHour_36 : decode cX1_restOfHour 36 = .ok (.aload_n 0, 1) := by decide +kernel
theorem dX1_restOfHour_37 : decode cX1_restOfHour 37 = .ok (.getfield 22, 3) := by decide +kernel
theorem dX1_restOfHour_40 : decode cX1_restOfHour 40 = .ok (.aload_n 0, 1) := by decide +kernel
theorem dX1_restOfHour_41 : decode cX1_restOfHour 41 = .ok (.getfield 29, 3) := by decide +kernel
theorem dX1_restOfHour_44 : decode cX1_restOfHour 44 = .ok (.getfield 61, 3) := by decide +kernel
theorem dX1_restOfHour_47 : decode cX1_restOfHour 47 = .ok (.iload_n 1, 1) := by decide +kernel
theorem dX1_restOfHour_48 : decode cX1_restOfHour 48 = .ok (.iaload, 1) := by decide +kernel
theorem dX1_restOfHour_49 : decode cX1_restOfHour 49 = .ok (.invokevirtual 154, 3) := by decide +kernel
theorem dX1_restOfHour_52 : decode cX1_restOfHour 52 = .ok (.ifCond .eq 7, 3) := by decide +kernel
theorem dX1_restOfHour_55 : decode cX1_restOfHour 55 = .ok (.iconst 2, 1) := by decide +kernel
theorem dX1_restOfHour_56 : decode cX1_restOfHour 56 = .ok (.goto 4, 3) := by decide +kernel
theorem dX1_restOfHour_59 : decode cX1_restOfHour 59 = .ok (.iconst 1, 1) := by decide +kernel
theorem dX1_restOfHour_60 : decode cX1_restOfHour 60 = .ok (.ireturn, 1) := by decide +kernel
theorem dX1_restOfHour_61 : decode cX1_restOfHour 61 = .ok (.aload_n 0, 1) := by decide +kernel
theorem dX1_restOfHour_62 : decode cX1_restOfHour 62 = .ok (.getfield 7, 3) := by decide +kernel
theorem dX1_restOfHour_65 : decode cX1_restOfHour 65 = .ok (.iconst 2, 1) := by decide +kernel
theorem dX1_restOfHour_66 : decode cX1_restOfHour 66 = .ok (.irem, 1) := by decide +kernel
theorem dX1_restOfHour_67 : decode cX1_restOfHour 67 = .ok (.ifCond .ne 7, 3) := by decide +kernel
theorem dX1_restOfHour_70 : decode cX1_restOfHour 70 = .ok (.iconst 0, 1) := by decide +kernel
theorem dX1_restOfHour_71 : decode cX1_restOfHour 71 = .ok (.goto 4, 3) := by decide +kernel
theorem dX1_restOfHour_74 : decode cX1_restOfHour 74 = .ok (.iconst 1, 1) := by decide +kernel
theorem dX1_restOfHour_75 : decode cX1_restOfHour 75 = .ok (.ireturn, 1) := by decide +kernel
theorem dX1_restOfHour_76 : decode cX1_restOfHour 76 = .ok (.iconst 0, 1) := by decide +kernel
theorem dX1_restOfHour_77 : decode cX1_restOfHour 77 = .ok (.ireturn, 1) := by decide +kernel
theorem dX2_init_0 : decode cX2_init 0 = .ok (.aload_n 0, 1) := by decide +kernel
theorem dX2_init_1 : decode cX2_init 1 = .ok (.invokespecial 1, 3) := by decide +kernel
theorem dX2_init_4 : decode cX2_init 4 = .ok (.aload_n 0, 1) := by decide +kernel
theorem dX2_init_5 : decode cX2_init 5 = .ok (.iconst 0, 1) := by decide +kernel
theorem dX2_init_6 : decode cX2_init 6 = .ok (.putfield 7, 3) := by decide +kernel
theorem dX2_init_9 : decode cX2_init 9 = .ok (.aload_n 0, 1) := by decide +kernel
theorem dX2_init_10 : decode cX2_init 10 = .ok (.bipush 10, 2) := by decide +kernel
theorem dX2_init_12 : decode cX2_init 12 = .ok (.newarray .int, 2) := by decide +kernel
theorem dX2_init_14 : decode cX2_init 14 = .ok (.putfield 13, 3) := by decide +kernel
theorem dX2_init_17 : decode cX2_init 17 = .ok (.aload_n 0, 1) := by decide +kernel
theorem dX2_init_18 : decode cX2_init 18 = .ok (.bipush 10, 2) := by decide +kernel
theorem dX2_init_20 : decode cX2_init 20 = .ok (.newarray .int, 2) := by decide +kernel
theorem dX2_init_22 : decode cX2_init 22 = .ok (.putfield 17, 3) := by decide +kernel
theorem dX2_init_25 : decode cX2_init 25 = .ok (.aload_n 0, 1) := by decide +kernel
theorem dX2_init_26 : decode cX2_init 26 = .ok (.bipush 10, 2) := by decide +kernel
theorem dX2_init_28 : decode cX2_init 28 = .ok (.newarray .int, 2) := by decide +kernel
theorem dX2_init_30 : decode cX2_init 30 = .ok (.putfield 20, 3) := by decide +kernel
theorem dX2_init_33 : decode cX2_init 33 = .ok (.aload_n 0, 1) := by decide +kernel
theorem dX2_init_34 : decode cX2_init 34 = .ok (.bipush 10, 2) := by decide +kernel
theorem dX2_init_36 : decode cX2_init 36 = .ok (.newarray .int, 2) := by decide +kernel
theorem dX2_init_38 : decode cX2_init 38 = .ok (.putfield 23, 3) := by decide +kernel
theorem dX2_init_41 : decode cX2_init 41 = .ok (.aload_n 0, 1) := by decide +kernel
theorem dX2_init_42 : decode cX2_init 42 = .ok (.bipush 10, 2) := by decide +kernel
theorem dX2_init_44 : decode cX2_init 44 = .ok (.newarray .int, 2) := by decide +kernel
theorem dX2_init_46 : decode cX2_init 46 = .ok (.putfield 26, 3) := by decide +kernel
theorem dX2_init_49 : decode cX2_init 49 = .ok (.aload_n 0, 1) := by decide +kernel
theorem dX2_init_50 : decode cX2_init 50 = .ok (.bipush 10, 2) := by decide +kernel
theorem dX2_init_52 : decode cX2_init 52 = .ok (.newarray .int, 2) := by decide +kernel
theorem dX2_init_54 : decode cX2_init 54 = .ok (.putfield 29, 3) := by decide +kernel
theorem dX2_init_57 : decode cX2_init 57 = .ok (.aload_n 0, 1) := by decide +kernel
theorem dX2_init_58 : decode cX2_init 58 = .ok (.bipush 10, 2) := by decide +kernel
theorem dX2_init_60 : decode cX2_init 60 = .ok (.newarray .int, 2) := by decide +kernel
theorem dX2_init_62 : decode cX2_init 62 = .ok (.putfield 32, 3) := by decide +kernel
theorem dX2_init_65 : decode cX2_init 65 = .ok (.aload_n 0, 1) := by decide +kernel
theorem dX2_init_66 : decode cX2_init 66 = .ok (.bipush 10, 2) := by decide +kernel
theorem dX2_init_68 : decode cX2_init 68 = .ok (.newarray .int, 2) := by decide +kernel
theorem dX2_init_70 : decode cX2_init 70 = .ok (.putfield 35, 3) := by decide +kernel
theorem dX2_init_73 : decode cX2_init 73 = .ok (.aload_n 0, 1) := by decide +kernel
theorem dX2_init_74 : decode cX2_init 74 = .ok (.bipush 10, 2) := by decide +kernel
theorem dX2_init_76 : decode cX2_init 76 = .ok (.newarray .int, 2) := by decide +kernel
theorem dX2_init_78 : decode cX2_init 78 = .ok (.putfield 38, 3) := by decide +kernel
theorem dX2_init_81 : decode cX2_init 81 = .ok (.aload_n 0, 1) := by decide +kernel
theorem dX2_init_82 : decode cX2_init 82 = .ok (.bipush 10, 2) := by decide +kernel
theorem dX2_init_84 : decode cX2_init 84 = .ok (.newarray .int, 2) := by decide +kernel
theorem dX2_init_86 : decode cX2_init 86 = .ok (.putfield 41, 3) := by decide +kernel
theorem dX2_init_89 : decode cX2_init 89 = .ok (.aload_n 0, 1) := by decide +kernel
theorem dX2_init_90 : decode cX2_init 90 = .ok (.bipush 10, 2) := by decide +kernel
theorem dX2_init_92 : decode cX2_init 92 = .ok (.newarray .int, 2) := by decide +kernel
theorem dX2_init_94 : decode cX2_init 94 = .ok (.putfield 44, 3) := by decide +kernel
theorem dX2_init_97 : decode cX2_init 97 = .ok (.aload_n 0, 1) := by decide +kernel
theorem dX2_init_98 : decode cX2_init 98 = .ok (.bipush 10, 2) := by decide +kernel
theorem dX2_init_100 : decode cX2_init 100 = .ok (.newarray .int, 2) := by decide +kernel
theorem dX2_init_102 : decode cX2_init 102 = .ok (.putfield 47, 3) := by decide +kernel
theorem dX2_init_105 : decode cX2_init 105 = .ok (.return_, 1) := by decide +kernel
theorem dX2_add_0 : decode cX2_add 0 = .ok (.aload_n 0, 1) := by decide +kernel
theorem dX2_add_1 : decode cX2_add 1 = .ok (.getfield 7, 3) := by decide +kernel
theorem dX2_add_4 : decode cX2_add 4 = .ok (.bipush 10, 2) := by decide +kernel
theorem dX2_add_6 : decode cX2_add 6 = .ok (.if_icmp .lt 13, 3) := by decide +kernel
theorem dX2_add_9 : decode cX2_add 9 = .ok (.new 50, 3) := by decide +kernel
theorem dX2_add_12 : decode cX2_add 12 = .ok (.dup, 1) := by decide +kernel
theorem dX2_add_13 : decode cX2_add 13 = .ok (.ldc 52, 2) := by decide +kernel
theorem dX2_add_15 : decode cX2_add 15 = .ok (.invokespecial 54, 3) := by decide +kernel
theorem dX2_add_18 : decode cX2_add 18 = .ok (.athrow, 1) := by decide +kernel
theorem dX2_add_19 : decode cX2_add 19 = .ok (.aload_n 0, 1) := by decide +kernel
theorem dX2_add_20 : decode cX2_add 20 = .ok (.getfield 7, 3) := by decide +kernel
theorem dX2_add_23 : decode cX2_add 23 = .ok (.istore 5, 2) := by decide +kernel
theorem dX2_add_25 : decode cX2_add 25 = .ok (.aload_n 0, 1) := by decide +kernel
theorem dX2_add_26 : decode cX2_add 26 = .ok (.getfield 13, 3) := by decide +kernel
theorem dX2_add_29 : decode cX2_add 29 = .ok (.iload 5, 2) := by decide +kernel
theorem dX2_add_31 : decode cX2_add 31 = .ok (.iload_n 1, 1) := by decide +kernel
theorem dX2_add_32 : decode cX2_add 32 = .ok (.iastore, 1) := by decide +kernel
theorem dX2_add_33 : decode cX2_add 33 = .ok (.aload_n 0, 1) := by decide +kernel
theorem dX2_add_34 : decode cX2_add 34 = .ok (.getfield 17, 3) := by decide +kernel
theorem dX2_add_37 : decode cX2_add 37 = .ok (.iload 5, 2) := by decide +kernel
theorem dX2_add_39 : decode cX2_add 39 = .ok (.iload_n 2, 1) := by decide +kernel
theorem dX2_add_40 : decode cX2_add 40 = .ok (.iastore, 1) := by decide +kernel
theorem dX2_add_41 : decode cX2_add 41 = .ok (.aload_n 0, 1) := by decide +kernel
theorem dX2_add_42 : decode cX2_add 42 = .ok (.getfield 20, 3) := by decide +kernel
theorem dX2_add_45 : decode cX2_add 45 = .ok (.iload 5, 2) := by decide +kernel
theorem dX2_add_47 : decode cX2_add 47 = .ok (.iload_n 3, 1) := by decide +kernel
theorem dX2_add_48 : decode cX2_add 48 = .ok (.iastore, 1) := by decide +kernel
theorem dX2_add_49 : decode cX2_add 49 = .ok (.aload_n 0, 1) := by decide +kernel
theorem dX2_add_50 : decode cX2_add 50 = .ok (.getfield 23, 3) := by decide +kernel
theorem dX2_add_53 : decode cX2_add 53 = .ok (.iload 5, 2) := by decide +kernel
theorem dX2_add_55 : decode cX2_add 55 = .ok (.iload 4, 2) := by decide +kernel
theorem dX2_add_57 : decode cX2_add 57 = .ok (.iastore, 1) := by decide +kernel
theorem dX2_add_58 : decode cX2_add 58 = .ok (.aload_n 0, 1) := by decide +kernel
theorem dX2_add_59 : decode cX2_add 59 = .ok (.getfield 26, 3) := by decide +kernel
theorem dX2_add_62 : decode cX2_add 62 = .ok (.iload 5, 2) := by decide +kernel
theorem dX2_add_64 : decode cX2_add 64 = .ok (.iconst 1, 1) := by decide +kernel
theorem dX2_add_65 : decode cX2_add 65 = .ok (.iastore, 1) := by decide +kernel
theorem dX2_add_66 : decode cX2_add 66 = .ok (.aload_n 0, 1) := by decide +kernel
theorem dX2_add_67 : decode cX2_add 67 = .ok (.getfield 29, 3) := by decide +kernel
theorem dX2_add_70 : decode cX2_add 70 = .ok (.iload 5, 2) := by decide +kernel
theorem dX2_add_72 : decode cX2_add 72 = .ok (.iconst (-1), 1) := by decide +kernel
theorem dX2_add_73 : decode cX2_add 73 = .ok (.iastore, 1) := by decide +kernel
theorem dX2_add_74 : decode cX2_add 74 = .ok (.aload_n 0, 1) := by decide +kernel
theorem dX2_add_75 : decode cX2_add 75 = .ok (.getfield 32, 3) := by decide +kernel
theorem dX2_add_78 : decode cX2_add 78 = .ok (.iload 5, 2) := by decide +kernel
theorem dX2_add_80 : decode cX2_add 80 = .ok (.iconst 0, 1) := by decide +kernel
theorem dX2_add_81 : decode cX2_add 81 = .ok (.iastore, 1) := by decide +kernel
theorem dX2_add_82 : decode cX2_add 82 = .ok (.aload_n 0, 1) := by decide +kernel
theorem dX2_add_83 : decode cX2_add 83 = .ok (.getfield 35, 3) := by decide +kernel
theorem dX2_add_86 : decode cX2_add 86 = .ok (.iload 5, 2) := by decide +kernel
theorem dX2_add_88 : decode cX2_add 88 = .ok (.iconst (-1), 1) := by decide +kernel
theorem dX2_add_89 : decode cX2_add 89 = .ok (.iastore, 1) := by decide +kernel
theorem dX2_add_90 : decode cX2_add 90 = .ok (.aload_n 0, 1) := by decide +kernel
theorem dX2_add_91 : decode cX2_add 91 = .ok (.iload 5, 2) := by decide +kernel
theorem dX2_add_93 : decode cX2_add 93 = .ok (.iconst 1, 1) := by decide +kernel
theorem dX2_add_94 : decode cX2_add 94 = .ok (.iadd, 1) := by decide +kernel
theorem dX2_add_95 : decode cX2_add 95 = .ok (.putfield 7, 3) := by decide +kernel
theorem dX2_add_98 : decode cX2_add 98 = .ok (.iload 5, 2) := by decide +kernel
theorem dX2_add_100 : decode cX2_add 100 = .ok (.ireturn, 1) := by decide +kernel
set_option maxRecDepth 20000 in
theorem ggX2_copyFrom_X3_copyRow : GoodIn wsX2_copyFrom wsX3_copyRow := goodIn_r _ [16] (by decide +kernel) (by decide +kernel)
set_option maxRecDepth 20000 in
theorem gX2_copyFrom_X3_copyRow_n59 : GoodIn wsX2_copyFrom (wsX3_copyRow) := ggX2_copyFrom_X3_copyRow
theorem dX2_copyFrom_0 : decode cX2_copyFrom 0 = .ok (.aload_n 0, 1) := by decide +kernel
theorem dX2_copyFrom_1 : decode cX2_copyFrom 1 = .ok (.aload_n 1, 1) := by decide +kernel
theorem dX2_copyFrom_2 : decode cX2_copyFrom 2 = .ok (.getfield 7, 3) := by decide +kernel
theorem dX2_copyFrom_5 : decode cX2_copyFrom 5 = .ok (.putfield 7, 3) := by decide +kernel
theorem dX2_copyFrom_8 : decode cX2_copyFrom 8 = .ok (.aload_n 1, 1) := by decide +kernel
theorem dX2_copyFrom_9 : decode cX2_copyFrom 9 = .ok (.getfield 13, 3) := by decide +kernel
theorem dX2_copyFrom_12 : decode cX2_copyFrom 12 = .ok (.aload_n 0, 1) := by decide +kernel
theorem dX2_copyFrom_13 : decode cX2_copyFrom 13 = .ok (.getfield 13, 3) := by decide +kernel
theorem dX2_copyFrom_16 : decode cX2_copyFrom 16 = .ok (.invokestatic 59, 3) := by decide +kernel
theorem dX2_copyFrom_19 : decode cX2_copyFrom 19 = .ok (.aload_n 1, 1) := by decide +kernel
theorem dX2_copyFrom_20 : decode cX2_copyFrom 20 = .ok (.getfield 17, 3) := by decide +kernel
theorem dX2_copyFrom_23 : decode cX2_copyFrom 23 = .ok (.aload_n 0, 1) := by decide +kernel
theorem dX2_copyFrom_24 : decode cX2_copyFrom 24 = .ok (.getfield 17, 3) := by decide +kernel
theorem dX2_copyFrom_27 : decode cX2_copyFrom 27 = .ok (.invokestatic 59, 3) := by decide +kernel
theorem dX2_copyFrom_30 : decode cX2_copyFrom 30 = .ok (.aload_n 1, 1) := by decide +kernel
theorem dX2_copyFrom_31 : decode cX2_copyFrom 31 = .ok (.getfield 20, 3) := by decide +kernel
theorem dX2_copyFrom_34 : decode cX2_copyFrom 34 = .ok (.aload_n 0, 1) := by decide +kernel
theorem dX2_copyFrom_35 : decode cX2_copyFrom 35 = .ok (.getfield 20, 3) := by decide +kernel
theorem dX2_copyFrom_38 : decode cX2_copyFrom 38 = .ok (.invokestatic 59, 3) := by decide +kernel
theorem dX2_copyFrom_41 : decode cX2_copyFrom 41 = .ok (.aload_n 1, 1) := by decide +kernel
theorem dX2_copyFrom_42 : decode cX2_copyFrom 42 = .ok (.getfield 23, 3) := by decide +kernel
theorem dX2_copyFrom_45 : decode cX2_copyFrom 45 = .ok (.aload_n 0, 1) := by decide +kernel
theorem dX2_copyFrom_46 : decode cX2_copyFrom 46 = .ok (.getfield 23, 3) := by decide +kernel
theorem dX2_copyFrom_49 : decode cX2_copyFrom 49 = .ok (.invokestatic 59, 3) := by decide +kernel
theorem dX2_copyFrom_52 : decode cX2_copyFrom 52 = .ok (.aload_n 1, 1) := by decide +kernel
theorem dX2_copyFrom_53 : decode cX2_copyFrom 53 = .ok (.getfield 26, 3) := by decide +kernel
theorem dX2_copyFrom_56 : decode cX2_copyFrom 56 = .ok (.aload_n 0, 1) := by decide +kernel
theorem dX2_copyFrom_57 : decode cX2_copyFrom 57 = .ok (.getfield 26, 3) := by decide +kernel
theorem dX2_copyFrom_60 : decode cX2_copyFrom 60 = .ok (.invokestatic 59, 3) := by decide +kernel
theorem dX2_copyFrom_63 : decode cX2_copyFrom 63 = .ok (.aload_n 1, 1) := by decide +kernel
theorem dX2_copyFrom_64 : decode cX2_copyFrom 64 = .ok (.getfield 29, 3) := by decide +kernel
theorem dX2_copyFrom_67 : decode cX2_copyFrom 67 = .ok (.aload_n 0, 1) := by decide +kernel
theorem dX2_copyFrom_68 : decode cX2_copyFrom 68 = .ok (.getfield 29, 3) := by decide +kernel
theorem dX2_copyFrom_71 : decode cX2_copyFrom 71 = .ok (.invokestatic 59, 3) := by decide +kernel
theorem dX2_copyFrom_74 : decode cX2_copyFrom 74 = .ok (.aload_n 1, 1) := by decide +kernel
theorem dX2_copyFrom_75 : decode cX2_copyFrom 75 = .ok (.getfield 32, 3) := by decide +kernel
theorem dX2_copyFrom_78 : decode cX2_copyFrom 78 = .ok (.aload_n 0, 1) := by decide +kernel
theorem dX2_copyFrom_79 : decode cX2_copyFrom 79 = .ok (.getfield 32, 3) := by decide +kernel
theorem dX2_copyFrom_82 : decode cX2_copyFrom 82 = .ok (.invokestatic 59, 3) := by decide +kernel
theorem dX2_copyFrom_85 : decode cX2_copyFrom 85 = .ok (.aload_n 1, 1) := by decide +kernel
theorem dX2_copyFrom_86 : decode cX2_copyFrom 86 = .ok (.getfield 35, 3) := by decide +kernel
theorem dX2_copyFrom_89 : decode cX2_copyFrom 89 = .ok (.aload_n 0, 1) := by decide +kernel
theorem dX2_copyFrom_90 : decode cX2_copyFrom 90 = .ok (.getfield 35, 3) := by decide +kernel
theorem dX2_copyFrom_93 : decode cX2_copyFrom 93 = .ok (.invokestatic 59, 3) := by decide +kernel
theorem dX2_copyFrom_96 : decode cX2_copyFrom 96 = .ok (.aload_n 1, 1) := by decide +kernel
theorem dX2_copyFrom_97 : decode cX2_copyFrom 97 = .ok (.getfield 38, 3) := by decide +kernel
theorem dX2_copyFrom_100 : decode cX2_copyFrom 100 = .ok (.aload_n 0, 1) := by decide +kernel
theorem dX2_copyFrom_101 : decode cX2_copyFrom 101 = .ok (.getfield 38, 3) := by decide +kernel
theorem dX2_copyFrom_104 : decode cX2_copyFrom 104 = .ok (.invokestatic 59, 3) := by decide +kernel
theorem dX2_copyFrom_107 : decode cX2_copyFrom 107 = .ok (.aload_n 1, 1) := by decide +kernel
theorem dX2_copyFrom_108 : decode cX2_copyFrom 108 = .ok (.getfield 41, 3) := by decide +kernel
theorem dX2_copyFrom_111 : decode cX2_copyFrom 111 = .ok (.aload_n 0, 1) := by decide +kernel
theorem dX2_copyFrom_112 : decode cX2_copyFrom 112 = .ok (.getfield 41, 3) := by decide +kernel
theorem dX2_copyFrom_115 : decode cX2_copyFrom 115 = .ok (.invokestatic 59, 3) := by decide +kernel
theorem dX2_copyFrom_118 : decode cX2_copyFrom 118 = .ok (.aload_n 1, 1) := by decide +kernel
theorem dX2_copyFrom_119 : decode cX2_copyFrom 119 = .ok (.getfield 44, 3) := by decide +kernel
theorem dX2_copyFrom_122 : decode cX2_copyFrom 122 = .ok (.aload_n 0, 1) := by decide +kernel
theorem dX2_copyFrom_123 : decode cX2_copyFrom 123 = .ok (.getfield 44, 3) := by decide +kernel
theorem dX2_copyFrom_126 : decode cX2_copyFrom 126 = .ok (.invokestatic 59, 3) := by decide +kernel
theorem dX2_copyFrom_129 : decode cX2_copyFrom 129 = .ok (.aload_n 1, 1) := by decide +kernel
theorem dX2_copyFrom_130 : decode cX2_copyFrom 130 = .ok (.getfield 47, 3) := by decide +kernel
theorem dX2_copyFrom_133 : decode cX2_copyFrom 133 = .ok (.aload_n 0, 1) := by decide +kernel
theorem dX2_copyFrom_134 : decode cX2_copyFrom 134 = .ok (.getfield 47, 3) := by decide +kernel
theorem dX2_copyFrom_137 : decode cX2_copyFrom 137 = .ok (.invokestatic 59, 3) := by decide +kernel
theorem dX2_copyFrom_140 : decode cX2_copyFrom 140 = .ok (.return_, 1) := by decide +kernel
theorem dX2_isUp_0 : decode cX2_isUp 0 = .ok (.aload_n 0, 1) := by decide +kernel
theorem dX2_isUp_1 : decode cX2_isUp 1 = .ok (.getfield 32, 3) := by decide +kernel
theorem dX2_isUp_4 : decode cX2_isUp 4 = .ok (.iload_n 1, 1) := by decide +kernel
theorem dX2_isUp_5 : decode cX2_isUp 5 = .ok (.iaload, 1) := by decide +kernel
theorem dX2_isUp_6 : decode cX2_isUp 6 = .ok (.ifCond .ne 7, 3) := by decide +kernel
theorem dX2_isUp_9 : decode cX2_isUp 9 = .ok (.iconst 1, 1) := by decide +kernel
theorem dX2_isUp_10 : decode cX2_isUp 10 = .ok (.goto 4, 3) := by decide +kernel
theorem dX2_isUp_13 : decode cX2_isUp 13 = .ok (.iconst 0, 1) := by decide +kernel
theorem dX2_isUp_14 : decode cX2_isUp 14 = .ok (.ireturn, 1) := by decide +kernel
theorem dX2_hasBoots_0 : decode cX2_hasBoots 0 = .ok (.aload_n 0, 1) := by decide +kernel
theorem dX2_hasBoots_1 : decode cX2_hasBoots 1 = .ok (.getfield 26, 3) := by decide +kernel
theorem dX2_hasBoots_4 : decode cX2_hasBoots 4 = .ok (.iload_n 1, 1) := by decide +kernel
theorem dX2_hasBoots_5 : decode cX2_hasBoots 5 = .ok (.iaload, 1) := by decide +kernel
theorem dX2_hasBoots_6 : decode cX2_hasBoots 6 = .ok (.iconst 1, 1) := by decide +kernel
theorem dX2_hasBoots_7 : decode cX2_hasBoots 7 = .ok (.if_icmp .ne 7, 3) := by decide +kernel
theorem dX2_hasBoots_10 : decode cX2_hasBoots 10 = .ok (.iconst 1, 1) := by decide +kernel
theorem dX2_hasBoots_11 : decode cX2_hasBoots 11 = .ok (.goto 4, 3) := by decide +kernel
theorem dX2_hasBoots_14 : decode cX2_hasBoots 14 = .ok (.iconst 0, 1) := by decide +kernel
theorem dX2_hasBoots_15 : decode cX2_hasBoots 15 = .ok (.ireturn, 1) := by decide +kernel
theorem dX2_earn_0 : decode cX2_earn 0 = .ok (.aload_n 0, 1) := by decide +kernel
theorem dX2_earn_1 : decode cX2_earn 1 = .ok (.getfield 23, 3) := by decide +kernel
theorem dX2_earn_4 : decode cX2_earn 4 = .ok (.iload_n 1, 1) := by decide +kernel
theorem dX2_earn_5 : decode cX2_earn 5 = .ok (.bipush 99, 2) := by decide +kernel
theorem dX2_earn_7 : decode cX2_earn 7 = .ok (.aload_n 0, 1) := by decide +kernel
theorem dX2_earn_8 : decode cX2_earn 8 = .ok (.getfield 23, 3) := by decide +kernel
theorem dX2_earn_11 : decode cX2_earn 11 = .ok (.iload_n 1, 1) := by decide +kernel
theorem dX2_earn_12 : decode cX2_earn 12 = .ok (.iaload, 1) := by decide +kernel
theorem dX2_earn_13 : decode cX2_earn 13 = .ok (.iload_n 2, 1) := by decide +kernel
theorem dX2_earn_14 : decode cX2_earn 14 = .ok (.iadd, 1) := by decide +kernel
theorem dX2_earn_15 : decode cX2_earn 15 = .ok (.invokestatic 65, 3) := by decide +kernel
theorem dX2_earn_18 : decode cX2_earn 18 = .ok (.iastore, 1) := by decide +kernel
theorem dX2_earn_19 : decode cX2_earn 19 = .ok (.return_, 1) := by decide +kernel
theorem dX2_beLate_0 : decode cX2_beLate 0 = .ok (.aload_n 0, 1) := by decide +kernel
theorem dX2_beLate_1 : decode cX2_beLate 1 = .ok (.getfield 41, 3) := by decide +kernel
theorem dX2_beLate_4 : decode cX2_beLate 4 = .ok (.iload_n 1, 1) := by decide +kernel
theorem dX2_beLate_5 : decode cX2_beLate 5 = .ok (.dup2, 1) := by decide +kernel
theorem dX2_beLate_6 : decode cX2_beLate 6 = .ok (.iaload, 1) := by decide +kernel
theorem dX2_beLate_7 : decode cX2_beLate 7 = .ok (.iconst 1, 1) := by decide +kernel
theorem dX2_beLate_8 : decode cX2_beLate 8 = .ok (.iadd, 1) := by decide +kernel
theorem dX2_beLate_9 : decode cX2_beLate 9 = .ok (.iastore, 1) := by decide +kernel
theorem dX2_beLate_10 : decode cX2_beLate 10 = .ok (.aload_n 0, 1) := by decide +kernel
theorem dX2_beLate_11 : decode cX2_beLate 11 = .ok (.getfield 44, 3) := by decide +kernel
theorem dX2_beLate_14 : decode cX2_beLate 14 = .ok (.iload_n 1, 1) := by decide +kernel
theorem dX2_beLate_15 : decode cX2_beLate 15 = .ok (.dup2, 1) := by decide +kernel
theorem dX2_beLate_16 : decode cX2_beLate 16 = .ok (.iaload, 1) := by decide +kernel
theorem dX2_beLate_17 : decode cX2_beLate 17 = .ok (.iconst 1, 1) := by decide +kernel
theorem dX2_beLate_18 : decode cX2_beLate 18 = .ok (.iadd, 1) := by decide +kernel
theorem dX2_beLate_19 : decode cX2_beLate 19 = .ok (.iastore, 1) := by decide +kernel
theorem dX2_beLate_20 : decode cX2_beLate 20 = .ok (.return_, 1) := by decide +kernel
theorem dX2_lieOnFloor_0 : decode cX2_lieOnFloor 0 = .ok (.aload_n 0, 1) := by decide +kernel
theorem dX2_lieOnFloor_1 : decode cX2_lieOnFloor 1 = .ok (.getfield 32, 3) := by decide +kernel
theorem dX2_lieOnFloor_4 : decode cX2_lieOnFloor 4 = .ok (.iload_n 1, 1) := by decide +kernel
theorem dX2_lieOnFloor_5 : decode cX2_lieOnFloor 5 = .ok (.iconst 2, 1) := by decide +kernel
theorem dX2_lieOnFloor_6 : decode cX2_lieOnFloor 6 = .ok (.iastore, 1) := by decide +kernel
theorem dX2_lieOnFloor_7 : decode cX2_lieOnFloor 7 = .ok (.aload_n 0, 1) := by decide +kernel
theorem dX2_lieOnFloor_8 : decode cX2_lieOnFloor 8 = .ok (.getfield 47, 3) := by decide +kernel
theorem dX2_lieOnFloor_11 : decode cX2_lieOnFloor 11 = .ok (.iload_n 1, 1) := by decide +kernel
theorem dX2_lieOnFloor_12 : decode cX2_lieOnFloor 12 = .ok (.dup2, 1) := by decide +kernel
theorem dX2_lieOnFloor_13 : decode cX2_lieOnFloor 13 = .ok (.iaload, 1) := by decide +kernel
theorem dX2_lieOnFloor_14 : decode cX2_lieOnFloor 14 = .ok (.iconst 1, 1) := by decide +kernel
theorem dX2_lieOnFloor_15 : decode cX2_lieOnFloor 15 = .ok (.iadd, 1) := by decide +kernel
theorem dX2_lieOnFloor_16 : decode cX2_lieOnFloor 16 = .ok (.iastore, 1) := by decide +kernel
theorem dX2_lieOnFloor_17 : decode cX2_lieOnFloor 17 = .ok (.return_, 1) := by decide +kernel
set_option maxRecDepth 20000 in
theorem ggX2_payWage_X2_hasBoots : GoodIn wsX2_payWage wsX2_hasBoots := goodIn_r _ [11, 12, 21, 22, 23, 24, 25, 26, 27, 28, 29, 30, 31, 32, 33] (by decide +kernel) (by decide +kernel)
set_option maxRecDepth 20000 in
theorem gX2_payWage_X2_hasBoots : GoodIn wsX2_payWage (wsV RX2 71 RX2 yX2_hasBoots wsX2_hasBoots) := goodIn_app (goodIn_of _ (by decide +kernel)) ggX2_payWage_X2_hasBoots
set_option maxRecDepth 20000 in
theorem ggX2_payWage_X2_earn : GoodIn wsX2_payWage wsX2_earn := goodIn_r _ [16, 17, 18, 19, 5, 20, 21, 22, 23, 24, 25, 26, 27, 28, 29, 30, 31, 32, 33] (by decide +kernel) (by decide +kernel)
set_option maxRecDepth 20000 in
theorem gX2_payWage_X2_earn : GoodIn wsX2_payWage (wsV RX2 78 RX2 yX2_earn wsX2_earn) := goodIn_app (goodIn_of _ (by decide +kernel)) ggX2_payWage_X2_earn
theorem dX2_payWage_0 : decode cX2_payWage 0 = .ok (.aload_n 0, 1) := by decide +kernel
theorem dX2_payWage_1 : decode cX2_payWage 1 = .ok (.iload_n 1, 1) := by decide +kernel
theorem dX2_payWage_2 : decode cX2_payWage 2 = .ok (.invokevirtual 71, 3) := by decide +kernel
theorem dX2_payWage_5 : decode cX2_payWage 5 = .ok (.ifCond .eq 12, 3) := by decide +kernel
theorem dX2_payWage_8 : decode cX2_payWage 8 = .ok (.aload_n 0, 1) := by decide +kernel
theorem dX2_payWage_9 : decode cX2_payWage 9 = .ok (.getfield 20, 3) := by decide +kernel
theorem dX2_payWage_12 : decode cX2_payWage 12 = .ok (.iload_n 1, 1) := by decide +kernel
theorem dX2_payWage_13 : decode cX2_payWage 13 = .ok (.iaload, 1) := by decide +kernel
theorem dX2_payWage_14 : decode cX2_payWage 14 = .ok (.goto 11, 3) := by decide +kernel
theorem dX2_payWage_17 : decode cX2_payWage 17 = .ok (.aload_n 0, 1) := by decide +kernel
theorem dX2_payWage_18 : decode cX2_payWage 18 = .ok (.getfield 20, 3) := by decide +kernel
theorem dX2_payWage_21 : decode cX2_payWage 21 = .ok (.iload_n 1, 1) := by decide +kernel
theorem dX2_payWage_22 : decode cX2_payWage 22 = .ok (.iaload, 1) := by decide +kernel
theorem dX2_payWage_23 : decode cX2_payWage 23 = .ok (.iconst 2, 1) := by decide +kernel
theorem dX2_payWage_24 : decode cX2_payWage 24 = .ok (.idiv, 1) := by decide +kernel
theorem dX2_payWage_25 : decode cX2_payWage 25 = .ok (.istore_n 2, 1) := by decide +kernel
theorem dX2_payWage_26 : decode cX2_payWage 26 = .ok (.aload_n 0, 1) := by decide +kernel
theorem dX2_payWage_27 : decode cX2_payWage 27 = .ok (.iload_n 1, 1) := by decide +kernel
theorem dX2_payWage_28 : decode cX2_payWage 28 = .ok (.iconst 0, 1) := by decide +kernel
theorem dX2_payWage_29 : decode cX2_payWage 29 = .ok (.iload_n 2, 1) := by decide +kernel
theorem dX2_payWage_30 : decode cX2_payWage 30 = .ok (.aload_n 0, 1) := by decide +kernel
theorem dX2_payWage_31 : decode cX2_payWage 31 = .ok (.getfield 44, 3) := by decide +kernel
theorem dX2_payWage_34 : decode cX2_payWage 34 = .ok (.iload_n 1, 1) := by decide +kernel
theorem dX2_payWage_35 : decode cX2_payWage 35 = .ok (.iaload, 1) := by decide +kernel
theorem dX2_payWage_36 : decode cX2_payWage 36 = .ok (.isub, 1) := by decide +kernel
theorem dX2_payWage_37 : decode cX2_payWage 37 = .ok (.invokestatic 75, 3) := by decide +kernel
theorem dX2_payWage_40 : decode cX2_payWage 40 = .ok (.invokevirtual 78, 3) := by decide +kernel
theorem dX2_payWage_43 : decode cX2_payWage 43 = .ok (.aload_n 0, 1) := by decide +kernel
theorem dX2_payWage_44 : decode cX2_payWage 44 = .ok (.getfield 44, 3) := by decide +kernel
theorem dX2_payWage_47 : decode cX2_payWage 47 = .ok (.iload_n 1, 1) := by decide +kernel
theorem dX2_payWage_48 : decode cX2_payWage 48 = .ok (.iconst 0, 1) := by decide +kernel
theorem dX2_payWage_49 : decode cX2_payWage 49 = .ok (.iastore, 1) := by decide +kernel
theorem dX2_payWage_50 : decode cX2_payWage 50 = .ok (.return_, 1) := by decide +kernel
theorem dX2_howManyAt_0 : decode cX2_howManyAt 0 = .ok (.iconst 0, 1) := by decide +kernel
theorem dX2_howManyAt_1 : decode cX2_howManyAt 1 = .ok (.istore_n 2, 1) := by decide +kernel
theorem dX2_howManyAt_2 : decode cX2_howManyAt 2 = .ok (.iconst 0, 1) := by decide +kernel
theorem dX2_howManyAt_3 : decode cX2_howManyAt 3 = .ok (.istore_n 3, 1) := by decide +kernel
theorem dX2_howManyAt_4 : decode cX2_howManyAt 4 = .ok (.iload_n 3, 1) := by decide +kernel
theorem dX2_howManyAt_5 : decode cX2_howManyAt 5 = .ok (.aload_n 0, 1) := by decide +kernel
theorem dX2_howManyAt_6 : decode cX2_howManyAt 6 = .ok (.getfield 7, 3) := by decide +kernel
theorem dX2_howManyAt_9 : decode cX2_howManyAt 9 = .ok (.if_icmp .ge 22, 3) := by decide +kernel
theorem dX2_howManyAt_12 : decode cX2_howManyAt 12 = .ok (.aload_n 0, 1) := by decide +kernel
theorem dX2_howManyAt_13 : decode cX2_howManyAt 13 = .ok (.getfield 32, 3) := by decide +kernel
theorem dX2_howManyAt_16 : decode cX2_howManyAt 16 = .ok (.iload_n 3, 1) := by decide +kernel
theorem dX2_howManyAt_17 : decode cX2_howManyAt 17 = .ok (.iaload, 1) := by decide +kernel
theorem dX2_howManyAt_18 : decode cX2_howManyAt 18 = .ok (.iload_n 1, 1) := by decide +kernel
theorem dX2_howManyAt_19 : decode cX2_howManyAt 19 = .ok (.if_icmp .ne 6, 3) := by decide +kernel
theorem dX2_howManyAt_22 : decode cX2_howManyAt 22 = .ok (.iinc 2 1, 3) := by decide +kernel
theorem dX2_howManyAt_25 : decode cX2_howManyAt 25 = .ok (.iinc 3 1, 3) := by decide +kernel
theorem dX2_howManyAt_28 : decode cX2_howManyAt 28 = .ok (.goto (-24), 3) := by decide +kernel
theorem dX2_howManyAt_31 : decode cX2_howManyAt 31 = .ok (.iload_n 2, 1) := by decide +kernel
theorem dX2_howManyAt_32 : decode cX2_howManyAt 32 = .ok (.ireturn, 1) := by decide +kernel
set_option maxRecDepth 20000 in
theorem ggX2_allRest_X2_sum : GoodIn wsX2_allRest wsX2_sum := goodIn_r _ [6, 7, 8, 9, 10, 11, 12, 13, 14, 15, 16, 17, 18, 19, 20] (by decide +kernel) (by decide +kernel)
set_option maxRecDepth 20000 in
theorem gX2_allRest_X2_sum : GoodIn wsX2_allRest (wsV RX2 82 RX2 yX2_sum wsX2_sum) := goodIn_app (goodIn_of _ (by decide +kernel)) ggX2_allRest_X2_sum
theorem dX2_allRest_0 : decode cX2_allRest 0 = .ok (.aload_n 0, 1) := by decide +kernel
theorem dX2_allRest_1 : decode cX2_allRest 1 = .ok (.aload_n 0, 1) := by decide +kernel
theorem dX2_allRest_2 : decode cX2_allRest 2 = .ok (.getfield 38, 3) := by decide +kernel
theorem dX2_allRest_5 : decode cX2_allRest 5 = .ok (.invokevirtual 82, 3) := by decide +kernel
theorem dX2_allRest_8 : decode cX2_allRest 8 = .ok (.ireturn, 1) := by decide +kernel
set_option maxRecDepth 20000 in
theorem ggX2_allLate_X2_sum : GoodIn wsX2_allLate wsX2_sum := goodIn_r _ [6, 7, 8, 9, 10, 11, 12, 13, 14, 15, 16, 17, 18, 19, 20] (by decide +kernel) (by decide +kernel)
set_option maxRecDepth 20000 in
theorem gX2_allLate_X2_sum : GoodIn wsX2_allLate (wsV RX2 82 RX2 yX2_sum wsX2_sum) := goodIn_app (goodIn_of _ (by decide +kernel)) ggX2_allLate_X2_sum
theorem dX2_allLate_0 : decode cX2_allLate 0 = .ok (.aload_n 0, 1) := by decide +kernel
theorem dX2_allLate_1 : decode cX2_allLate 1 = .ok (.aload_n 0, 1) := by decide +kernel
theorem dX2_allLate_2 : decode cX2_allLate 2 = .ok (.getfield 41, 3) := by decide +kernel
theorem dX2_allLate_5 : decode cX2_allLate 5 = .ok (.invokevirtual 82, 3) := by decide +kernel
theorem dX2_allLate_8 : decode cX2_allLate 8 = .ok (.ireturn, 1) := by decide +kernel
set_option maxRecDepth 20000 in
theorem ggX2_allFloors_X2_sum : GoodIn wsX2_allFloors wsX2_sum := goodIn_r _ [6, 7, 8, 9, 10, 11, 12, 13, 14, 15, 16, 17, 18, 19, 20] (by decide +kernel) (by decide +kernel)
set_option maxRecDepth 20000 in
theorem gX2_allFloors_X2_sum : GoodIn wsX2_allFloors (wsV RX2 82 RX2 yX2_sum wsX2_sum) := goodIn_app (goodIn_of _ (by decide +kernel)) ggX2_allFloors_X2_sum
theorem dX2_allFloors_0 : decode cX2_allFloors 0 = .ok (.aload_n 0, 1) := by decide +kernel
theorem dX2_allFloors_1 : decode cX2_allFloors 1 = .ok (.aload_n 0, 1) := by decide +kernel
theorem dX2_allFloors_2 : decode cX2_allFloors 2 = .ok (.getfield 47, 3) := by decide +kernel
theorem dX2_allFloors_5 : decode cX2_allFloors 5 = .ok (.invokevirtual 82, 3) := by decide +kernel
theorem dX2_allFloors_8 : decode cX2_allFloors 8 = .ok (.ireturn, 1) := by decide +kernel
theorem dX2_sum_0 : decode cX2_sum 0 = .ok (.iconst 0, 1) := by decide +kernel
theorem dX2_sum_1 : decode cX2_sum 1 = .ok (.istore_n 2, 1) := by decide +kernel
theorem dX2_sum_2 : decode cX2_sum 2 = .ok (.iconst 0, 1) := by decide +kernel
theorem dX2_sum_3 : decode cX2_sum 3 = .ok (.istore_n 3, 1) := by decide +kernel
theorem dX2_sum_4 : decode cX2_sum 4 = .ok (.iload_n 3, 1) := by decide +kernel
theorem dX2_sum_5 : decode cX2_sum 5 = .ok (.aload_n 0, 1) := by decide +kernel
theorem dX2_sum_6 : decode cX2_sum 6 = .ok (.getfield 7, 3) := by decide +kernel
theorem dX2_sum_9 : decode cX2_sum 9 = .ok (.if_icmp .ge 21, 3) := by decide +kernel
theorem dX2_sum_12 : decode cX2_sum 12 = .ok (.iload_n 3, 1) := by decide +kernel
theorem dX2_sum_13 : decode cX2_sum 13 = .ok (.aload_n 1, 1) := by decide +kernel
theorem dX2_sum_14 : decode cX2_sum 14 = .ok (.arraylength, 1) := by decide +kernel
theorem dX2_sum_15 : decode cX2_sum 15 = .ok (.if_icmp .ge 15, 3) := by decide +kernel
theorem dX2_sum_18 : decode cX2_sum 18 = .ok (.iload_n 2, 1) := by decide +kernel
theorem dX2_sum_19 : decode cX2_sum 19 = .ok (.aload_n 1, 1) := by decide +kernel
theorem dX2_sum_20 : decode cX2_sum 20 = .ok (.iload_n 3, 1) := by decide +kernel
theorem dX2_sum_21 : decode cX2_sum 21 = .ok (.iaload, 1) := by decide +kernel
theorem dX2_sum_22 : decode cX2_sum 22 = .ok (.iadd, 1) := by decide +kernel
theorem dX2_sum_23 : decode cX2_sum 23 = .ok (.istore_n 2, 1) := by decide +kernel
theorem dX2_sum_24 : decode cX2_sum 24 = .ok (.iinc 3 1, 3) := by decide +kernel
theorem dX2_sum_27 : decode cX2_sum 27 = .ok (.goto (-23), 3) := by decide +kernel
theorem dX2_sum_30 : decode cX2_sum 30 = .ok (.iload_n 2, 1) := by decide +kernel
theorem dX2_sum_31 : decode cX2_sum 31 = .ok (.ireturn, 1) := by decide +kernel
end
section
/-! THE STATE OF A HOUSE as a table of numbers: row 0 the single numbers (0 hour, 1 bell, 2 pawn, 3 how many beds, 4 how many sailors), 1..5 the beds (price, warmth, entries, paid, sleeper), 6..17 the sailors (watch, heavy, wage, purse, boots, kept, place, bed, rest, late, since, floors) -/
abbrev zS : Type := Nat → Nat → Int32
def zs (σ : zS) (r j : Nat) (v : Int32) : zS := fun r' => if r' = r then upd (σ r) j v else σ r'
theorem zs_at (σ : zS) (r j : Nat) (v : Int32) (r' j' : Nat) : zs σ r j v r' j' = if r' = r ∧ j' = j then v else σ r' j' := by
  unfold zs upd
  by_cases h : r' = r
  · subst h
    by_cases h2 : j' = j <;> simp [h2]
  · simp [h]
theorem zs_eq (σ : zS) (r j : Nat) (v : Int32) : zs σ r j v r j = v := by rw [zs_at, if_pos ⟨rfl, rfl⟩]
theorem zs_row (σ : zS) {r r' : Nat} (h : r' ≠ r) (j : Nat) (v : Int32) : zs σ r j v r' = σ r' := by unfold zs; rw [if_neg h]
theorem zs_ne (σ : zS) (r : Nat) {j j' : Nat} (h : j' ≠ j) (v : Int32) (r' : Nat) : zs σ r j v r' j' = σ r' j' := by rw [zs_at, if_neg (fun z => h z.2)]
theorem zs_nr (σ : zS) {r r' : Nat} (h : r' ≠ r) (j : Nat) (v : Int32) (j' : Nat) : zs σ r j v r' j' = σ r' j' := by rw [zs_at, if_neg (fun z => h z.1)]
theorem zs_self (σ : zS) (r j : Nat) : zs σ r j (σ r j) = σ := by
  funext r' j'
  rw [zs_at]
  by_cases h : r' = r ∧ j' = j
  · rw [if_pos h, h.1, h.2]
  · rw [if_neg h]
theorem zs_twice (σ : zS) (r j : Nat) (v w : Int32) : zs (zs σ r j v) r j w = zs σ r j w := by
  funext r' j'
  rw [zs_at, zs_at, zs_at]
  by_cases h : r' = r ∧ j' = j
  · rw [if_pos h, if_pos h]
  · rw [if_neg h, if_neg h, if_neg h]
theorem zs_swap (σ : zS) {r1 r2 : Nat} (h : r1 ≠ r2) (j1 j2 : Nat) (v w : Int32) : zs (zs σ r1 j1 v) r2 j2 w = zs (zs σ r2 j2 w) r1 j1 v := by
  funext r' j'
  rw [zs_at, zs_at, zs_at, zs_at]
  by_cases h1 : r' = r1 ∧ j' = j1
  · have h2 : ¬ (r' = r2 ∧ j' = j2) := fun z => h (h1.1.symm.trans z.1)
    rw [if_neg h2, if_pos h1, if_pos h1]
  · rw [if_neg h1, if_neg h1]
/-- true or false, as a number -/
def zb (P : Prop) (r : Int32) : Prop := (P ∧ r = 1) ∨ (¬ P ∧ r = 0)
/-- a house's cells: the house, its beds, its sailors, the rows -/
def zw_H (cI : ClassId) (a : Nat → Nat) (σ : zS) : va_W := [
  (a 0, .inr (1, [.int (σ 0 0), .int (σ 0 1), .int (σ 0 2), .ref (a 1), .ref (a 2)])),
  (a 1, .inr (0, [.int (σ 0 3), .ref (a 3), .ref (a 4), .ref (a 5), .ref (a 6), .ref (a 7)])),
  (a 2, .inr (2, [.int (σ 0 4), .ref (a 8), .ref (a 9), .ref (a 10), .ref (a 11), .ref (a 12), .ref (a 13), .ref (a 14), .ref (a 15), .ref (a 16), .ref (a 17), .ref (a 18), .ref (a 19)])),
  (a 3, .inl (cI, 6, .inl (σ 1))), (a 4, .inl (cI, 6, .inl (σ 2))), (a 5, .inl (cI, 6, .inl (σ 3))), (a 6, .inl (cI, 6, .inl (σ 4))), (a 7, .inl (cI, 6, .inl (σ 5))),
  (a 8, .inl (cI, 10, .inl (σ 6))), (a 9, .inl (cI, 10, .inl (σ 7))), (a 10, .inl (cI, 10, .inl (σ 8))), (a 11, .inl (cI, 10, .inl (σ 9))), (a 12, .inl (cI, 10, .inl (σ 10))), (a 13, .inl (cI, 10, .inl (σ 11))),
  (a 14, .inl (cI, 10, .inl (σ 12))), (a 15, .inl (cI, 10, .inl (σ 13))), (a 16, .inl (cI, 10, .inl (σ 14))), (a 17, .inl (cI, 10, .inl (σ 15))), (a 18, .inl (cI, 10, .inl (σ 16))), (a 19, .inl (cI, 10, .inl (σ 17)))]
theorem zwq1 (cI : ClassId) (a : Nat → Nat) (σ : zS) : (zw_H cI a σ)[3]? = some (a 3, .inl (cI, 6, .inl (σ 1))) := rfl
theorem zws1 (cI : ClassId) (a : Nat → Nat) (σ : zS) (j : Nat) (v : Int32) : (zw_H cI a σ).set 3 (a 3, .inl (cI, 6, .inl (upd (σ 1) j v))) = zw_H cI a (zs σ 1 j v) := rfl
theorem zwq2 (cI : ClassId) (a : Nat → Nat) (σ : zS) : (zw_H cI a σ)[4]? = some (a 4, .inl (cI, 6, .inl (σ 2))) := rfl
theorem zws2 (cI : ClassId) (a : Nat → Nat) (σ : zS) (j : Nat) (v : Int32) : (zw_H cI a σ).set 4 (a 4, .inl (cI, 6, .inl (upd (σ 2) j v))) = zw_H cI a (zs σ 2 j v) := rfl
theorem zwq3 (cI : ClassId) (a : Nat → Nat) (σ : zS) : (zw_H cI a σ)[5]? = some (a 5, .inl (cI, 6, .inl (σ 3))) := rfl
theorem zws3 (cI : ClassId) (a : Nat → Nat) (σ : zS) (j : Nat) (v : Int32) : (zw_H cI a σ).set 5 (a 5, .inl (cI, 6, .inl (upd (σ 3) j v))) = zw_H cI a (zs σ 3 j v) := rfl
theorem zwq4 (cI : ClassId) (a : Nat → Nat) (σ : zS) : (zw_H cI a σ)[6]? = some (a 6, .inl (cI, 6, .inl (σ 4))) := rfl
theorem zws4 (cI : ClassId) (a : Nat → Nat) (σ : zS) (j : Nat) (v : Int32) : (zw_H cI a σ).set 6 (a 6, .inl (cI, 6, .inl (upd (σ 4) j v))) = zw_H cI a (zs σ 4 j v) := rfl
theorem zwq5 (cI : ClassId) (a : Nat → Nat) (σ : zS) : (zw_H cI a σ)[7]? = some (a 7, .inl (cI, 6, .inl (σ 5))) := rfl
theorem zws5 (cI : ClassId) (a : Nat → Nat) (σ : zS) (j : Nat) (v : Int32) : (zw_H cI a σ).set 7 (a 7, .inl (cI, 6, .inl (upd (σ 5) j v))) = zw_H cI a (zs σ 5 j v) := rfl
theorem zwq6 (cI : ClassId) (a : Nat → Nat) (σ : zS) : (zw_H cI a σ)[8]? = some (a 8, .inl (cI, 10, .inl (σ 6))) := rfl
theorem zws6 (cI : ClassId) (a : Nat → Nat) (σ : zS) (j : Nat) (v : Int32) : (zw_H cI a σ).set 8 (a 8, .inl (cI, 10, .inl (upd (σ 6) j v))) = zw_H cI a (zs σ 6 j v) := rfl
theorem zwq7 (cI : ClassId) (a : Nat → Nat) (σ : zS) : (zw_H cI a σ)[9]? = some (a 9, .inl (cI, 10, .inl (σ 7))) := rfl
theorem zws7 (cI : ClassId) (a : Nat → Nat) (σ : zS) (j : Nat) (v : Int32) : (zw_H cI a σ).set 9 (a 9, .inl (cI, 10, .inl (upd (σ 7) j v))) = zw_H cI a (zs σ 7 j v) := rfl
theorem zwq8 (cI : ClassId) (a : Nat → Nat) (σ : zS) : (zw_H cI a σ)[10]? = some (a 10, .inl (cI, 10, .inl (σ 8))) := rfl
theorem zws8 (cI : ClassId) (a : Nat → Nat) (σ : zS) (j : Nat) (v : Int32) : (zw_H cI a σ).set 10 (a 10, .inl (cI, 10, .inl (upd (σ 8) j v))) = zw_H cI a (zs σ 8 j v) := rfl
theorem zwq9 (cI : ClassId) (a : Nat → Nat) (σ : zS) : (zw_H cI a σ)[11]? = some (a 11, .inl (cI, 10, .inl (σ 9))) := rfl
theorem zws9 (cI : ClassId) (a : Nat → Nat) (σ : zS) (j : Nat) (v : Int32) : (zw_H cI a σ).set 11 (a 11, .inl (cI, 10, .inl (upd (σ 9) j v))) = zw_H cI a (zs σ 9 j v) := rfl
theorem zwq10 (cI : ClassId) (a : Nat → Nat) (σ : zS) : (zw_H cI a σ)[12]? = some (a 12, .inl (cI, 10, .inl (σ 10))) := rfl
theorem zws10 (cI : ClassId) (a : Nat → Nat) (σ : zS) (j : Nat) (v : Int32) : (zw_H cI a σ).set 12 (a 12, .inl (cI, 10, .inl (upd (σ 10) j v))) = zw_H cI a (zs σ 10 j v) := rfl
theorem zwq11 (cI : ClassId) (a : Nat → Nat) (σ : zS) : (zw_H cI a σ)[13]? = some (a 13, .inl (cI, 10, .inl (σ 11))) := rfl
theorem zws11 (cI : ClassId) (a : Nat → Nat) (σ : zS) (j : Nat) (v : Int32) : (zw_H cI a σ).set 13 (a 13, .inl (cI, 10, .inl (upd (σ 11) j v))) = zw_H cI a (zs σ 11 j v) := rfl
theorem zwq12 (cI : ClassId) (a : Nat → Nat) (σ : zS) : (zw_H cI a σ)[14]? = some (a 14, .inl (cI, 10, .inl (σ 12))) := rfl
theorem zws12 (cI : ClassId) (a : Nat → Nat) (σ : zS) (j : Nat) (v : Int32) : (zw_H cI a σ).set 14 (a 14, .inl (cI, 10, .inl (upd (σ 12) j v))) = zw_H cI a (zs σ 12 j v) := rfl
theorem zwq13 (cI : ClassId) (a : Nat → Nat) (σ : zS) : (zw_H cI a σ)[15]? = some (a 15, .inl (cI, 10, .inl (σ 13))) := rfl
theorem zws13 (cI : ClassId) (a : Nat → Nat) (σ : zS) (j : Nat) (v : Int32) : (zw_H cI a σ).set 15 (a 15, .inl (cI, 10, .inl (upd (σ 13) j v))) = zw_H cI a (zs σ 13 j v) := rfl
theorem zwq14 (cI : ClassId) (a : Nat → Nat) (σ : zS) : (zw_H cI a σ)[16]? = some (a 16, .inl (cI, 10, .inl (σ 14))) := rfl
theorem zws14 (cI : ClassId) (a : Nat → Nat) (σ : zS) (j : Nat) (v : Int32) : (zw_H cI a σ).set 16 (a 16, .inl (cI, 10, .inl (upd (σ 14) j v))) = zw_H cI a (zs σ 14 j v) := rfl
theorem zwq15 (cI : ClassId) (a : Nat → Nat) (σ : zS) : (zw_H cI a σ)[17]? = some (a 17, .inl (cI, 10, .inl (σ 15))) := rfl
theorem zws15 (cI : ClassId) (a : Nat → Nat) (σ : zS) (j : Nat) (v : Int32) : (zw_H cI a σ).set 17 (a 17, .inl (cI, 10, .inl (upd (σ 15) j v))) = zw_H cI a (zs σ 15 j v) := rfl
theorem zwq16 (cI : ClassId) (a : Nat → Nat) (σ : zS) : (zw_H cI a σ)[18]? = some (a 18, .inl (cI, 10, .inl (σ 16))) := rfl
theorem zws16 (cI : ClassId) (a : Nat → Nat) (σ : zS) (j : Nat) (v : Int32) : (zw_H cI a σ).set 18 (a 18, .inl (cI, 10, .inl (upd (σ 16) j v))) = zw_H cI a (zs σ 16 j v) := rfl
theorem zwq17 (cI : ClassId) (a : Nat → Nat) (σ : zS) : (zw_H cI a σ)[19]? = some (a 19, .inl (cI, 10, .inl (σ 17))) := rfl
theorem zws17 (cI : ClassId) (a : Nat → Nat) (σ : zS) (j : Nat) (v : Int32) : (zw_H cI a σ).set 19 (a 19, .inl (cI, 10, .inl (upd (σ 17) j v))) = zw_H cI a (zs σ 17 j v) := rfl
theorem zwo0 (cI : ClassId) (a : Nat → Nat) (σ : zS) (v : Int32) : (zw_H cI a σ).set 0 (a 0, .inr (1, [.int v, .int (σ 0 1), .int (σ 0 2), .ref (a 1), .ref (a 2)])) = zw_H cI a (zs σ 0 0 v) := rfl
theorem zwo1 (cI : ClassId) (a : Nat → Nat) (σ : zS) (v : Int32) : (zw_H cI a σ).set 0 (a 0, .inr (1, [.int (σ 0 0), .int v, .int (σ 0 2), .ref (a 1), .ref (a 2)])) = zw_H cI a (zs σ 0 1 v) := rfl
theorem zwo2 (cI : ClassId) (a : Nat → Nat) (σ : zS) (v : Int32) : (zw_H cI a σ).set 0 (a 0, .inr (1, [.int (σ 0 0), .int (σ 0 1), .int v, .ref (a 1), .ref (a 2)])) = zw_H cI a (zs σ 0 2 v) := rfl
theorem zwo3 (cI : ClassId) (a : Nat → Nat) (σ : zS) (v : Int32) : (zw_H cI a σ).set 1 (a 1, .inr (0, [.int v, .ref (a 3), .ref (a 4), .ref (a 5), .ref (a 6), .ref (a 7)])) = zw_H cI a (zs σ 0 3 v) := rfl
theorem zwo4 (cI : ClassId) (a : Nat → Nat) (σ : zS) (v : Int32) : (zw_H cI a σ).set 2 (a 2, .inr (2, [.int v, .ref (a 8), .ref (a 9), .ref (a 10), .ref (a 11), .ref (a 12), .ref (a 13), .ref (a 14), .ref (a 15), .ref (a 16), .ref (a 17), .ref (a 18), .ref (a 19)])) = zw_H cI a (zs σ 0 4 v) := rfl
/-- what a method finds: a world, and what the tables say of it -/
def zPW (D : va_G) (tys : List (ClassId × FieldType)) (w : va_W) (sz : Nat) (U : State) : Prop := U.heap.size = sz ∧ va_P D vwCl w U.heap ∧ va_K D vwCl tys U ∧ va_D (fun _ => True) w
def zQW (D : va_G) (tys : List (ClassId × FieldType)) (w : va_W) (A : Nat → Prop) (t : State) : Prop := va_P D vwCl w t.heap ∧ va_K D vwCl tys t ∧ va_D A w
theorem zbl {D : va_G} {tys : List (ClassId × FieldType)} {w : va_W} {sz : Nat} (av : List Value) : FrameBlind (va_Pc av (zPW D tys w sz)) := fun a U g mk q => by
  obtain ⟨q0, q1, qP, qK, qD⟩ := q
  exact ⟨q0, q1, qP, va_K.moved (u := U) (U := U.calling g mk a) (Vm.Alike.refl U.vm) qK, qD⟩
theorem zpr {D : va_G} {tys : List (ClassId × FieldType)} {w : va_W} {H : Heap} {s : State} {A : Nat → Prop} {av : List Value} (hK : va_K D vwCl tys s) (hP : va_P D vwCl w H) (hD : va_D A w) : ∀ U : State, U.heap = H → s.WarmedH U.vm → va_Pc av (zPW D tys w H.size) av.toArray U := fun U hU hW =>
  ⟨rfl, by rw [hU], by rw [hU]; exact hP, va_K.moved hW.alike hK, hD.weaken (fun _ _ _ _ => trivial)⟩
/-- a contract of a method that only reads: its answer -/
abbrev zMR (l : Launch) (y : MethodName) (ws : List Cond) (rm : Room) (av : List Value) (D : va_G) (tys : List (ClassId × FieldType)) (w : va_W) (post : Int32 → Prop) : Prop :=
  ∀ sz : Nat, Met l y ws rm (va_Pc av (zPW D tys w sz)) (va_Qi (fun (r : Int32) (_ : Unit) => post r) (fun _ _ => True) (fun _ => False)) 0 0 (fun _ => False)
/-- of one that writes and answers nothing: the world behind it -/
abbrev zMV (l : Launch) (y : MethodName) (ws : List Cond) (rm : Room) (av : List Value) (D : va_G) (tys : List (ClassId × FieldType)) (w w1 : va_W) : Prop :=
  ∀ sz : Nat, Met l y ws rm (va_Pc av (zPW D tys w sz)) (va_Qv (fun (_ : Unit) => True) (fun _ t => zQW D tys w1 (va_A w sz) t) (va_A w sz)) 0 0 (va_A w sz)
/-- of one that writes and answers a number -/
abbrev zMI (l : Launch) (y : MethodName) (ws : List Cond) (rm : Room) (av : List Value) (D : va_G) (tys : List (ClassId × FieldType)) (w w1 : va_W) (post : Int32 → Prop) : Prop :=
  ∀ sz : Nat, Met l y ws rm (va_Pc av (zPW D tys w sz)) (va_Qi (fun (r : Int32) (_ : Unit) => post r) (fun _ t => zQW D tys w1 (va_A w sz) t) (va_A w sz)) 0 0 (va_A w sz)
section ZK
variable {p : Program} {l : Launch} {e : Env} {R : Room} {s : State} {m : MethodId} {args : Array Value} {below : List Frame} {meth : Method} {c : Code} {H : Heap} {locs : List Loc} {cells slots : Nat} {Q : State → Prop}
variable {pc : Nat} {ls : Array Slot} {rest st0 : List Value} {a : Array Value} {A0 : Nat → Prop} {H0 : Heap} {D : va_G} {tys : List (ClassId × FieldType)} {w w1 : va_W} {post : Int32 → Prop}
/-- behind a call that only read -/
theorem zk_R (hr : va_Run p l e R s m args below meth c H locs cells slots 0 0 (F0 m pc ls st0) rest (va_Qi (fun (r : Int32) (_ : Unit) => post r) (fun _ _ => True) (fun _ => False) a) (fun _ => False)) (hS : va_S A0 H0 H locs)
    (kk : ∀ (r : Int32) (H1 : Heap) (locs1 : List Loc), post r → (∀ w : va_W, va_P D vwCl w H → va_P D vwCl w H1) → va_S A0 H0 H1 locs1 → W p l e R s m args below meth c H1 locs1 cells slots Q (F0 m (pc + 3) ls (.int r :: rest))) : W p l e R s m args below meth c H locs cells slots Q (F0 m pc ls st0) := by
  refine va_calli hr hS (fun q _ h => h.elim) (fun q h => h.elim) (fun r u t H1 locs1 ht hvm hw hB hz1 hk1 hS1 => ?_)
  exact kk r H1 locs1 hw (fun w hP => hP.kept (fun k q hk => hk1 q.1 (hP k q hk).lt (fun z => z))) hS1
theorem zk_V (hr : va_Run p l e R s m args below meth c H locs cells slots 0 0 (F0 m pc ls st0) rest (va_Qv (fun (_ : Unit) => True) (fun _ t => zQW D tys w1 (va_A w H.size) t) (va_A w H.size) a) (va_A w H.size)) (hS : va_S A0 H0 H locs) (hF : ∀ q, va_A w H.size q → A0 q)
    (kk : ∀ (H1 : Heap) (locs1 : List Loc), (∀ q : Nat, q < H.size → ¬ va_A w H.size q → H1[q]? = H[q]?) → va_P D vwCl w1 H1 → va_D (va_A w H.size) w1 → va_S A0 H0 H1 locs1 → W p l e R s m args below meth c H1 locs1 cells slots Q (F0 m (pc + 3) ls rest)) : W p l e R s m args below meth c H locs cells slots Q (F0 m pc ls st0) := by
  refine va_callv hr hS (fun q _ h => hF q h) hF (fun u t H1 locs1 ht hvm hw hB hz1 hk1 hS1 => ?_)
  exact kk H1 locs1 hk1 (by rw [← ht]; exact hB.1) hB.2.2 hS1
theorem zk_I (hr : va_Run p l e R s m args below meth c H locs cells slots 0 0 (F0 m pc ls st0) rest (va_Qi (fun (r : Int32) (_ : Unit) => post r) (fun _ t => zQW D tys w1 (va_A w H.size) t) (va_A w H.size) a) (va_A w H.size)) (hS : va_S A0 H0 H locs) (hF : ∀ q, va_A w H.size q → A0 q)
    (kk : ∀ (r : Int32) (H1 : Heap) (locs1 : List Loc), post r → (∀ q : Nat, q < H.size → ¬ va_A w H.size q → H1[q]? = H[q]?) → va_P D vwCl w1 H1 → va_D (va_A w H.size) w1 → va_S A0 H0 H1 locs1 → W p l e R s m args below meth c H1 locs1 cells slots Q (F0 m (pc + 3) ls (.int r :: rest))) : W p l e R s m args below meth c H locs cells slots Q (F0 m pc ls st0) := by
  refine va_calli hr hS (fun q _ h => hF q h) hF (fun r u t H1 locs1 ht hvm hw hB hz1 hk1 hS1 => ?_)
  exact kk r H1 locs1 hw hk1 (by rw [← ht]; exact hB.1) hB.2.2 hS1
variable {cc : ByteArray} {cl : List vw_C} {A : Nat → Prop} {b : Nat}
/-- int arrays at an index that is a number -/
theorem zk_ld (hexec : p.tables.exec = Jvm.exec) (hb : c.code = cc) (hK : va_K D cl tys s) (hP : va_P D cl w H) (q0 t0 : Nat) {cA : ClassId} {n k : Nat} {f : Nat → Int32} (ha : w[q0]? = some (b, .inl (cA, n, .inl f))) (ht : tys[t0]? = some (cA, .int)) (hk : k < n) (hn : n < 2 ^ 31) {v : Int32} (hv : f k = v) (hdg : decode cc pc = .ok (.iaload, 1))
    (kk : W p l e R s m args below meth c H locs cells slots Q (F0 m (pc + 1) ls (.int v :: rest))) : W p l e R s m args below meth c H locs cells slots Q (F0 m pc ls (.int (nI k) :: .ref b :: rest)) := by
  refine va_iald hexec hb hK hP q0 t0 ha ht (vp_in_nI hk hn) hdg ?_
  rw [nI_clamp (Nat.lt_trans hk hn), hv]
  exact kk
theorem zk_st (hexec : p.tables.exec = Jvm.exec) (hb : c.code = cc) (hK : va_K D cl tys s) (hP : va_P D cl w H) (hD : va_D A w) (hS : va_S A H0 H locs) (q0 t0 : Nat) {cA : ClassId} {n k : Nat} {f : Nat → Int32} (ha : w[q0]? = some (b, .inl (cA, n, .inl f))) (ht : tys[t0]? = some (cA, .int)) {x : Int32} (hk : k < n) (hn : n < 2 ^ 31) (hw : w.set q0 (b, .inl (cA, n, .inl (upd f k x))) = w1) (hdg : decode cc pc = .ok (.iastore, 1))
    (kk : ∀ (H1 : Heap) (locs1 : List Loc), va_P D cl w1 H1 → va_D A w1 → va_S A H0 H1 locs1 → W p l e R s m args below meth c H1 locs1 cells slots Q (F0 m (pc + 1) ls rest)) : W p l e R s m args below meth c H locs cells slots Q (F0 m pc ls (.int x :: .int (nI k) :: .ref b :: rest)) := by
  refine va_iast hexec hb hK hP hD hS q0 t0 ha ht (vp_in_nI hk hn) hdg (fun H1 locs1 hP hD hS => ?_)
  rw [nI_clamp (Nat.lt_trans hk hn), hw] at hP hD
  exact kk H1 locs1 hP hD hS
end ZK
theorem zfree {A0 : Nat → Prop} {w : va_W} {H0 H : Heap} {locs : List Loc} (hD : va_D A0 w) (hS : va_S A0 H0 H locs) (hA : ∀ q, H0.size ≤ q → A0 q) : ∀ q, va_A w H.size q → A0 q := by
  intro q h
  rcases h with ⟨k, e, h⟩ | h
  · exact hD.2 k (q, e) h
  · exact hA q (Nat.le_trans hS.1 h)
section ZN
variable {p : Program} {l : Launch} {e : Env} {R : Room} {s : State} {m : MethodId} {args : Array Value} {below : List Frame} {meth : Method} {c : Code} {H : Heap} {locs : List Loc} {cells slots : Nat} {Q : State → Prop}
variable {cc : ByteArray} {pc : Nat} {ls : Array Slot} {rest : List Value} {x y : Nat}
/-- arithmetic on small numbers -/
theorem zk_add (hexec : p.tables.exec = Jvm.exec) (hb : c.code = cc) (hdg : decode cc pc = .ok (.iadd, 1)) (k : W p l e R s m args below meth c H locs cells slots Q (F0 m (pc + 1) ls (.int (nI (x + y)) :: rest))) : W p l e R s m args below meth c H locs cells slots Q (F0 m pc ls (.int (nI y) :: .int (nI x) :: rest)) := by
  refine lv_iadd hexec hb hdg ?_
  rw [nI_add]
  exact k
theorem zk_mul (hexec : p.tables.exec = Jvm.exec) (hb : c.code = cc) (hdg : decode cc pc = .ok (.imul, 1)) (k : W p l e R s m args below meth c H locs cells slots Q (F0 m (pc + 1) ls (.int (nI (x * y)) :: rest))) : W p l e R s m args below meth c H locs cells slots Q (F0 m pc ls (.int (nI y) :: .int (nI x) :: rest)) := by
  refine lv_imul hexec hb hdg ?_
  rw [pk_mul]
  exact k
theorem zk_sub (hexec : p.tables.exec = Jvm.exec) (hb : c.code = cc) (hdg : decode cc pc = .ok (.isub, 1)) (h : y ≤ x) (k : W p l e R s m args below meth c H locs cells slots Q (F0 m (pc + 1) ls (.int (nI (x - y)) :: rest))) : W p l e R s m args below meth c H locs cells slots Q (F0 m pc ls (.int (nI y) :: .int (nI x) :: rest)) := by
  refine lv_isub hexec hb hdg ?_
  rw [pk_sub h]
  exact k
theorem zk_div (hexec : p.tables.exec = Jvm.exec) (hb : c.code = cc) (hdg : decode cc pc = .ok (.idiv, 1)) (hx : x < 2 ^ 31) (h0 : 0 < y) (hy : y < 2 ^ 31) (k : W p l e R s m args below meth c H locs cells slots Q (F0 m (pc + 1) ls (.int (nI (x / y)) :: rest))) : W p l e R s m args below meth c H locs cells slots Q (F0 m pc ls (.int (nI y) :: .int (nI x) :: rest)) := by
  refine lv_idiv hexec hb hdg (nI_ne0 h0 hy) ?_
  rw [pk_div hx h0 hy]
  exact k
theorem zk_rem (hexec : p.tables.exec = Jvm.exec) (hb : c.code = cc) (hdg : decode cc pc = .ok (.irem, 1)) (hx : x < 2 ^ 31) (h0 : 0 < y) (hy : y < 2 ^ 31) (k : W p l e R s m args below meth c H locs cells slots Q (F0 m (pc + 1) ls (.int (nI (x % y)) :: rest))) : W p l e R s m args below meth c H locs cells slots Q (F0 m pc ls (.int (nI y) :: .int (nI x) :: rest)) := by
  refine lv_irem hexec hb hdg (nI_ne0 h0 hy) ?_
  rw [pk_rem hx h0 hy]
  exact k
end ZN
/-! WHAT EACH METHOD DOES, as functions of the table -/
abbrev f_has (σ : zS) (x : Int32) : Prop := ¬ x < 0 ∧ ¬ σ 0 3 ≤ x
abbrev f_free (σ : zS) (x : Int32) : Prop := f_has σ x ∧ σ 5 x.toNatClampNeg = -1
abbrev f_warm (σ : zS) (x : Int32) : Prop := f_has σ x ∧ ¬ σ 2 x.toNatClampNeg < 4
def f_ch (σ : zS) : Nat → Int32
  | 0 => -1
  | k + 1 => if σ 5 k = -1 ∧ (f_ch σ k = -1 ∨ ¬ σ 1 (f_ch σ k).toNatClampNeg ≤ σ 1 k) then nI k else f_ch σ k
def f_min99 (v : Int32) : Int32 := if v < 99 then v else 99
def f_min8 (v : Int32) : Int32 := if v < 8 then v else 8
def f_max0 (v : Int32) : Int32 := if 0 < v then v else 0
def f_cw (σ : zS) (k : Nat) : Int32 := if σ 5 k = -1 then f_max0 (σ 2 k - 1) else f_min8 (σ 2 k + 2)
def f_cool (σ : zS) : Nat → zS
  | 0 => σ
  | k + 1 => zs (f_cool σ k) 2 k (f_cw (f_cool σ k) k)
def f_earn (σ : zS) (k : Nat) (c : Int32) : zS := zs σ 9 k (f_min99 (σ 9 k + c))
def f_late (σ : zS) (k : Nat) : zS := zs (zs σ 15 k (σ 15 k + 1)) 16 k (σ 16 k + 1)
def f_floor (σ : zS) (k : Nat) : zS := zs (zs σ 12 k 2) 17 k (σ 17 k + 1)
def f_pay (σ : zS) (k : Nat) : zS := zs (f_earn σ k (f_max0 ((if σ 10 k = 1 then σ 8 k else σ 8 k / 2) - σ 16 k))) 16 k 0
def f_leave (σ : zS) (k : Nat) : zS := if f_has σ (σ 13 k) then zs σ 5 (σ 13 k).toNatClampNeg (-1) else σ
def f_getUp (σ : zS) (k : Nat) : zS := zs (zs (f_leave σ k) 13 k (-1)) 12 k 0
def f_pawnB (σ : zS) (k : Nat) : zS := f_earn (zs σ 10 k 0) k (σ 0 2)
abbrev f_can (σ : zS) (k : Nat) : Prop := ¬ σ 10 k = 1 ∧ ¬ σ 9 k < σ 0 2 + 2
def f_red (σ : zS) (k : Nat) : zS := zs (zs σ 9 k (σ 9 k - (σ 0 2 + 2))) 10 k 1
def f_ring (σ : zS) (h k : Nat) : zS := if σ 12 k = 0 then σ else if σ 6 k = nI (h % 24 / 8) then σ else
  if σ 0 1 + 2 * nI ((h % 24 + 24 - ((σ 6 k).toNatClampNeg + 1) * 8) % 24) < σ 7 k then f_late σ k else f_getUp σ k
def f_into (σ : zS) (k b : Nat) : zS := zs (zs (zs (zs (zs (zs σ 9 k (σ 9 k - σ 1 b)) 12 k 1) 13 k (nI b)) 4 b (σ 4 b + σ 1 b)) 3 b (σ 3 b + 1)) 5 b (nI k)
def f_try1 (σ : zS) (k b : Nat) : zS := if ¬ σ 1 b ≤ σ 9 k ∧ ¬ σ 9 k + σ 0 2 < σ 1 b ∧ σ 10 k = 1 then f_pawnB σ k else σ
def f_try (σ : zS) (k b : Nat) : zS := if (f_try1 σ k b) 9 k < σ 1 b then f_floor (f_try1 σ k b) k else f_into (f_try1 σ k b) k b
def f_choose (σ : zS) (nb k : Nat) : Int32 := if f_free σ (σ 11 k) then σ 11 k else f_ch σ nb
def f_look (σ : zS) (nb h k : Nat) : zS := if f_has σ (f_choose σ nb k) then f_try σ k (f_choose σ nb k).toNatClampNeg else if nI (h % 8) < 4 then σ else f_floor σ k
def f_payR (σ : zS) (h k : Nat) : zS := if nI (h % 8) = 0 then (if f_can (f_pay σ k) k then f_red (f_pay σ k) k else f_pay σ k) else σ
def f_serve (σ : zS) (nb h k : Nat) : zS := if σ 6 k = nI (h % 24 / 8) then (if (f_payR σ h k) 12 k = 0 then f_look (f_payR σ h k) nb h k else f_payR σ h k) else σ
def f_roh (σ : zS) (h k : Nat) : Int32 := if σ 12 k = 1 then (if f_warm σ (σ 13 k) then 2 else 1) else if σ 12 k = 2 then (if nI (h % 2) = 0 then 0 else 1) else 0
def f_rest (σ : zS) (h k : Nat) : zS := zs σ 14 k (σ 14 k + f_roh σ h k)
def f_itr (f : zS → Nat → zS) : Nat → zS → zS
  | 0, σ => σ
  | k + 1, σ => f (f_itr f k σ) k
def f_hour1 (σ : zS) (ns h : Nat) : zS := f_itr (fun τ k => f_ring τ h k) ns σ
def f_hour2 (σ : zS) (nb ns h : Nat) : zS := f_itr (fun τ k => f_serve τ nb h k) ns (f_hour1 σ ns h)
def f_hour3 (σ : zS) (nb ns h : Nat) : zS := f_itr (fun τ k => f_rest τ h k) ns (f_hour2 σ nb ns h)
def f_hour (σ : zS) (nb ns h : Nat) : zS := zs (f_cool (f_hour3 σ nb ns h) nb) 0 0 (nI (h + 1))
def f_hours (σ : zS) (nb ns h : Nat) : Nat → zS
  | 0 => σ
  | n + 1 => f_hour (f_hours σ nb ns h n) nb ns (h + n)
def f_sum (f : Nat → Int32) : Nat → Int32
  | 0 => 0
  | k + 1 => f_sum f k + f k
def f_many (f : Nat → Int32) (v : Int32) : Nat → Int32
  | 0 => 0
  | k + 1 => if f k = v then f_many f v k + 1 else f_many f v k
/-- the sizes, the hour and the watches of a house: what an hour leaves as it is, but the hour -/
def zC (σ : zS) (nb ns h : Nat) : Prop := σ 0 3 = nI nb ∧ nb ≤ 6 ∧ σ 0 4 = nI ns ∧ ns ≤ 10 ∧ σ 0 0 = nI h ∧ h < 2 ^ 30 ∧ ∀ k, k < 10 → ∃ w, w < 3 ∧ σ 6 k = nI w
theorem zC.to {σ τ : zS} {nb ns h : Nat} (hC : zC σ nb ns h) (h0 : τ 0 = σ 0) (h6 : τ 6 = σ 6) : zC τ nb ns h := by
  unfold zC at hC ⊢
  rw [h0, h6]
  exact hC
/-- a loop with a counter: what holds at its head with k rounds behind it -/
theorem zk_loop {p : Program} {l : Launch} {e : Env} {R : Room} {s : State} {m : MethodId} {args : Array Value} {below : List Frame} {meth : Method} {c : Code} {cells slots : Nat} {Q : State → Prop} {pc : Nat}
    (I : Nat → Heap → List Loc → Array Slot → Prop) (N : Nat)
    (step : ∀ k, k < N → (∀ (H : Heap) (locs : List Loc) (ls : Array Slot), I (k + 1) H locs ls → W p l e R s m args below meth c H locs cells slots Q (F0 m pc ls [])) → ∀ (H : Heap) (locs : List Loc) (ls : Array Slot), I k H locs ls → W p l e R s m args below meth c H locs cells slots Q (F0 m pc ls []))
    (done : ∀ (H : Heap) (locs : List Loc) (ls : Array Slot), I N H locs ls → W p l e R s m args below meth c H locs cells slots Q (F0 m pc ls []))
    (H : Heap) (locs : List Loc) (ls : Array Slot) (h : I 0 H locs ls) : W p l e R s m args below meth c H locs cells slots Q (F0 m pc ls []) := by
  have key : ∀ j k, k + j = N → ∀ (H : Heap) (locs : List Loc) (ls : Array Slot), I k H locs ls → W p l e R s m args below meth c H locs cells slots Q (F0 m pc ls []) := by
    intro j
    induction j with
    | zero => intro k hk H locs ls h; rw [Nat.add_zero] at hk; subst hk; exact done H locs ls h
    | succ j ih => intro k hk H locs ls h; exact step k (by omega) (ih (k + 1) (by omega)) H locs ls h
  exact key N 0 (Nat.zero_add N) H locs ls h
end
section
/-! what a call asks of a name -/
theorem zdX0_changeWarmth : yX0_changeWarmth.cls = RX0 ∧ yX0_changeWarmth.cls ≠ "java/lang/invoke/MethodHandle" ∧ yX0_changeWarmth.cls ≠ "java/lang/invoke/VarHandle" ∧ (parseMethodDescriptor yX0_changeWarmth.desc).map (fun d => d.parameters.length) = some 0 := by decide +kernel
theorem zdX0_cheapestFree : yX0_cheapestFree.cls = RX0 ∧ yX0_cheapestFree.cls ≠ "java/lang/invoke/MethodHandle" ∧ yX0_cheapestFree.cls ≠ "java/lang/invoke/VarHandle" ∧ (parseMethodDescriptor yX0_cheapestFree.desc).map (fun d => d.parameters.length) = some 0 := by decide +kernel
theorem zdX0_copyFrom : yX0_copyFrom.cls = RX0 ∧ yX0_copyFrom.cls ≠ "java/lang/invoke/MethodHandle" ∧ yX0_copyFrom.cls ≠ "java/lang/invoke/VarHandle" ∧ (parseMethodDescriptor yX0_copyFrom.desc).map (fun d => d.parameters.length) = some 1 := by decide +kernel
theorem zdX0_has : yX0_has.cls = RX0 ∧ yX0_has.cls ≠ "java/lang/invoke/MethodHandle" ∧ yX0_has.cls ≠ "java/lang/invoke/VarHandle" ∧ (parseMethodDescriptor yX0_has.desc).map (fun d => d.parameters.length) = some 1 := by decide +kernel
theorem zdX0_isFree : yX0_isFree.cls = RX0 ∧ yX0_isFree.cls ≠ "java/lang/invoke/MethodHandle" ∧ yX0_isFree.cls ≠ "java/lang/invoke/VarHandle" ∧ (parseMethodDescriptor yX0_isFree.desc).map (fun d => d.parameters.length) = some 1 := by decide +kernel
theorem zdX0_isWarm : yX0_isWarm.cls = RX0 ∧ yX0_isWarm.cls ≠ "java/lang/invoke/MethodHandle" ∧ yX0_isWarm.cls ≠ "java/lang/invoke/VarHandle" ∧ (parseMethodDescriptor yX0_isWarm.desc).map (fun d => d.parameters.length) = some 1 := by decide +kernel
theorem zdX1_canRedeemBoots : yX1_canRedeemBoots.cls = RX1 ∧ yX1_canRedeemBoots.cls ≠ "java/lang/invoke/MethodHandle" ∧ yX1_canRedeemBoots.cls ≠ "java/lang/invoke/VarHandle" ∧ (parseMethodDescriptor yX1_canRedeemBoots.desc).map (fun d => d.parameters.length) = some 1 := by decide +kernel
theorem zdX1_getInto : yX1_getInto.cls = RX1 ∧ yX1_getInto.cls ≠ "java/lang/invoke/MethodHandle" ∧ yX1_getInto.cls ≠ "java/lang/invoke/VarHandle" ∧ (parseMethodDescriptor yX1_getInto.desc).map (fun d => d.parameters.length) = some 2 := by decide +kernel
theorem zdX1_getUp : yX1_getUp.cls = RX1 ∧ yX1_getUp.cls ≠ "java/lang/invoke/MethodHandle" ∧ yX1_getUp.cls ≠ "java/lang/invoke/VarHandle" ∧ (parseMethodDescriptor yX1_getUp.desc).map (fun d => d.parameters.length) = some 1 := by decide +kernel
theorem zdX1_hoursSinceWatch : yX1_hoursSinceWatch.cls = RX1 ∧ yX1_hoursSinceWatch.cls ≠ "java/lang/invoke/MethodHandle" ∧ yX1_hoursSinceWatch.cls ≠ "java/lang/invoke/VarHandle" ∧ (parseMethodDescriptor yX1_hoursSinceWatch.desc).map (fun d => d.parameters.length) = some 1 := by decide +kernel
theorem zdX1_isInWatch : yX1_isInWatch.cls = RX1 ∧ yX1_isInWatch.cls ≠ "java/lang/invoke/MethodHandle" ∧ yX1_isInWatch.cls ≠ "java/lang/invoke/VarHandle" ∧ (parseMethodDescriptor yX1_isInWatch.desc).map (fun d => d.parameters.length) = some 1 := by decide +kernel
theorem zdX1_lookForBed : yX1_lookForBed.cls = RX1 ∧ yX1_lookForBed.cls ≠ "java/lang/invoke/MethodHandle" ∧ yX1_lookForBed.cls ≠ "java/lang/invoke/VarHandle" ∧ (parseMethodDescriptor yX1_lookForBed.desc).map (fun d => d.parameters.length) = some 1 := by decide +kernel
theorem zdX1_pawnBoots : yX1_pawnBoots.cls = RX1 ∧ yX1_pawnBoots.cls ≠ "java/lang/invoke/MethodHandle" ∧ yX1_pawnBoots.cls ≠ "java/lang/invoke/VarHandle" ∧ (parseMethodDescriptor yX1_pawnBoots.desc).map (fun d => d.parameters.length) = some 1 := by decide +kernel
theorem zdX1_redeemBoots : yX1_redeemBoots.cls = RX1 ∧ yX1_redeemBoots.cls ≠ "java/lang/invoke/MethodHandle" ∧ yX1_redeemBoots.cls ≠ "java/lang/invoke/VarHandle" ∧ (parseMethodDescriptor yX1_redeemBoots.desc).map (fun d => d.parameters.length) = some 1 := by decide +kernel
theorem zdX1_restOfHour : yX1_restOfHour.cls = RX1 ∧ yX1_restOfHour.cls ≠ "java/lang/invoke/MethodHandle" ∧ yX1_restOfHour.cls ≠ "java/lang/invoke/VarHandle" ∧ (parseMethodDescriptor yX1_restOfHour.desc).map (fun d => d.parameters.length) = some 1 := by decide +kernel
theorem zdX1_ringBell : yX1_ringBell.cls = RX1 ∧ yX1_ringBell.cls ≠ "java/lang/invoke/MethodHandle" ∧ yX1_ringBell.cls ≠ "java/lang/invoke/VarHandle" ∧ (parseMethodDescriptor yX1_ringBell.desc).map (fun d => d.parameters.length) = some 1 := by decide +kernel
theorem zdX1_serve : yX1_serve.cls = RX1 ∧ yX1_serve.cls ≠ "java/lang/invoke/MethodHandle" ∧ yX1_serve.cls ≠ "java/lang/invoke/VarHandle" ∧ (parseMethodDescriptor yX1_serve.desc).map (fun d => d.parameters.length) = some 1 := by decide +kernel
theorem zdX1_tryBed : yX1_tryBed.cls = RX1 ∧ yX1_tryBed.cls ≠ "java/lang/invoke/MethodHandle" ∧ yX1_tryBed.cls ≠ "java/lang/invoke/VarHandle" ∧ (parseMethodDescriptor yX1_tryBed.desc).map (fun d => d.parameters.length) = some 2 := by decide +kernel
theorem zdX1_watchNow : yX1_watchNow.cls = RX1 ∧ yX1_watchNow.cls ≠ "java/lang/invoke/MethodHandle" ∧ yX1_watchNow.cls ≠ "java/lang/invoke/VarHandle" ∧ (parseMethodDescriptor yX1_watchNow.desc).map (fun d => d.parameters.length) = some 0 := by decide +kernel
theorem zdX2_beLate : yX2_beLate.cls = RX2 ∧ yX2_beLate.cls ≠ "java/lang/invoke/MethodHandle" ∧ yX2_beLate.cls ≠ "java/lang/invoke/VarHandle" ∧ (parseMethodDescriptor yX2_beLate.desc).map (fun d => d.parameters.length) = some 1 := by decide +kernel
theorem zdX2_copyFrom : yX2_copyFrom.cls = RX2 ∧ yX2_copyFrom.cls ≠ "java/lang/invoke/MethodHandle" ∧ yX2_copyFrom.cls ≠ "java/lang/invoke/VarHandle" ∧ (parseMethodDescriptor yX2_copyFrom.desc).map (fun d => d.parameters.length) = some 1 := by decide +kernel
theorem zdX2_earn : yX2_earn.cls = RX2 ∧ yX2_earn.cls ≠ "java/lang/invoke/MethodHandle" ∧ yX2_earn.cls ≠ "java/lang/invoke/VarHandle" ∧ (parseMethodDescriptor yX2_earn.desc).map (fun d => d.parameters.length) = some 2 := by decide +kernel
theorem zdX2_hasBoots : yX2_hasBoots.cls = RX2 ∧ yX2_hasBoots.cls ≠ "java/lang/invoke/MethodHandle" ∧ yX2_hasBoots.cls ≠ "java/lang/invoke/VarHandle" ∧ (parseMethodDescriptor yX2_hasBoots.desc).map (fun d => d.parameters.length) = some 1 := by decide +kernel
theorem zdX2_isUp : yX2_isUp.cls = RX2 ∧ yX2_isUp.cls ≠ "java/lang/invoke/MethodHandle" ∧ yX2_isUp.cls ≠ "java/lang/invoke/VarHandle" ∧ (parseMethodDescriptor yX2_isUp.desc).map (fun d => d.parameters.length) = some 1 := by decide +kernel
theorem zdX2_lieOnFloor : yX2_lieOnFloor.cls = RX2 ∧ yX2_lieOnFloor.cls ≠ "java/lang/invoke/MethodHandle" ∧ yX2_lieOnFloor.cls ≠ "java/lang/invoke/VarHandle" ∧ (parseMethodDescriptor yX2_lieOnFloor.desc).map (fun d => d.parameters.length) = some 1 := by decide +kernel
theorem zdX2_payWage : yX2_payWage.cls = RX2 ∧ yX2_payWage.cls ≠ "java/lang/invoke/MethodHandle" ∧ yX2_payWage.cls ≠ "java/lang/invoke/VarHandle" ∧ (parseMethodDescriptor yX2_payWage.desc).map (fun d => d.parameters.length) = some 1 := by decide +kernel
theorem zdX2_sum : yX2_sum.cls = RX2 ∧ yX2_sum.cls ≠ "java/lang/invoke/MethodHandle" ∧ yX2_sum.cls ≠ "java/lang/invoke/VarHandle" ∧ (parseMethodDescriptor yX2_sum.desc).map (fun d => d.parameters.length) = some 1 := by decide +kernel
theorem zdX3_copyRow : yX3_copyRow.cls = RX3 ∧ yX3_copyRow.cls ≠ "java/lang/invoke/MethodHandle" ∧ yX3_copyRow.cls ≠ "java/lang/invoke/VarHandle" ∧ (parseMethodDescriptor yX3_copyRow.desc).map (fun d => d.parameters.length) = some 2 := by decide +kernel
end
section
set_option maxHeartbeats 4000000 in
set_option maxRecDepth 100000 in
theorem c_X0_has (l : Launch) (D : va_G) (cI : ClassId) (a : Nat → Nat) (σ : zS) (x : Int32) : zMR l yX0_has wsX0_has ({ frames := 0, cells := 0, slots := 0, locals := 0 }) [.ref (a 1), .int x] D [(cI, .int)] (zw_H cI a σ) (zb (f_has σ x)) := by
  intro sz
  refine Met.ofW (cc := cX0_has) (maxL := 2) (ret := (some .boolean)) (by decide) rfl ?_
  intro p e s m args below meth c s₁ B hml hv
  obtain ⟨rfl, hsz, hP, hK, hD⟩ := hv
  have hx := B.exec
  have hb := B.bytes
  have hr := B.returns
  have hts := atoms_spec (ws := wsX0_has) B.pre
  have hown : s.vm.findClass RX0 = some m.cls := findClass_of_methodNamed B.named
  have hlocks := B.notSynchronized
  have hS : va_S (fun _ => False) s.heap s.heap [] := va_S.rf
  have hP : va_P D vwCl (zw_H cI a σ) s.heap := hP
  have hl := lv_entry ([.ref (a 1), .int x]) (n := 2) (Nat.le_of_ble_eq_true rfl)
  rw [lg_entry_eq]
  generalize (lg_sl ([.ref (a 1), .int x]) ++ List.replicate (2 - (lg_sl ([.ref (a 1), .int x])).length) Slot.unset).toArray = ls at hl ⊢
  have hl : lv_has ls 2 [(0, .ref (a 1)), (1, .int x)] := hl
  have hf7 := hts (.fieldLink RX0 7 "HotBeds$Beds" "size" "I") (by decide +kernel)
  have hinX0 : ∀ w ∈ u_ws RX0 TX0 6, w ∈ wsX0_has := by decide +kernel
  refine lv_iload_n hx hb dX0_has_0 rfl (lv_at hl 1 rfl) ?_
  refine lv_if_lt (tgt := 16) hx hb dX0_has_1 (by decide) (fun c_1 => ?_) (fun c_1 => ?_)
  · refine lv_iconst (v := 0) hx hb dX0_has_16 (by decide) ?_
    exact W.zret (v := 0) hx hb hr rfl (fun t ht hW => ⟨⟨0, (), rfl, Or.inr ⟨(fun z => z.1 c_1), rfl⟩, trivial⟩, hS.F ht⟩) hS.2.2 dX0_has_17
  · refine lv_iload_n hx hb dX0_has_4 rfl (lv_at hl 1 rfl) ?_
    refine lv_aload_n hx hb dX0_has_5 rfl (lv_at hl 0 rfl) ?_
    refine va_get (D := D) (ci := 0) (v := .int (σ 0 3)) (C := RX0) (T := TX0) (N := 6) hx hb hts hinX0 hown hK hP 1 rfl rfl 0 (by decide) hf7 (fun _ h9 => h9) rfl dX0_has_6 ?_
    refine lv_icmp_ge (tgt := 16) hx hb dX0_has_9 (by decide) (fun c_2 => ?_) (fun c_2 => ?_)
    · refine lv_iconst (v := 0) hx hb dX0_has_16 (by decide) ?_
      exact W.zret (v := 0) hx hb hr rfl (fun t ht hW => ⟨⟨0, (), rfl, Or.inr ⟨(fun z => z.2 c_2), rfl⟩, trivial⟩, hS.F ht⟩) hS.2.2 dX0_has_17
    · refine lv_iconst (v := 1) hx hb dX0_has_12 (by decide) ?_
      refine lv_goto (tgt := 17) hx hb dX0_has_13 (by decide) ?_
      exact W.zret (v := 1) hx hb hr rfl (fun t ht hW => ⟨⟨1, (), rfl, Or.inl ⟨⟨c_1, c_2⟩, rfl⟩, trivial⟩, hS.F ht⟩) hS.2.2 dX0_has_17

theorem zin {σ : zS} {nb ns h : Nat} {x : Int32} (hC : zC σ nb ns h) (hx : f_has σ x) : vp_in x 6 := by
  have h3 := hx.2
  rw [hC.1] at h3
  have h1 := hx.1
  obtain ⟨j, hj, rfl⟩ := nI_of h1
  have hb := hC.2.1
  exact vp_in_nI (by have := mt (nI_leI (a := nb) (b := j) (by omega) hj).mpr h3; omega) (by decide)

set_option maxHeartbeats 4000000 in
set_option maxRecDepth 100000 in
theorem c_X0_isFree (l : Launch) (D : va_G) (cI : ClassId) (a : Nat → Nat) (σ : zS) (x : Int32) {nb ns h : Nat} (hC : zC σ nb ns h) : zMR l yX0_isFree wsX0_isFree ({ frames := 1, cells := 0, slots := 0, locals := 21 }) [.ref (a 1), .int x] D [(cI, .int)] (zw_H cI a σ) (zb (f_free σ x)) := by
  intro sz
  refine Met.ofW (cc := cX0_isFree) (maxL := 2) (ret := (some .boolean)) (by decide) rfl ?_
  intro p e s m args below meth c s₁ B hml hv
  obtain ⟨rfl, hsz, hP, hK, hD⟩ := hv
  have hx := B.exec
  have hb := B.bytes
  have hr := B.returns
  have hts := atoms_spec (ws := wsX0_isFree) B.pre
  have hown : s.vm.findClass RX0 = some m.cls := findClass_of_methodNamed B.named
  have hlocks := B.notSynchronized
  have hS : va_S (fun _ => False) s.heap s.heap [] := va_S.rf
  have hP : va_P D vwCl (zw_H cI a σ) s.heap := hP
  have hl := lv_entry ([.ref (a 1), .int x]) (n := 2) (Nat.le_of_ble_eq_true rfl)
  rw [lg_entry_eq]
  generalize (lg_sl ([.ref (a 1), .int x]) ++ List.replicate (2 - (lg_sl ([.ref (a 1), .int x])).length) Slot.unset).toArray = ls at hl ⊢
  have hl : lv_has ls 2 [(0, .ref (a 1)), (1, .int x)] := hl
  have hf26 := hts (.fieldLink RX0 26 "HotBeds$Beds" "sleeper" "[I") (by decide +kernel)
  have hinX0 : ∀ w ∈ u_ws RX0 TX0 6, w ∈ wsX0_isFree := by decide +kernel
  refine lv_aload_n hx hb dX0_isFree_0 rfl (lv_at hl 0 rfl) ?_
  refine lv_iload_n hx hb dX0_isFree_1 rfl (lv_at hl 1 rfl) ?_
  refine zk_R (D := D) (va_runV (As := [.int x]) (rest := []) ⟨hx, hb, hml, hown, hts⟩ (c_X0_has l D cI a σ x _) (cwV 1 hts gX0_isFree_X0_has rfl rfl rfl zdX0_has ⟨Nat.le_of_ble_eq_true rfl, Nat.le_of_ble_eq_true rfl⟩) ⟨zbl _, va_recv hK hP (ci := 0) (q0 := 1) rfl rfl, zpr hK hP hD⟩ rfl rfl hl.1 rfl (lv_room (Nat.le_of_ble_eq_true rfl)) dX0_isFree_2 ⟨Nat.zero_le _, Nat.zero_le _⟩) hS (fun r_1 H locs hw hkp hS => ?_)
  have hP := hkp _ hP
  rcases hw with ⟨c_2, rfl⟩ | ⟨c_2, rfl⟩
  · refine lv_if_eq (tgt := 22) hx hb dX0_isFree_5 (by decide) (fun c => absurd c (by decide)) (fun _ => ?_)
    refine lv_aload_n hx hb dX0_isFree_8 rfl (lv_at hl 0 rfl) ?_
    refine va_get (D := D) (ci := 0) (v := .ref (a 7)) (C := RX0) (T := TX0) (N := 6) hx hb hts hinX0 hown hK hP 1 rfl rfl 5 (by decide) hf26 (fun _ h9 => h9) rfl dX0_isFree_9 ?_
    refine lv_iload_n hx hb dX0_isFree_12 rfl (lv_at hl 1 rfl) ?_
    refine va_iald hx hb hK hP 7 0 (zwq5 cI a _) rfl (zin hC c_2) dX0_isFree_13 ?_
    refine lv_iconst (v := (-1)) hx hb dX0_isFree_14 (by decide) ?_
    refine lv_icmp_ne (tgt := 22) hx hb dX0_isFree_15 (by decide) (fun c_4 => ?_) (fun c_4 => ?_)
    · refine lv_iconst (v := 0) hx hb dX0_isFree_22 (by decide) ?_
      exact W.zret (v := 0) hx hb hr rfl (fun t ht hW => ⟨⟨0, (), rfl, Or.inr ⟨(fun z => c_4 z.2), rfl⟩, trivial⟩, hS.F ht⟩) hS.2.2 dX0_isFree_23
    · refine lv_iconst (v := 1) hx hb dX0_isFree_18 (by decide) ?_
      refine lv_goto (tgt := 23) hx hb dX0_isFree_19 (by decide) ?_
      exact W.zret (v := 1) hx hb hr rfl (fun t ht hW => ⟨⟨1, (), rfl, Or.inl ⟨⟨c_2, c_4⟩, rfl⟩, trivial⟩, hS.F ht⟩) hS.2.2 dX0_isFree_23
  · refine lv_if_eq (tgt := 22) hx hb dX0_isFree_5 (by decide) (fun _ => ?_) (fun c => absurd (by decide) c)
    refine lv_iconst (v := 0) hx hb dX0_isFree_22 (by decide) ?_
    exact W.zret (v := 0) hx hb hr rfl (fun t ht hW => ⟨⟨0, (), rfl, Or.inr ⟨(fun z => c_2 z.1), rfl⟩, trivial⟩, hS.F ht⟩) hS.2.2 dX0_isFree_23

set_option maxHeartbeats 4000000 in
set_option maxRecDepth 100000 in
theorem c_X0_isWarm (l : Launch) (D : va_G) (cI : ClassId) (a : Nat → Nat) (σ : zS) (x : Int32) {nb ns h : Nat} (hC : zC σ nb ns h) : zMR l yX0_isWarm wsX0_isWarm ({ frames := 1, cells := 0, slots := 0, locals := 21 }) [.ref (a 1), .int x] D [(cI, .int)] (zw_H cI a σ) (zb (f_warm σ x)) := by
  intro sz
  refine Met.ofW (cc := cX0_isWarm) (maxL := 2) (ret := (some .boolean)) (by decide) rfl ?_
  intro p e s m args below meth c s₁ B hml hv
  obtain ⟨rfl, hsz, hP, hK, hD⟩ := hv
  have hx := B.exec
  have hb := B.bytes
  have hr := B.returns
  have hts := atoms_spec (ws := wsX0_isWarm) B.pre
  have hown : s.vm.findClass RX0 = some m.cls := findClass_of_methodNamed B.named
  have hlocks := B.notSynchronized
  have hS : va_S (fun _ => False) s.heap s.heap [] := va_S.rf
  have hP : va_P D vwCl (zw_H cI a σ) s.heap := hP
  have hl := lv_entry ([.ref (a 1), .int x]) (n := 2) (Nat.le_of_ble_eq_true rfl)
  rw [lg_entry_eq]
  generalize (lg_sl ([.ref (a 1), .int x]) ++ List.replicate (2 - (lg_sl ([.ref (a 1), .int x])).length) Slot.unset).toArray = ls at hl ⊢
  have hl : lv_has ls 2 [(0, .ref (a 1)), (1, .int x)] := hl
  have hf17 := hts (.fieldLink RX0 17 "HotBeds$Beds" "warmth" "[I") (by decide +kernel)
  have hinX0 : ∀ w ∈ u_ws RX0 TX0 6, w ∈ wsX0_isWarm := by decide +kernel
  refine lv_aload_n hx hb dX0_isWarm_0 rfl (lv_at hl 0 rfl) ?_
  refine lv_iload_n hx hb dX0_isWarm_1 rfl (lv_at hl 1 rfl) ?_
  refine zk_R (D := D) (va_runV (As := [.int x]) (rest := []) ⟨hx, hb, hml, hown, hts⟩ (c_X0_has l D cI a σ x _) (cwV 1 hts gX0_isWarm_X0_has rfl rfl rfl zdX0_has ⟨Nat.le_of_ble_eq_true rfl, Nat.le_of_ble_eq_true rfl⟩) ⟨zbl _, va_recv hK hP (ci := 0) (q0 := 1) rfl rfl, zpr hK hP hD⟩ rfl rfl hl.1 rfl (lv_room (Nat.le_of_ble_eq_true rfl)) dX0_isWarm_2 ⟨Nat.zero_le _, Nat.zero_le _⟩) hS (fun r_1 H locs hw hkp hS => ?_)
  have hP := hkp _ hP
  rcases hw with ⟨c_2, rfl⟩ | ⟨c_2, rfl⟩
  · refine lv_if_eq (tgt := 22) hx hb dX0_isWarm_5 (by decide) (fun c => absurd c (by decide)) (fun _ => ?_)
    refine lv_aload_n hx hb dX0_isWarm_8 rfl (lv_at hl 0 rfl) ?_
    refine va_get (D := D) (ci := 0) (v := .ref (a 4)) (C := RX0) (T := TX0) (N := 6) hx hb hts hinX0 hown hK hP 1 rfl rfl 2 (by decide) hf17 (fun _ h9 => h9) rfl dX0_isWarm_9 ?_
    refine lv_iload_n hx hb dX0_isWarm_12 rfl (lv_at hl 1 rfl) ?_
    refine va_iald hx hb hK hP 4 0 (zwq2 cI a _) rfl (zin hC c_2) dX0_isWarm_13 ?_
    refine lv_iconst (v := 4) hx hb dX0_isWarm_14 (by decide) ?_
    refine lv_icmp_lt (tgt := 22) hx hb dX0_isWarm_15 (by decide) (fun c_4 => ?_) (fun c_4 => ?_)
    · refine lv_iconst (v := 0) hx hb dX0_isWarm_22 (by decide) ?_
      exact W.zret (v := 0) hx hb hr rfl (fun t ht hW => ⟨⟨0, (), rfl, Or.inr ⟨(fun z => z.2 c_4), rfl⟩, trivial⟩, hS.F ht⟩) hS.2.2 dX0_isWarm_23
    · refine lv_iconst (v := 1) hx hb dX0_isWarm_18 (by decide) ?_
      refine lv_goto (tgt := 23) hx hb dX0_isWarm_19 (by decide) ?_
      exact W.zret (v := 1) hx hb hr rfl (fun t ht hW => ⟨⟨1, (), rfl, Or.inl ⟨⟨c_2, c_4⟩, rfl⟩, trivial⟩, hS.F ht⟩) hS.2.2 dX0_isWarm_23
  · refine lv_if_eq (tgt := 22) hx hb dX0_isWarm_5 (by decide) (fun _ => ?_) (fun c => absurd (by decide) c)
    refine lv_iconst (v := 0) hx hb dX0_isWarm_22 (by decide) ?_
    exact W.zret (v := 0) hx hb hr rfl (fun t ht hW => ⟨⟨0, (), rfl, Or.inr ⟨(fun z => c_2 z.1), rfl⟩, trivial⟩, hS.F ht⟩) hS.2.2 dX0_isWarm_23

theorem zfree_k {σ : zS} {nb ns h k : Nat} (hC : zC σ nb ns h) (hk : k < nb) : f_free σ (nI k) ↔ σ 5 k = -1 := by
  have hnb := hC.2.1
  constructor
  · intro z
    have h2 := z.2
    rw [nI_clamp (by omega)] at h2
    exact h2
  · intro z
    refine ⟨⟨nI_pos (by omega), ?_⟩, ?_⟩
    · rw [hC.1]
      exact nI_ge hk (by omega)
    · rw [nI_clamp (by omega)]
      exact z
theorem zch (σ : zS) : ∀ k : Nat, f_ch σ k = -1 ∨ ∃ j, j < k ∧ f_ch σ k = nI j
  | 0 => Or.inl rfl
  | k + 1 => by
    by_cases hc : σ 5 k = -1 ∧ (f_ch σ k = -1 ∨ ¬ σ 1 (f_ch σ k).toNatClampNeg ≤ σ 1 k)
    · exact Or.inr ⟨k, Nat.lt_succ_self k, if_pos hc⟩
    · have e : f_ch σ (k + 1) = f_ch σ k := if_neg hc
      rcases zch σ k with h | ⟨j, hj, h⟩
      · exact Or.inl (e.trans h)
      · exact Or.inr ⟨j, Nat.lt_succ_of_lt hj, e.trans h⟩
theorem zch_in {σ : zS} {k : Nat} (hk : k ≤ 6) (h : ¬ f_ch σ k = -1) : vp_in (f_ch σ k) 6 := by
  rcases zch σ k with z | ⟨j, hj, z⟩
  · exact absurd z h
  · rw [z]
    exact vp_in_nI (by omega) (by decide)
theorem f_cool_0 (σ : zS) : ∀ k : Nat, f_cool σ k 0 = σ 0
  | 0 => rfl
  | k + 1 => (zs_row (f_cool σ k) (r := 2) (r' := 0) (by decide) k _).trans (f_cool_0 σ k)
theorem f_cool_6 (σ : zS) : ∀ k : Nat, f_cool σ k 6 = σ 6
  | 0 => rfl
  | k + 1 => (zs_row (f_cool σ k) (r := 2) (r' := 6) (by decide) k _).trans (f_cool_6 σ k)

set_option maxHeartbeats 4000000 in
set_option maxRecDepth 100000 in
theorem c_X0_cheapestFree (l : Launch) (D : va_G) (cI : ClassId) (a : Nat → Nat) (σ : zS) {nb ns h : Nat} (hC : zC σ nb ns h) : zMR l yX0_cheapestFree wsX0_cheapestFree ({ frames := 2, cells := 0, slots := 0, locals := 42 }) [.ref (a 1)] D [(cI, .int)] (zw_H cI a σ) (fun r => r = f_ch σ nb) := by
  intro sz
  refine Met.ofW (cc := cX0_cheapestFree) (maxL := 3) (ret := (some .int)) (by decide) rfl ?_
  intro p e s m args below meth c s₁ B hml hv
  obtain ⟨rfl, hsz, hP, hK, hD⟩ := hv
  have hx := B.exec
  have hb := B.bytes
  have hr := B.returns
  have hts := atoms_spec (ws := wsX0_cheapestFree) B.pre
  have hown : s.vm.findClass RX0 = some m.cls := findClass_of_methodNamed B.named
  have hlocks := B.notSynchronized
  have hS : va_S (fun _ => False) s.heap s.heap [] := va_S.rf
  have hP : va_P D vwCl (zw_H cI a σ) s.heap := hP
  have hl := lv_entry ([.ref (a 1)]) (n := 3) (Nat.le_of_ble_eq_true rfl)
  rw [lg_entry_eq]
  generalize (lg_sl ([.ref (a 1)]) ++ List.replicate (3 - (lg_sl ([.ref (a 1)])).length) Slot.unset).toArray = ls at hl ⊢
  have hl : lv_has ls 3 [(0, .ref (a 1))] := hl
  have hf13 := hts (.fieldLink RX0 13 "HotBeds$Beds" "price" "[I") (by decide +kernel)
  have hf7 := hts (.fieldLink RX0 7 "HotBeds$Beds" "size" "I") (by decide +kernel)
  have hinX0 : ∀ w ∈ u_ws RX0 TX0 6, w ∈ wsX0_cheapestFree := by decide +kernel
  have hnb := hC.2.1
  refine lv_iconst (v := (-1)) hx hb dX0_cheapestFree_0 (by decide) ?_
  refine lv_istore_n (lv' := [(1, .int (-1)), (0, .ref (a 1))]) hx hb dX0_cheapestFree_1 rfl hl (by decide) rfl (fun ls hl => ?_)
  refine lv_iconst (v := 0) hx hb dX0_cheapestFree_2 (by decide) ?_
  refine lv_istore_n (lv' := [(2, .int 0), (1, .int (-1)), (0, .ref (a 1))]) hx hb dX0_cheapestFree_3 rfl hl (by decide) rfl (fun ls hl => ?_)
  refine zk_loop (pc := 4) (fun k H locs ls => va_P D vwCl (zw_H cI a σ) H ∧ va_S (fun _ => False) s.heap H locs ∧ lv_has ls 3 [(0, .ref (a 1)), (1, .int (f_ch σ k)), (2, .int (nI k))]) nb (fun k hkk ih H locs ls hI => ?_) (fun H locs ls hI => ?_) _ _ _ ⟨hP, hS, lv_sub hl [2, 1, 0] rfl⟩
  · obtain ⟨hP, hS, hl⟩ := hI
    refine lv_iload_n hx hb dX0_cheapestFree_4 rfl (lv_at hl 2 rfl) ?_
    refine lv_aload_n hx hb dX0_cheapestFree_5 rfl (lv_at hl 0 rfl) ?_
    refine va_get (D := D) (ci := 0) (v := .int (nI nb)) (C := RX0) (T := TX0) (N := 6) hx hb hts hinX0 hown hK hP 1 rfl rfl 0 (by decide) hf7 (fun _ h9 => h9) (congrArg (fun z => some (Value.int z)) hC.1) dX0_cheapestFree_6 ?_
    refine lv_icmp_ge (tgt := 48) hx hb dX0_cheapestFree_9 (by decide) (fun c => absurd c (nI_ge hkk (by omega))) (fun _ => ?_)
    refine lv_aload_n hx hb dX0_cheapestFree_12 rfl (lv_at hl 0 rfl) ?_
    refine lv_iload_n hx hb dX0_cheapestFree_13 rfl (lv_at hl 2 rfl) ?_
    refine zk_R (D := D) (va_runV (As := [.int (nI k)]) (rest := []) ⟨hx, hb, hml, hown, hts⟩ (c_X0_isFree l D cI a σ (nI k) hC _) (cwV 1 hts gX0_cheapestFree_X0_isFree rfl rfl rfl zdX0_isFree ⟨Nat.le_of_ble_eq_true rfl, Nat.le_of_ble_eq_true rfl⟩) ⟨zbl _, va_recv hK hP (ci := 0) (q0 := 1) rfl rfl, zpr hK hP hD⟩ rfl rfl hl.1 rfl (lv_room (Nat.le_of_ble_eq_true rfl)) dX0_cheapestFree_14 ⟨Nat.zero_le _, Nat.zero_le _⟩) hS (fun r_2 H locs hw hkp hS => ?_)
    have hP := hkp _ hP
    rcases hw with ⟨c_3, rfl⟩ | ⟨c_3, rfl⟩
    · refine lv_if_eq (tgt := 42) hx hb dX0_cheapestFree_17 (by decide) (fun c => absurd c (by decide)) (fun _ => ?_)
      refine lv_iload_n hx hb dX0_cheapestFree_20 rfl (lv_at hl 1 rfl) ?_
      refine lv_iconst (v := (-1)) hx hb dX0_cheapestFree_21 (by decide) ?_
      refine lv_icmp_eq (tgt := 40) hx hb dX0_cheapestFree_22 (by decide) (fun c_5 => ?_) (fun c_5 => ?_)
      · refine lv_iload_n hx hb dX0_cheapestFree_40 rfl (lv_at hl 2 rfl) ?_
        refine lv_istore_n (lv' := [(1, .int (nI k)), (0, .ref (a 1)), (2, .int (nI k))]) hx hb dX0_cheapestFree_41 rfl hl (by decide) rfl (fun ls hl => ?_)
        refine lv_iinc (v := nI (k + 1)) (lv' := [(2, .int (nI (k + 1))), (1, .int (nI k)), (0, .ref (a 1))]) hx hb dX0_cheapestFree_42 hl (k := 2) rfl (nI_1 k) (by decide) rfl (fun ls hl => ?_)
        refine lv_goto (tgt := 4) hx hb dX0_cheapestFree_45 (by decide) ?_
        have e1 : f_ch σ (k + 1) = nI k := if_pos ⟨(zfree_k hC hkk).mp c_3, Or.inl c_5⟩
        exact ih _ _ _ ⟨hP, hS, by rw [e1]; exact lv_sub hl [2, 1, 0] rfl⟩
      · refine lv_aload_n hx hb dX0_cheapestFree_25 rfl (lv_at hl 0 rfl) ?_
        refine va_get (D := D) (ci := 0) (v := .ref (a 3)) (C := RX0) (T := TX0) (N := 6) hx hb hts hinX0 hown hK hP 1 rfl rfl 1 (by decide) hf13 (fun _ h9 => h9) rfl dX0_cheapestFree_26 ?_
        refine lv_iload_n hx hb dX0_cheapestFree_29 rfl (lv_at hl 2 rfl) ?_
        refine zk_ld hx hb hK hP 3 0 (zwq1 cI a _) rfl (k := k) (by omega) (by decide) (v := σ 1 k) rfl dX0_cheapestFree_30 ?_
        refine lv_aload_n hx hb dX0_cheapestFree_31 rfl (lv_at hl 0 rfl) ?_
        refine va_get (D := D) (ci := 0) (v := .ref (a 3)) (C := RX0) (T := TX0) (N := 6) hx hb hts hinX0 hown hK hP 1 rfl rfl 1 (by decide) hf13 (fun _ h9 => h9) rfl dX0_cheapestFree_32 ?_
        refine lv_iload_n hx hb dX0_cheapestFree_35 rfl (lv_at hl 1 rfl) ?_
        refine va_iald hx hb hK hP 3 0 (zwq1 cI a _) rfl (zch_in (by omega) c_5) dX0_cheapestFree_36 ?_
        refine lv_icmp_ge (tgt := 42) hx hb dX0_cheapestFree_37 (by decide) (fun c_6 => ?_) (fun c_6 => ?_)
        · refine lv_iinc (v := nI (k + 1)) (lv' := [(2, .int (nI (k + 1))), (0, .ref (a 1)), (1, .int (f_ch σ k))]) hx hb dX0_cheapestFree_42 hl (k := 2) rfl (nI_1 k) (by decide) rfl (fun ls hl => ?_)
          refine lv_goto (tgt := 4) hx hb dX0_cheapestFree_45 (by decide) ?_
          have e1 : f_ch σ (k + 1) = f_ch σ k := if_neg (fun z => z.2.elim c_5 (fun y => y c_6))
          exact ih _ _ _ ⟨hP, hS, by rw [e1]; exact lv_sub hl [1, 2, 0] rfl⟩
        · refine lv_iload_n hx hb dX0_cheapestFree_40 rfl (lv_at hl 2 rfl) ?_
          refine lv_istore_n (lv' := [(1, .int (nI k)), (0, .ref (a 1)), (2, .int (nI k))]) hx hb dX0_cheapestFree_41 rfl hl (by decide) rfl (fun ls hl => ?_)
          refine lv_iinc (v := nI (k + 1)) (lv' := [(2, .int (nI (k + 1))), (1, .int (nI k)), (0, .ref (a 1))]) hx hb dX0_cheapestFree_42 hl (k := 2) rfl (nI_1 k) (by decide) rfl (fun ls hl => ?_)
          refine lv_goto (tgt := 4) hx hb dX0_cheapestFree_45 (by decide) ?_
          have e1 : f_ch σ (k + 1) = nI k := if_pos ⟨(zfree_k hC hkk).mp c_3, Or.inr c_6⟩
          exact ih _ _ _ ⟨hP, hS, by rw [e1]; exact lv_sub hl [2, 1, 0] rfl⟩
    · refine lv_if_eq (tgt := 42) hx hb dX0_cheapestFree_17 (by decide) (fun _ => ?_) (fun c => absurd (by decide) c)
      refine lv_iinc (v := nI (k + 1)) (lv' := [(2, .int (nI (k + 1))), (0, .ref (a 1)), (1, .int (f_ch σ k))]) hx hb dX0_cheapestFree_42 hl (k := 2) rfl (nI_1 k) (by decide) rfl (fun ls hl => ?_)
      refine lv_goto (tgt := 4) hx hb dX0_cheapestFree_45 (by decide) ?_
      have e1 : f_ch σ (k + 1) = f_ch σ k := if_neg (fun z => c_3 ((zfree_k hC hkk).mpr z.1))
      exact ih _ _ _ ⟨hP, hS, by rw [e1]; exact lv_sub hl [1, 2, 0] rfl⟩
  · obtain ⟨hP, hS, hl⟩ := hI
    refine lv_iload_n hx hb dX0_cheapestFree_4 rfl (lv_at hl 2 rfl) ?_
    refine lv_aload_n hx hb dX0_cheapestFree_5 rfl (lv_at hl 0 rfl) ?_
    refine va_get (D := D) (ci := 0) (v := .int (nI nb)) (C := RX0) (T := TX0) (N := 6) hx hb hts hinX0 hown hK hP 1 rfl rfl 0 (by decide) hf7 (fun _ h9 => h9) (congrArg (fun z => some (Value.int z)) hC.1) dX0_cheapestFree_6 ?_
    refine lv_icmp_ge (tgt := 48) hx hb dX0_cheapestFree_9 (by decide) (fun _ => ?_) (fun c => absurd (Int32.le_refl _) c)
    refine lv_iload_n hx hb dX0_cheapestFree_48 rfl (lv_at hl 1 rfl) ?_
    exact W.iret (v := f_ch σ nb) hx hb hr (fun t ht hW => ⟨⟨f_ch σ nb, (), rfl, rfl, trivial⟩, hS.F ht⟩) hS.2.2 dX0_cheapestFree_49

set_option maxHeartbeats 4000000 in
set_option maxRecDepth 100000 in
theorem c_X0_changeWarmth (l : Launch) (D : va_G) (cI : ClassId) (a : Nat → Nat) (σ : zS) {nb ns h : Nat} (hC : zC σ nb ns h) : zMV l yX0_changeWarmth wsX0_changeWarmth ({ frames := 1, cells := 0, slots := 0, locals := 15 }) [.ref (a 1)] D [(cI, .int)] (zw_H cI a σ) (zw_H cI a (f_cool σ nb)) := by
  intro sz
  refine Met.ofW (cc := cX0_changeWarmth) (maxL := 2) (ret := none) (by decide) rfl ?_
  intro p e s m args below meth c s₁ B hml hv
  obtain ⟨rfl, hsz, hP, hK, hD⟩ := hv
  have hx := B.exec
  have hb := B.bytes
  have hr := B.returns
  have hts := atoms_spec (ws := wsX0_changeWarmth) B.pre
  have hown : s.vm.findClass RX0 = some m.cls := findClass_of_methodNamed B.named
  have hlocks := B.notSynchronized
  subst hsz
  have hD := hD.self (sz := s.heap.size)
  generalize hAe : va_A (zw_H cI a σ) s.heap.size = A at hD ⊢
  have hA : ∀ q : Nat, s.heap.size ≤ q → A q := fun q h => by rw [← hAe]; exact Or.inr h
  have hS : va_S A s.heap s.heap [] := va_S.rf
  have hP : va_P D vwCl (zw_H cI a σ) s.heap := hP
  have hl := lv_entry ([.ref (a 1)]) (n := 2) (Nat.le_of_ble_eq_true rfl)
  rw [lg_entry_eq]
  generalize (lg_sl ([.ref (a 1)]) ++ List.replicate (2 - (lg_sl ([.ref (a 1)])).length) Slot.unset).toArray = ls at hl ⊢
  have hl : lv_has ls 2 [(0, .ref (a 1))] := hl
  have hf17 := hts (.fieldLink RX0 17 "HotBeds$Beds" "warmth" "[I") (by decide +kernel)
  have hf26 := hts (.fieldLink RX0 26 "HotBeds$Beds" "sleeper" "[I") (by decide +kernel)
  have hf7 := hts (.fieldLink RX0 7 "HotBeds$Beds" "size" "I") (by decide +kernel)
  have hinX0 : ∀ w ∈ u_ws RX0 TX0 6, w ∈ wsX0_changeWarmth := by decide +kernel
  have hcomax := hts (.code Lib.Math.max.name Lib.Math.max.code 2 (some .int)) (by decide +kernel)
  have hcomin := hts (.code Lib.Math.min.name Lib.Math.min.code 2 (some .int)) (by decide +kernel)
  have hinM := hts (.initialized "java/lang/Math") (by decide +kernel)
  have hml49 := hts (.methodLink RX0 49 Lib.Math.max.name) (by decide +kernel)
  have hml55 := hts (.methodLink RX0 55 Lib.Math.min.name) (by decide +kernel)
  have hstmax := hts (.static Lib.Math.max.name) (by decide +kernel)
  have hstmin := hts (.static Lib.Math.min.name) (by decide +kernel)
  have hnb := hC.2.1
  refine lv_iconst (v := 0) hx hb dX0_changeWarmth_0 (by decide) ?_
  refine lv_istore_n (lv' := [(1, .int 0), (0, .ref (a 1))]) hx hb dX0_changeWarmth_1 rfl hl (by decide) rfl (fun ls hl => ?_)
  refine zk_loop (pc := 2) (fun k H locs ls => va_P D vwCl (zw_H cI a (f_cool σ k)) H ∧ va_D A (zw_H cI a (f_cool σ k)) ∧ va_S A s.heap H locs ∧ lv_has ls 2 [(0, .ref (a 1)), (1, .int (nI k))]) nb (fun k hkk ih H locs ls hI => ?_) (fun H locs ls hI => ?_) _ _ _ ⟨hP, hD, hS, lv_sub hl [1, 0] rfl⟩
  · obtain ⟨hP, hD, hS, hl⟩ := hI
    refine lv_iload_n hx hb dX0_changeWarmth_2 rfl (lv_at hl 1 rfl) ?_
    refine lv_aload_n hx hb dX0_changeWarmth_3 rfl (lv_at hl 0 rfl) ?_
    refine va_get (D := D) (ci := 0) (v := .int (nI nb)) (C := RX0) (T := TX0) (N := 6) hx hb hts hinX0 hown hK hP 1 rfl rfl 0 (by decide) hf7 (fun _ h9 => h9) (congrArg (fun z => some (Value.int z)) ((congrFun (f_cool_0 σ k) 3).trans hC.1)) dX0_changeWarmth_4 ?_
    refine lv_icmp_ge (tgt := 66) hx hb dX0_changeWarmth_7 (by decide) (fun c => absurd c (nI_ge hkk (by omega))) (fun _ => ?_)
    refine lv_aload_n hx hb dX0_changeWarmth_10 rfl (lv_at hl 0 rfl) ?_
    refine va_get (D := D) (ci := 0) (v := .ref (a 7)) (C := RX0) (T := TX0) (N := 6) hx hb hts hinX0 hown hK hP 1 rfl rfl 5 (by decide) hf26 (fun _ h9 => h9) rfl dX0_changeWarmth_11 ?_
    refine lv_iload_n hx hb dX0_changeWarmth_14 rfl (lv_at hl 1 rfl) ?_
    refine zk_ld hx hb hK hP 7 0 (zwq5 cI a _) rfl (k := k) (by omega) (by decide) (v := (f_cool σ k) 5 k) rfl dX0_changeWarmth_15 ?_
    refine lv_iconst (v := (-1)) hx hb dX0_changeWarmth_16 (by decide) ?_
    refine lv_icmp_ne (tgt := 41) hx hb dX0_changeWarmth_17 (by decide) (fun c_2 => ?_) (fun c_2 => ?_)
    · refine lv_aload_n hx hb dX0_changeWarmth_41 rfl (lv_at hl 0 rfl) ?_
      refine va_get (D := D) (ci := 0) (v := .ref (a 4)) (C := RX0) (T := TX0) (N := 6) hx hb hts hinX0 hown hK hP 1 rfl rfl 2 (by decide) hf17 (fun _ h9 => h9) rfl dX0_changeWarmth_42 ?_
      refine lv_iload_n hx hb dX0_changeWarmth_45 rfl (lv_at hl 1 rfl) ?_
      refine lv_bipush (v := 8) hx hb dX0_changeWarmth_46 (by decide) ?_
      refine lv_aload_n hx hb dX0_changeWarmth_48 rfl (lv_at hl 0 rfl) ?_
      refine va_get (D := D) (ci := 0) (v := .ref (a 4)) (C := RX0) (T := TX0) (N := 6) hx hb hts hinX0 hown hK hP 1 rfl rfl 2 (by decide) hf17 (fun _ h9 => h9) rfl dX0_changeWarmth_49 ?_
      refine lv_iload_n hx hb dX0_changeWarmth_52 rfl (lv_at hl 1 rfl) ?_
      refine zk_ld hx hb hK hP 4 0 (zwq2 cI a _) rfl (k := k) (by omega) (by decide) (v := (f_cool σ k) 2 k) rfl dX0_changeWarmth_53 ?_
      refine lv_iconst (v := 2) hx hb dX0_changeWarmth_54 (by decide) ?_
      refine lv_iadd hx hb dX0_changeWarmth_55 ?_
      refine va_mmin hx hb (hml.trans hl.1.symm) hown hml55 hstmin hinM hcomin (Nat.le_of_ble_eq_true rfl) (Nat.le_of_ble_eq_true rfl) (Nat.zero_le _) (Nat.zero_le _) dX0_changeWarmth_56 ?_
      refine zk_st hx hb hK hP hD hS 4 0 (zwq2 cI a _) rfl (k := k) (by omega) (by decide) (zws2 cI a _ _ _) dX0_changeWarmth_59 (fun H locs hP hD hS => ?_)
      have hP : va_P D vwCl (zw_H cI a (zs (f_cool σ k) 2 k (f_min8 (((f_cool σ k) 2 k) + 2)))) H := hP
      have hD : va_D A (zw_H cI a (zs (f_cool σ k) 2 k (f_min8 (((f_cool σ k) 2 k) + 2)))) := hD
      refine lv_iinc (v := nI (k + 1)) (lv' := [(1, .int (nI (k + 1))), (0, .ref (a 1))]) hx hb dX0_changeWarmth_60 hl (k := 1) rfl (nI_1 k) (by decide) rfl (fun ls hl => ?_)
      refine lv_goto (tgt := 2) hx hb dX0_changeWarmth_63 (by decide) ?_
      have e1 : f_cool σ (k + 1) = zs (f_cool σ k) 2 k (f_min8 (((f_cool σ k) 2 k) + 2)) := by rw [f_cool, f_cw, if_neg c_2]
      exact ih _ _ _ ⟨by rw [e1]; exact hP, by rw [e1]; exact hD, hS, lv_sub hl [1, 0] rfl⟩
    · refine lv_aload_n hx hb dX0_changeWarmth_20 rfl (lv_at hl 0 rfl) ?_
      refine va_get (D := D) (ci := 0) (v := .ref (a 4)) (C := RX0) (T := TX0) (N := 6) hx hb hts hinX0 hown hK hP 1 rfl rfl 2 (by decide) hf17 (fun _ h9 => h9) rfl dX0_changeWarmth_21 ?_
      refine lv_iload_n hx hb dX0_changeWarmth_24 rfl (lv_at hl 1 rfl) ?_
      refine lv_iconst (v := 0) hx hb dX0_changeWarmth_25 (by decide) ?_
      refine lv_aload_n hx hb dX0_changeWarmth_26 rfl (lv_at hl 0 rfl) ?_
      refine va_get (D := D) (ci := 0) (v := .ref (a 4)) (C := RX0) (T := TX0) (N := 6) hx hb hts hinX0 hown hK hP 1 rfl rfl 2 (by decide) hf17 (fun _ h9 => h9) rfl dX0_changeWarmth_27 ?_
      refine lv_iload_n hx hb dX0_changeWarmth_30 rfl (lv_at hl 1 rfl) ?_
      refine zk_ld hx hb hK hP 4 0 (zwq2 cI a _) rfl (k := k) (by omega) (by decide) (v := (f_cool σ k) 2 k) rfl dX0_changeWarmth_31 ?_
      refine lv_iconst (v := 1) hx hb dX0_changeWarmth_32 (by decide) ?_
      refine lv_isub hx hb dX0_changeWarmth_33 ?_
      refine va_mmax hx hb (hml.trans hl.1.symm) hown hml49 hstmax hinM hcomax (Nat.le_of_ble_eq_true rfl) (Nat.le_of_ble_eq_true rfl) (Nat.zero_le _) (Nat.zero_le _) dX0_changeWarmth_34 ?_
      refine zk_st hx hb hK hP hD hS 4 0 (zwq2 cI a _) rfl (k := k) (by omega) (by decide) (zws2 cI a _ _ _) dX0_changeWarmth_37 (fun H locs hP hD hS => ?_)
      have hP : va_P D vwCl (zw_H cI a (zs (f_cool σ k) 2 k (f_max0 (((f_cool σ k) 2 k) - 1)))) H := hP
      have hD : va_D A (zw_H cI a (zs (f_cool σ k) 2 k (f_max0 (((f_cool σ k) 2 k) - 1)))) := hD
      refine lv_goto (tgt := 60) hx hb dX0_changeWarmth_38 (by decide) ?_
      refine lv_iinc (v := nI (k + 1)) (lv' := [(1, .int (nI (k + 1))), (0, .ref (a 1))]) hx hb dX0_changeWarmth_60 hl (k := 1) rfl (nI_1 k) (by decide) rfl (fun ls hl => ?_)
      refine lv_goto (tgt := 2) hx hb dX0_changeWarmth_63 (by decide) ?_
      have e1 : f_cool σ (k + 1) = zs (f_cool σ k) 2 k (f_max0 (((f_cool σ k) 2 k) - 1)) := by rw [f_cool, f_cw, if_pos c_2]
      exact ih _ _ _ ⟨by rw [e1]; exact hP, by rw [e1]; exact hD, hS, lv_sub hl [1, 0] rfl⟩
  · obtain ⟨hP, hD, hS, hl⟩ := hI
    refine lv_iload_n hx hb dX0_changeWarmth_2 rfl (lv_at hl 1 rfl) ?_
    refine lv_aload_n hx hb dX0_changeWarmth_3 rfl (lv_at hl 0 rfl) ?_
    refine va_get (D := D) (ci := 0) (v := .int (nI nb)) (C := RX0) (T := TX0) (N := 6) hx hb hts hinX0 hown hK hP 1 rfl rfl 0 (by decide) hf7 (fun _ h9 => h9) (congrArg (fun z => some (Value.int z)) ((congrFun (f_cool_0 σ nb) 3).trans hC.1)) dX0_changeWarmth_4 ?_
    refine lv_icmp_ge (tgt := 66) hx hb dX0_changeWarmth_7 (by decide) (fun _ => ?_) (fun c => absurd (Int32.le_refl _) c)
    have hP9 := hP
    have hD9 := hD
    exact W.vret hx hb hr (fun t ht hW => ⟨⟨(), rfl, trivial, by rw [ht]; exact hP9, va_K.moved hW.alike hK, hD9⟩, hS.F ht⟩) hS.2.2 dX0_changeWarmth_66
end
section
set_option maxHeartbeats 4000000 in
set_option maxRecDepth 100000 in
theorem c_X2_isUp (l : Launch) (D : va_G) (cI : ClassId) (a : Nat → Nat) (σ : zS) {k : Nat} (hk : k < 10) : zMR l yX2_isUp wsX2_isUp ({ frames := 0, cells := 0, slots := 0, locals := 0 }) [.ref (a 2), .int (nI k)] D [(cI, .int)] (zw_H cI a σ) (zb (σ 12 k = 0)) := by
  intro sz
  refine Met.ofW (cc := cX2_isUp) (maxL := 2) (ret := (some .boolean)) (by decide) rfl ?_
  intro p e s m args below meth c s₁ B hml hv
  obtain ⟨rfl, hsz, hP, hK, hD⟩ := hv
  have hx := B.exec
  have hb := B.bytes
  have hr := B.returns
  have hts := atoms_spec (ws := wsX2_isUp) B.pre
  have hown : s.vm.findClass RX2 = some m.cls := findClass_of_methodNamed B.named
  have hlocks := B.notSynchronized
  have hS : va_S (fun _ => False) s.heap s.heap [] := va_S.rf
  have hP : va_P D vwCl (zw_H cI a σ) s.heap := hP
  have hl := lv_entry ([.ref (a 2), .int (nI k)]) (n := 2) (Nat.le_of_ble_eq_true rfl)
  rw [lg_entry_eq]
  generalize (lg_sl ([.ref (a 2), .int (nI k)]) ++ List.replicate (2 - (lg_sl ([.ref (a 2), .int (nI k)])).length) Slot.unset).toArray = ls at hl ⊢
  have hl : lv_has ls 2 [(0, .ref (a 2)), (1, .int (nI k))] := hl
  have hf32 := hts (.fieldLink RX2 32 "HotBeds$Sailors" "place" "[I") (by decide +kernel)
  have hinX2 : ∀ w ∈ u_ws RX2 TX2 13, w ∈ wsX2_isUp := by decide +kernel
  refine lv_aload_n hx hb dX2_isUp_0 rfl (lv_at hl 0 rfl) ?_
  refine va_get (D := D) (ci := 2) (v := .ref (a 14)) (C := RX2) (T := TX2) (N := 13) hx hb hts hinX2 hown hK hP 2 rfl rfl 7 (by decide) hf32 (fun _ h9 => h9) rfl dX2_isUp_1 ?_
  refine lv_iload_n hx hb dX2_isUp_4 rfl (lv_at hl 1 rfl) ?_
  refine zk_ld hx hb hK hP 14 0 (zwq12 cI a _) rfl (k := k) hk (by decide) (v := σ 12 k) rfl dX2_isUp_5 ?_
  refine lv_if_ne (tgt := 13) hx hb dX2_isUp_6 (by decide) (fun c_1 => ?_) (fun c_1 => ?_)
  · refine lv_iconst (v := 0) hx hb dX2_isUp_13 (by decide) ?_
    exact W.zret (v := 0) hx hb hr rfl (fun t ht hW => ⟨⟨0, (), rfl, Or.inr ⟨(fun z => c_1 z), rfl⟩, trivial⟩, hS.F ht⟩) hS.2.2 dX2_isUp_14
  · refine lv_iconst (v := 1) hx hb dX2_isUp_9 (by decide) ?_
    refine lv_goto (tgt := 14) hx hb dX2_isUp_10 (by decide) ?_
    exact W.zret (v := 1) hx hb hr rfl (fun t ht hW => ⟨⟨1, (), rfl, Or.inl ⟨c_1, rfl⟩, trivial⟩, hS.F ht⟩) hS.2.2 dX2_isUp_14

set_option maxHeartbeats 4000000 in
set_option maxRecDepth 100000 in
theorem c_X2_hasBoots (l : Launch) (D : va_G) (cI : ClassId) (a : Nat → Nat) (σ : zS) {k : Nat} (hk : k < 10) : zMR l yX2_hasBoots wsX2_hasBoots ({ frames := 0, cells := 0, slots := 0, locals := 0 }) [.ref (a 2), .int (nI k)] D [(cI, .int)] (zw_H cI a σ) (zb (σ 10 k = 1)) := by
  intro sz
  refine Met.ofW (cc := cX2_hasBoots) (maxL := 2) (ret := (some .boolean)) (by decide) rfl ?_
  intro p e s m args below meth c s₁ B hml hv
  obtain ⟨rfl, hsz, hP, hK, hD⟩ := hv
  have hx := B.exec
  have hb := B.bytes
  have hr := B.returns
  have hts := atoms_spec (ws := wsX2_hasBoots) B.pre
  have hown : s.vm.findClass RX2 = some m.cls := findClass_of_methodNamed B.named
  have hlocks := B.notSynchronized
  have hS : va_S (fun _ => False) s.heap s.heap [] := va_S.rf
  have hP : va_P D vwCl (zw_H cI a σ) s.heap := hP
  have hl := lv_entry ([.ref (a 2), .int (nI k)]) (n := 2) (Nat.le_of_ble_eq_true rfl)
  rw [lg_entry_eq]
  generalize (lg_sl ([.ref (a 2), .int (nI k)]) ++ List.replicate (2 - (lg_sl ([.ref (a 2), .int (nI k)])).length) Slot.unset).toArray = ls at hl ⊢
  have hl : lv_has ls 2 [(0, .ref (a 2)), (1, .int (nI k))] := hl
  have hf26 := hts (.fieldLink RX2 26 "HotBeds$Sailors" "boots" "[I") (by decide +kernel)
  have hinX2 : ∀ w ∈ u_ws RX2 TX2 13, w ∈ wsX2_hasBoots := by decide +kernel
  refine lv_aload_n hx hb dX2_hasBoots_0 rfl (lv_at hl 0 rfl) ?_
  refine va_get (D := D) (ci := 2) (v := .ref (a 12)) (C := RX2) (T := TX2) (N := 13) hx hb hts hinX2 hown hK hP 2 rfl rfl 5 (by decide) hf26 (fun _ h9 => h9) rfl dX2_hasBoots_1 ?_
  refine lv_iload_n hx hb dX2_hasBoots_4 rfl (lv_at hl 1 rfl) ?_
  refine zk_ld hx hb hK hP 12 0 (zwq10 cI a _) rfl (k := k) hk (by decide) (v := σ 10 k) rfl dX2_hasBoots_5 ?_
  refine lv_iconst (v := 1) hx hb dX2_hasBoots_6 (by decide) ?_
  refine lv_icmp_ne (tgt := 14) hx hb dX2_hasBoots_7 (by decide) (fun c_1 => ?_) (fun c_1 => ?_)
  · refine lv_iconst (v := 0) hx hb dX2_hasBoots_14 (by decide) ?_
    exact W.zret (v := 0) hx hb hr rfl (fun t ht hW => ⟨⟨0, (), rfl, Or.inr ⟨(fun z => c_1 z), rfl⟩, trivial⟩, hS.F ht⟩) hS.2.2 dX2_hasBoots_15
  · refine lv_iconst (v := 1) hx hb dX2_hasBoots_10 (by decide) ?_
    refine lv_goto (tgt := 15) hx hb dX2_hasBoots_11 (by decide) ?_
    exact W.zret (v := 1) hx hb hr rfl (fun t ht hW => ⟨⟨1, (), rfl, Or.inl ⟨c_1, rfl⟩, trivial⟩, hS.F ht⟩) hS.2.2 dX2_hasBoots_15

set_option maxHeartbeats 4000000 in
set_option maxRecDepth 100000 in
theorem c_X2_earn (l : Launch) (D : va_G) (cI : ClassId) (a : Nat → Nat) (σ : zS) {k : Nat} (hk : k < 10) (v : Int32) : zMV l yX2_earn wsX2_earn ({ frames := 1, cells := 0, slots := 0, locals := 15 }) [.ref (a 2), .int (nI k), .int v] D [(cI, .int)] (zw_H cI a σ) (zw_H cI a (f_earn σ k v)) := by
  intro sz
  refine Met.ofW (cc := cX2_earn) (maxL := 3) (ret := none) (by decide) rfl ?_
  intro p e s m args below meth c s₁ B hml hv
  obtain ⟨rfl, hsz, hP, hK, hD⟩ := hv
  have hx := B.exec
  have hb := B.bytes
  have hr := B.returns
  have hts := atoms_spec (ws := wsX2_earn) B.pre
  have hown : s.vm.findClass RX2 = some m.cls := findClass_of_methodNamed B.named
  have hlocks := B.notSynchronized
  subst hsz
  have hD := hD.self (sz := s.heap.size)
  generalize hAe : va_A (zw_H cI a σ) s.heap.size = A at hD ⊢
  have hA : ∀ q : Nat, s.heap.size ≤ q → A q := fun q h => by rw [← hAe]; exact Or.inr h
  have hS : va_S A s.heap s.heap [] := va_S.rf
  have hP : va_P D vwCl (zw_H cI a σ) s.heap := hP
  have hl := lv_entry ([.ref (a 2), .int (nI k), .int v]) (n := 3) (Nat.le_of_ble_eq_true rfl)
  rw [lg_entry_eq]
  generalize (lg_sl ([.ref (a 2), .int (nI k), .int v]) ++ List.replicate (3 - (lg_sl ([.ref (a 2), .int (nI k), .int v])).length) Slot.unset).toArray = ls at hl ⊢
  have hl : lv_has ls 3 [(0, .ref (a 2)), (1, .int (nI k)), (2, .int v)] := hl
  have hf23 := hts (.fieldLink RX2 23 "HotBeds$Sailors" "purse" "[I") (by decide +kernel)
  have hinX2 : ∀ w ∈ u_ws RX2 TX2 13, w ∈ wsX2_earn := by decide +kernel
  have hcomin := hts (.code Lib.Math.min.name Lib.Math.min.code 2 (some .int)) (by decide +kernel)
  have hinM := hts (.initialized "java/lang/Math") (by decide +kernel)
  have hml65 := hts (.methodLink RX2 65 Lib.Math.min.name) (by decide +kernel)
  have hstmin := hts (.static Lib.Math.min.name) (by decide +kernel)
  refine lv_aload_n hx hb dX2_earn_0 rfl (lv_at hl 0 rfl) ?_
  refine va_get (D := D) (ci := 2) (v := .ref (a 11)) (C := RX2) (T := TX2) (N := 13) hx hb hts hinX2 hown hK hP 2 rfl rfl 4 (by decide) hf23 (fun _ h9 => h9) rfl dX2_earn_1 ?_
  refine lv_iload_n hx hb dX2_earn_4 rfl (lv_at hl 1 rfl) ?_
  refine lv_bipush (v := 99) hx hb dX2_earn_5 (by decide) ?_
  refine lv_aload_n hx hb dX2_earn_7 rfl (lv_at hl 0 rfl) ?_
  refine va_get (D := D) (ci := 2) (v := .ref (a 11)) (C := RX2) (T := TX2) (N := 13) hx hb hts hinX2 hown hK hP 2 rfl rfl 4 (by decide) hf23 (fun _ h9 => h9) rfl dX2_earn_8 ?_
  refine lv_iload_n hx hb dX2_earn_11 rfl (lv_at hl 1 rfl) ?_
  refine zk_ld hx hb hK hP 11 0 (zwq9 cI a _) rfl (k := k) hk (by decide) (v := σ 9 k) rfl dX2_earn_12 ?_
  refine lv_iload_n hx hb dX2_earn_13 rfl (lv_at hl 2 rfl) ?_
  refine lv_iadd hx hb dX2_earn_14 ?_
  refine va_mmin hx hb (hml.trans hl.1.symm) hown hml65 hstmin hinM hcomin (Nat.le_of_ble_eq_true rfl) (Nat.le_of_ble_eq_true rfl) (Nat.zero_le _) (Nat.zero_le _) dX2_earn_15 ?_
  refine zk_st hx hb hK hP hD hS 11 0 (zwq9 cI a _) rfl (k := k) hk (by decide) (zws9 cI a _ _ _) dX2_earn_18 (fun H locs hP hD hS => ?_)
  have hP : va_P D vwCl (zw_H cI a (zs σ 9 k (f_min99 ((σ 9 k) + v)))) H := hP
  have hD : va_D A (zw_H cI a (zs σ 9 k (f_min99 ((σ 9 k) + v)))) := hD
  have e9 : f_earn σ k v = zs σ 9 k (f_min99 ((σ 9 k) + v)) := by simp only [f_earn]
  have hP9 : va_P D vwCl (zw_H cI a (f_earn σ k v)) H := by rw [e9]; exact hP
  have hD9 : va_D A (zw_H cI a (f_earn σ k v)) := by rw [e9]; exact hD
  exact W.vret hx hb hr (fun t ht hW => ⟨⟨(), rfl, trivial, by rw [ht]; exact hP9, va_K.moved hW.alike hK, hD9⟩, hS.F ht⟩) hS.2.2 dX2_earn_19

set_option maxHeartbeats 4000000 in
set_option maxRecDepth 100000 in
theorem c_X2_beLate (l : Launch) (D : va_G) (cI : ClassId) (a : Nat → Nat) (σ : zS) {k : Nat} (hk : k < 10) : zMV l yX2_beLate wsX2_beLate ({ frames := 0, cells := 0, slots := 0, locals := 0 }) [.ref (a 2), .int (nI k)] D [(cI, .int)] (zw_H cI a σ) (zw_H cI a (f_late σ k)) := by
  intro sz
  refine Met.ofW (cc := cX2_beLate) (maxL := 2) (ret := none) (by decide) rfl ?_
  intro p e s m args below meth c s₁ B hml hv
  obtain ⟨rfl, hsz, hP, hK, hD⟩ := hv
  have hx := B.exec
  have hb := B.bytes
  have hr := B.returns
  have hts := atoms_spec (ws := wsX2_beLate) B.pre
  have hown : s.vm.findClass RX2 = some m.cls := findClass_of_methodNamed B.named
  have hlocks := B.notSynchronized
  subst hsz
  have hD := hD.self (sz := s.heap.size)
  generalize hAe : va_A (zw_H cI a σ) s.heap.size = A at hD ⊢
  have hA : ∀ q : Nat, s.heap.size ≤ q → A q := fun q h => by rw [← hAe]; exact Or.inr h
  have hS : va_S A s.heap s.heap [] := va_S.rf
  have hP : va_P D vwCl (zw_H cI a σ) s.heap := hP
  have hl := lv_entry ([.ref (a 2), .int (nI k)]) (n := 2) (Nat.le_of_ble_eq_true rfl)
  rw [lg_entry_eq]
  generalize (lg_sl ([.ref (a 2), .int (nI k)]) ++ List.replicate (2 - (lg_sl ([.ref (a 2), .int (nI k)])).length) Slot.unset).toArray = ls at hl ⊢
  have hl : lv_has ls 2 [(0, .ref (a 2)), (1, .int (nI k))] := hl
  have hf41 := hts (.fieldLink RX2 41 "HotBeds$Sailors" "late" "[I") (by decide +kernel)
  have hf44 := hts (.fieldLink RX2 44 "HotBeds$Sailors" "lateSincePay" "[I") (by decide +kernel)
  have hinX2 : ∀ w ∈ u_ws RX2 TX2 13, w ∈ wsX2_beLate := by decide +kernel
  refine lv_aload_n hx hb dX2_beLate_0 rfl (lv_at hl 0 rfl) ?_
  refine va_get (D := D) (ci := 2) (v := .ref (a 17)) (C := RX2) (T := TX2) (N := 13) hx hb hts hinX2 hown hK hP 2 rfl rfl 10 (by decide) hf41 (fun _ h9 => h9) rfl dX2_beLate_1 ?_
  refine lv_iload_n hx hb dX2_beLate_4 rfl (lv_at hl 1 rfl) ?_
  refine lv_dup2_11 hx hb dX2_beLate_5 rfl rfl ?_
  refine zk_ld hx hb hK hP 17 0 (zwq15 cI a _) rfl (k := k) hk (by decide) (v := σ 15 k) rfl dX2_beLate_6 ?_
  refine lv_iconst (v := 1) hx hb dX2_beLate_7 (by decide) ?_
  refine lv_iadd hx hb dX2_beLate_8 ?_
  refine zk_st hx hb hK hP hD hS 17 0 (zwq15 cI a _) rfl (k := k) hk (by decide) (zws15 cI a _ _ _) dX2_beLate_9 (fun H locs hP hD hS => ?_)
  have hP : va_P D vwCl (zw_H cI a (zs σ 15 k ((σ 15 k) + 1))) H := hP
  have hD : va_D A (zw_H cI a (zs σ 15 k ((σ 15 k) + 1))) := hD
  refine lv_aload_n hx hb dX2_beLate_10 rfl (lv_at hl 0 rfl) ?_
  refine va_get (D := D) (ci := 2) (v := .ref (a 18)) (C := RX2) (T := TX2) (N := 13) hx hb hts hinX2 hown hK hP 2 rfl rfl 11 (by decide) hf44 (fun _ h9 => h9) rfl dX2_beLate_11 ?_
  refine lv_iload_n hx hb dX2_beLate_14 rfl (lv_at hl 1 rfl) ?_
  refine lv_dup2_11 hx hb dX2_beLate_15 rfl rfl ?_
  refine zk_ld hx hb hK hP 18 0 (zwq16 cI a _) rfl (k := k) hk (by decide) (v := σ 16 k) rfl dX2_beLate_16 ?_
  refine lv_iconst (v := 1) hx hb dX2_beLate_17 (by decide) ?_
  refine lv_iadd hx hb dX2_beLate_18 ?_
  refine zk_st hx hb hK hP hD hS 18 0 (zwq16 cI a _) rfl (k := k) hk (by decide) (zws16 cI a _ _ _) dX2_beLate_19 (fun H locs hP hD hS => ?_)
  have hP : va_P D vwCl (zw_H cI a (zs (zs σ 15 k ((σ 15 k) + 1)) 16 k ((σ 16 k) + 1))) H := hP
  have hD : va_D A (zw_H cI a (zs (zs σ 15 k ((σ 15 k) + 1)) 16 k ((σ 16 k) + 1))) := hD
  have e9 : f_late σ k = zs (zs σ 15 k ((σ 15 k) + 1)) 16 k ((σ 16 k) + 1) := by simp only [f_late]
  have hP9 : va_P D vwCl (zw_H cI a (f_late σ k)) H := by rw [e9]; exact hP
  have hD9 : va_D A (zw_H cI a (f_late σ k)) := by rw [e9]; exact hD
  exact W.vret hx hb hr (fun t ht hW => ⟨⟨(), rfl, trivial, by rw [ht]; exact hP9, va_K.moved hW.alike hK, hD9⟩, hS.F ht⟩) hS.2.2 dX2_beLate_20

set_option maxHeartbeats 4000000 in
set_option maxRecDepth 100000 in
theorem c_X2_lieOnFloor (l : Launch) (D : va_G) (cI : ClassId) (a : Nat → Nat) (σ : zS) {k : Nat} (hk : k < 10) : zMV l yX2_lieOnFloor wsX2_lieOnFloor ({ frames := 0, cells := 0, slots := 0, locals := 0 }) [.ref (a 2), .int (nI k)] D [(cI, .int)] (zw_H cI a σ) (zw_H cI a (f_floor σ k)) := by
  intro sz
  refine Met.ofW (cc := cX2_lieOnFloor) (maxL := 2) (ret := none) (by decide) rfl ?_
  intro p e s m args below meth c s₁ B hml hv
  obtain ⟨rfl, hsz, hP, hK, hD⟩ := hv
  have hx := B.exec
  have hb := B.bytes
  have hr := B.returns
  have hts := atoms_spec (ws := wsX2_lieOnFloor) B.pre
  have hown : s.vm.findClass RX2 = some m.cls := findClass_of_methodNamed B.named
  have hlocks := B.notSynchronized
  subst hsz
  have hD := hD.self (sz := s.heap.size)
  generalize hAe : va_A (zw_H cI a σ) s.heap.size = A at hD ⊢
  have hA : ∀ q : Nat, s.heap.size ≤ q → A q := fun q h => by rw [← hAe]; exact Or.inr h
  have hS : va_S A s.heap s.heap [] := va_S.rf
  have hP : va_P D vwCl (zw_H cI a σ) s.heap := hP
  have hl := lv_entry ([.ref (a 2), .int (nI k)]) (n := 2) (Nat.le_of_ble_eq_true rfl)
  rw [lg_entry_eq]
  generalize (lg_sl ([.ref (a 2), .int (nI k)]) ++ List.replicate (2 - (lg_sl ([.ref (a 2), .int (nI k)])).length) Slot.unset).toArray = ls at hl ⊢
  have hl : lv_has ls 2 [(0, .ref (a 2)), (1, .int (nI k))] := hl
  have hf32 := hts (.fieldLink RX2 32 "HotBeds$Sailors" "place" "[I") (by decide +kernel)
  have hf47 := hts (.fieldLink RX2 47 "HotBeds$Sailors" "floors" "[I") (by decide +kernel)
  have hinX2 : ∀ w ∈ u_ws RX2 TX2 13, w ∈ wsX2_lieOnFloor := by decide +kernel
  refine lv_aload_n hx hb dX2_lieOnFloor_0 rfl (lv_at hl 0 rfl) ?_
  refine va_get (D := D) (ci := 2) (v := .ref (a 14)) (C := RX2) (T := TX2) (N := 13) hx hb hts hinX2 hown hK hP 2 rfl rfl 7 (by decide) hf32 (fun _ h9 => h9) rfl dX2_lieOnFloor_1 ?_
  refine lv_iload_n hx hb dX2_lieOnFloor_4 rfl (lv_at hl 1 rfl) ?_
  refine lv_iconst (v := 2) hx hb dX2_lieOnFloor_5 (by decide) ?_
  refine zk_st hx hb hK hP hD hS 14 0 (zwq12 cI a _) rfl (k := k) hk (by decide) (zws12 cI a _ _ _) dX2_lieOnFloor_6 (fun H locs hP hD hS => ?_)
  have hP : va_P D vwCl (zw_H cI a (zs σ 12 k 2)) H := hP
  have hD : va_D A (zw_H cI a (zs σ 12 k 2)) := hD
  refine lv_aload_n hx hb dX2_lieOnFloor_7 rfl (lv_at hl 0 rfl) ?_
  refine va_get (D := D) (ci := 2) (v := .ref (a 19)) (C := RX2) (T := TX2) (N := 13) hx hb hts hinX2 hown hK hP 2 rfl rfl 12 (by decide) hf47 (fun _ h9 => h9) rfl dX2_lieOnFloor_8 ?_
  refine lv_iload_n hx hb dX2_lieOnFloor_11 rfl (lv_at hl 1 rfl) ?_
  refine lv_dup2_11 hx hb dX2_lieOnFloor_12 rfl rfl ?_
  refine zk_ld hx hb hK hP 19 0 (zwq17 cI a _) rfl (k := k) hk (by decide) (v := σ 17 k) rfl dX2_lieOnFloor_13 ?_
  refine lv_iconst (v := 1) hx hb dX2_lieOnFloor_14 (by decide) ?_
  refine lv_iadd hx hb dX2_lieOnFloor_15 ?_
  refine zk_st hx hb hK hP hD hS 19 0 (zwq17 cI a _) rfl (k := k) hk (by decide) (zws17 cI a _ _ _) dX2_lieOnFloor_16 (fun H locs hP hD hS => ?_)
  have hP : va_P D vwCl (zw_H cI a (zs (zs σ 12 k 2) 17 k ((σ 17 k) + 1))) H := hP
  have hD : va_D A (zw_H cI a (zs (zs σ 12 k 2) 17 k ((σ 17 k) + 1))) := hD
  have e9 : f_floor σ k = zs (zs σ 12 k 2) 17 k ((σ 17 k) + 1) := by simp only [f_floor]
  have hP9 : va_P D vwCl (zw_H cI a (f_floor σ k)) H := by rw [e9]; exact hP
  have hD9 : va_D A (zw_H cI a (f_floor σ k)) := by rw [e9]; exact hD
  exact W.vret hx hb hr (fun t ht hW => ⟨⟨(), rfl, trivial, by rw [ht]; exact hP9, va_K.moved hW.alike hK, hD9⟩, hS.F ht⟩) hS.2.2 dX2_lieOnFloor_17

set_option maxHeartbeats 4000000 in
set_option maxRecDepth 100000 in
theorem c_X2_payWage (l : Launch) (D : va_G) (cI : ClassId) (a : Nat → Nat) (σ : zS) {k : Nat} (hk : k < 10) : zMV l yX2_payWage wsX2_payWage ({ frames := 2, cells := 0, slots := 0, locals := 37 }) [.ref (a 2), .int (nI k)] D [(cI, .int)] (zw_H cI a σ) (zw_H cI a (f_pay σ k)) := by
  intro sz
  refine Met.ofW (cc := cX2_payWage) (maxL := 3) (ret := none) (by decide) rfl ?_
  intro p e s m args below meth c s₁ B hml hv
  obtain ⟨rfl, hsz, hP, hK, hD⟩ := hv
  have hx := B.exec
  have hb := B.bytes
  have hr := B.returns
  have hts := atoms_spec (ws := wsX2_payWage) B.pre
  have hown : s.vm.findClass RX2 = some m.cls := findClass_of_methodNamed B.named
  have hlocks := B.notSynchronized
  subst hsz
  have hD := hD.self (sz := s.heap.size)
  generalize hAe : va_A (zw_H cI a σ) s.heap.size = A at hD ⊢
  have hA : ∀ q : Nat, s.heap.size ≤ q → A q := fun q h => by rw [← hAe]; exact Or.inr h
  have hS : va_S A s.heap s.heap [] := va_S.rf
  have hP : va_P D vwCl (zw_H cI a σ) s.heap := hP
  have hl := lv_entry ([.ref (a 2), .int (nI k)]) (n := 3) (Nat.le_of_ble_eq_true rfl)
  rw [lg_entry_eq]
  generalize (lg_sl ([.ref (a 2), .int (nI k)]) ++ List.replicate (3 - (lg_sl ([.ref (a 2), .int (nI k)])).length) Slot.unset).toArray = ls at hl ⊢
  have hl : lv_has ls 3 [(0, .ref (a 2)), (1, .int (nI k))] := hl
  have hf20 := hts (.fieldLink RX2 20 "HotBeds$Sailors" "wage" "[I") (by decide +kernel)
  have hf44 := hts (.fieldLink RX2 44 "HotBeds$Sailors" "lateSincePay" "[I") (by decide +kernel)
  have hinX2 : ∀ w ∈ u_ws RX2 TX2 13, w ∈ wsX2_payWage := by decide +kernel
  have hcomax := hts (.code Lib.Math.max.name Lib.Math.max.code 2 (some .int)) (by decide +kernel)
  have hinM := hts (.initialized "java/lang/Math") (by decide +kernel)
  have hml75 := hts (.methodLink RX2 75 Lib.Math.max.name) (by decide +kernel)
  have hstmax := hts (.static Lib.Math.max.name) (by decide +kernel)
  refine lv_aload_n hx hb dX2_payWage_0 rfl (lv_at hl 0 rfl) ?_
  refine lv_iload_n hx hb dX2_payWage_1 rfl (lv_at hl 1 rfl) ?_
  refine zk_R (D := D) (va_runV (As := [.int (nI k)]) (rest := []) ⟨hx, hb, hml, hown, hts⟩ (c_X2_hasBoots l D cI a σ (k := k) hk _) (cwV 1 hts gX2_payWage_X2_hasBoots rfl rfl rfl zdX2_hasBoots ⟨Nat.le_of_ble_eq_true rfl, Nat.le_of_ble_eq_true rfl⟩) ⟨zbl _, va_recv hK hP (ci := 2) (q0 := 2) rfl rfl, zpr hK hP hD⟩ rfl rfl hl.1 rfl (lv_room (Nat.le_of_ble_eq_true rfl)) dX2_payWage_2 ⟨Nat.zero_le _, Nat.zero_le _⟩) hS (fun r_1 H locs hw hkp hS => ?_)
  have hP := hkp _ hP
  rcases hw with ⟨c_2, rfl⟩ | ⟨c_2, rfl⟩
  · refine lv_if_eq (tgt := 17) hx hb dX2_payWage_5 (by decide) (fun c => absurd c (by decide)) (fun _ => ?_)
    refine lv_aload_n hx hb dX2_payWage_8 rfl (lv_at hl 0 rfl) ?_
    refine va_get (D := D) (ci := 2) (v := .ref (a 10)) (C := RX2) (T := TX2) (N := 13) hx hb hts hinX2 hown hK hP 2 rfl rfl 3 (by decide) hf20 (fun _ h9 => h9) rfl dX2_payWage_9 ?_
    refine lv_iload_n hx hb dX2_payWage_12 rfl (lv_at hl 1 rfl) ?_
    refine zk_ld hx hb hK hP 10 0 (zwq8 cI a _) rfl (k := k) hk (by decide) (v := σ 8 k) rfl dX2_payWage_13 ?_
    refine lv_goto (tgt := 25) hx hb dX2_payWage_14 (by decide) ?_
    refine lv_istore_n (lv' := [(2, .int (σ 8 k)), (0, .ref (a 2)), (1, .int (nI k))]) hx hb dX2_payWage_25 rfl hl (by decide) rfl (fun ls hl => ?_)
    refine lv_aload_n hx hb dX2_payWage_26 rfl (lv_at hl 1 rfl) ?_
    refine lv_iload_n hx hb dX2_payWage_27 rfl (lv_at hl 2 rfl) ?_
    refine lv_iconst (v := 0) hx hb dX2_payWage_28 (by decide) ?_
    refine lv_iload_n hx hb dX2_payWage_29 rfl (lv_at hl 0 rfl) ?_
    refine lv_aload_n hx hb dX2_payWage_30 rfl (lv_at hl 1 rfl) ?_
    refine va_get (D := D) (ci := 2) (v := .ref (a 18)) (C := RX2) (T := TX2) (N := 13) hx hb hts hinX2 hown hK hP 2 rfl rfl 11 (by decide) hf44 (fun _ h9 => h9) rfl dX2_payWage_31 ?_
    refine lv_iload_n hx hb dX2_payWage_34 rfl (lv_at hl 2 rfl) ?_
    refine zk_ld hx hb hK hP 18 0 (zwq16 cI a _) rfl (k := k) hk (by decide) (v := σ 16 k) rfl dX2_payWage_35 ?_
    refine lv_isub hx hb dX2_payWage_36 ?_
    refine va_mmax hx hb (hml.trans hl.1.symm) hown hml75 hstmax hinM hcomax (Nat.le_of_ble_eq_true rfl) (Nat.le_of_ble_eq_true rfl) (Nat.zero_le _) (Nat.zero_le _) dX2_payWage_37 ?_
    have hF := zfree hD hS hA
    refine zk_V (va_runV (As := [.int (nI k), .int (f_max0 ((σ 8 k) - (σ 16 k)))]) (rest := []) ⟨hx, hb, hml, hown, hts⟩ (c_X2_earn l D cI a σ (k := k) hk (f_max0 ((σ 8 k) - (σ 16 k))) _) (cwV 2 hts gX2_payWage_X2_earn rfl rfl rfl zdX2_earn ⟨Nat.le_of_ble_eq_true rfl, Nat.le_of_ble_eq_true rfl⟩) ⟨zbl _, va_recv hK hP (ci := 2) (q0 := 2) rfl rfl, zpr hK hP hD⟩ rfl rfl hl.1 rfl (lv_room (Nat.le_of_ble_eq_true rfl)) dX2_payWage_40 ⟨Nat.zero_le _, Nat.zero_le _⟩) hS hF (fun H locs hkp hP1 hD1 hS => ?_)
    have hP := hP1
    have hD := hD1.weaken (fun _ _ _ z => hF _ z)
    have hP : va_P D vwCl (zw_H cI a (f_earn σ k (f_max0 ((σ 8 k) - (σ 16 k))))) H := hP
    have hD : va_D A (zw_H cI a (f_earn σ k (f_max0 ((σ 8 k) - (σ 16 k))))) := hD
    refine lv_aload_n hx hb dX2_payWage_43 rfl (lv_at hl 1 rfl) ?_
    refine va_get (D := D) (ci := 2) (v := .ref (a 18)) (C := RX2) (T := TX2) (N := 13) hx hb hts hinX2 hown hK hP 2 rfl rfl 11 (by decide) hf44 (fun _ h9 => h9) rfl dX2_payWage_44 ?_
    refine lv_iload_n hx hb dX2_payWage_47 rfl (lv_at hl 2 rfl) ?_
    refine lv_iconst (v := 0) hx hb dX2_payWage_48 (by decide) ?_
    refine zk_st hx hb hK hP hD hS 18 0 (zwq16 cI a _) rfl (k := k) hk (by decide) (zws16 cI a _ _ _) dX2_payWage_49 (fun H locs hP hD hS => ?_)
    have hP : va_P D vwCl (zw_H cI a (zs (f_earn σ k (f_max0 ((σ 8 k) - (σ 16 k)))) 16 k 0)) H := hP
    have hD : va_D A (zw_H cI a (zs (f_earn σ k (f_max0 ((σ 8 k) - (σ 16 k)))) 16 k 0)) := hD
    have e9 : f_pay σ k = zs (f_earn σ k (f_max0 ((σ 8 k) - (σ 16 k)))) 16 k 0 := by simp only [f_pay, if_pos c_2]
    have hP9 : va_P D vwCl (zw_H cI a (f_pay σ k)) H := by rw [e9]; exact hP
    have hD9 : va_D A (zw_H cI a (f_pay σ k)) := by rw [e9]; exact hD
    exact W.vret hx hb hr (fun t ht hW => ⟨⟨(), rfl, trivial, by rw [ht]; exact hP9, va_K.moved hW.alike hK, hD9⟩, hS.F ht⟩) hS.2.2 dX2_payWage_50
  · refine lv_if_eq (tgt := 17) hx hb dX2_payWage_5 (by decide) (fun _ => ?_) (fun c => absurd (by decide) c)
    refine lv_aload_n hx hb dX2_payWage_17 rfl (lv_at hl 0 rfl) ?_
    refine va_get (D := D) (ci := 2) (v := .ref (a 10)) (C := RX2) (T := TX2) (N := 13) hx hb hts hinX2 hown hK hP 2 rfl rfl 3 (by decide) hf20 (fun _ h9 => h9) rfl dX2_payWage_18 ?_
    refine lv_iload_n hx hb dX2_payWage_21 rfl (lv_at hl 1 rfl) ?_
    refine zk_ld hx hb hK hP 10 0 (zwq8 cI a _) rfl (k := k) hk (by decide) (v := σ 8 k) rfl dX2_payWage_22 ?_
    refine lv_iconst (v := 2) hx hb dX2_payWage_23 (by decide) ?_
    refine lv_idiv hx hb dX2_payWage_24 (by decide) ?_
    refine lv_istore_n (lv' := [(2, .int ((σ 8 k) / 2)), (0, .ref (a 2)), (1, .int (nI k))]) hx hb dX2_payWage_25 rfl hl (by decide) rfl (fun ls hl => ?_)
    refine lv_aload_n hx hb dX2_payWage_26 rfl (lv_at hl 1 rfl) ?_
    refine lv_iload_n hx hb dX2_payWage_27 rfl (lv_at hl 2 rfl) ?_
    refine lv_iconst (v := 0) hx hb dX2_payWage_28 (by decide) ?_
    refine lv_iload_n hx hb dX2_payWage_29 rfl (lv_at hl 0 rfl) ?_
    refine lv_aload_n hx hb dX2_payWage_30 rfl (lv_at hl 1 rfl) ?_
    refine va_get (D := D) (ci := 2) (v := .ref (a 18)) (C := RX2) (T := TX2) (N := 13) hx hb hts hinX2 hown hK hP 2 rfl rfl 11 (by decide) hf44 (fun _ h9 => h9) rfl dX2_payWage_31 ?_
    refine lv_iload_n hx hb dX2_payWage_34 rfl (lv_at hl 2 rfl) ?_
    refine zk_ld hx hb hK hP 18 0 (zwq16 cI a _) rfl (k := k) hk (by decide) (v := σ 16 k) rfl dX2_payWage_35 ?_
    refine lv_isub hx hb dX2_payWage_36 ?_
    refine va_mmax hx hb (hml.trans hl.1.symm) hown hml75 hstmax hinM hcomax (Nat.le_of_ble_eq_true rfl) (Nat.le_of_ble_eq_true rfl) (Nat.zero_le _) (Nat.zero_le _) dX2_payWage_37 ?_
    have hF := zfree hD hS hA
    refine zk_V (va_runV (As := [.int (nI k), .int (f_max0 (((σ 8 k) / 2) - (σ 16 k)))]) (rest := []) ⟨hx, hb, hml, hown, hts⟩ (c_X2_earn l D cI a σ (k := k) hk (f_max0 (((σ 8 k) / 2) - (σ 16 k))) _) (cwV 2 hts gX2_payWage_X2_earn rfl rfl rfl zdX2_earn ⟨Nat.le_of_ble_eq_true rfl, Nat.le_of_ble_eq_true rfl⟩) ⟨zbl _, va_recv hK hP (ci := 2) (q0 := 2) rfl rfl, zpr hK hP hD⟩ rfl rfl hl.1 rfl (lv_room (Nat.le_of_ble_eq_true rfl)) dX2_payWage_40 ⟨Nat.zero_le _, Nat.zero_le _⟩) hS hF (fun H locs hkp hP1 hD1 hS => ?_)
    have hP := hP1
    have hD := hD1.weaken (fun _ _ _ z => hF _ z)
    have hP : va_P D vwCl (zw_H cI a (f_earn σ k (f_max0 (((σ 8 k) / 2) - (σ 16 k))))) H := hP
    have hD : va_D A (zw_H cI a (f_earn σ k (f_max0 (((σ 8 k) / 2) - (σ 16 k))))) := hD
    refine lv_aload_n hx hb dX2_payWage_43 rfl (lv_at hl 1 rfl) ?_
    refine va_get (D := D) (ci := 2) (v := .ref (a 18)) (C := RX2) (T := TX2) (N := 13) hx hb hts hinX2 hown hK hP 2 rfl rfl 11 (by decide) hf44 (fun _ h9 => h9) rfl dX2_payWage_44 ?_
    refine lv_iload_n hx hb dX2_payWage_47 rfl (lv_at hl 2 rfl) ?_
    refine lv_iconst (v := 0) hx hb dX2_payWage_48 (by decide) ?_
    refine zk_st hx hb hK hP hD hS 18 0 (zwq16 cI a _) rfl (k := k) hk (by decide) (zws16 cI a _ _ _) dX2_payWage_49 (fun H locs hP hD hS => ?_)
    have hP : va_P D vwCl (zw_H cI a (zs (f_earn σ k (f_max0 (((σ 8 k) / 2) - (σ 16 k)))) 16 k 0)) H := hP
    have hD : va_D A (zw_H cI a (zs (f_earn σ k (f_max0 (((σ 8 k) / 2) - (σ 16 k)))) 16 k 0)) := hD
    have e9 : f_pay σ k = zs (f_earn σ k (f_max0 (((σ 8 k) / 2) - (σ 16 k)))) 16 k 0 := by simp only [f_pay, if_neg c_2]
    have hP9 : va_P D vwCl (zw_H cI a (f_pay σ k)) H := by rw [e9]; exact hP
    have hD9 : va_D A (zw_H cI a (f_pay σ k)) := by rw [e9]; exact hD
    exact W.vret hx hb hr (fun t ht hW => ⟨⟨(), rfl, trivial, by rw [ht]; exact hP9, va_K.moved hW.alike hK, hD9⟩, hS.F ht⟩) hS.2.2 dX2_payWage_50

set_option maxHeartbeats 4000000 in
set_option maxRecDepth 100000 in
theorem c_X2_howManyAt (l : Launch) (D : va_G) (cI : ClassId) (a : Nat → Nat) (σ : zS) (v : Int32) {nb ns h : Nat} (hC : zC σ nb ns h) : zMR l yX2_howManyAt wsX2_howManyAt ({ frames := 0, cells := 0, slots := 0, locals := 0 }) [.ref (a 2), .int v] D [(cI, .int)] (zw_H cI a σ) (fun r => r = f_many (σ 12) v ns) := by
  intro sz
  refine Met.ofW (cc := cX2_howManyAt) (maxL := 4) (ret := (some .int)) (by decide) rfl ?_
  intro p e s m args below meth c s₁ B hml hv
  obtain ⟨rfl, hsz, hP, hK, hD⟩ := hv
  have hx := B.exec
  have hb := B.bytes
  have hr := B.returns
  have hts := atoms_spec (ws := wsX2_howManyAt) B.pre
  have hown : s.vm.findClass RX2 = some m.cls := findClass_of_methodNamed B.named
  have hlocks := B.notSynchronized
  have hS : va_S (fun _ => False) s.heap s.heap [] := va_S.rf
  have hP : va_P D vwCl (zw_H cI a σ) s.heap := hP
  have hl := lv_entry ([.ref (a 2), .int v]) (n := 4) (Nat.le_of_ble_eq_true rfl)
  rw [lg_entry_eq]
  generalize (lg_sl ([.ref (a 2), .int v]) ++ List.replicate (4 - (lg_sl ([.ref (a 2), .int v])).length) Slot.unset).toArray = ls at hl ⊢
  have hl : lv_has ls 4 [(0, .ref (a 2)), (1, .int v)] := hl
  have hf32 := hts (.fieldLink RX2 32 "HotBeds$Sailors" "place" "[I") (by decide +kernel)
  have hf7 := hts (.fieldLink RX2 7 "HotBeds$Sailors" "size" "I") (by decide +kernel)
  have hinX2 : ∀ w ∈ u_ws RX2 TX2 13, w ∈ wsX2_howManyAt := by decide +kernel
  have hns := hC.2.2.2.1
  refine lv_iconst (v := 0) hx hb dX2_howManyAt_0 (by decide) ?_
  refine lv_istore_n (lv' := [(2, .int 0), (0, .ref (a 2)), (1, .int v)]) hx hb dX2_howManyAt_1 rfl hl (by decide) rfl (fun ls hl => ?_)
  refine lv_iconst (v := 0) hx hb dX2_howManyAt_2 (by decide) ?_
  refine lv_istore_n (lv' := [(3, .int 0), (2, .int 0), (0, .ref (a 2)), (1, .int v)]) hx hb dX2_howManyAt_3 rfl hl (by decide) rfl (fun ls hl => ?_)
  refine zk_loop (pc := 4) (fun k H locs ls => va_P D vwCl (zw_H cI a σ) H ∧ va_S (fun _ => False) s.heap H locs ∧ lv_has ls 4 [(0, .ref (a 2)), (1, .int v), (2, .int (f_many (σ 12) v k)), (3, .int (nI k))]) ns (fun k hkk ih H locs ls hI => ?_) (fun H locs ls hI => ?_) _ _ _ ⟨hP, hS, lv_sub hl [2, 3, 1, 0] rfl⟩
  · obtain ⟨hP, hS, hl⟩ := hI
    refine lv_iload_n hx hb dX2_howManyAt_4 rfl (lv_at hl 3 rfl) ?_
    refine lv_aload_n hx hb dX2_howManyAt_5 rfl (lv_at hl 0 rfl) ?_
    refine va_get (D := D) (ci := 2) (v := .int (nI ns)) (C := RX2) (T := TX2) (N := 13) hx hb hts hinX2 hown hK hP 2 rfl rfl 0 (by decide) hf7 (fun _ h9 => h9) (congrArg (fun z => some (Value.int z)) hC.2.2.1) dX2_howManyAt_6 ?_
    refine lv_icmp_ge (tgt := 31) hx hb dX2_howManyAt_9 (by decide) (fun c => absurd c (nI_ge hkk (by omega))) (fun _ => ?_)
    refine lv_aload_n hx hb dX2_howManyAt_12 rfl (lv_at hl 0 rfl) ?_
    refine va_get (D := D) (ci := 2) (v := .ref (a 14)) (C := RX2) (T := TX2) (N := 13) hx hb hts hinX2 hown hK hP 2 rfl rfl 7 (by decide) hf32 (fun _ h9 => h9) rfl dX2_howManyAt_13 ?_
    refine lv_iload_n hx hb dX2_howManyAt_16 rfl (lv_at hl 3 rfl) ?_
    refine zk_ld hx hb hK hP 14 0 (zwq12 cI a _) rfl (k := k) (by omega) (by decide) (v := σ 12 k) rfl dX2_howManyAt_17 ?_
    refine lv_iload_n hx hb dX2_howManyAt_18 rfl (lv_at hl 1 rfl) ?_
    refine lv_icmp_ne (tgt := 25) hx hb dX2_howManyAt_19 (by decide) (fun c_2 => ?_) (fun c_2 => ?_)
    · refine lv_iinc (v := nI (k + 1)) (lv' := [(3, .int (nI (k + 1))), (0, .ref (a 2)), (1, .int v), (2, .int (f_many (σ 12) v k))]) hx hb dX2_howManyAt_25 hl (k := 3) rfl (nI_1 k) (by decide) rfl (fun ls hl => ?_)
      refine lv_goto (tgt := 4) hx hb dX2_howManyAt_28 (by decide) ?_
      have e1 : f_many (σ 12) v (k + 1) = f_many (σ 12) v k := if_neg c_2
      exact ih _ _ _ ⟨hP, hS, by rw [e1]; exact lv_sub hl [1, 2, 3, 0] rfl⟩
    · refine lv_iinc (v := (f_many (σ 12) v k) + 1) (lv' := [(2, .int ((f_many (σ 12) v k) + 1)), (0, .ref (a 2)), (1, .int v), (3, .int (nI k))]) hx hb dX2_howManyAt_22 hl (k := 2) rfl rfl (by decide) rfl (fun ls hl => ?_)
      refine lv_iinc (v := nI (k + 1)) (lv' := [(3, .int (nI (k + 1))), (2, .int ((f_many (σ 12) v k) + 1)), (0, .ref (a 2)), (1, .int v)]) hx hb dX2_howManyAt_25 hl (k := 3) rfl (nI_1 k) (by decide) rfl (fun ls hl => ?_)
      refine lv_goto (tgt := 4) hx hb dX2_howManyAt_28 (by decide) ?_
      have e1 : f_many (σ 12) v (k + 1) = f_many (σ 12) v k + 1 := if_pos c_2
      exact ih _ _ _ ⟨hP, hS, by rw [e1]; exact lv_sub hl [2, 3, 1, 0] rfl⟩
  · obtain ⟨hP, hS, hl⟩ := hI
    refine lv_iload_n hx hb dX2_howManyAt_4 rfl (lv_at hl 3 rfl) ?_
    refine lv_aload_n hx hb dX2_howManyAt_5 rfl (lv_at hl 0 rfl) ?_
    refine va_get (D := D) (ci := 2) (v := .int (nI ns)) (C := RX2) (T := TX2) (N := 13) hx hb hts hinX2 hown hK hP 2 rfl rfl 0 (by decide) hf7 (fun _ h9 => h9) (congrArg (fun z => some (Value.int z)) hC.2.2.1) dX2_howManyAt_6 ?_
    refine lv_icmp_ge (tgt := 31) hx hb dX2_howManyAt_9 (by decide) (fun _ => ?_) (fun c => absurd (Int32.le_refl _) c)
    refine lv_iload_n hx hb dX2_howManyAt_31 rfl (lv_at hl 2 rfl) ?_
    exact W.iret (v := f_many (σ 12) v ns) hx hb hr (fun t ht hW => ⟨⟨f_many (σ 12) v ns, (), rfl, rfl, trivial⟩, hS.F ht⟩) hS.2.2 dX2_howManyAt_32

set_option maxHeartbeats 4000000 in
set_option maxRecDepth 100000 in
theorem c_X2_sum14 (l : Launch) (D : va_G) (cI : ClassId) (a : Nat → Nat) (σ : zS) {nb ns h : Nat} (hC : zC σ nb ns h) : zMR l yX2_sum wsX2_sum ({ frames := 0, cells := 0, slots := 0, locals := 0 }) [.ref (a 2), .ref (a 16)] D [(cI, .int)] (zw_H cI a σ) (fun r => r = f_sum (σ 14) ns) := by
  intro sz
  refine Met.ofW (cc := cX2_sum) (maxL := 4) (ret := (some .int)) (by decide) rfl ?_
  intro p e s m args below meth c s₁ B hml hv
  obtain ⟨rfl, hsz, hP, hK, hD⟩ := hv
  have hx := B.exec
  have hb := B.bytes
  have hr := B.returns
  have hts := atoms_spec (ws := wsX2_sum) B.pre
  have hown : s.vm.findClass RX2 = some m.cls := findClass_of_methodNamed B.named
  have hlocks := B.notSynchronized
  have hS : va_S (fun _ => False) s.heap s.heap [] := va_S.rf
  have hP : va_P D vwCl (zw_H cI a σ) s.heap := hP
  have hl := lv_entry ([.ref (a 2), .ref (a 16)]) (n := 4) (Nat.le_of_ble_eq_true rfl)
  rw [lg_entry_eq]
  generalize (lg_sl ([.ref (a 2), .ref (a 16)]) ++ List.replicate (4 - (lg_sl ([.ref (a 2), .ref (a 16)])).length) Slot.unset).toArray = ls at hl ⊢
  have hl : lv_has ls 4 [(0, .ref (a 2)), (1, .ref (a 16))] := hl
  have hf7 := hts (.fieldLink RX2 7 "HotBeds$Sailors" "size" "I") (by decide +kernel)
  have hinX2 : ∀ w ∈ u_ws RX2 TX2 13, w ∈ wsX2_sum := by decide +kernel
  have hns := hC.2.2.2.1
  refine lv_iconst (v := 0) hx hb dX2_sum_0 (by decide) ?_
  refine lv_istore_n (lv' := [(2, .int 0), (0, .ref (a 2)), (1, .ref (a 16))]) hx hb dX2_sum_1 rfl hl (by decide) rfl (fun ls hl => ?_)
  refine lv_iconst (v := 0) hx hb dX2_sum_2 (by decide) ?_
  refine lv_istore_n (lv' := [(3, .int 0), (2, .int 0), (0, .ref (a 2)), (1, .ref (a 16))]) hx hb dX2_sum_3 rfl hl (by decide) rfl (fun ls hl => ?_)
  refine zk_loop (pc := 4) (fun k H locs ls => va_P D vwCl (zw_H cI a σ) H ∧ va_S (fun _ => False) s.heap H locs ∧ lv_has ls 4 [(0, .ref (a 2)), (1, .ref (a 16)), (2, .int (f_sum (σ 14) k)), (3, .int (nI k))]) ns (fun k hkk ih H locs ls hI => ?_) (fun H locs ls hI => ?_) _ _ _ ⟨hP, hS, lv_sub hl [2, 3, 1, 0] rfl⟩
  · obtain ⟨hP, hS, hl⟩ := hI
    refine lv_iload_n hx hb dX2_sum_4 rfl (lv_at hl 3 rfl) ?_
    refine lv_aload_n hx hb dX2_sum_5 rfl (lv_at hl 0 rfl) ?_
    refine va_get (D := D) (ci := 2) (v := .int (nI ns)) (C := RX2) (T := TX2) (N := 13) hx hb hts hinX2 hown hK hP 2 rfl rfl 0 (by decide) hf7 (fun _ h9 => h9) (congrArg (fun z => some (Value.int z)) hC.2.2.1) dX2_sum_6 ?_
    refine lv_icmp_ge (tgt := 30) hx hb dX2_sum_9 (by decide) (fun c => absurd c (nI_ge hkk (by omega))) (fun _ => ?_)
    refine lv_iload_n hx hb dX2_sum_12 rfl (lv_at hl 3 rfl) ?_
    refine lv_aload_n hx hb dX2_sum_13 rfl (lv_at hl 1 rfl) ?_
    refine va_alen hx hb hK hP 16 0 rfl rfl (v := 10) rfl dX2_sum_14 ?_
    refine lv_icmp_ge (tgt := 30) hx hb dX2_sum_15 (by decide) (fun c => absurd c (nI_ge (a := k) (b := 10) (by omega) (by decide))) (fun _ => ?_)
    refine lv_iload_n hx hb dX2_sum_18 rfl (lv_at hl 2 rfl) ?_
    refine lv_aload_n hx hb dX2_sum_19 rfl (lv_at hl 1 rfl) ?_
    refine lv_iload_n hx hb dX2_sum_20 rfl (lv_at hl 3 rfl) ?_
    refine zk_ld hx hb hK hP 16 0 (zwq14 cI a _) rfl (k := k) (by omega) (by decide) (v := σ 14 k) rfl dX2_sum_21 ?_
    refine lv_iadd hx hb dX2_sum_22 ?_
    refine lv_istore_n (lv' := [(2, .int ((f_sum (σ 14) k) + (σ 14 k))), (0, .ref (a 2)), (1, .ref (a 16)), (3, .int (nI k))]) hx hb dX2_sum_23 rfl hl (by decide) rfl (fun ls hl => ?_)
    refine lv_iinc (v := nI (k + 1)) (lv' := [(3, .int (nI (k + 1))), (2, .int ((f_sum (σ 14) k) + (σ 14 k))), (0, .ref (a 2)), (1, .ref (a 16))]) hx hb dX2_sum_24 hl (k := 3) rfl (nI_1 k) (by decide) rfl (fun ls hl => ?_)
    refine lv_goto (tgt := 4) hx hb dX2_sum_27 (by decide) ?_
    exact ih _ _ _ ⟨hP, hS, lv_sub hl [2, 3, 1, 0] rfl⟩
  · obtain ⟨hP, hS, hl⟩ := hI
    refine lv_iload_n hx hb dX2_sum_4 rfl (lv_at hl 3 rfl) ?_
    refine lv_aload_n hx hb dX2_sum_5 rfl (lv_at hl 0 rfl) ?_
    refine va_get (D := D) (ci := 2) (v := .int (nI ns)) (C := RX2) (T := TX2) (N := 13) hx hb hts hinX2 hown hK hP 2 rfl rfl 0 (by decide) hf7 (fun _ h9 => h9) (congrArg (fun z => some (Value.int z)) hC.2.2.1) dX2_sum_6 ?_
    refine lv_icmp_ge (tgt := 30) hx hb dX2_sum_9 (by decide) (fun _ => ?_) (fun c => absurd (Int32.le_refl _) c)
    refine lv_iload_n hx hb dX2_sum_30 rfl (lv_at hl 2 rfl) ?_
    exact W.iret (v := f_sum (σ 14) ns) hx hb hr (fun t ht hW => ⟨⟨f_sum (σ 14) ns, (), rfl, rfl, trivial⟩, hS.F ht⟩) hS.2.2 dX2_sum_31

set_option maxHeartbeats 4000000 in
set_option maxRecDepth 100000 in
theorem c_X2_sum15 (l : Launch) (D : va_G) (cI : ClassId) (a : Nat → Nat) (σ : zS) {nb ns h : Nat} (hC : zC σ nb ns h) : zMR l yX2_sum wsX2_sum ({ frames := 0, cells := 0, slots := 0, locals := 0 }) [.ref (a 2), .ref (a 17)] D [(cI, .int)] (zw_H cI a σ) (fun r => r = f_sum (σ 15) ns) := by
  intro sz
  refine Met.ofW (cc := cX2_sum) (maxL := 4) (ret := (some .int)) (by decide) rfl ?_
  intro p e s m args below meth c s₁ B hml hv
  obtain ⟨rfl, hsz, hP, hK, hD⟩ := hv
  have hx := B.exec
  have hb := B.bytes
  have hr := B.returns
  have hts := atoms_spec (ws := wsX2_sum) B.pre
  have hown : s.vm.findClass RX2 = some m.cls := findClass_of_methodNamed B.named
  have hlocks := B.notSynchronized
  have hS : va_S (fun _ => False) s.heap s.heap [] := va_S.rf
  have hP : va_P D vwCl (zw_H cI a σ) s.heap := hP
  have hl := lv_entry ([.ref (a 2), .ref (a 17)]) (n := 4) (Nat.le_of_ble_eq_true rfl)
  rw [lg_entry_eq]
  generalize (lg_sl ([.ref (a 2), .ref (a 17)]) ++ List.replicate (4 - (lg_sl ([.ref (a 2), .ref (a 17)])).length) Slot.unset).toArray = ls at hl ⊢
  have hl : lv_has ls 4 [(0, .ref (a 2)), (1, .ref (a 17))] := hl
  have hf7 := hts (.fieldLink RX2 7 "HotBeds$Sailors" "size" "I") (by decide +kernel)
  have hinX2 : ∀ w ∈ u_ws RX2 TX2 13, w ∈ wsX2_sum := by decide +kernel
  have hns := hC.2.2.2.1
  refine lv_iconst (v := 0) hx hb dX2_sum_0 (by decide) ?_
  refine lv_istore_n (lv' := [(2, .int 0), (0, .ref (a 2)), (1, .ref (a 17))]) hx hb dX2_sum_1 rfl hl (by decide) rfl (fun ls hl => ?_)
  refine lv_iconst (v := 0) hx hb dX2_sum_2 (by decide) ?_
  refine lv_istore_n (lv' := [(3, .int 0), (2, .int 0), (0, .ref (a 2)), (1, .ref (a 17))]) hx hb dX2_sum_3 rfl hl (by decide) rfl (fun ls hl => ?_)
  refine zk_loop (pc := 4) (fun k H locs ls => va_P D vwCl (zw_H cI a σ) H ∧ va_S (fun _ => False) s.heap H locs ∧ lv_has ls 4 [(0, .ref (a 2)), (1, .ref (a 17)), (2, .int (f_sum (σ 15) k)), (3, .int (nI k))]) ns (fun k hkk ih H locs ls hI => ?_) (fun H locs ls hI => ?_) _ _ _ ⟨hP, hS, lv_sub hl [2, 3, 1, 0] rfl⟩
  · obtain ⟨hP, hS, hl⟩ := hI
    refine lv_iload_n hx hb dX2_sum_4 rfl (lv_at hl 3 rfl) ?_
    refine lv_aload_n hx hb dX2_sum_5 rfl (lv_at hl 0 rfl) ?_
    refine va_get (D := D) (ci := 2) (v := .int (nI ns)) (C := RX2) (T := TX2) (N := 13) hx hb hts hinX2 hown hK hP 2 rfl rfl 0 (by decide) hf7 (fun _ h9 => h9) (congrArg (fun z => some (Value.int z)) hC.2.2.1) dX2_sum_6 ?_
    refine lv_icmp_ge (tgt := 30) hx hb dX2_sum_9 (by decide) (fun c => absurd c (nI_ge hkk (by omega))) (fun _ => ?_)
    refine lv_iload_n hx hb dX2_sum_12 rfl (lv_at hl 3 rfl) ?_
    refine lv_aload_n hx hb dX2_sum_13 rfl (lv_at hl 1 rfl) ?_
    refine va_alen hx hb hK hP 17 0 rfl rfl (v := 10) rfl dX2_sum_14 ?_
    refine lv_icmp_ge (tgt := 30) hx hb dX2_sum_15 (by decide) (fun c => absurd c (nI_ge (a := k) (b := 10) (by omega) (by decide))) (fun _ => ?_)
    refine lv_iload_n hx hb dX2_sum_18 rfl (lv_at hl 2 rfl) ?_
    refine lv_aload_n hx hb dX2_sum_19 rfl (lv_at hl 1 rfl) ?_
    refine lv_iload_n hx hb dX2_sum_20 rfl (lv_at hl 3 rfl) ?_
    refine zk_ld hx hb hK hP 17 0 (zwq15 cI a _) rfl (k := k) (by omega) (by decide) (v := σ 15 k) rfl dX2_sum_21 ?_
    refine lv_iadd hx hb dX2_sum_22 ?_
    refine lv_istore_n (lv' := [(2, .int ((f_sum (σ 15) k) + (σ 15 k))), (0, .ref (a 2)), (1, .ref (a 17)), (3, .int (nI k))]) hx hb dX2_sum_23 rfl hl (by decide) rfl (fun ls hl => ?_)
    refine lv_iinc (v := nI (k + 1)) (lv' := [(3, .int (nI (k + 1))), (2, .int ((f_sum (σ 15) k) + (σ 15 k))), (0, .ref (a 2)), (1, .ref (a 17))]) hx hb dX2_sum_24 hl (k := 3) rfl (nI_1 k) (by decide) rfl (fun ls hl => ?_)
    refine lv_goto (tgt := 4) hx hb dX2_sum_27 (by decide) ?_
    exact ih _ _ _ ⟨hP, hS, lv_sub hl [2, 3, 1, 0] rfl⟩
  · obtain ⟨hP, hS, hl⟩ := hI
    refine lv_iload_n hx hb dX2_sum_4 rfl (lv_at hl 3 rfl) ?_
    refine lv_aload_n hx hb dX2_sum_5 rfl (lv_at hl 0 rfl) ?_
    refine va_get (D := D) (ci := 2) (v := .int (nI ns)) (C := RX2) (T := TX2) (N := 13) hx hb hts hinX2 hown hK hP 2 rfl rfl 0 (by decide) hf7 (fun _ h9 => h9) (congrArg (fun z => some (Value.int z)) hC.2.2.1) dX2_sum_6 ?_
    refine lv_icmp_ge (tgt := 30) hx hb dX2_sum_9 (by decide) (fun _ => ?_) (fun c => absurd (Int32.le_refl _) c)
    refine lv_iload_n hx hb dX2_sum_30 rfl (lv_at hl 2 rfl) ?_
    exact W.iret (v := f_sum (σ 15) ns) hx hb hr (fun t ht hW => ⟨⟨f_sum (σ 15) ns, (), rfl, rfl, trivial⟩, hS.F ht⟩) hS.2.2 dX2_sum_31

set_option maxHeartbeats 4000000 in
set_option maxRecDepth 100000 in
theorem c_X2_sum17 (l : Launch) (D : va_G) (cI : ClassId) (a : Nat → Nat) (σ : zS) {nb ns h : Nat} (hC : zC σ nb ns h) : zMR l yX2_sum wsX2_sum ({ frames := 0, cells := 0, slots := 0, locals := 0 }) [.ref (a 2), .ref (a 19)] D [(cI, .int)] (zw_H cI a σ) (fun r => r = f_sum (σ 17) ns) := by
  intro sz
  refine Met.ofW (cc := cX2_sum) (maxL := 4) (ret := (some .int)) (by decide) rfl ?_
  intro p e s m args below meth c s₁ B hml hv
  obtain ⟨rfl, hsz, hP, hK, hD⟩ := hv
  have hx := B.exec
  have hb := B.bytes
  have hr := B.returns
  have hts := atoms_spec (ws := wsX2_sum) B.pre
  have hown : s.vm.findClass RX2 = some m.cls := findClass_of_methodNamed B.named
  have hlocks := B.notSynchronized
  have hS : va_S (fun _ => False) s.heap s.heap [] := va_S.rf
  have hP : va_P D vwCl (zw_H cI a σ) s.heap := hP
  have hl := lv_entry ([.ref (a 2), .ref (a 19)]) (n := 4) (Nat.le_of_ble_eq_true rfl)
  rw [lg_entry_eq]
  generalize (lg_sl ([.ref (a 2), .ref (a 19)]) ++ List.replicate (4 - (lg_sl ([.ref (a 2), .ref (a 19)])).length) Slot.unset).toArray = ls at hl ⊢
  have hl : lv_has ls 4 [(0, .ref (a 2)), (1, .ref (a 19))] := hl
  have hf7 := hts (.fieldLink RX2 7 "HotBeds$Sailors" "size" "I") (by decide +kernel)
  have hinX2 : ∀ w ∈ u_ws RX2 TX2 13, w ∈ wsX2_sum := by decide +kernel
  have hns := hC.2.2.2.1
  refine lv_iconst (v := 0) hx hb dX2_sum_0 (by decide) ?_
  refine lv_istore_n (lv' := [(2, .int 0), (0, .ref (a 2)), (1, .ref (a 19))]) hx hb dX2_sum_1 rfl hl (by decide) rfl (fun ls hl => ?_)
  refine lv_iconst (v := 0) hx hb dX2_sum_2 (by decide) ?_
  refine lv_istore_n (lv' := [(3, .int 0), (2, .int 0), (0, .ref (a 2)), (1, .ref (a 19))]) hx hb dX2_sum_3 rfl hl (by decide) rfl (fun ls hl => ?_)
  refine zk_loop (pc := 4) (fun k H locs ls => va_P D vwCl (zw_H cI a σ) H ∧ va_S (fun _ => False) s.heap H locs ∧ lv_has ls 4 [(0, .ref (a 2)), (1, .ref (a 19)), (2, .int (f_sum (σ 17) k)), (3, .int (nI k))]) ns (fun k hkk ih H locs ls hI => ?_) (fun H locs ls hI => ?_) _ _ _ ⟨hP, hS, lv_sub hl [2, 3, 1, 0] rfl⟩
  · obtain ⟨hP, hS, hl⟩ := hI
    refine lv_iload_n hx hb dX2_sum_4 rfl (lv_at hl 3 rfl) ?_
    refine lv_aload_n hx hb dX2_sum_5 rfl (lv_at hl 0 rfl) ?_
    refine va_get (D := D) (ci := 2) (v := .int (nI ns)) (C := RX2) (T := TX2) (N := 13) hx hb hts hinX2 hown hK hP 2 rfl rfl 0 (by decide) hf7 (fun _ h9 => h9) (congrArg (fun z => some (Value.int z)) hC.2.2.1) dX2_sum_6 ?_
    refine lv_icmp_ge (tgt := 30) hx hb dX2_sum_9 (by decide) (fun c => absurd c (nI_ge hkk (by omega))) (fun _ => ?_)
    refine lv_iload_n hx hb dX2_sum_12 rfl (lv_at hl 3 rfl) ?_
    refine lv_aload_n hx hb dX2_sum_13 rfl (lv_at hl 1 rfl) ?_
    refine va_alen hx hb hK hP 19 0 rfl rfl (v := 10) rfl dX2_sum_14 ?_
    refine lv_icmp_ge (tgt := 30) hx hb dX2_sum_15 (by decide) (fun c => absurd c (nI_ge (a := k) (b := 10) (by omega) (by decide))) (fun _ => ?_)
    refine lv_iload_n hx hb dX2_sum_18 rfl (lv_at hl 2 rfl) ?_
    refine lv_aload_n hx hb dX2_sum_19 rfl (lv_at hl 1 rfl) ?_
    refine lv_iload_n hx hb dX2_sum_20 rfl (lv_at hl 3 rfl) ?_
    refine zk_ld hx hb hK hP 19 0 (zwq17 cI a _) rfl (k := k) (by omega) (by decide) (v := σ 17 k) rfl dX2_sum_21 ?_
    refine lv_iadd hx hb dX2_sum_22 ?_
    refine lv_istore_n (lv' := [(2, .int ((f_sum (σ 17) k) + (σ 17 k))), (0, .ref (a 2)), (1, .ref (a 19)), (3, .int (nI k))]) hx hb dX2_sum_23 rfl hl (by decide) rfl (fun ls hl => ?_)
    refine lv_iinc (v := nI (k + 1)) (lv' := [(3, .int (nI (k + 1))), (2, .int ((f_sum (σ 17) k) + (σ 17 k))), (0, .ref (a 2)), (1, .ref (a 19))]) hx hb dX2_sum_24 hl (k := 3) rfl (nI_1 k) (by decide) rfl (fun ls hl => ?_)
    refine lv_goto (tgt := 4) hx hb dX2_sum_27 (by decide) ?_
    exact ih _ _ _ ⟨hP, hS, lv_sub hl [2, 3, 1, 0] rfl⟩
  · obtain ⟨hP, hS, hl⟩ := hI
    refine lv_iload_n hx hb dX2_sum_4 rfl (lv_at hl 3 rfl) ?_
    refine lv_aload_n hx hb dX2_sum_5 rfl (lv_at hl 0 rfl) ?_
    refine va_get (D := D) (ci := 2) (v := .int (nI ns)) (C := RX2) (T := TX2) (N := 13) hx hb hts hinX2 hown hK hP 2 rfl rfl 0 (by decide) hf7 (fun _ h9 => h9) (congrArg (fun z => some (Value.int z)) hC.2.2.1) dX2_sum_6 ?_
    refine lv_icmp_ge (tgt := 30) hx hb dX2_sum_9 (by decide) (fun _ => ?_) (fun c => absurd (Int32.le_refl _) c)
    refine lv_iload_n hx hb dX2_sum_30 rfl (lv_at hl 2 rfl) ?_
    exact W.iret (v := f_sum (σ 17) ns) hx hb hr (fun t ht hW => ⟨⟨f_sum (σ 17) ns, (), rfl, rfl, trivial⟩, hS.F ht⟩) hS.2.2 dX2_sum_31

set_option maxHeartbeats 4000000 in
set_option maxRecDepth 100000 in
theorem c_X2_allRest (l : Launch) (D : va_G) (cI : ClassId) (a : Nat → Nat) (σ : zS) {nb ns h : Nat} (hC : zC σ nb ns h) : zMR l yX2_allRest wsX2_allRest ({ frames := 1, cells := 0, slots := 0, locals := 23 }) [.ref (a 2)] D [(cI, .int)] (zw_H cI a σ) (fun r => r = f_sum (σ 14) ns) := by
  intro sz
  refine Met.ofW (cc := cX2_allRest) (maxL := 1) (ret := (some .int)) (by decide) rfl ?_
  intro p e s m args below meth c s₁ B hml hv
  obtain ⟨rfl, hsz, hP, hK, hD⟩ := hv
  have hx := B.exec
  have hb := B.bytes
  have hr := B.returns
  have hts := atoms_spec (ws := wsX2_allRest) B.pre
  have hown : s.vm.findClass RX2 = some m.cls := findClass_of_methodNamed B.named
  have hlocks := B.notSynchronized
  have hS : va_S (fun _ => False) s.heap s.heap [] := va_S.rf
  have hP : va_P D vwCl (zw_H cI a σ) s.heap := hP
  have hl := lv_entry ([.ref (a 2)]) (n := 1) (Nat.le_of_ble_eq_true rfl)
  rw [lg_entry_eq]
  generalize (lg_sl ([.ref (a 2)]) ++ List.replicate (1 - (lg_sl ([.ref (a 2)])).length) Slot.unset).toArray = ls at hl ⊢
  have hl : lv_has ls 1 [(0, .ref (a 2))] := hl
  have hf38 := hts (.fieldLink RX2 38 "HotBeds$Sailors" "rest" "[I") (by decide +kernel)
  have hinX2 : ∀ w ∈ u_ws RX2 TX2 13, w ∈ wsX2_allRest := by decide +kernel
  refine lv_aload_n hx hb dX2_allRest_0 rfl (lv_at hl 0 rfl) ?_
  refine lv_aload_n hx hb dX2_allRest_1 rfl (lv_at hl 0 rfl) ?_
  refine va_get (D := D) (ci := 2) (v := .ref (a 16)) (C := RX2) (T := TX2) (N := 13) hx hb hts hinX2 hown hK hP 2 rfl rfl 9 (by decide) hf38 (fun _ h9 => h9) rfl dX2_allRest_2 ?_
  refine zk_R (D := D) (va_runV (As := [.ref (a 16)]) (rest := []) ⟨hx, hb, hml, hown, hts⟩ (c_X2_sum14 l D cI a σ hC _) (cwV 1 hts gX2_allRest_X2_sum rfl rfl rfl zdX2_sum ⟨Nat.le_of_ble_eq_true rfl, Nat.le_of_ble_eq_true rfl⟩) ⟨zbl _, va_recv hK hP (ci := 2) (q0 := 2) rfl rfl, zpr hK hP hD⟩ rfl rfl hl.1 rfl (lv_room (Nat.le_of_ble_eq_true rfl)) dX2_allRest_5 ⟨Nat.zero_le _, Nat.zero_le _⟩) hS (fun r_1 H locs hw hkp hS => ?_)
  have hP := hkp _ hP
  subst hw
  exact W.iret (v := f_sum (σ 14) ns) hx hb hr (fun t ht hW => ⟨⟨f_sum (σ 14) ns, (), rfl, rfl, trivial⟩, hS.F ht⟩) hS.2.2 dX2_allRest_8

set_option maxHeartbeats 4000000 in
set_option maxRecDepth 100000 in
theorem c_X2_allLate (l : Launch) (D : va_G) (cI : ClassId) (a : Nat → Nat) (σ : zS) {nb ns h : Nat} (hC : zC σ nb ns h) : zMR l yX2_allLate wsX2_allLate ({ frames := 1, cells := 0, slots := 0, locals := 23 }) [.ref (a 2)] D [(cI, .int)] (zw_H cI a σ) (fun r => r = f_sum (σ 15) ns) := by
  intro sz
  refine Met.ofW (cc := cX2_allLate) (maxL := 1) (ret := (some .int)) (by decide) rfl ?_
  intro p e s m args below meth c s₁ B hml hv
  obtain ⟨rfl, hsz, hP, hK, hD⟩ := hv
  have hx := B.exec
  have hb := B.bytes
  have hr := B.returns
  have hts := atoms_spec (ws := wsX2_allLate) B.pre
  have hown : s.vm.findClass RX2 = some m.cls := findClass_of_methodNamed B.named
  have hlocks := B.notSynchronized
  have hS : va_S (fun _ => False) s.heap s.heap [] := va_S.rf
  have hP : va_P D vwCl (zw_H cI a σ) s.heap := hP
  have hl := lv_entry ([.ref (a 2)]) (n := 1) (Nat.le_of_ble_eq_true rfl)
  rw [lg_entry_eq]
  generalize (lg_sl ([.ref (a 2)]) ++ List.replicate (1 - (lg_sl ([.ref (a 2)])).length) Slot.unset).toArray = ls at hl ⊢
  have hl : lv_has ls 1 [(0, .ref (a 2))] := hl
  have hf41 := hts (.fieldLink RX2 41 "HotBeds$Sailors" "late" "[I") (by decide +kernel)
  have hinX2 : ∀ w ∈ u_ws RX2 TX2 13, w ∈ wsX2_allLate := by decide +kernel
  refine lv_aload_n hx hb dX2_allLate_0 rfl (lv_at hl 0 rfl) ?_
  refine lv_aload_n hx hb dX2_allLate_1 rfl (lv_at hl 0 rfl) ?_
  refine va_get (D := D) (ci := 2) (v := .ref (a 17)) (C := RX2) (T := TX2) (N := 13) hx hb hts hinX2 hown hK hP 2 rfl rfl 10 (by decide) hf41 (fun _ h9 => h9) rfl dX2_allLate_2 ?_
  refine zk_R (D := D) (va_runV (As := [.ref (a 17)]) (rest := []) ⟨hx, hb, hml, hown, hts⟩ (c_X2_sum15 l D cI a σ hC _) (cwV 1 hts gX2_allLate_X2_sum rfl rfl rfl zdX2_sum ⟨Nat.le_of_ble_eq_true rfl, Nat.le_of_ble_eq_true rfl⟩) ⟨zbl _, va_recv hK hP (ci := 2) (q0 := 2) rfl rfl, zpr hK hP hD⟩ rfl rfl hl.1 rfl (lv_room (Nat.le_of_ble_eq_true rfl)) dX2_allLate_5 ⟨Nat.zero_le _, Nat.zero_le _⟩) hS (fun r_1 H locs hw hkp hS => ?_)
  have hP := hkp _ hP
  subst hw
  exact W.iret (v := f_sum (σ 15) ns) hx hb hr (fun t ht hW => ⟨⟨f_sum (σ 15) ns, (), rfl, rfl, trivial⟩, hS.F ht⟩) hS.2.2 dX2_allLate_8

set_option maxHeartbeats 4000000 in
set_option maxRecDepth 100000 in
theorem c_X2_allFloors (l : Launch) (D : va_G) (cI : ClassId) (a : Nat → Nat) (σ : zS) {nb ns h : Nat} (hC : zC σ nb ns h) : zMR l yX2_allFloors wsX2_allFloors ({ frames := 1, cells := 0, slots := 0, locals := 23 }) [.ref (a 2)] D [(cI, .int)] (zw_H cI a σ) (fun r => r = f_sum (σ 17) ns) := by
  intro sz
  refine Met.ofW (cc := cX2_allFloors) (maxL := 1) (ret := (some .int)) (by decide) rfl ?_
  intro p e s m args below meth c s₁ B hml hv
  obtain ⟨rfl, hsz, hP, hK, hD⟩ := hv
  have hx := B.exec
  have hb := B.bytes
  have hr := B.returns
  have hts := atoms_spec (ws := wsX2_allFloors) B.pre
  have hown : s.vm.findClass RX2 = some m.cls := findClass_of_methodNamed B.named
  have hlocks := B.notSynchronized
  have hS : va_S (fun _ => False) s.heap s.heap [] := va_S.rf
  have hP : va_P D vwCl (zw_H cI a σ) s.heap := hP
  have hl := lv_entry ([.ref (a 2)]) (n := 1) (Nat.le_of_ble_eq_true rfl)
  rw [lg_entry_eq]
  generalize (lg_sl ([.ref (a 2)]) ++ List.replicate (1 - (lg_sl ([.ref (a 2)])).length) Slot.unset).toArray = ls at hl ⊢
  have hl : lv_has ls 1 [(0, .ref (a 2))] := hl
  have hf47 := hts (.fieldLink RX2 47 "HotBeds$Sailors" "floors" "[I") (by decide +kernel)
  have hinX2 : ∀ w ∈ u_ws RX2 TX2 13, w ∈ wsX2_allFloors := by decide +kernel
  refine lv_aload_n hx hb dX2_allFloors_0 rfl (lv_at hl 0 rfl) ?_
  refine lv_aload_n hx hb dX2_allFloors_1 rfl (lv_at hl 0 rfl) ?_
  refine va_get (D := D) (ci := 2) (v := .ref (a 19)) (C := RX2) (T := TX2) (N := 13) hx hb hts hinX2 hown hK hP 2 rfl rfl 12 (by decide) hf47 (fun _ h9 => h9) rfl dX2_allFloors_2 ?_
  refine zk_R (D := D) (va_runV (As := [.ref (a 19)]) (rest := []) ⟨hx, hb, hml, hown, hts⟩ (c_X2_sum17 l D cI a σ hC _) (cwV 1 hts gX2_allFloors_X2_sum rfl rfl rfl zdX2_sum ⟨Nat.le_of_ble_eq_true rfl, Nat.le_of_ble_eq_true rfl⟩) ⟨zbl _, va_recv hK hP (ci := 2) (q0 := 2) rfl rfl, zpr hK hP hD⟩ rfl rfl hl.1 rfl (lv_room (Nat.le_of_ble_eq_true rfl)) dX2_allFloors_5 ⟨Nat.zero_le _, Nat.zero_le _⟩) hS (fun r_1 H locs hw hkp hS => ?_)
  have hP := hkp _ hP
  subst hw
  exact W.iret (v := f_sum (σ 17) ns) hx hb hr (fun t ht hW => ⟨⟨f_sum (σ 17) ns, (), rfl, rfl, trivial⟩, hS.F ht⟩) hS.2.2 dX2_allFloors_8
end
section
set_option maxHeartbeats 4000000 in
set_option maxRecDepth 100000 in
theorem c_X1_watchNow (l : Launch) (D : va_G) (cI : ClassId) (a : Nat → Nat) (σ : zS) {nb ns h : Nat} (hC : zC σ nb ns h) : zMR l yX1_watchNow wsX1_watchNow ({ frames := 0, cells := 0, slots := 0, locals := 0 }) [.ref (a 0)] D [(cI, .int)] (zw_H cI a σ) (fun r => r = nI (h % 24 / 8)) := by
  intro sz
  refine Met.ofW (cc := cX1_watchNow) (maxL := 1) (ret := (some .int)) (by decide) rfl ?_
  intro p e s m args below meth c s₁ B hml hv
  obtain ⟨rfl, hsz, hP, hK, hD⟩ := hv
  have hx := B.exec
  have hb := B.bytes
  have hr := B.returns
  have hts := atoms_spec (ws := wsX1_watchNow) B.pre
  have hown : s.vm.findClass RX1 = some m.cls := findClass_of_methodNamed B.named
  have hlocks := B.notSynchronized
  have hS : va_S (fun _ => False) s.heap s.heap [] := va_S.rf
  have hP : va_P D vwCl (zw_H cI a σ) s.heap := hP
  have hl := lv_entry ([.ref (a 0)]) (n := 1) (Nat.le_of_ble_eq_true rfl)
  rw [lg_entry_eq]
  generalize (lg_sl ([.ref (a 0)]) ++ List.replicate (1 - (lg_sl ([.ref (a 0)])).length) Slot.unset).toArray = ls at hl ⊢
  have hl : lv_has ls 1 [(0, .ref (a 0))] := hl
  have hf7 := hts (.fieldLink RX1 7 "HotBeds$House" "hour" "I") (by decide +kernel)
  have hinX1 : ∀ w ∈ u_ws RX1 TX1 5, w ∈ wsX1_watchNow := by decide +kernel
  have hnb := hC.2.1
  have hns := hC.2.2.2.1
  have hh := hC.2.2.2.2.2.1
  refine lv_aload_n hx hb dX1_watchNow_0 rfl (lv_at hl 0 rfl) ?_
  refine va_get (D := D) (ci := 1) (v := .int (nI h)) (C := RX1) (T := TX1) (N := 5) hx hb hts hinX1 hown hK hP 0 rfl rfl 0 (by decide) hf7 (fun _ h9 => h9) (congrArg (fun z => some (Value.int z)) hC.2.2.2.2.1) dX1_watchNow_1 ?_
  refine lv_bipush (v := 24) hx hb dX1_watchNow_4 (by decide) ?_
  refine zk_rem (x := h) (y := 24) hx hb dX1_watchNow_6 (by omega) (by decide) (by decide) ?_
  refine lv_bipush (v := 8) hx hb dX1_watchNow_7 (by decide) ?_
  refine zk_div (x := (h % 24)) (y := 8) hx hb dX1_watchNow_9 (by omega) (by decide) (by decide) ?_
  exact W.iret (v := nI ((h % 24) / 8)) hx hb hr (fun t ht hW => ⟨⟨nI ((h % 24) / 8), (), rfl, rfl, trivial⟩, hS.F ht⟩) hS.2.2 dX1_watchNow_10

set_option maxHeartbeats 4000000 in
set_option maxRecDepth 100000 in
theorem c_X1_isInWatch (l : Launch) (D : va_G) (cI : ClassId) (a : Nat → Nat) (σ : zS) {k : Nat} (hk : k < 10) {nb ns h : Nat} (hC : zC σ nb ns h) : zMR l yX1_isInWatch wsX1_isInWatch ({ frames := 1, cells := 0, slots := 0, locals := 20 }) [.ref (a 0), .int (nI k)] D [(cI, .int)] (zw_H cI a σ) (zb (σ 6 k = nI (h % 24 / 8))) := by
  intro sz
  refine Met.ofW (cc := cX1_isInWatch) (maxL := 2) (ret := (some .boolean)) (by decide) rfl ?_
  intro p e s m args below meth c s₁ B hml hv
  obtain ⟨rfl, hsz, hP, hK, hD⟩ := hv
  have hx := B.exec
  have hb := B.bytes
  have hr := B.returns
  have hts := atoms_spec (ws := wsX1_isInWatch) B.pre
  have hown : s.vm.findClass RX1 = some m.cls := findClass_of_methodNamed B.named
  have hlocks := B.notSynchronized
  have hS : va_S (fun _ => False) s.heap s.heap [] := va_S.rf
  have hP : va_P D vwCl (zw_H cI a σ) s.heap := hP
  have hl := lv_entry ([.ref (a 0), .int (nI k)]) (n := 2) (Nat.le_of_ble_eq_true rfl)
  rw [lg_entry_eq]
  generalize (lg_sl ([.ref (a 0), .int (nI k)]) ++ List.replicate (2 - (lg_sl ([.ref (a 0), .int (nI k)])).length) Slot.unset).toArray = ls at hl ⊢
  have hl : lv_has ls 2 [(0, .ref (a 0)), (1, .int (nI k))] := hl
  have hf105 := hts (.fieldLink RX1 105 "HotBeds$Sailors" "watch" "[I") (by decide +kernel)
  have hf29 := hts (.fieldLink RX1 29 "HotBeds$House" "sailors" "LHotBeds$Sailors;") (by decide +kernel)
  have hinX1 : ∀ w ∈ u_ws RX1 TX1 5, w ∈ wsX1_isInWatch := by decide +kernel
  have hinX2 : ∀ w ∈ u_ws RX2 TX2 13, w ∈ wsX1_isInWatch := by decide +kernel
  have hnb := hC.2.1
  have hns := hC.2.2.2.1
  have hh := hC.2.2.2.2.2.1
  refine lv_aload_n hx hb dX1_isInWatch_0 rfl (lv_at hl 0 rfl) ?_
  refine va_get (D := D) (ci := 1) (v := .ref (a 2)) (C := RX1) (T := TX1) (N := 5) hx hb hts hinX1 hown hK hP 0 rfl rfl 4 (by decide) hf29 (fun _ h9 => h9) rfl dX1_isInWatch_1 ?_
  refine va_get (D := D) (ci := 2) (v := .ref (a 8)) (C := RX2) (T := TX2) (N := 13) hx hb hts hinX2 hown hK hP 2 rfl rfl 1 (by decide) hf105 (fun _ h9 => h9) rfl dX1_isInWatch_4 ?_
  refine lv_iload_n hx hb dX1_isInWatch_7 rfl (lv_at hl 1 rfl) ?_
  refine zk_ld hx hb hK hP 8 0 (zwq6 cI a _) rfl (k := k) hk (by decide) (v := σ 6 k) rfl dX1_isInWatch_8 ?_
  refine lv_aload_n hx hb dX1_isInWatch_9 rfl (lv_at hl 0 rfl) ?_
  refine zk_R (D := D) (va_runV (As := []) (rest := [.int (σ 6 k)]) ⟨hx, hb, hml, hown, hts⟩ (c_X1_watchNow l D cI a σ hC _) (cwV 0 hts gX1_isInWatch_X1_watchNow rfl rfl rfl zdX1_watchNow ⟨Nat.le_of_ble_eq_true rfl, Nat.le_of_ble_eq_true rfl⟩) ⟨zbl _, va_recv hK hP (ci := 1) (q0 := 0) rfl rfl, zpr hK hP hD⟩ rfl rfl hl.1 rfl (lv_room (Nat.le_of_ble_eq_true rfl)) dX1_isInWatch_10 ⟨Nat.zero_le _, Nat.zero_le _⟩) hS (fun r_1 H locs hw hkp hS => ?_)
  have hP := hkp _ hP
  subst hw
  refine lv_icmp_ne (tgt := 20) hx hb dX1_isInWatch_13 (by decide) (fun c_2 => ?_) (fun c_2 => ?_)
  · refine lv_iconst (v := 0) hx hb dX1_isInWatch_20 (by decide) ?_
    exact W.zret (v := 0) hx hb hr rfl (fun t ht hW => ⟨⟨0, (), rfl, Or.inr ⟨(fun z => c_2 z), rfl⟩, trivial⟩, hS.F ht⟩) hS.2.2 dX1_isInWatch_21
  · refine lv_iconst (v := 1) hx hb dX1_isInWatch_16 (by decide) ?_
    refine lv_goto (tgt := 21) hx hb dX1_isInWatch_17 (by decide) ?_
    exact W.zret (v := 1) hx hb hr rfl (fun t ht hW => ⟨⟨1, (), rfl, Or.inl ⟨c_2, rfl⟩, trivial⟩, hS.F ht⟩) hS.2.2 dX1_isInWatch_21

set_option maxHeartbeats 4000000 in
set_option maxRecDepth 100000 in
theorem c_X1_hoursSinceWatch (l : Launch) (D : va_G) (cI : ClassId) (a : Nat → Nat) (σ : zS) {k : Nat} (hk : k < 10) {nb ns h : Nat} (hC : zC σ nb ns h) : zMR l yX1_hoursSinceWatch wsX1_hoursSinceWatch ({ frames := 0, cells := 0, slots := 0, locals := 0 }) [.ref (a 0), .int (nI k)] D [(cI, .int)] (zw_H cI a σ) (fun r => r = nI ((h % 24 + 24 - ((σ 6 k).toNatClampNeg + 1) * 8) % 24)) := by
  intro sz
  refine Met.ofW (cc := cX1_hoursSinceWatch) (maxL := 3) (ret := (some .int)) (by decide) rfl ?_
  intro p e s m args below meth c s₁ B hml hv
  obtain ⟨rfl, hsz, hP, hK, hD⟩ := hv
  have hx := B.exec
  have hb := B.bytes
  have hr := B.returns
  have hts := atoms_spec (ws := wsX1_hoursSinceWatch) B.pre
  have hown : s.vm.findClass RX1 = some m.cls := findClass_of_methodNamed B.named
  have hlocks := B.notSynchronized
  have hS : va_S (fun _ => False) s.heap s.heap [] := va_S.rf
  have hP : va_P D vwCl (zw_H cI a σ) s.heap := hP
  have hl := lv_entry ([.ref (a 0), .int (nI k)]) (n := 3) (Nat.le_of_ble_eq_true rfl)
  rw [lg_entry_eq]
  generalize (lg_sl ([.ref (a 0), .int (nI k)]) ++ List.replicate (3 - (lg_sl ([.ref (a 0), .int (nI k)])).length) Slot.unset).toArray = ls at hl ⊢
  have hl : lv_has ls 3 [(0, .ref (a 0)), (1, .int (nI k))] := hl
  have hf105 := hts (.fieldLink RX1 105 "HotBeds$Sailors" "watch" "[I") (by decide +kernel)
  have hf29 := hts (.fieldLink RX1 29 "HotBeds$House" "sailors" "LHotBeds$Sailors;") (by decide +kernel)
  have hf7 := hts (.fieldLink RX1 7 "HotBeds$House" "hour" "I") (by decide +kernel)
  have hinX1 : ∀ w ∈ u_ws RX1 TX1 5, w ∈ wsX1_hoursSinceWatch := by decide +kernel
  have hinX2 : ∀ w ∈ u_ws RX2 TX2 13, w ∈ wsX1_hoursSinceWatch := by decide +kernel
  have hnb := hC.2.1
  have hns := hC.2.2.2.1
  have hh := hC.2.2.2.2.2.1
  obtain ⟨w, hw3, ew⟩ := hC.2.2.2.2.2.2 k hk
  refine lv_aload_n hx hb dX1_hoursSinceWatch_0 rfl (lv_at hl 0 rfl) ?_
  refine va_get (D := D) (ci := 1) (v := .ref (a 2)) (C := RX1) (T := TX1) (N := 5) hx hb hts hinX1 hown hK hP 0 rfl rfl 4 (by decide) hf29 (fun _ h9 => h9) rfl dX1_hoursSinceWatch_1 ?_
  refine va_get (D := D) (ci := 2) (v := .ref (a 8)) (C := RX2) (T := TX2) (N := 13) hx hb hts hinX2 hown hK hP 2 rfl rfl 1 (by decide) hf105 (fun _ h9 => h9) rfl dX1_hoursSinceWatch_4 ?_
  refine lv_iload_n hx hb dX1_hoursSinceWatch_7 rfl (lv_at hl 1 rfl) ?_
  refine zk_ld hx hb hK hP 8 0 (zwq6 cI a _) rfl (k := k) hk (by decide) (v := nI w) ew dX1_hoursSinceWatch_8 ?_
  refine lv_iconst (v := 1) hx hb dX1_hoursSinceWatch_9 (by decide) ?_
  refine zk_add (x := w) (y := 1) hx hb dX1_hoursSinceWatch_10 ?_
  refine lv_bipush (v := 8) hx hb dX1_hoursSinceWatch_11 (by decide) ?_
  refine zk_mul (x := (w + 1)) (y := 8) hx hb dX1_hoursSinceWatch_13 ?_
  refine lv_istore_n (lv' := [(2, .int (nI ((w + 1) * 8))), (0, .ref (a 0)), (1, .int (nI k))]) hx hb dX1_hoursSinceWatch_14 rfl hl (by decide) rfl (fun ls hl => ?_)
  refine lv_aload_n hx hb dX1_hoursSinceWatch_15 rfl (lv_at hl 1 rfl) ?_
  refine va_get (D := D) (ci := 1) (v := .int (nI h)) (C := RX1) (T := TX1) (N := 5) hx hb hts hinX1 hown hK hP 0 rfl rfl 0 (by decide) hf7 (fun _ h9 => h9) (congrArg (fun z => some (Value.int z)) hC.2.2.2.2.1) dX1_hoursSinceWatch_16 ?_
  refine lv_bipush (v := 24) hx hb dX1_hoursSinceWatch_19 (by decide) ?_
  refine zk_rem (x := h) (y := 24) hx hb dX1_hoursSinceWatch_21 (by omega) (by decide) (by decide) ?_
  refine lv_bipush (v := 24) hx hb dX1_hoursSinceWatch_22 (by decide) ?_
  refine zk_add (x := (h % 24)) (y := 24) hx hb dX1_hoursSinceWatch_24 ?_
  refine lv_iload_n hx hb dX1_hoursSinceWatch_25 rfl (lv_at hl 0 rfl) ?_
  refine zk_sub (x := ((h % 24) + 24)) (y := ((w + 1) * 8)) hx hb dX1_hoursSinceWatch_26 (by omega) ?_
  refine lv_bipush (v := 24) hx hb dX1_hoursSinceWatch_27 (by decide) ?_
  refine zk_rem (x := (((h % 24) + 24) - ((w + 1) * 8))) (y := 24) hx hb dX1_hoursSinceWatch_29 (by omega) (by decide) (by decide) ?_
  exact W.iret (v := nI ((((h % 24) + 24) - ((w + 1) * 8)) % 24)) hx hb hr (fun t ht hW => ⟨⟨nI ((((h % 24) + 24) - ((w + 1) * 8)) % 24), (), rfl, (by rw [ew, nI_clamp (by omega)]), trivial⟩, hS.F ht⟩) hS.2.2 dX1_hoursSinceWatch_30

set_option maxHeartbeats 4000000 in
set_option maxRecDepth 100000 in
theorem c_X1_getUp (l : Launch) (D : va_G) (cI : ClassId) (a : Nat → Nat) (σ : zS) {k : Nat} (hk : k < 10) {nb ns h : Nat} (hC : zC σ nb ns h) : zMV l yX1_getUp wsX1_getUp ({ frames := 1, cells := 0, slots := 0, locals := 21 }) [.ref (a 0), .int (nI k)] D [(cI, .int)] (zw_H cI a σ) (zw_H cI a (f_getUp σ k)) := by
  intro sz
  refine Met.ofW (cc := cX1_getUp) (maxL := 3) (ret := none) (by decide) rfl ?_
  intro p e s m args below meth c s₁ B hml hv
  obtain ⟨rfl, hsz, hP, hK, hD⟩ := hv
  have hx := B.exec
  have hb := B.bytes
  have hr := B.returns
  have hts := atoms_spec (ws := wsX1_getUp) B.pre
  have hown : s.vm.findClass RX1 = some m.cls := findClass_of_methodNamed B.named
  have hlocks := B.notSynchronized
  subst hsz
  have hD := hD.self (sz := s.heap.size)
  generalize hAe : va_A (zw_H cI a σ) s.heap.size = A at hD ⊢
  have hA : ∀ q : Nat, s.heap.size ≤ q → A q := fun q h => by rw [← hAe]; exact Or.inr h
  have hS : va_S A s.heap s.heap [] := va_S.rf
  have hP : va_P D vwCl (zw_H cI a σ) s.heap := hP
  have hl := lv_entry ([.ref (a 0), .int (nI k)]) (n := 3) (Nat.le_of_ble_eq_true rfl)
  rw [lg_entry_eq]
  generalize (lg_sl ([.ref (a 0), .int (nI k)]) ++ List.replicate (3 - (lg_sl ([.ref (a 0), .int (nI k)])).length) Slot.unset).toArray = ls at hl ⊢
  have hl : lv_has ls 3 [(0, .ref (a 0)), (1, .int (nI k))] := hl
  have hf22 := hts (.fieldLink RX1 22 "HotBeds$House" "beds" "LHotBeds$Beds;") (by decide +kernel)
  have hf29 := hts (.fieldLink RX1 29 "HotBeds$House" "sailors" "LHotBeds$Sailors;") (by decide +kernel)
  have hf61 := hts (.fieldLink RX1 61 "HotBeds$Sailors" "bed" "[I") (by decide +kernel)
  have hf68 := hts (.fieldLink RX1 68 "HotBeds$Beds" "sleeper" "[I") (by decide +kernel)
  have hf71 := hts (.fieldLink RX1 71 "HotBeds$Sailors" "place" "[I") (by decide +kernel)
  have hinX0 : ∀ w ∈ u_ws RX0 TX0 6, w ∈ wsX1_getUp := by decide +kernel
  have hinX1 : ∀ w ∈ u_ws RX1 TX1 5, w ∈ wsX1_getUp := by decide +kernel
  have hinX2 : ∀ w ∈ u_ws RX2 TX2 13, w ∈ wsX1_getUp := by decide +kernel
  have hnb := hC.2.1
  have hns := hC.2.2.2.1
  have hh := hC.2.2.2.2.2.1
  refine lv_aload_n hx hb dX1_getUp_0 rfl (lv_at hl 0 rfl) ?_
  refine va_get (D := D) (ci := 1) (v := .ref (a 2)) (C := RX1) (T := TX1) (N := 5) hx hb hts hinX1 hown hK hP 0 rfl rfl 4 (by decide) hf29 (fun _ h9 => h9) rfl dX1_getUp_1 ?_
  refine va_get (D := D) (ci := 2) (v := .ref (a 15)) (C := RX2) (T := TX2) (N := 13) hx hb hts hinX2 hown hK hP 2 rfl rfl 8 (by decide) hf61 (fun _ h9 => h9) rfl dX1_getUp_4 ?_
  refine lv_iload_n hx hb dX1_getUp_7 rfl (lv_at hl 1 rfl) ?_
  refine zk_ld hx hb hK hP 15 0 (zwq13 cI a _) rfl (k := k) hk (by decide) (v := σ 13 k) rfl dX1_getUp_8 ?_
  refine lv_istore_n (lv' := [(2, .int (σ 13 k)), (0, .ref (a 0)), (1, .int (nI k))]) hx hb dX1_getUp_9 rfl hl (by decide) rfl (fun ls hl => ?_)
  refine lv_aload_n hx hb dX1_getUp_10 rfl (lv_at hl 1 rfl) ?_
  refine va_get (D := D) (ci := 1) (v := .ref (a 1)) (C := RX1) (T := TX1) (N := 5) hx hb hts hinX1 hown hK hP 0 rfl rfl 3 (by decide) hf22 (fun _ h9 => h9) rfl dX1_getUp_11 ?_
  refine lv_iload_n hx hb dX1_getUp_14 rfl (lv_at hl 0 rfl) ?_
  refine zk_R (D := D) (va_runV (As := [.int (σ 13 k)]) (rest := []) ⟨hx, hb, hml, hown, hts⟩ (c_X0_has l D cI a σ (σ 13 k) _) (cwV 1 hts gX1_getUp_X0_has rfl rfl rfl zdX0_has ⟨Nat.le_of_ble_eq_true rfl, Nat.le_of_ble_eq_true rfl⟩) ⟨zbl _, va_recv hK hP (ci := 0) (q0 := 1) rfl rfl, zpr hK hP hD⟩ rfl rfl hl.1 rfl (lv_room (Nat.le_of_ble_eq_true rfl)) dX1_getUp_15 ⟨Nat.zero_le _, Nat.zero_le _⟩) hS (fun r_1 H locs hw hkp hS => ?_)
  have hP := hkp _ hP
  rcases hw with ⟨c_2, rfl⟩ | ⟨c_2, rfl⟩
  · refine lv_if_eq (tgt := 31) hx hb dX1_getUp_18 (by decide) (fun c => absurd c (by decide)) (fun _ => ?_)
    refine lv_aload_n hx hb dX1_getUp_21 rfl (lv_at hl 1 rfl) ?_
    refine va_get (D := D) (ci := 1) (v := .ref (a 1)) (C := RX1) (T := TX1) (N := 5) hx hb hts hinX1 hown hK hP 0 rfl rfl 3 (by decide) hf22 (fun _ h9 => h9) rfl dX1_getUp_22 ?_
    refine va_get (D := D) (ci := 0) (v := .ref (a 7)) (C := RX0) (T := TX0) (N := 6) hx hb hts hinX0 hown hK hP 1 rfl rfl 5 (by decide) hf68 (fun _ h9 => h9) rfl dX1_getUp_25 ?_
    refine lv_iload_n hx hb dX1_getUp_28 rfl (lv_at hl 0 rfl) ?_
    refine lv_iconst (v := (-1)) hx hb dX1_getUp_29 (by decide) ?_
    refine va_iast hx hb hK hP hD hS 7 0 (zwq5 cI a _) rfl (zin hC c_2) dX1_getUp_30 (fun H locs hP hD hS => ?_)
    have hP : va_P D vwCl (zw_H cI a (zs σ 5 ((σ 13 k).toNatClampNeg) (-1))) H := hP
    have hD : va_D A (zw_H cI a (zs σ 5 ((σ 13 k).toNatClampNeg) (-1))) := hD
    refine lv_aload_n hx hb dX1_getUp_31 rfl (lv_at hl 1 rfl) ?_
    refine va_get (D := D) (ci := 1) (v := .ref (a 2)) (C := RX1) (T := TX1) (N := 5) hx hb hts hinX1 hown hK hP 0 rfl rfl 4 (by decide) hf29 (fun _ h9 => h9) rfl dX1_getUp_32 ?_
    refine va_get (D := D) (ci := 2) (v := .ref (a 15)) (C := RX2) (T := TX2) (N := 13) hx hb hts hinX2 hown hK hP 2 rfl rfl 8 (by decide) hf61 (fun _ h9 => h9) rfl dX1_getUp_35 ?_
    refine lv_iload_n hx hb dX1_getUp_38 rfl (lv_at hl 2 rfl) ?_
    refine lv_iconst (v := (-1)) hx hb dX1_getUp_39 (by decide) ?_
    refine zk_st hx hb hK hP hD hS 15 0 (zwq13 cI a _) rfl (k := k) hk (by decide) (zws13 cI a _ _ _) dX1_getUp_40 (fun H locs hP hD hS => ?_)
    have hP : va_P D vwCl (zw_H cI a (zs (zs σ 5 ((σ 13 k).toNatClampNeg) (-1)) 13 k (-1))) H := hP
    have hD : va_D A (zw_H cI a (zs (zs σ 5 ((σ 13 k).toNatClampNeg) (-1)) 13 k (-1))) := hD
    refine lv_aload_n hx hb dX1_getUp_41 rfl (lv_at hl 1 rfl) ?_
    refine va_get (D := D) (ci := 1) (v := .ref (a 2)) (C := RX1) (T := TX1) (N := 5) hx hb hts hinX1 hown hK hP 0 rfl rfl 4 (by decide) hf29 (fun _ h9 => h9) rfl dX1_getUp_42 ?_
    refine va_get (D := D) (ci := 2) (v := .ref (a 14)) (C := RX2) (T := TX2) (N := 13) hx hb hts hinX2 hown hK hP 2 rfl rfl 7 (by decide) hf71 (fun _ h9 => h9) rfl dX1_getUp_45 ?_
    refine lv_iload_n hx hb dX1_getUp_48 rfl (lv_at hl 2 rfl) ?_
    refine lv_iconst (v := 0) hx hb dX1_getUp_49 (by decide) ?_
    refine zk_st hx hb hK hP hD hS 14 0 (zwq12 cI a _) rfl (k := k) hk (by decide) (zws12 cI a _ _ _) dX1_getUp_50 (fun H locs hP hD hS => ?_)
    have hP : va_P D vwCl (zw_H cI a (zs (zs (zs σ 5 ((σ 13 k).toNatClampNeg) (-1)) 13 k (-1)) 12 k 0)) H := hP
    have hD : va_D A (zw_H cI a (zs (zs (zs σ 5 ((σ 13 k).toNatClampNeg) (-1)) 13 k (-1)) 12 k 0)) := hD
    have e9 : f_getUp σ k = zs (zs (zs σ 5 ((σ 13 k).toNatClampNeg) (-1)) 13 k (-1)) 12 k 0 := by simp only [f_getUp, f_leave, if_pos c_2]
    have hP9 : va_P D vwCl (zw_H cI a (f_getUp σ k)) H := by rw [e9]; exact hP
    have hD9 : va_D A (zw_H cI a (f_getUp σ k)) := by rw [e9]; exact hD
    exact W.vret hx hb hr (fun t ht hW => ⟨⟨(), rfl, trivial, by rw [ht]; exact hP9, va_K.moved hW.alike hK, hD9⟩, hS.F ht⟩) hS.2.2 dX1_getUp_51
  · refine lv_if_eq (tgt := 31) hx hb dX1_getUp_18 (by decide) (fun _ => ?_) (fun c => absurd (by decide) c)
    refine lv_aload_n hx hb dX1_getUp_31 rfl (lv_at hl 1 rfl) ?_
    refine va_get (D := D) (ci := 1) (v := .ref (a 2)) (C := RX1) (T := TX1) (N := 5) hx hb hts hinX1 hown hK hP 0 rfl rfl 4 (by decide) hf29 (fun _ h9 => h9) rfl dX1_getUp_32 ?_
    refine va_get (D := D) (ci := 2) (v := .ref (a 15)) (C := RX2) (T := TX2) (N := 13) hx hb hts hinX2 hown hK hP 2 rfl rfl 8 (by decide) hf61 (fun _ h9 => h9) rfl dX1_getUp_35 ?_
    refine lv_iload_n hx hb dX1_getUp_38 rfl (lv_at hl 2 rfl) ?_
    refine lv_iconst (v := (-1)) hx hb dX1_getUp_39 (by decide) ?_
    refine zk_st hx hb hK hP hD hS 15 0 (zwq13 cI a _) rfl (k := k) hk (by decide) (zws13 cI a _ _ _) dX1_getUp_40 (fun H locs hP hD hS => ?_)
    have hP : va_P D vwCl (zw_H cI a (zs σ 13 k (-1))) H := hP
    have hD : va_D A (zw_H cI a (zs σ 13 k (-1))) := hD
    refine lv_aload_n hx hb dX1_getUp_41 rfl (lv_at hl 1 rfl) ?_
    refine va_get (D := D) (ci := 1) (v := .ref (a 2)) (C := RX1) (T := TX1) (N := 5) hx hb hts hinX1 hown hK hP 0 rfl rfl 4 (by decide) hf29 (fun _ h9 => h9) rfl dX1_getUp_42 ?_
    refine va_get (D := D) (ci := 2) (v := .ref (a 14)) (C := RX2) (T := TX2) (N := 13) hx hb hts hinX2 hown hK hP 2 rfl rfl 7 (by decide) hf71 (fun _ h9 => h9) rfl dX1_getUp_45 ?_
    refine lv_iload_n hx hb dX1_getUp_48 rfl (lv_at hl 2 rfl) ?_
    refine lv_iconst (v := 0) hx hb dX1_getUp_49 (by decide) ?_
    refine zk_st hx hb hK hP hD hS 14 0 (zwq12 cI a _) rfl (k := k) hk (by decide) (zws12 cI a _ _ _) dX1_getUp_50 (fun H locs hP hD hS => ?_)
    have hP : va_P D vwCl (zw_H cI a (zs (zs σ 13 k (-1)) 12 k 0)) H := hP
    have hD : va_D A (zw_H cI a (zs (zs σ 13 k (-1)) 12 k 0)) := hD
    have e9 : f_getUp σ k = zs (zs σ 13 k (-1)) 12 k 0 := by simp only [f_getUp, f_leave, if_neg c_2]
    have hP9 : va_P D vwCl (zw_H cI a (f_getUp σ k)) H := by rw [e9]; exact hP
    have hD9 : va_D A (zw_H cI a (f_getUp σ k)) := by rw [e9]; exact hD
    exact W.vret hx hb hr (fun t ht hW => ⟨⟨(), rfl, trivial, by rw [ht]; exact hP9, va_K.moved hW.alike hK, hD9⟩, hS.F ht⟩) hS.2.2 dX1_getUp_51

set_option maxHeartbeats 4000000 in
set_option maxRecDepth 100000 in
theorem c_X1_pawnBoots (l : Launch) (D : va_G) (cI : ClassId) (a : Nat → Nat) (σ : zS) {k : Nat} (hk : k < 10) : zMV l yX1_pawnBoots wsX1_pawnBoots ({ frames := 2, cells := 0, slots := 0, locals := 37 }) [.ref (a 0), .int (nI k)] D [(cI, .int)] (zw_H cI a σ) (zw_H cI a (f_pawnB σ k)) := by
  intro sz
  refine Met.ofW (cc := cX1_pawnBoots) (maxL := 2) (ret := none) (by decide) rfl ?_
  intro p e s m args below meth c s₁ B hml hv
  obtain ⟨rfl, hsz, hP, hK, hD⟩ := hv
  have hx := B.exec
  have hb := B.bytes
  have hr := B.returns
  have hts := atoms_spec (ws := wsX1_pawnBoots) B.pre
  have hown : s.vm.findClass RX1 = some m.cls := findClass_of_methodNamed B.named
  have hlocks := B.notSynchronized
  subst hsz
  have hD := hD.self (sz := s.heap.size)
  generalize hAe : va_A (zw_H cI a σ) s.heap.size = A at hD ⊢
  have hA : ∀ q : Nat, s.heap.size ≤ q → A q := fun q h => by rw [← hAe]; exact Or.inr h
  have hS : va_S A s.heap s.heap [] := va_S.rf
  have hP : va_P D vwCl (zw_H cI a σ) s.heap := hP
  have hl := lv_entry ([.ref (a 0), .int (nI k)]) (n := 2) (Nat.le_of_ble_eq_true rfl)
  rw [lg_entry_eq]
  generalize (lg_sl ([.ref (a 0), .int (nI k)]) ++ List.replicate (2 - (lg_sl ([.ref (a 0), .int (nI k)])).length) Slot.unset).toArray = ls at hl ⊢
  have hl : lv_has ls 2 [(0, .ref (a 0)), (1, .int (nI k))] := hl
  have hf16 := hts (.fieldLink RX1 16 "HotBeds$House" "pawn" "I") (by decide +kernel)
  have hf29 := hts (.fieldLink RX1 29 "HotBeds$House" "sailors" "LHotBeds$Sailors;") (by decide +kernel)
  have hf74 := hts (.fieldLink RX1 74 "HotBeds$Sailors" "boots" "[I") (by decide +kernel)
  have hinX1 : ∀ w ∈ u_ws RX1 TX1 5, w ∈ wsX1_pawnBoots := by decide +kernel
  have hinX2 : ∀ w ∈ u_ws RX2 TX2 13, w ∈ wsX1_pawnBoots := by decide +kernel
  refine lv_aload_n hx hb dX1_pawnBoots_0 rfl (lv_at hl 0 rfl) ?_
  refine va_get (D := D) (ci := 1) (v := .ref (a 2)) (C := RX1) (T := TX1) (N := 5) hx hb hts hinX1 hown hK hP 0 rfl rfl 4 (by decide) hf29 (fun _ h9 => h9) rfl dX1_pawnBoots_1 ?_
  refine va_get (D := D) (ci := 2) (v := .ref (a 12)) (C := RX2) (T := TX2) (N := 13) hx hb hts hinX2 hown hK hP 2 rfl rfl 5 (by decide) hf74 (fun _ h9 => h9) rfl dX1_pawnBoots_4 ?_
  refine lv_iload_n hx hb dX1_pawnBoots_7 rfl (lv_at hl 1 rfl) ?_
  refine lv_iconst (v := 0) hx hb dX1_pawnBoots_8 (by decide) ?_
  refine zk_st hx hb hK hP hD hS 12 0 (zwq10 cI a _) rfl (k := k) hk (by decide) (zws10 cI a _ _ _) dX1_pawnBoots_9 (fun H locs hP hD hS => ?_)
  have hP : va_P D vwCl (zw_H cI a (zs σ 10 k 0)) H := hP
  have hD : va_D A (zw_H cI a (zs σ 10 k 0)) := hD
  refine lv_aload_n hx hb dX1_pawnBoots_10 rfl (lv_at hl 0 rfl) ?_
  refine va_get (D := D) (ci := 1) (v := .ref (a 2)) (C := RX1) (T := TX1) (N := 5) hx hb hts hinX1 hown hK hP 0 rfl rfl 4 (by decide) hf29 (fun _ h9 => h9) rfl dX1_pawnBoots_11 ?_
  refine lv_iload_n hx hb dX1_pawnBoots_14 rfl (lv_at hl 1 rfl) ?_
  refine lv_aload_n hx hb dX1_pawnBoots_15 rfl (lv_at hl 0 rfl) ?_
  refine va_get (D := D) (ci := 1) (v := .int (σ 0 2)) (C := RX1) (T := TX1) (N := 5) hx hb hts hinX1 hown hK hP 0 rfl rfl 2 (by decide) hf16 (fun _ h9 => h9) rfl dX1_pawnBoots_16 ?_
  have hF := zfree hD hS hA
  refine zk_V (va_runV (As := [.int (nI k), .int (σ 0 2)]) (rest := []) ⟨hx, hb, hml, hown, hts⟩ (c_X2_earn l D cI a (zs σ 10 k 0) (k := k) hk (σ 0 2) _) (cwV 2 hts gX1_pawnBoots_X2_earn rfl rfl rfl zdX2_earn ⟨Nat.le_of_ble_eq_true rfl, Nat.le_of_ble_eq_true rfl⟩) ⟨zbl _, va_recv hK hP (ci := 2) (q0 := 2) rfl rfl, zpr hK hP hD⟩ rfl rfl hl.1 rfl (lv_room (Nat.le_of_ble_eq_true rfl)) dX1_pawnBoots_19 ⟨Nat.zero_le _, Nat.zero_le _⟩) hS hF (fun H locs hkp hP1 hD1 hS => ?_)
  have hP := hP1
  have hD := hD1.weaken (fun _ _ _ z => hF _ z)
  have hP : va_P D vwCl (zw_H cI a (f_earn (zs σ 10 k 0) k (σ 0 2))) H := hP
  have hD : va_D A (zw_H cI a (f_earn (zs σ 10 k 0) k (σ 0 2))) := hD
  have e9 : f_pawnB σ k = f_earn (zs σ 10 k 0) k (σ 0 2) := by simp only [f_pawnB]
  have hP9 : va_P D vwCl (zw_H cI a (f_pawnB σ k)) H := by rw [e9]; exact hP
  have hD9 : va_D A (zw_H cI a (f_pawnB σ k)) := by rw [e9]; exact hD
  exact W.vret hx hb hr (fun t ht hW => ⟨⟨(), rfl, trivial, by rw [ht]; exact hP9, va_K.moved hW.alike hK, hD9⟩, hS.F ht⟩) hS.2.2 dX1_pawnBoots_22

set_option maxHeartbeats 4000000 in
set_option maxRecDepth 100000 in
theorem c_X1_canRedeemBoots (l : Launch) (D : va_G) (cI : ClassId) (a : Nat → Nat) (σ : zS) {k : Nat} (hk : k < 10) : zMR l yX1_canRedeemBoots wsX1_canRedeemBoots ({ frames := 1, cells := 0, slots := 0, locals := 21 }) [.ref (a 0), .int (nI k)] D [(cI, .int)] (zw_H cI a σ) (zb (f_can σ k)) := by
  intro sz
  refine Met.ofW (cc := cX1_canRedeemBoots) (maxL := 2) (ret := (some .boolean)) (by decide) rfl ?_
  intro p e s m args below meth c s₁ B hml hv
  obtain ⟨rfl, hsz, hP, hK, hD⟩ := hv
  have hx := B.exec
  have hb := B.bytes
  have hr := B.returns
  have hts := atoms_spec (ws := wsX1_canRedeemBoots) B.pre
  have hown : s.vm.findClass RX1 = some m.cls := findClass_of_methodNamed B.named
  have hlocks := B.notSynchronized
  have hS : va_S (fun _ => False) s.heap s.heap [] := va_S.rf
  have hP : va_P D vwCl (zw_H cI a σ) s.heap := hP
  have hl := lv_entry ([.ref (a 0), .int (nI k)]) (n := 2) (Nat.le_of_ble_eq_true rfl)
  rw [lg_entry_eq]
  generalize (lg_sl ([.ref (a 0), .int (nI k)]) ++ List.replicate (2 - (lg_sl ([.ref (a 0), .int (nI k)])).length) Slot.unset).toArray = ls at hl ⊢
  have hl : lv_has ls 2 [(0, .ref (a 0)), (1, .int (nI k))] := hl
  have hf16 := hts (.fieldLink RX1 16 "HotBeds$House" "pawn" "I") (by decide +kernel)
  have hf29 := hts (.fieldLink RX1 29 "HotBeds$House" "sailors" "LHotBeds$Sailors;") (by decide +kernel)
  have hf84 := hts (.fieldLink RX1 84 "HotBeds$Sailors" "purse" "[I") (by decide +kernel)
  have hinX1 : ∀ w ∈ u_ws RX1 TX1 5, w ∈ wsX1_canRedeemBoots := by decide +kernel
  have hinX2 : ∀ w ∈ u_ws RX2 TX2 13, w ∈ wsX1_canRedeemBoots := by decide +kernel
  refine lv_aload_n hx hb dX1_canRedeemBoots_0 rfl (lv_at hl 0 rfl) ?_
  refine va_get (D := D) (ci := 1) (v := .ref (a 2)) (C := RX1) (T := TX1) (N := 5) hx hb hts hinX1 hown hK hP 0 rfl rfl 4 (by decide) hf29 (fun _ h9 => h9) rfl dX1_canRedeemBoots_1 ?_
  refine lv_iload_n hx hb dX1_canRedeemBoots_4 rfl (lv_at hl 1 rfl) ?_
  refine zk_R (D := D) (va_runV (As := [.int (nI k)]) (rest := []) ⟨hx, hb, hml, hown, hts⟩ (c_X2_hasBoots l D cI a σ (k := k) hk _) (cwV 1 hts gX1_canRedeemBoots_X2_hasBoots rfl rfl rfl zdX2_hasBoots ⟨Nat.le_of_ble_eq_true rfl, Nat.le_of_ble_eq_true rfl⟩) ⟨zbl _, va_recv hK hP (ci := 2) (q0 := 2) rfl rfl, zpr hK hP hD⟩ rfl rfl hl.1 rfl (lv_room (Nat.le_of_ble_eq_true rfl)) dX1_canRedeemBoots_5 ⟨Nat.zero_le _, Nat.zero_le _⟩) hS (fun r_1 H locs hw hkp hS => ?_)
  have hP := hkp _ hP
  rcases hw with ⟨c_2, rfl⟩ | ⟨c_2, rfl⟩
  · refine lv_if_ne (tgt := 33) hx hb dX1_canRedeemBoots_8 (by decide) (fun _ => ?_) (fun c => absurd c (by decide))
    refine lv_iconst (v := 0) hx hb dX1_canRedeemBoots_33 (by decide) ?_
    exact W.zret (v := 0) hx hb hr rfl (fun t ht hW => ⟨⟨0, (), rfl, Or.inr ⟨(fun z => z.1 c_2), rfl⟩, trivial⟩, hS.F ht⟩) hS.2.2 dX1_canRedeemBoots_34
  · refine lv_if_ne (tgt := 33) hx hb dX1_canRedeemBoots_8 (by decide) (fun c => absurd (by decide) c) (fun _ => ?_)
    refine lv_aload_n hx hb dX1_canRedeemBoots_11 rfl (lv_at hl 0 rfl) ?_
    refine va_get (D := D) (ci := 1) (v := .ref (a 2)) (C := RX1) (T := TX1) (N := 5) hx hb hts hinX1 hown hK hP 0 rfl rfl 4 (by decide) hf29 (fun _ h9 => h9) rfl dX1_canRedeemBoots_12 ?_
    refine va_get (D := D) (ci := 2) (v := .ref (a 11)) (C := RX2) (T := TX2) (N := 13) hx hb hts hinX2 hown hK hP 2 rfl rfl 4 (by decide) hf84 (fun _ h9 => h9) rfl dX1_canRedeemBoots_15 ?_
    refine lv_iload_n hx hb dX1_canRedeemBoots_18 rfl (lv_at hl 1 rfl) ?_
    refine zk_ld hx hb hK hP 11 0 (zwq9 cI a _) rfl (k := k) hk (by decide) (v := σ 9 k) rfl dX1_canRedeemBoots_19 ?_
    refine lv_aload_n hx hb dX1_canRedeemBoots_20 rfl (lv_at hl 0 rfl) ?_
    refine va_get (D := D) (ci := 1) (v := .int (σ 0 2)) (C := RX1) (T := TX1) (N := 5) hx hb hts hinX1 hown hK hP 0 rfl rfl 2 (by decide) hf16 (fun _ h9 => h9) rfl dX1_canRedeemBoots_21 ?_
    refine lv_iconst (v := 2) hx hb dX1_canRedeemBoots_24 (by decide) ?_
    refine lv_iadd hx hb dX1_canRedeemBoots_25 ?_
    refine lv_icmp_lt (tgt := 33) hx hb dX1_canRedeemBoots_26 (by decide) (fun c_5 => ?_) (fun c_5 => ?_)
    · refine lv_iconst (v := 0) hx hb dX1_canRedeemBoots_33 (by decide) ?_
      exact W.zret (v := 0) hx hb hr rfl (fun t ht hW => ⟨⟨0, (), rfl, Or.inr ⟨(fun z => z.2 c_5), rfl⟩, trivial⟩, hS.F ht⟩) hS.2.2 dX1_canRedeemBoots_34
    · refine lv_iconst (v := 1) hx hb dX1_canRedeemBoots_29 (by decide) ?_
      refine lv_goto (tgt := 34) hx hb dX1_canRedeemBoots_30 (by decide) ?_
      exact W.zret (v := 1) hx hb hr rfl (fun t ht hW => ⟨⟨1, (), rfl, Or.inl ⟨⟨c_2, c_5⟩, rfl⟩, trivial⟩, hS.F ht⟩) hS.2.2 dX1_canRedeemBoots_34

set_option maxHeartbeats 4000000 in
set_option maxRecDepth 100000 in
theorem c_X1_redeemBoots (l : Launch) (D : va_G) (cI : ClassId) (a : Nat → Nat) (σ : zS) {k : Nat} (hk : k < 10) : zMV l yX1_redeemBoots wsX1_redeemBoots ({ frames := 0, cells := 0, slots := 0, locals := 0 }) [.ref (a 0), .int (nI k)] D [(cI, .int)] (zw_H cI a σ) (zw_H cI a (f_red σ k)) := by
  intro sz
  refine Met.ofW (cc := cX1_redeemBoots) (maxL := 2) (ret := none) (by decide) rfl ?_
  intro p e s m args below meth c s₁ B hml hv
  obtain ⟨rfl, hsz, hP, hK, hD⟩ := hv
  have hx := B.exec
  have hb := B.bytes
  have hr := B.returns
  have hts := atoms_spec (ws := wsX1_redeemBoots) B.pre
  have hown : s.vm.findClass RX1 = some m.cls := findClass_of_methodNamed B.named
  have hlocks := B.notSynchronized
  subst hsz
  have hD := hD.self (sz := s.heap.size)
  generalize hAe : va_A (zw_H cI a σ) s.heap.size = A at hD ⊢
  have hA : ∀ q : Nat, s.heap.size ≤ q → A q := fun q h => by rw [← hAe]; exact Or.inr h
  have hS : va_S A s.heap s.heap [] := va_S.rf
  have hP : va_P D vwCl (zw_H cI a σ) s.heap := hP
  have hl := lv_entry ([.ref (a 0), .int (nI k)]) (n := 2) (Nat.le_of_ble_eq_true rfl)
  rw [lg_entry_eq]
  generalize (lg_sl ([.ref (a 0), .int (nI k)]) ++ List.replicate (2 - (lg_sl ([.ref (a 0), .int (nI k)])).length) Slot.unset).toArray = ls at hl ⊢
  have hl : lv_has ls 2 [(0, .ref (a 0)), (1, .int (nI k))] := hl
  have hf16 := hts (.fieldLink RX1 16 "HotBeds$House" "pawn" "I") (by decide +kernel)
  have hf29 := hts (.fieldLink RX1 29 "HotBeds$House" "sailors" "LHotBeds$Sailors;") (by decide +kernel)
  have hf74 := hts (.fieldLink RX1 74 "HotBeds$Sailors" "boots" "[I") (by decide +kernel)
  have hf84 := hts (.fieldLink RX1 84 "HotBeds$Sailors" "purse" "[I") (by decide +kernel)
  have hinX1 : ∀ w ∈ u_ws RX1 TX1 5, w ∈ wsX1_redeemBoots := by decide +kernel
  have hinX2 : ∀ w ∈ u_ws RX2 TX2 13, w ∈ wsX1_redeemBoots := by decide +kernel
  refine lv_aload_n hx hb dX1_redeemBoots_0 rfl (lv_at hl 0 rfl) ?_
  refine va_get (D := D) (ci := 1) (v := .ref (a 2)) (C := RX1) (T := TX1) (N := 5) hx hb hts hinX1 hown hK hP 0 rfl rfl 4 (by decide) hf29 (fun _ h9 => h9) rfl dX1_redeemBoots_1 ?_
  refine va_get (D := D) (ci := 2) (v := .ref (a 11)) (C := RX2) (T := TX2) (N := 13) hx hb hts hinX2 hown hK hP 2 rfl rfl 4 (by decide) hf84 (fun _ h9 => h9) rfl dX1_redeemBoots_4 ?_
  refine lv_iload_n hx hb dX1_redeemBoots_7 rfl (lv_at hl 1 rfl) ?_
  refine lv_dup2_11 hx hb dX1_redeemBoots_8 rfl rfl ?_
  refine zk_ld hx hb hK hP 11 0 (zwq9 cI a _) rfl (k := k) hk (by decide) (v := σ 9 k) rfl dX1_redeemBoots_9 ?_
  refine lv_aload_n hx hb dX1_redeemBoots_10 rfl (lv_at hl 0 rfl) ?_
  refine va_get (D := D) (ci := 1) (v := .int (σ 0 2)) (C := RX1) (T := TX1) (N := 5) hx hb hts hinX1 hown hK hP 0 rfl rfl 2 (by decide) hf16 (fun _ h9 => h9) rfl dX1_redeemBoots_11 ?_
  refine lv_iconst (v := 2) hx hb dX1_redeemBoots_14 (by decide) ?_
  refine lv_iadd hx hb dX1_redeemBoots_15 ?_
  refine lv_isub hx hb dX1_redeemBoots_16 ?_
  refine zk_st hx hb hK hP hD hS 11 0 (zwq9 cI a _) rfl (k := k) hk (by decide) (zws9 cI a _ _ _) dX1_redeemBoots_17 (fun H locs hP hD hS => ?_)
  have hP : va_P D vwCl (zw_H cI a (zs σ 9 k ((σ 9 k) - ((σ 0 2) + 2)))) H := hP
  have hD : va_D A (zw_H cI a (zs σ 9 k ((σ 9 k) - ((σ 0 2) + 2)))) := hD
  refine lv_aload_n hx hb dX1_redeemBoots_18 rfl (lv_at hl 0 rfl) ?_
  refine va_get (D := D) (ci := 1) (v := .ref (a 2)) (C := RX1) (T := TX1) (N := 5) hx hb hts hinX1 hown hK hP 0 rfl rfl 4 (by decide) hf29 (fun _ h9 => h9) rfl dX1_redeemBoots_19 ?_
  refine va_get (D := D) (ci := 2) (v := .ref (a 12)) (C := RX2) (T := TX2) (N := 13) hx hb hts hinX2 hown hK hP 2 rfl rfl 5 (by decide) hf74 (fun _ h9 => h9) rfl dX1_redeemBoots_22 ?_
  refine lv_iload_n hx hb dX1_redeemBoots_25 rfl (lv_at hl 1 rfl) ?_
  refine lv_iconst (v := 1) hx hb dX1_redeemBoots_26 (by decide) ?_
  refine zk_st hx hb hK hP hD hS 12 0 (zwq10 cI a _) rfl (k := k) hk (by decide) (zws10 cI a _ _ _) dX1_redeemBoots_27 (fun H locs hP hD hS => ?_)
  have hP : va_P D vwCl (zw_H cI a (zs (zs σ 9 k ((σ 9 k) - ((σ 0 2) + 2))) 10 k 1)) H := hP
  have hD : va_D A (zw_H cI a (zs (zs σ 9 k ((σ 9 k) - ((σ 0 2) + 2))) 10 k 1)) := hD
  have e9 : f_red σ k = zs (zs σ 9 k ((σ 9 k) - ((σ 0 2) + 2))) 10 k 1 := by simp only [f_red]
  have hP9 : va_P D vwCl (zw_H cI a (f_red σ k)) H := by rw [e9]; exact hP
  have hD9 : va_D A (zw_H cI a (f_red σ k)) := by rw [e9]; exact hD
  exact W.vret hx hb hr (fun t ht hW => ⟨⟨(), rfl, trivial, by rw [ht]; exact hP9, va_K.moved hW.alike hK, hD9⟩, hS.F ht⟩) hS.2.2 dX1_redeemBoots_28

set_option maxHeartbeats 4000000 in
set_option maxRecDepth 100000 in
theorem c_X1_ringBell (l : Launch) (D : va_G) (cI : ClassId) (a : Nat → Nat) (σ : zS) {k : Nat} (hk : k < 10) {nb ns h : Nat} (hC : zC σ nb ns h) : zMV l yX1_ringBell wsX1_ringBell ({ frames := 2, cells := 0, slots := 0, locals := 43 }) [.ref (a 0), .int (nI k)] D [(cI, .int)] (zw_H cI a σ) (zw_H cI a (f_ring σ h k)) := by
  intro sz
  refine Met.ofW (cc := cX1_ringBell) (maxL := 3) (ret := none) (by decide) rfl ?_
  intro p e s m args below meth c s₁ B hml hv
  obtain ⟨rfl, hsz, hP, hK, hD⟩ := hv
  have hx := B.exec
  have hb := B.bytes
  have hr := B.returns
  have hts := atoms_spec (ws := wsX1_ringBell) B.pre
  have hown : s.vm.findClass RX1 = some m.cls := findClass_of_methodNamed B.named
  have hlocks := B.notSynchronized
  subst hsz
  have hD := hD.self (sz := s.heap.size)
  generalize hAe : va_A (zw_H cI a σ) s.heap.size = A at hD ⊢
  have hA : ∀ q : Nat, s.heap.size ≤ q → A q := fun q h => by rw [← hAe]; exact Or.inr h
  have hS : va_S A s.heap s.heap [] := va_S.rf
  have hP : va_P D vwCl (zw_H cI a σ) s.heap := hP
  have hl := lv_entry ([.ref (a 0), .int (nI k)]) (n := 3) (Nat.le_of_ble_eq_true rfl)
  rw [lg_entry_eq]
  generalize (lg_sl ([.ref (a 0), .int (nI k)]) ++ List.replicate (3 - (lg_sl ([.ref (a 0), .int (nI k)])).length) Slot.unset).toArray = ls at hl ⊢
  have hl : lv_has ls 3 [(0, .ref (a 0)), (1, .int (nI k))] := hl
  have hf13 := hts (.fieldLink RX1 13 "HotBeds$House" "bell" "I") (by decide +kernel)
  have hf29 := hts (.fieldLink RX1 29 "HotBeds$House" "sailors" "LHotBeds$Sailors;") (by decide +kernel)
  have hf96 := hts (.fieldLink RX1 96 "HotBeds$Sailors" "heavy" "[I") (by decide +kernel)
  have hinX1 : ∀ w ∈ u_ws RX1 TX1 5, w ∈ wsX1_ringBell := by decide +kernel
  have hinX2 : ∀ w ∈ u_ws RX2 TX2 13, w ∈ wsX1_ringBell := by decide +kernel
  have hnb := hC.2.1
  have hns := hC.2.2.2.1
  have hh := hC.2.2.2.2.2.1
  refine lv_aload_n hx hb dX1_ringBell_0 rfl (lv_at hl 0 rfl) ?_
  refine va_get (D := D) (ci := 1) (v := .ref (a 2)) (C := RX1) (T := TX1) (N := 5) hx hb hts hinX1 hown hK hP 0 rfl rfl 4 (by decide) hf29 (fun _ h9 => h9) rfl dX1_ringBell_1 ?_
  refine lv_iload_n hx hb dX1_ringBell_4 rfl (lv_at hl 1 rfl) ?_
  refine zk_R (D := D) (va_runV (As := [.int (nI k)]) (rest := []) ⟨hx, hb, hml, hown, hts⟩ (c_X2_isUp l D cI a σ (k := k) hk _) (cwV 1 hts gX1_ringBell_X2_isUp rfl rfl rfl zdX2_isUp ⟨Nat.le_of_ble_eq_true rfl, Nat.le_of_ble_eq_true rfl⟩) ⟨zbl _, va_recv hK hP (ci := 2) (q0 := 2) rfl rfl, zpr hK hP hD⟩ rfl rfl hl.1 rfl (lv_room (Nat.le_of_ble_eq_true rfl)) dX1_ringBell_5 ⟨Nat.zero_le _, Nat.zero_le _⟩) hS (fun r_1 H locs hw hkp hS => ?_)
  have hP := hkp _ hP
  rcases hw with ⟨c_2, rfl⟩ | ⟨c_2, rfl⟩
  · refine lv_if_ne (tgt := 19) hx hb dX1_ringBell_8 (by decide) (fun _ => ?_) (fun c => absurd c (by decide))
    have e9 : f_ring σ h k = σ := by simp only [f_ring, if_pos c_2]
    have hP9 : va_P D vwCl (zw_H cI a (f_ring σ h k)) H := by rw [e9]; exact hP
    have hD9 : va_D A (zw_H cI a (f_ring σ h k)) := by rw [e9]; exact hD
    exact W.vret hx hb hr (fun t ht hW => ⟨⟨(), rfl, trivial, by rw [ht]; exact hP9, va_K.moved hW.alike hK, hD9⟩, hS.F ht⟩) hS.2.2 dX1_ringBell_19
  · refine lv_if_ne (tgt := 19) hx hb dX1_ringBell_8 (by decide) (fun c => absurd (by decide) c) (fun _ => ?_)
    refine lv_aload_n hx hb dX1_ringBell_11 rfl (lv_at hl 0 rfl) ?_
    refine lv_iload_n hx hb dX1_ringBell_12 rfl (lv_at hl 1 rfl) ?_
    refine zk_R (D := D) (va_runV (As := [.int (nI k)]) (rest := []) ⟨hx, hb, hml, hown, hts⟩ (c_X1_isInWatch l D cI a σ (k := k) hk hC _) (cwV 1 hts gX1_ringBell_X1_isInWatch rfl rfl rfl zdX1_isInWatch ⟨Nat.le_of_ble_eq_true rfl, Nat.le_of_ble_eq_true rfl⟩) ⟨zbl _, va_recv hK hP (ci := 1) (q0 := 0) rfl rfl, zpr hK hP hD⟩ rfl rfl hl.1 rfl (lv_room (Nat.le_of_ble_eq_true rfl)) dX1_ringBell_13 ⟨Nat.zero_le _, Nat.zero_le _⟩) hS (fun r_5 H locs hw hkp hS => ?_)
    have hP := hkp _ hP
    rcases hw with ⟨c_6, rfl⟩ | ⟨c_6, rfl⟩
    · refine lv_if_eq (tgt := 20) hx hb dX1_ringBell_16 (by decide) (fun c => absurd c (by decide)) (fun _ => ?_)
      have e9 : f_ring σ h k = σ := by simp only [f_ring, if_neg c_2, if_pos c_6]
      have hP9 : va_P D vwCl (zw_H cI a (f_ring σ h k)) H := by rw [e9]; exact hP
      have hD9 : va_D A (zw_H cI a (f_ring σ h k)) := by rw [e9]; exact hD
      exact W.vret hx hb hr (fun t ht hW => ⟨⟨(), rfl, trivial, by rw [ht]; exact hP9, va_K.moved hW.alike hK, hD9⟩, hS.F ht⟩) hS.2.2 dX1_ringBell_19
    · refine lv_if_eq (tgt := 20) hx hb dX1_ringBell_16 (by decide) (fun _ => ?_) (fun c => absurd (by decide) c)
      refine lv_aload_n hx hb dX1_ringBell_20 rfl (lv_at hl 0 rfl) ?_
      refine va_get (D := D) (ci := 1) (v := .int (σ 0 1)) (C := RX1) (T := TX1) (N := 5) hx hb hts hinX1 hown hK hP 0 rfl rfl 1 (by decide) hf13 (fun _ h9 => h9) rfl dX1_ringBell_21 ?_
      refine lv_iconst (v := 2) hx hb dX1_ringBell_24 (by decide) ?_
      refine lv_aload_n hx hb dX1_ringBell_25 rfl (lv_at hl 0 rfl) ?_
      refine lv_iload_n hx hb dX1_ringBell_26 rfl (lv_at hl 1 rfl) ?_
      refine zk_R (D := D) (va_runV (As := [.int (nI k)]) (rest := [.int 2, .int (σ 0 1)]) ⟨hx, hb, hml, hown, hts⟩ (c_X1_hoursSinceWatch l D cI a σ (k := k) hk hC _) (cwV 1 hts gX1_ringBell_X1_hoursSinceWatch rfl rfl rfl zdX1_hoursSinceWatch ⟨Nat.le_of_ble_eq_true rfl, Nat.le_of_ble_eq_true rfl⟩) ⟨zbl _, va_recv hK hP (ci := 1) (q0 := 0) rfl rfl, zpr hK hP hD⟩ rfl rfl hl.1 rfl (lv_room (Nat.le_of_ble_eq_true rfl)) dX1_ringBell_27 ⟨Nat.zero_le _, Nat.zero_le _⟩) hS (fun r_9 H locs hw hkp hS => ?_)
      have hP := hkp _ hP
      subst hw
      refine lv_imul hx hb dX1_ringBell_30 ?_
      refine lv_iadd hx hb dX1_ringBell_31 ?_
      refine lv_istore_n (lv' := [(2, .int ((σ 0 1) + (2 * (nI ((h % 24 + 24 - ((σ 6 k).toNatClampNeg + 1) * 8) % 24))))), (0, .ref (a 0)), (1, .int (nI k))]) hx hb dX1_ringBell_32 rfl hl (by decide) rfl (fun ls hl => ?_)
      refine lv_iload_n hx hb dX1_ringBell_33 rfl (lv_at hl 0 rfl) ?_
      refine lv_aload_n hx hb dX1_ringBell_34 rfl (lv_at hl 1 rfl) ?_
      refine va_get (D := D) (ci := 1) (v := .ref (a 2)) (C := RX1) (T := TX1) (N := 5) hx hb hts hinX1 hown hK hP 0 rfl rfl 4 (by decide) hf29 (fun _ h9 => h9) rfl dX1_ringBell_35 ?_
      refine va_get (D := D) (ci := 2) (v := .ref (a 9)) (C := RX2) (T := TX2) (N := 13) hx hb hts hinX2 hown hK hP 2 rfl rfl 2 (by decide) hf96 (fun _ h9 => h9) rfl dX1_ringBell_38 ?_
      refine lv_iload_n hx hb dX1_ringBell_41 rfl (lv_at hl 2 rfl) ?_
      refine zk_ld hx hb hK hP 9 0 (zwq7 cI a _) rfl (k := k) hk (by decide) (v := σ 7 k) rfl dX1_ringBell_42 ?_
      refine lv_icmp_lt (tgt := 54) hx hb dX1_ringBell_43 (by decide) (fun c_10 => ?_) (fun c_10 => ?_)
      · refine lv_aload_n hx hb dX1_ringBell_54 rfl (lv_at hl 1 rfl) ?_
        refine va_get (D := D) (ci := 1) (v := .ref (a 2)) (C := RX1) (T := TX1) (N := 5) hx hb hts hinX1 hown hK hP 0 rfl rfl 4 (by decide) hf29 (fun _ h9 => h9) rfl dX1_ringBell_55 ?_
        refine lv_iload_n hx hb dX1_ringBell_58 rfl (lv_at hl 2 rfl) ?_
        have hF := zfree hD hS hA
        refine zk_V (va_runV (As := [.int (nI k)]) (rest := []) ⟨hx, hb, hml, hown, hts⟩ (c_X2_beLate l D cI a σ (k := k) hk _) (cwV 1 hts gX1_ringBell_X2_beLate rfl rfl rfl zdX2_beLate ⟨Nat.le_of_ble_eq_true rfl, Nat.le_of_ble_eq_true rfl⟩) ⟨zbl _, va_recv hK hP (ci := 2) (q0 := 2) rfl rfl, zpr hK hP hD⟩ rfl rfl hl.1 rfl (lv_room (Nat.le_of_ble_eq_true rfl)) dX1_ringBell_59 ⟨Nat.zero_le _, Nat.zero_le _⟩) hS hF (fun H locs hkp hP1 hD1 hS => ?_)
        have hP := hP1
        have hD := hD1.weaken (fun _ _ _ z => hF _ z)
        have hP : va_P D vwCl (zw_H cI a (f_late σ k)) H := hP
        have hD : va_D A (zw_H cI a (f_late σ k)) := hD
        have e9 : f_ring σ h k = f_late σ k := by simp only [f_ring, if_neg c_2, if_neg c_6, if_pos c_10]
        have hP9 : va_P D vwCl (zw_H cI a (f_ring σ h k)) H := by rw [e9]; exact hP
        have hD9 : va_D A (zw_H cI a (f_ring σ h k)) := by rw [e9]; exact hD
        exact W.vret hx hb hr (fun t ht hW => ⟨⟨(), rfl, trivial, by rw [ht]; exact hP9, va_K.moved hW.alike hK, hD9⟩, hS.F ht⟩) hS.2.2 dX1_ringBell_62
      · refine lv_aload_n hx hb dX1_ringBell_46 rfl (lv_at hl 1 rfl) ?_
        refine lv_iload_n hx hb dX1_ringBell_47 rfl (lv_at hl 2 rfl) ?_
        have hF := zfree hD hS hA
        refine zk_V (va_runV (As := [.int (nI k)]) (rest := []) ⟨hx, hb, hml, hown, hts⟩ (c_X1_getUp l D cI a σ (k := k) hk hC _) (cwV 1 hts gX1_ringBell_X1_getUp rfl rfl rfl zdX1_getUp ⟨Nat.le_of_ble_eq_true rfl, Nat.le_of_ble_eq_true rfl⟩) ⟨zbl _, va_recv hK hP (ci := 1) (q0 := 0) rfl rfl, zpr hK hP hD⟩ rfl rfl hl.1 rfl (lv_room (Nat.le_of_ble_eq_true rfl)) dX1_ringBell_48 ⟨Nat.zero_le _, Nat.zero_le _⟩) hS hF (fun H locs hkp hP1 hD1 hS => ?_)
        have hP := hP1
        have hD := hD1.weaken (fun _ _ _ z => hF _ z)
        have hP : va_P D vwCl (zw_H cI a (f_getUp σ k)) H := hP
        have hD : va_D A (zw_H cI a (f_getUp σ k)) := hD
        refine lv_goto (tgt := 62) hx hb dX1_ringBell_51 (by decide) ?_
        have e9 : f_ring σ h k = f_getUp σ k := by simp only [f_ring, if_neg c_2, if_neg c_6, if_neg c_10]
        have hP9 : va_P D vwCl (zw_H cI a (f_ring σ h k)) H := by rw [e9]; exact hP
        have hD9 : va_D A (zw_H cI a (f_ring σ h k)) := by rw [e9]; exact hD
        exact W.vret hx hb hr (fun t ht hW => ⟨⟨(), rfl, trivial, by rw [ht]; exact hP9, va_K.moved hW.alike hK, hD9⟩, hS.F ht⟩) hS.2.2 dX1_ringBell_62

set_option maxHeartbeats 4000000 in
set_option maxRecDepth 100000 in
theorem c_X1_getInto (l : Launch) (D : va_G) (cI : ClassId) (a : Nat → Nat) (σ : zS) {k b : Nat} (hk : k < 10) (hb6 : b < 6) : zMV l yX1_getInto wsX1_getInto ({ frames := 0, cells := 0, slots := 0, locals := 0 }) [.ref (a 0), .int (nI k), .int (nI b)] D [(cI, .int)] (zw_H cI a σ) (zw_H cI a (f_into σ k b)) := by
  intro sz
  refine Met.ofW (cc := cX1_getInto) (maxL := 4) (ret := none) (by decide) rfl ?_
  intro p e s m args below meth c s₁ B hml hv
  obtain ⟨rfl, hsz, hP, hK, hD⟩ := hv
  have hx := B.exec
  have hb := B.bytes
  have hr := B.returns
  have hts := atoms_spec (ws := wsX1_getInto) B.pre
  have hown : s.vm.findClass RX1 = some m.cls := findClass_of_methodNamed B.named
  have hlocks := B.notSynchronized
  subst hsz
  have hD := hD.self (sz := s.heap.size)
  generalize hAe : va_A (zw_H cI a σ) s.heap.size = A at hD ⊢
  have hA : ∀ q : Nat, s.heap.size ≤ q → A q := fun q h => by rw [← hAe]; exact Or.inr h
  have hS : va_S A s.heap s.heap [] := va_S.rf
  have hP : va_P D vwCl (zw_H cI a σ) s.heap := hP
  have hl := lv_entry ([.ref (a 0), .int (nI k), .int (nI b)]) (n := 4) (Nat.le_of_ble_eq_true rfl)
  rw [lg_entry_eq]
  generalize (lg_sl ([.ref (a 0), .int (nI k), .int (nI b)]) ++ List.replicate (4 - (lg_sl ([.ref (a 0), .int (nI k), .int (nI b)])).length) Slot.unset).toArray = ls at hl ⊢
  have hl : lv_has ls 4 [(0, .ref (a 0)), (1, .int (nI k)), (2, .int (nI b))] := hl
  have hf139 := hts (.fieldLink RX1 139 "HotBeds$Beds" "price" "[I") (by decide +kernel)
  have hf148 := hts (.fieldLink RX1 148 "HotBeds$Beds" "paid" "[I") (by decide +kernel)
  have hf151 := hts (.fieldLink RX1 151 "HotBeds$Beds" "entries" "[I") (by decide +kernel)
  have hf22 := hts (.fieldLink RX1 22 "HotBeds$House" "beds" "LHotBeds$Beds;") (by decide +kernel)
  have hf29 := hts (.fieldLink RX1 29 "HotBeds$House" "sailors" "LHotBeds$Sailors;") (by decide +kernel)
  have hf61 := hts (.fieldLink RX1 61 "HotBeds$Sailors" "bed" "[I") (by decide +kernel)
  have hf68 := hts (.fieldLink RX1 68 "HotBeds$Beds" "sleeper" "[I") (by decide +kernel)
  have hf71 := hts (.fieldLink RX1 71 "HotBeds$Sailors" "place" "[I") (by decide +kernel)
  have hf84 := hts (.fieldLink RX1 84 "HotBeds$Sailors" "purse" "[I") (by decide +kernel)
  have hinX0 : ∀ w ∈ u_ws RX0 TX0 6, w ∈ wsX1_getInto := by decide +kernel
  have hinX1 : ∀ w ∈ u_ws RX1 TX1 5, w ∈ wsX1_getInto := by decide +kernel
  have hinX2 : ∀ w ∈ u_ws RX2 TX2 13, w ∈ wsX1_getInto := by decide +kernel
  refine lv_aload_n hx hb dX1_getInto_0 rfl (lv_at hl 0 rfl) ?_
  refine va_get (D := D) (ci := 1) (v := .ref (a 1)) (C := RX1) (T := TX1) (N := 5) hx hb hts hinX1 hown hK hP 0 rfl rfl 3 (by decide) hf22 (fun _ h9 => h9) rfl dX1_getInto_1 ?_
  refine va_get (D := D) (ci := 0) (v := .ref (a 3)) (C := RX0) (T := TX0) (N := 6) hx hb hts hinX0 hown hK hP 1 rfl rfl 1 (by decide) hf139 (fun _ h9 => h9) rfl dX1_getInto_4 ?_
  refine lv_iload_n hx hb dX1_getInto_7 rfl (lv_at hl 2 rfl) ?_
  refine zk_ld hx hb hK hP 3 0 (zwq1 cI a _) rfl (k := b) hb6 (by decide) (v := σ 1 b) rfl dX1_getInto_8 ?_
  refine lv_istore_n (lv' := [(3, .int (σ 1 b)), (0, .ref (a 0)), (1, .int (nI k)), (2, .int (nI b))]) hx hb dX1_getInto_9 rfl hl (by decide) rfl (fun ls hl => ?_)
  refine lv_aload_n hx hb dX1_getInto_10 rfl (lv_at hl 1 rfl) ?_
  refine va_get (D := D) (ci := 1) (v := .ref (a 2)) (C := RX1) (T := TX1) (N := 5) hx hb hts hinX1 hown hK hP 0 rfl rfl 4 (by decide) hf29 (fun _ h9 => h9) rfl dX1_getInto_11 ?_
  refine va_get (D := D) (ci := 2) (v := .ref (a 11)) (C := RX2) (T := TX2) (N := 13) hx hb hts hinX2 hown hK hP 2 rfl rfl 4 (by decide) hf84 (fun _ h9 => h9) rfl dX1_getInto_14 ?_
  refine lv_iload_n hx hb dX1_getInto_17 rfl (lv_at hl 2 rfl) ?_
  refine lv_dup2_11 hx hb dX1_getInto_18 rfl rfl ?_
  refine zk_ld hx hb hK hP 11 0 (zwq9 cI a _) rfl (k := k) hk (by decide) (v := σ 9 k) rfl dX1_getInto_19 ?_
  refine lv_iload_n hx hb dX1_getInto_20 rfl (lv_at hl 0 rfl) ?_
  refine lv_isub hx hb dX1_getInto_21 ?_
  refine zk_st hx hb hK hP hD hS 11 0 (zwq9 cI a _) rfl (k := k) hk (by decide) (zws9 cI a _ _ _) dX1_getInto_22 (fun H locs hP hD hS => ?_)
  have hP : va_P D vwCl (zw_H cI a (zs σ 9 k ((σ 9 k) - (σ 1 b)))) H := hP
  have hD : va_D A (zw_H cI a (zs σ 9 k ((σ 9 k) - (σ 1 b)))) := hD
  refine lv_aload_n hx hb dX1_getInto_23 rfl (lv_at hl 1 rfl) ?_
  refine va_get (D := D) (ci := 1) (v := .ref (a 2)) (C := RX1) (T := TX1) (N := 5) hx hb hts hinX1 hown hK hP 0 rfl rfl 4 (by decide) hf29 (fun _ h9 => h9) rfl dX1_getInto_24 ?_
  refine va_get (D := D) (ci := 2) (v := .ref (a 14)) (C := RX2) (T := TX2) (N := 13) hx hb hts hinX2 hown hK hP 2 rfl rfl 7 (by decide) hf71 (fun _ h9 => h9) rfl dX1_getInto_27 ?_
  refine lv_iload_n hx hb dX1_getInto_30 rfl (lv_at hl 2 rfl) ?_
  refine lv_iconst (v := 1) hx hb dX1_getInto_31 (by decide) ?_
  refine zk_st hx hb hK hP hD hS 14 0 (zwq12 cI a _) rfl (k := k) hk (by decide) (zws12 cI a _ _ _) dX1_getInto_32 (fun H locs hP hD hS => ?_)
  have hP : va_P D vwCl (zw_H cI a (zs (zs σ 9 k ((σ 9 k) - (σ 1 b))) 12 k 1)) H := hP
  have hD : va_D A (zw_H cI a (zs (zs σ 9 k ((σ 9 k) - (σ 1 b))) 12 k 1)) := hD
  refine lv_aload_n hx hb dX1_getInto_33 rfl (lv_at hl 1 rfl) ?_
  refine va_get (D := D) (ci := 1) (v := .ref (a 2)) (C := RX1) (T := TX1) (N := 5) hx hb hts hinX1 hown hK hP 0 rfl rfl 4 (by decide) hf29 (fun _ h9 => h9) rfl dX1_getInto_34 ?_
  refine va_get (D := D) (ci := 2) (v := .ref (a 15)) (C := RX2) (T := TX2) (N := 13) hx hb hts hinX2 hown hK hP 2 rfl rfl 8 (by decide) hf61 (fun _ h9 => h9) rfl dX1_getInto_37 ?_
  refine lv_iload_n hx hb dX1_getInto_40 rfl (lv_at hl 2 rfl) ?_
  refine lv_iload_n hx hb dX1_getInto_41 rfl (lv_at hl 3 rfl) ?_
  refine zk_st hx hb hK hP hD hS 15 0 (zwq13 cI a _) rfl (k := k) hk (by decide) (zws13 cI a _ _ _) dX1_getInto_42 (fun H locs hP hD hS => ?_)
  have hP : va_P D vwCl (zw_H cI a (zs (zs (zs σ 9 k ((σ 9 k) - (σ 1 b))) 12 k 1) 13 k (nI b))) H := hP
  have hD : va_D A (zw_H cI a (zs (zs (zs σ 9 k ((σ 9 k) - (σ 1 b))) 12 k 1) 13 k (nI b))) := hD
  refine lv_aload_n hx hb dX1_getInto_43 rfl (lv_at hl 1 rfl) ?_
  refine va_get (D := D) (ci := 1) (v := .ref (a 1)) (C := RX1) (T := TX1) (N := 5) hx hb hts hinX1 hown hK hP 0 rfl rfl 3 (by decide) hf22 (fun _ h9 => h9) rfl dX1_getInto_44 ?_
  refine va_get (D := D) (ci := 0) (v := .ref (a 6)) (C := RX0) (T := TX0) (N := 6) hx hb hts hinX0 hown hK hP 1 rfl rfl 4 (by decide) hf148 (fun _ h9 => h9) rfl dX1_getInto_47 ?_
  refine lv_iload_n hx hb dX1_getInto_50 rfl (lv_at hl 3 rfl) ?_
  refine lv_dup2_11 hx hb dX1_getInto_51 rfl rfl ?_
  refine zk_ld hx hb hK hP 6 0 (zwq4 cI a _) rfl (k := b) hb6 (by decide) (v := σ 4 b) rfl dX1_getInto_52 ?_
  refine lv_iload_n hx hb dX1_getInto_53 rfl (lv_at hl 0 rfl) ?_
  refine lv_iadd hx hb dX1_getInto_54 ?_
  refine zk_st hx hb hK hP hD hS 6 0 (zwq4 cI a _) rfl (k := b) hb6 (by decide) (zws4 cI a _ _ _) dX1_getInto_55 (fun H locs hP hD hS => ?_)
  have hP : va_P D vwCl (zw_H cI a (zs (zs (zs (zs σ 9 k ((σ 9 k) - (σ 1 b))) 12 k 1) 13 k (nI b)) 4 b ((σ 4 b) + (σ 1 b)))) H := hP
  have hD : va_D A (zw_H cI a (zs (zs (zs (zs σ 9 k ((σ 9 k) - (σ 1 b))) 12 k 1) 13 k (nI b)) 4 b ((σ 4 b) + (σ 1 b)))) := hD
  refine lv_aload_n hx hb dX1_getInto_56 rfl (lv_at hl 1 rfl) ?_
  refine va_get (D := D) (ci := 1) (v := .ref (a 1)) (C := RX1) (T := TX1) (N := 5) hx hb hts hinX1 hown hK hP 0 rfl rfl 3 (by decide) hf22 (fun _ h9 => h9) rfl dX1_getInto_57 ?_
  refine va_get (D := D) (ci := 0) (v := .ref (a 5)) (C := RX0) (T := TX0) (N := 6) hx hb hts hinX0 hown hK hP 1 rfl rfl 3 (by decide) hf151 (fun _ h9 => h9) rfl dX1_getInto_60 ?_
  refine lv_iload_n hx hb dX1_getInto_63 rfl (lv_at hl 3 rfl) ?_
  refine lv_dup2_11 hx hb dX1_getInto_64 rfl rfl ?_
  refine zk_ld hx hb hK hP 5 0 (zwq3 cI a _) rfl (k := b) hb6 (by decide) (v := σ 3 b) rfl dX1_getInto_65 ?_
  refine lv_iconst (v := 1) hx hb dX1_getInto_66 (by decide) ?_
  refine lv_iadd hx hb dX1_getInto_67 ?_
  refine zk_st hx hb hK hP hD hS 5 0 (zwq3 cI a _) rfl (k := b) hb6 (by decide) (zws3 cI a _ _ _) dX1_getInto_68 (fun H locs hP hD hS => ?_)
  have hP : va_P D vwCl (zw_H cI a (zs (zs (zs (zs (zs σ 9 k ((σ 9 k) - (σ 1 b))) 12 k 1) 13 k (nI b)) 4 b ((σ 4 b) + (σ 1 b))) 3 b ((σ 3 b) + 1))) H := hP
  have hD : va_D A (zw_H cI a (zs (zs (zs (zs (zs σ 9 k ((σ 9 k) - (σ 1 b))) 12 k 1) 13 k (nI b)) 4 b ((σ 4 b) + (σ 1 b))) 3 b ((σ 3 b) + 1))) := hD
  refine lv_aload_n hx hb dX1_getInto_69 rfl (lv_at hl 1 rfl) ?_
  refine va_get (D := D) (ci := 1) (v := .ref (a 1)) (C := RX1) (T := TX1) (N := 5) hx hb hts hinX1 hown hK hP 0 rfl rfl 3 (by decide) hf22 (fun _ h9 => h9) rfl dX1_getInto_70 ?_
  refine va_get (D := D) (ci := 0) (v := .ref (a 7)) (C := RX0) (T := TX0) (N := 6) hx hb hts hinX0 hown hK hP 1 rfl rfl 5 (by decide) hf68 (fun _ h9 => h9) rfl dX1_getInto_73 ?_
  refine lv_iload_n hx hb dX1_getInto_76 rfl (lv_at hl 3 rfl) ?_
  refine lv_iload_n hx hb dX1_getInto_77 rfl (lv_at hl 2 rfl) ?_
  refine zk_st hx hb hK hP hD hS 7 0 (zwq5 cI a _) rfl (k := b) hb6 (by decide) (zws5 cI a _ _ _) dX1_getInto_78 (fun H locs hP hD hS => ?_)
  have hP : va_P D vwCl (zw_H cI a (zs (zs (zs (zs (zs (zs σ 9 k ((σ 9 k) - (σ 1 b))) 12 k 1) 13 k (nI b)) 4 b ((σ 4 b) + (σ 1 b))) 3 b ((σ 3 b) + 1)) 5 b (nI k))) H := hP
  have hD : va_D A (zw_H cI a (zs (zs (zs (zs (zs (zs σ 9 k ((σ 9 k) - (σ 1 b))) 12 k 1) 13 k (nI b)) 4 b ((σ 4 b) + (σ 1 b))) 3 b ((σ 3 b) + 1)) 5 b (nI k))) := hD
  have e9 : f_into σ k b = zs (zs (zs (zs (zs (zs σ 9 k ((σ 9 k) - (σ 1 b))) 12 k 1) 13 k (nI b)) 4 b ((σ 4 b) + (σ 1 b))) 3 b ((σ 3 b) + 1)) 5 b (nI k) := by simp only [f_into]
  have hP9 : va_P D vwCl (zw_H cI a (f_into σ k b)) H := by rw [e9]; exact hP
  have hD9 : va_D A (zw_H cI a (f_into σ k b)) := by rw [e9]; exact hD
  exact W.vret hx hb hr (fun t ht hW => ⟨⟨(), rfl, trivial, by rw [ht]; exact hP9, va_K.moved hW.alike hK, hD9⟩, hS.F ht⟩) hS.2.2 dX1_getInto_79

set_option maxHeartbeats 4000000 in
set_option maxRecDepth 100000 in
theorem c_X1_tryBed (l : Launch) (D : va_G) (cI : ClassId) (a : Nat → Nat) (σ : zS) {k b : Nat} (hk : k < 10) (hb6 : b < 6) : zMV l yX1_tryBed wsX1_tryBed ({ frames := 3, cells := 0, slots := 0, locals := 58 }) [.ref (a 0), .int (nI k), .int (nI b)] D [(cI, .int)] (zw_H cI a σ) (zw_H cI a (f_try σ k b)) := by
  intro sz
  refine Met.ofW (cc := cX1_tryBed) (maxL := 5) (ret := none) (by decide) rfl ?_
  intro p e s m args below meth c s₁ B hml hv
  obtain ⟨rfl, hsz, hP, hK, hD⟩ := hv
  have hx := B.exec
  have hb := B.bytes
  have hr := B.returns
  have hts := atoms_spec (ws := wsX1_tryBed) B.pre
  have hown : s.vm.findClass RX1 = some m.cls := findClass_of_methodNamed B.named
  have hlocks := B.notSynchronized
  subst hsz
  have hD := hD.self (sz := s.heap.size)
  generalize hAe : va_A (zw_H cI a σ) s.heap.size = A at hD ⊢
  have hA : ∀ q : Nat, s.heap.size ≤ q → A q := fun q h => by rw [← hAe]; exact Or.inr h
  have hS : va_S A s.heap s.heap [] := va_S.rf
  have hP : va_P D vwCl (zw_H cI a σ) s.heap := hP
  have hl := lv_entry ([.ref (a 0), .int (nI k), .int (nI b)]) (n := 5) (Nat.le_of_ble_eq_true rfl)
  rw [lg_entry_eq]
  generalize (lg_sl ([.ref (a 0), .int (nI k), .int (nI b)]) ++ List.replicate (5 - (lg_sl ([.ref (a 0), .int (nI k), .int (nI b)])).length) Slot.unset).toArray = ls at hl ⊢
  have hl : lv_has ls 5 [(0, .ref (a 0)), (1, .int (nI k)), (2, .int (nI b))] := hl
  have hf139 := hts (.fieldLink RX1 139 "HotBeds$Beds" "price" "[I") (by decide +kernel)
  have hf16 := hts (.fieldLink RX1 16 "HotBeds$House" "pawn" "I") (by decide +kernel)
  have hf22 := hts (.fieldLink RX1 22 "HotBeds$House" "beds" "LHotBeds$Beds;") (by decide +kernel)
  have hf29 := hts (.fieldLink RX1 29 "HotBeds$House" "sailors" "LHotBeds$Sailors;") (by decide +kernel)
  have hf84 := hts (.fieldLink RX1 84 "HotBeds$Sailors" "purse" "[I") (by decide +kernel)
  have hinX0 : ∀ w ∈ u_ws RX0 TX0 6, w ∈ wsX1_tryBed := by decide +kernel
  have hinX1 : ∀ w ∈ u_ws RX1 TX1 5, w ∈ wsX1_tryBed := by decide +kernel
  have hinX2 : ∀ w ∈ u_ws RX2 TX2 13, w ∈ wsX1_tryBed := by decide +kernel
  refine lv_aload_n hx hb dX1_tryBed_0 rfl (lv_at hl 0 rfl) ?_
  refine va_get (D := D) (ci := 1) (v := .ref (a 1)) (C := RX1) (T := TX1) (N := 5) hx hb hts hinX1 hown hK hP 0 rfl rfl 3 (by decide) hf22 (fun _ h9 => h9) rfl dX1_tryBed_1 ?_
  refine va_get (D := D) (ci := 0) (v := .ref (a 3)) (C := RX0) (T := TX0) (N := 6) hx hb hts hinX0 hown hK hP 1 rfl rfl 1 (by decide) hf139 (fun _ h9 => h9) rfl dX1_tryBed_4 ?_
  refine lv_iload_n hx hb dX1_tryBed_7 rfl (lv_at hl 2 rfl) ?_
  refine zk_ld hx hb hK hP 3 0 (zwq1 cI a _) rfl (k := b) hb6 (by decide) (v := σ 1 b) rfl dX1_tryBed_8 ?_
  refine lv_istore_n (lv' := [(3, .int (σ 1 b)), (0, .ref (a 0)), (1, .int (nI k)), (2, .int (nI b))]) hx hb dX1_tryBed_9 rfl hl (by decide) rfl (fun ls hl => ?_)
  refine lv_aload_n hx hb dX1_tryBed_10 rfl (lv_at hl 1 rfl) ?_
  refine va_get (D := D) (ci := 1) (v := .ref (a 2)) (C := RX1) (T := TX1) (N := 5) hx hb hts hinX1 hown hK hP 0 rfl rfl 4 (by decide) hf29 (fun _ h9 => h9) rfl dX1_tryBed_11 ?_
  refine va_get (D := D) (ci := 2) (v := .ref (a 11)) (C := RX2) (T := TX2) (N := 13) hx hb hts hinX2 hown hK hP 2 rfl rfl 4 (by decide) hf84 (fun _ h9 => h9) rfl dX1_tryBed_14 ?_
  refine lv_iload_n hx hb dX1_tryBed_17 rfl (lv_at hl 2 rfl) ?_
  refine zk_ld hx hb hK hP 11 0 (zwq9 cI a _) rfl (k := k) hk (by decide) (v := σ 9 k) rfl dX1_tryBed_18 ?_
  refine lv_istore (lv' := [(4, .int (σ 9 k)), (3, .int (σ 1 b)), (0, .ref (a 0)), (1, .int (nI k)), (2, .int (nI b))]) hx hb dX1_tryBed_19 hl (by decide) rfl (fun ls hl => ?_)
  refine lv_iload hx hb dX1_tryBed_21 (lv_at hl 0 rfl) ?_
  refine lv_iload_n hx hb dX1_tryBed_23 rfl (lv_at hl 1 rfl) ?_
  refine lv_icmp_ge (tgt := 54) hx hb dX1_tryBed_24 (by decide) (fun c_1 => ?_) (fun c_1 => ?_)
  · refine lv_aload_n hx hb dX1_tryBed_54 rfl (lv_at hl 2 rfl) ?_
    refine va_get (D := D) (ci := 1) (v := .ref (a 2)) (C := RX1) (T := TX1) (N := 5) hx hb hts hinX1 hown hK hP 0 rfl rfl 4 (by decide) hf29 (fun _ h9 => h9) rfl dX1_tryBed_55 ?_
    refine va_get (D := D) (ci := 2) (v := .ref (a 11)) (C := RX2) (T := TX2) (N := 13) hx hb hts hinX2 hown hK hP 2 rfl rfl 4 (by decide) hf84 (fun _ h9 => h9) rfl dX1_tryBed_58 ?_
    refine lv_iload_n hx hb dX1_tryBed_61 rfl (lv_at hl 3 rfl) ?_
    refine zk_ld hx hb hK hP 11 0 (zwq9 cI a _) rfl (k := k) hk (by decide) (v := σ 9 k) rfl dX1_tryBed_62 ?_
    refine lv_iload_n hx hb dX1_tryBed_63 rfl (lv_at hl 1 rfl) ?_
    refine lv_icmp_lt (tgt := 76) hx hb dX1_tryBed_64 (by decide) (fun c_2 => ?_) (fun c_2 => ?_)
    · refine lv_aload_n hx hb dX1_tryBed_76 rfl (lv_at hl 2 rfl) ?_
      refine va_get (D := D) (ci := 1) (v := .ref (a 2)) (C := RX1) (T := TX1) (N := 5) hx hb hts hinX1 hown hK hP 0 rfl rfl 4 (by decide) hf29 (fun _ h9 => h9) rfl dX1_tryBed_77 ?_
      refine lv_iload_n hx hb dX1_tryBed_80 rfl (lv_at hl 3 rfl) ?_
      have hF := zfree hD hS hA
      refine zk_V (va_runV (As := [.int (nI k)]) (rest := []) ⟨hx, hb, hml, hown, hts⟩ (c_X2_lieOnFloor l D cI a σ (k := k) hk _) (cwV 1 hts gX1_tryBed_X2_lieOnFloor rfl rfl rfl zdX2_lieOnFloor ⟨Nat.le_of_ble_eq_true rfl, Nat.le_of_ble_eq_true rfl⟩) ⟨zbl _, va_recv hK hP (ci := 2) (q0 := 2) rfl rfl, zpr hK hP hD⟩ rfl rfl hl.1 rfl (lv_room (Nat.le_of_ble_eq_true rfl)) dX1_tryBed_81 ⟨Nat.zero_le _, Nat.zero_le _⟩) hS hF (fun H locs hkp hP1 hD1 hS => ?_)
      have hP := hP1
      have hD := hD1.weaken (fun _ _ _ z => hF _ z)
      have hP : va_P D vwCl (zw_H cI a (f_floor σ k)) H := hP
      have hD : va_D A (zw_H cI a (f_floor σ k)) := hD
      have e9 : f_try σ k b = f_floor σ k := by rw [f_try, show f_try1 σ k b = σ from if_neg (fun z => z.1 c_1), if_pos c_2]
      have hP9 : va_P D vwCl (zw_H cI a (f_try σ k b)) H := by rw [e9]; exact hP
      have hD9 : va_D A (zw_H cI a (f_try σ k b)) := by rw [e9]; exact hD
      exact W.vret hx hb hr (fun t ht hW => ⟨⟨(), rfl, trivial, by rw [ht]; exact hP9, va_K.moved hW.alike hK, hD9⟩, hS.F ht⟩) hS.2.2 dX1_tryBed_84
    · refine lv_aload_n hx hb dX1_tryBed_67 rfl (lv_at hl 2 rfl) ?_
      refine lv_iload_n hx hb dX1_tryBed_68 rfl (lv_at hl 3 rfl) ?_
      refine lv_iload_n hx hb dX1_tryBed_69 rfl (lv_at hl 4 rfl) ?_
      have hF := zfree hD hS hA
      refine zk_V (va_runV (As := [.int (nI k), .int (nI b)]) (rest := []) ⟨hx, hb, hml, hown, hts⟩ (c_X1_getInto l D cI a σ (k := k) (b := b) hk hb6 _) (cwV 2 hts gX1_tryBed_X1_getInto rfl rfl rfl zdX1_getInto ⟨Nat.le_of_ble_eq_true rfl, Nat.le_of_ble_eq_true rfl⟩) ⟨zbl _, va_recv hK hP (ci := 1) (q0 := 0) rfl rfl, zpr hK hP hD⟩ rfl rfl hl.1 rfl (lv_room (Nat.le_of_ble_eq_true rfl)) dX1_tryBed_70 ⟨Nat.zero_le _, Nat.zero_le _⟩) hS hF (fun H locs hkp hP1 hD1 hS => ?_)
      have hP := hP1
      have hD := hD1.weaken (fun _ _ _ z => hF _ z)
      have hP : va_P D vwCl (zw_H cI a (f_into σ k b)) H := hP
      have hD : va_D A (zw_H cI a (f_into σ k b)) := hD
      refine lv_goto (tgt := 84) hx hb dX1_tryBed_73 (by decide) ?_
      have e9 : f_try σ k b = f_into σ k b := by rw [f_try, show f_try1 σ k b = σ from if_neg (fun z => z.1 c_1), if_neg c_2]
      have hP9 : va_P D vwCl (zw_H cI a (f_try σ k b)) H := by rw [e9]; exact hP
      have hD9 : va_D A (zw_H cI a (f_try σ k b)) := by rw [e9]; exact hD
      exact W.vret hx hb hr (fun t ht hW => ⟨⟨(), rfl, trivial, by rw [ht]; exact hP9, va_K.moved hW.alike hK, hD9⟩, hS.F ht⟩) hS.2.2 dX1_tryBed_84
  · refine lv_iload hx hb dX1_tryBed_27 (lv_at hl 0 rfl) ?_
    refine lv_aload_n hx hb dX1_tryBed_29 rfl (lv_at hl 2 rfl) ?_
    refine va_get (D := D) (ci := 1) (v := .int (σ 0 2)) (C := RX1) (T := TX1) (N := 5) hx hb hts hinX1 hown hK hP 0 rfl rfl 2 (by decide) hf16 (fun _ h9 => h9) rfl dX1_tryBed_30 ?_
    refine lv_iadd hx hb dX1_tryBed_33 ?_
    refine lv_iload_n hx hb dX1_tryBed_34 rfl (lv_at hl 1 rfl) ?_
    refine lv_icmp_lt (tgt := 54) hx hb dX1_tryBed_35 (by decide) (fun c_3 => ?_) (fun c_3 => ?_)
    · refine lv_aload_n hx hb dX1_tryBed_54 rfl (lv_at hl 2 rfl) ?_
      refine va_get (D := D) (ci := 1) (v := .ref (a 2)) (C := RX1) (T := TX1) (N := 5) hx hb hts hinX1 hown hK hP 0 rfl rfl 4 (by decide) hf29 (fun _ h9 => h9) rfl dX1_tryBed_55 ?_
      refine va_get (D := D) (ci := 2) (v := .ref (a 11)) (C := RX2) (T := TX2) (N := 13) hx hb hts hinX2 hown hK hP 2 rfl rfl 4 (by decide) hf84 (fun _ h9 => h9) rfl dX1_tryBed_58 ?_
      refine lv_iload_n hx hb dX1_tryBed_61 rfl (lv_at hl 3 rfl) ?_
      refine zk_ld hx hb hK hP 11 0 (zwq9 cI a _) rfl (k := k) hk (by decide) (v := σ 9 k) rfl dX1_tryBed_62 ?_
      refine lv_iload_n hx hb dX1_tryBed_63 rfl (lv_at hl 1 rfl) ?_
      refine lv_icmp_lt (tgt := 76) hx hb dX1_tryBed_64 (by decide) (fun c_4 => ?_) (fun c_4 => ?_)
      · refine lv_aload_n hx hb dX1_tryBed_76 rfl (lv_at hl 2 rfl) ?_
        refine va_get (D := D) (ci := 1) (v := .ref (a 2)) (C := RX1) (T := TX1) (N := 5) hx hb hts hinX1 hown hK hP 0 rfl rfl 4 (by decide) hf29 (fun _ h9 => h9) rfl dX1_tryBed_77 ?_
        refine lv_iload_n hx hb dX1_tryBed_80 rfl (lv_at hl 3 rfl) ?_
        have hF := zfree hD hS hA
        refine zk_V (va_runV (As := [.int (nI k)]) (rest := []) ⟨hx, hb, hml, hown, hts⟩ (c_X2_lieOnFloor l D cI a σ (k := k) hk _) (cwV 1 hts gX1_tryBed_X2_lieOnFloor rfl rfl rfl zdX2_lieOnFloor ⟨Nat.le_of_ble_eq_true rfl, Nat.le_of_ble_eq_true rfl⟩) ⟨zbl _, va_recv hK hP (ci := 2) (q0 := 2) rfl rfl, zpr hK hP hD⟩ rfl rfl hl.1 rfl (lv_room (Nat.le_of_ble_eq_true rfl)) dX1_tryBed_81 ⟨Nat.zero_le _, Nat.zero_le _⟩) hS hF (fun H locs hkp hP1 hD1 hS => ?_)
        have hP := hP1
        have hD := hD1.weaken (fun _ _ _ z => hF _ z)
        have hP : va_P D vwCl (zw_H cI a (f_floor σ k)) H := hP
        have hD : va_D A (zw_H cI a (f_floor σ k)) := hD
        have e9 : f_try σ k b = f_floor σ k := by rw [f_try, show f_try1 σ k b = σ from if_neg (fun z => z.2.1 c_3), if_pos c_4]
        have hP9 : va_P D vwCl (zw_H cI a (f_try σ k b)) H := by rw [e9]; exact hP
        have hD9 : va_D A (zw_H cI a (f_try σ k b)) := by rw [e9]; exact hD
        exact W.vret hx hb hr (fun t ht hW => ⟨⟨(), rfl, trivial, by rw [ht]; exact hP9, va_K.moved hW.alike hK, hD9⟩, hS.F ht⟩) hS.2.2 dX1_tryBed_84
      · refine lv_aload_n hx hb dX1_tryBed_67 rfl (lv_at hl 2 rfl) ?_
        refine lv_iload_n hx hb dX1_tryBed_68 rfl (lv_at hl 3 rfl) ?_
        refine lv_iload_n hx hb dX1_tryBed_69 rfl (lv_at hl 4 rfl) ?_
        have hF := zfree hD hS hA
        refine zk_V (va_runV (As := [.int (nI k), .int (nI b)]) (rest := []) ⟨hx, hb, hml, hown, hts⟩ (c_X1_getInto l D cI a σ (k := k) (b := b) hk hb6 _) (cwV 2 hts gX1_tryBed_X1_getInto rfl rfl rfl zdX1_getInto ⟨Nat.le_of_ble_eq_true rfl, Nat.le_of_ble_eq_true rfl⟩) ⟨zbl _, va_recv hK hP (ci := 1) (q0 := 0) rfl rfl, zpr hK hP hD⟩ rfl rfl hl.1 rfl (lv_room (Nat.le_of_ble_eq_true rfl)) dX1_tryBed_70 ⟨Nat.zero_le _, Nat.zero_le _⟩) hS hF (fun H locs hkp hP1 hD1 hS => ?_)
        have hP := hP1
        have hD := hD1.weaken (fun _ _ _ z => hF _ z)
        have hP : va_P D vwCl (zw_H cI a (f_into σ k b)) H := hP
        have hD : va_D A (zw_H cI a (f_into σ k b)) := hD
        refine lv_goto (tgt := 84) hx hb dX1_tryBed_73 (by decide) ?_
        have e9 : f_try σ k b = f_into σ k b := by rw [f_try, show f_try1 σ k b = σ from if_neg (fun z => z.2.1 c_3), if_neg c_4]
        have hP9 : va_P D vwCl (zw_H cI a (f_try σ k b)) H := by rw [e9]; exact hP
        have hD9 : va_D A (zw_H cI a (f_try σ k b)) := by rw [e9]; exact hD
        exact W.vret hx hb hr (fun t ht hW => ⟨⟨(), rfl, trivial, by rw [ht]; exact hP9, va_K.moved hW.alike hK, hD9⟩, hS.F ht⟩) hS.2.2 dX1_tryBed_84
    · refine lv_aload_n hx hb dX1_tryBed_38 rfl (lv_at hl 2 rfl) ?_
      refine va_get (D := D) (ci := 1) (v := .ref (a 2)) (C := RX1) (T := TX1) (N := 5) hx hb hts hinX1 hown hK hP 0 rfl rfl 4 (by decide) hf29 (fun _ h9 => h9) rfl dX1_tryBed_39 ?_
      refine lv_iload_n hx hb dX1_tryBed_42 rfl (lv_at hl 3 rfl) ?_
      refine zk_R (D := D) (va_runV (As := [.int (nI k)]) (rest := []) ⟨hx, hb, hml, hown, hts⟩ (c_X2_hasBoots l D cI a σ (k := k) hk _) (cwV 1 hts gX1_tryBed_X2_hasBoots rfl rfl rfl zdX2_hasBoots ⟨Nat.le_of_ble_eq_true rfl, Nat.le_of_ble_eq_true rfl⟩) ⟨zbl _, va_recv hK hP (ci := 2) (q0 := 2) rfl rfl, zpr hK hP hD⟩ rfl rfl hl.1 rfl (lv_room (Nat.le_of_ble_eq_true rfl)) dX1_tryBed_43 ⟨Nat.zero_le _, Nat.zero_le _⟩) hS (fun r_5 H locs hw hkp hS => ?_)
      have hP := hkp _ hP
      rcases hw with ⟨c_6, rfl⟩ | ⟨c_6, rfl⟩
      · refine lv_if_eq (tgt := 54) hx hb dX1_tryBed_46 (by decide) (fun c => absurd c (by decide)) (fun _ => ?_)
        refine lv_aload_n hx hb dX1_tryBed_49 rfl (lv_at hl 2 rfl) ?_
        refine lv_iload_n hx hb dX1_tryBed_50 rfl (lv_at hl 3 rfl) ?_
        have hF := zfree hD hS hA
        refine zk_V (va_runV (As := [.int (nI k)]) (rest := []) ⟨hx, hb, hml, hown, hts⟩ (c_X1_pawnBoots l D cI a σ (k := k) hk _) (cwV 1 hts gX1_tryBed_X1_pawnBoots rfl rfl rfl zdX1_pawnBoots ⟨Nat.le_of_ble_eq_true rfl, Nat.le_of_ble_eq_true rfl⟩) ⟨zbl _, va_recv hK hP (ci := 1) (q0 := 0) rfl rfl, zpr hK hP hD⟩ rfl rfl hl.1 rfl (lv_room (Nat.le_of_ble_eq_true rfl)) dX1_tryBed_51 ⟨Nat.zero_le _, Nat.zero_le _⟩) hS hF (fun H locs hkp hP1 hD1 hS => ?_)
        have hP := hP1
        have hD := hD1.weaken (fun _ _ _ z => hF _ z)
        have hP : va_P D vwCl (zw_H cI a (f_pawnB σ k)) H := hP
        have hD : va_D A (zw_H cI a (f_pawnB σ k)) := hD
        refine lv_aload_n hx hb dX1_tryBed_54 rfl (lv_at hl 2 rfl) ?_
        refine va_get (D := D) (ci := 1) (v := .ref (a 2)) (C := RX1) (T := TX1) (N := 5) hx hb hts hinX1 hown hK hP 0 rfl rfl 4 (by decide) hf29 (fun _ h9 => h9) rfl dX1_tryBed_55 ?_
        refine va_get (D := D) (ci := 2) (v := .ref (a 11)) (C := RX2) (T := TX2) (N := 13) hx hb hts hinX2 hown hK hP 2 rfl rfl 4 (by decide) hf84 (fun _ h9 => h9) rfl dX1_tryBed_58 ?_
        refine lv_iload_n hx hb dX1_tryBed_61 rfl (lv_at hl 3 rfl) ?_
        refine zk_ld hx hb hK hP 11 0 (zwq9 cI a _) rfl (k := k) hk (by decide) (v := (f_pawnB σ k) 9 k) rfl dX1_tryBed_62 ?_
        refine lv_iload_n hx hb dX1_tryBed_63 rfl (lv_at hl 1 rfl) ?_
        refine lv_icmp_lt (tgt := 76) hx hb dX1_tryBed_64 (by decide) (fun c_8 => ?_) (fun c_8 => ?_)
        · refine lv_aload_n hx hb dX1_tryBed_76 rfl (lv_at hl 2 rfl) ?_
          refine va_get (D := D) (ci := 1) (v := .ref (a 2)) (C := RX1) (T := TX1) (N := 5) hx hb hts hinX1 hown hK hP 0 rfl rfl 4 (by decide) hf29 (fun _ h9 => h9) rfl dX1_tryBed_77 ?_
          refine lv_iload_n hx hb dX1_tryBed_80 rfl (lv_at hl 3 rfl) ?_
          have hF := zfree hD hS hA
          refine zk_V (va_runV (As := [.int (nI k)]) (rest := []) ⟨hx, hb, hml, hown, hts⟩ (c_X2_lieOnFloor l D cI a (f_pawnB σ k) (k := k) hk _) (cwV 1 hts gX1_tryBed_X2_lieOnFloor rfl rfl rfl zdX2_lieOnFloor ⟨Nat.le_of_ble_eq_true rfl, Nat.le_of_ble_eq_true rfl⟩) ⟨zbl _, va_recv hK hP (ci := 2) (q0 := 2) rfl rfl, zpr hK hP hD⟩ rfl rfl hl.1 rfl (lv_room (Nat.le_of_ble_eq_true rfl)) dX1_tryBed_81 ⟨Nat.zero_le _, Nat.zero_le _⟩) hS hF (fun H locs hkp hP1 hD1 hS => ?_)
          have hP := hP1
          have hD := hD1.weaken (fun _ _ _ z => hF _ z)
          have hP : va_P D vwCl (zw_H cI a (f_floor (f_pawnB σ k) k)) H := hP
          have hD : va_D A (zw_H cI a (f_floor (f_pawnB σ k) k)) := hD
          have e9 : f_try σ k b = f_floor (f_pawnB σ k) k := by rw [f_try, show f_try1 σ k b = (f_pawnB σ k) from if_pos ⟨c_1, c_3, c_6⟩, if_pos c_8]
          have hP9 : va_P D vwCl (zw_H cI a (f_try σ k b)) H := by rw [e9]; exact hP
          have hD9 : va_D A (zw_H cI a (f_try σ k b)) := by rw [e9]; exact hD
          exact W.vret hx hb hr (fun t ht hW => ⟨⟨(), rfl, trivial, by rw [ht]; exact hP9, va_K.moved hW.alike hK, hD9⟩, hS.F ht⟩) hS.2.2 dX1_tryBed_84
        · refine lv_aload_n hx hb dX1_tryBed_67 rfl (lv_at hl 2 rfl) ?_
          refine lv_iload_n hx hb dX1_tryBed_68 rfl (lv_at hl 3 rfl) ?_
          refine lv_iload_n hx hb dX1_tryBed_69 rfl (lv_at hl 4 rfl) ?_
          have hF := zfree hD hS hA
          refine zk_V (va_runV (As := [.int (nI k), .int (nI b)]) (rest := []) ⟨hx, hb, hml, hown, hts⟩ (c_X1_getInto l D cI a (f_pawnB σ k) (k := k) (b := b) hk hb6 _) (cwV 2 hts gX1_tryBed_X1_getInto rfl rfl rfl zdX1_getInto ⟨Nat.le_of_ble_eq_true rfl, Nat.le_of_ble_eq_true rfl⟩) ⟨zbl _, va_recv hK hP (ci := 1) (q0 := 0) rfl rfl, zpr hK hP hD⟩ rfl rfl hl.1 rfl (lv_room (Nat.le_of_ble_eq_true rfl)) dX1_tryBed_70 ⟨Nat.zero_le _, Nat.zero_le _⟩) hS hF (fun H locs hkp hP1 hD1 hS => ?_)
          have hP := hP1
          have hD := hD1.weaken (fun _ _ _ z => hF _ z)
          have hP : va_P D vwCl (zw_H cI a (f_into (f_pawnB σ k) k b)) H := hP
          have hD : va_D A (zw_H cI a (f_into (f_pawnB σ k) k b)) := hD
          refine lv_goto (tgt := 84) hx hb dX1_tryBed_73 (by decide) ?_
          have e9 : f_try σ k b = f_into (f_pawnB σ k) k b := by rw [f_try, show f_try1 σ k b = (f_pawnB σ k) from if_pos ⟨c_1, c_3, c_6⟩, if_neg c_8]
          have hP9 : va_P D vwCl (zw_H cI a (f_try σ k b)) H := by rw [e9]; exact hP
          have hD9 : va_D A (zw_H cI a (f_try σ k b)) := by rw [e9]; exact hD
          exact W.vret hx hb hr (fun t ht hW => ⟨⟨(), rfl, trivial, by rw [ht]; exact hP9, va_K.moved hW.alike hK, hD9⟩, hS.F ht⟩) hS.2.2 dX1_tryBed_84
      · refine lv_if_eq (tgt := 54) hx hb dX1_tryBed_46 (by decide) (fun _ => ?_) (fun c => absurd (by decide) c)
        refine lv_aload_n hx hb dX1_tryBed_54 rfl (lv_at hl 2 rfl) ?_
        refine va_get (D := D) (ci := 1) (v := .ref (a 2)) (C := RX1) (T := TX1) (N := 5) hx hb hts hinX1 hown hK hP 0 rfl rfl 4 (by decide) hf29 (fun _ h9 => h9) rfl dX1_tryBed_55 ?_
        refine va_get (D := D) (ci := 2) (v := .ref (a 11)) (C := RX2) (T := TX2) (N := 13) hx hb hts hinX2 hown hK hP 2 rfl rfl 4 (by decide) hf84 (fun _ h9 => h9) rfl dX1_tryBed_58 ?_
        refine lv_iload_n hx hb dX1_tryBed_61 rfl (lv_at hl 3 rfl) ?_
        refine zk_ld hx hb hK hP 11 0 (zwq9 cI a _) rfl (k := k) hk (by decide) (v := σ 9 k) rfl dX1_tryBed_62 ?_
        refine lv_iload_n hx hb dX1_tryBed_63 rfl (lv_at hl 1 rfl) ?_
        refine lv_icmp_lt (tgt := 76) hx hb dX1_tryBed_64 (by decide) (fun c_10 => ?_) (fun c_10 => ?_)
        · refine lv_aload_n hx hb dX1_tryBed_76 rfl (lv_at hl 2 rfl) ?_
          refine va_get (D := D) (ci := 1) (v := .ref (a 2)) (C := RX1) (T := TX1) (N := 5) hx hb hts hinX1 hown hK hP 0 rfl rfl 4 (by decide) hf29 (fun _ h9 => h9) rfl dX1_tryBed_77 ?_
          refine lv_iload_n hx hb dX1_tryBed_80 rfl (lv_at hl 3 rfl) ?_
          have hF := zfree hD hS hA
          refine zk_V (va_runV (As := [.int (nI k)]) (rest := []) ⟨hx, hb, hml, hown, hts⟩ (c_X2_lieOnFloor l D cI a σ (k := k) hk _) (cwV 1 hts gX1_tryBed_X2_lieOnFloor rfl rfl rfl zdX2_lieOnFloor ⟨Nat.le_of_ble_eq_true rfl, Nat.le_of_ble_eq_true rfl⟩) ⟨zbl _, va_recv hK hP (ci := 2) (q0 := 2) rfl rfl, zpr hK hP hD⟩ rfl rfl hl.1 rfl (lv_room (Nat.le_of_ble_eq_true rfl)) dX1_tryBed_81 ⟨Nat.zero_le _, Nat.zero_le _⟩) hS hF (fun H locs hkp hP1 hD1 hS => ?_)
          have hP := hP1
          have hD := hD1.weaken (fun _ _ _ z => hF _ z)
          have hP : va_P D vwCl (zw_H cI a (f_floor σ k)) H := hP
          have hD : va_D A (zw_H cI a (f_floor σ k)) := hD
          have e9 : f_try σ k b = f_floor σ k := by rw [f_try, show f_try1 σ k b = σ from if_neg (fun z => c_6 z.2.2), if_pos c_10]
          have hP9 : va_P D vwCl (zw_H cI a (f_try σ k b)) H := by rw [e9]; exact hP
          have hD9 : va_D A (zw_H cI a (f_try σ k b)) := by rw [e9]; exact hD
          exact W.vret hx hb hr (fun t ht hW => ⟨⟨(), rfl, trivial, by rw [ht]; exact hP9, va_K.moved hW.alike hK, hD9⟩, hS.F ht⟩) hS.2.2 dX1_tryBed_84
        · refine lv_aload_n hx hb dX1_tryBed_67 rfl (lv_at hl 2 rfl) ?_
          refine lv_iload_n hx hb dX1_tryBed_68 rfl (lv_at hl 3 rfl) ?_
          refine lv_iload_n hx hb dX1_tryBed_69 rfl (lv_at hl 4 rfl) ?_
          have hF := zfree hD hS hA
          refine zk_V (va_runV (As := [.int (nI k), .int (nI b)]) (rest := []) ⟨hx, hb, hml, hown, hts⟩ (c_X1_getInto l D cI a σ (k := k) (b := b) hk hb6 _) (cwV 2 hts gX1_tryBed_X1_getInto rfl rfl rfl zdX1_getInto ⟨Nat.le_of_ble_eq_true rfl, Nat.le_of_ble_eq_true rfl⟩) ⟨zbl _, va_recv hK hP (ci := 1) (q0 := 0) rfl rfl, zpr hK hP hD⟩ rfl rfl hl.1 rfl (lv_room (Nat.le_of_ble_eq_true rfl)) dX1_tryBed_70 ⟨Nat.zero_le _, Nat.zero_le _⟩) hS hF (fun H locs hkp hP1 hD1 hS => ?_)
          have hP := hP1
          have hD := hD1.weaken (fun _ _ _ z => hF _ z)
          have hP : va_P D vwCl (zw_H cI a (f_into σ k b)) H := hP
          have hD : va_D A (zw_H cI a (f_into σ k b)) := hD
          refine lv_goto (tgt := 84) hx hb dX1_tryBed_73 (by decide) ?_
          have e9 : f_try σ k b = f_into σ k b := by rw [f_try, show f_try1 σ k b = σ from if_neg (fun z => c_6 z.2.2), if_neg c_10]
          have hP9 : va_P D vwCl (zw_H cI a (f_try σ k b)) H := by rw [e9]; exact hP
          have hD9 : va_D A (zw_H cI a (f_try σ k b)) := by rw [e9]; exact hD
          exact W.vret hx hb hr (fun t ht hW => ⟨⟨(), rfl, trivial, by rw [ht]; exact hP9, va_K.moved hW.alike hK, hD9⟩, hS.F ht⟩) hS.2.2 dX1_tryBed_84

theorem zhas_of {σ : zS} {nb ns h : Nat} {x : Int32} (hC : zC σ nb ns h) (hx : f_has σ x) : ∃ b, b < nb ∧ x = nI b := by
  have h3 := hx.2
  rw [hC.1] at h3
  obtain ⟨j, hj, rfl⟩ := nI_of hx.1
  have hb := hC.2.1
  exact ⟨j, by have := mt (nI_leI (a := nb) (b := j) (by omega) hj).mpr h3; omega, rfl⟩

set_option maxHeartbeats 4000000 in
set_option maxRecDepth 100000 in
theorem c_X1_lookForBed (l : Launch) (D : va_G) (cI : ClassId) (a : Nat → Nat) (σ : zS) {k : Nat} (hk : k < 10) {nb ns h : Nat} (hC : zC σ nb ns h) : zMV l yX1_lookForBed wsX1_lookForBed ({ frames := 4, cells := 0, slots := 0, locals := 82 }) [.ref (a 0), .int (nI k)] D [(cI, .int)] (zw_H cI a σ) (zw_H cI a (f_look σ nb h k)) := by
  intro sz
  refine Met.ofW (cc := cX1_lookForBed) (maxL := 4) (ret := none) (by decide) rfl ?_
  intro p e s m args below meth c s₁ B hml hv
  obtain ⟨rfl, hsz, hP, hK, hD⟩ := hv
  have hx := B.exec
  have hb := B.bytes
  have hr := B.returns
  have hts := atoms_spec (ws := wsX1_lookForBed) B.pre
  have hown : s.vm.findClass RX1 = some m.cls := findClass_of_methodNamed B.named
  have hlocks := B.notSynchronized
  subst hsz
  have hD := hD.self (sz := s.heap.size)
  generalize hAe : va_A (zw_H cI a σ) s.heap.size = A at hD ⊢
  have hA : ∀ q : Nat, s.heap.size ≤ q → A q := fun q h => by rw [← hAe]; exact Or.inr h
  have hS : va_S A s.heap s.heap [] := va_S.rf
  have hP : va_P D vwCl (zw_H cI a σ) s.heap := hP
  have hl := lv_entry ([.ref (a 0), .int (nI k)]) (n := 4) (Nat.le_of_ble_eq_true rfl)
  rw [lg_entry_eq]
  generalize (lg_sl ([.ref (a 0), .int (nI k)]) ++ List.replicate (4 - (lg_sl ([.ref (a 0), .int (nI k)])).length) Slot.unset).toArray = ls at hl ⊢
  have hl : lv_has ls 4 [(0, .ref (a 0)), (1, .int (nI k))] := hl
  have hf124 := hts (.fieldLink RX1 124 "HotBeds$Sailors" "kept" "[I") (by decide +kernel)
  have hf22 := hts (.fieldLink RX1 22 "HotBeds$House" "beds" "LHotBeds$Beds;") (by decide +kernel)
  have hf29 := hts (.fieldLink RX1 29 "HotBeds$House" "sailors" "LHotBeds$Sailors;") (by decide +kernel)
  have hf7 := hts (.fieldLink RX1 7 "HotBeds$House" "hour" "I") (by decide +kernel)
  have hinX1 : ∀ w ∈ u_ws RX1 TX1 5, w ∈ wsX1_lookForBed := by decide +kernel
  have hinX2 : ∀ w ∈ u_ws RX2 TX2 13, w ∈ wsX1_lookForBed := by decide +kernel
  have hnb := hC.2.1
  have hns := hC.2.2.2.1
  have hh := hC.2.2.2.2.2.1
  refine lv_aload_n hx hb dX1_lookForBed_0 rfl (lv_at hl 0 rfl) ?_
  refine va_get (D := D) (ci := 1) (v := .ref (a 2)) (C := RX1) (T := TX1) (N := 5) hx hb hts hinX1 hown hK hP 0 rfl rfl 4 (by decide) hf29 (fun _ h9 => h9) rfl dX1_lookForBed_1 ?_
  refine va_get (D := D) (ci := 2) (v := .ref (a 13)) (C := RX2) (T := TX2) (N := 13) hx hb hts hinX2 hown hK hP 2 rfl rfl 6 (by decide) hf124 (fun _ h9 => h9) rfl dX1_lookForBed_4 ?_
  refine lv_iload_n hx hb dX1_lookForBed_7 rfl (lv_at hl 1 rfl) ?_
  refine zk_ld hx hb hK hP 13 0 (zwq11 cI a _) rfl (k := k) hk (by decide) (v := σ 11 k) rfl dX1_lookForBed_8 ?_
  refine lv_istore_n (lv' := [(2, .int (σ 11 k)), (0, .ref (a 0)), (1, .int (nI k))]) hx hb dX1_lookForBed_9 rfl hl (by decide) rfl (fun ls hl => ?_)
  refine lv_aload_n hx hb dX1_lookForBed_10 rfl (lv_at hl 1 rfl) ?_
  refine va_get (D := D) (ci := 1) (v := .ref (a 1)) (C := RX1) (T := TX1) (N := 5) hx hb hts hinX1 hown hK hP 0 rfl rfl 3 (by decide) hf22 (fun _ h9 => h9) rfl dX1_lookForBed_11 ?_
  refine lv_iload_n hx hb dX1_lookForBed_14 rfl (lv_at hl 0 rfl) ?_
  refine zk_R (D := D) (va_runV (As := [.int (σ 11 k)]) (rest := []) ⟨hx, hb, hml, hown, hts⟩ (c_X0_isFree l D cI a σ (σ 11 k) hC _) (cwV 1 hts gX1_lookForBed_X0_isFree rfl rfl rfl zdX0_isFree ⟨Nat.le_of_ble_eq_true rfl, Nat.le_of_ble_eq_true rfl⟩) ⟨zbl _, va_recv hK hP (ci := 0) (q0 := 1) rfl rfl, zpr hK hP hD⟩ rfl rfl hl.1 rfl (lv_room (Nat.le_of_ble_eq_true rfl)) dX1_lookForBed_15 ⟨Nat.zero_le _, Nat.zero_le _⟩) hS (fun r_1 H locs hw hkp hS => ?_)
  have hP := hkp _ hP
  rcases hw with ⟨c_2, rfl⟩ | ⟨c_2, rfl⟩
  · refine lv_if_eq (tgt := 25) hx hb dX1_lookForBed_18 (by decide) (fun c => absurd c (by decide)) (fun _ => ?_)
    refine lv_iload_n hx hb dX1_lookForBed_21 rfl (lv_at hl 0 rfl) ?_
    refine lv_goto (tgt := 32) hx hb dX1_lookForBed_22 (by decide) ?_
    refine lv_istore_n (lv' := [(3, .int (σ 11 k)), (2, .int (σ 11 k)), (0, .ref (a 0)), (1, .int (nI k))]) hx hb dX1_lookForBed_32 rfl hl (by decide) rfl (fun ls hl => ?_)
    refine lv_aload_n hx hb dX1_lookForBed_33 rfl (lv_at hl 2 rfl) ?_
    refine va_get (D := D) (ci := 1) (v := .ref (a 1)) (C := RX1) (T := TX1) (N := 5) hx hb hts hinX1 hown hK hP 0 rfl rfl 3 (by decide) hf22 (fun _ h9 => h9) rfl dX1_lookForBed_34 ?_
    refine lv_iload_n hx hb dX1_lookForBed_37 rfl (lv_at hl 0 rfl) ?_
    refine zk_R (D := D) (va_runV (As := [.int (σ 11 k)]) (rest := []) ⟨hx, hb, hml, hown, hts⟩ (c_X0_has l D cI a σ (σ 11 k) _) (cwV 1 hts gX1_lookForBed_X0_has rfl rfl rfl zdX0_has ⟨Nat.le_of_ble_eq_true rfl, Nat.le_of_ble_eq_true rfl⟩) ⟨zbl _, va_recv hK hP (ci := 0) (q0 := 1) rfl rfl, zpr hK hP hD⟩ rfl rfl hl.1 rfl (lv_room (Nat.le_of_ble_eq_true rfl)) dX1_lookForBed_38 ⟨Nat.zero_le _, Nat.zero_le _⟩) hS (fun r_4 H locs hw hkp hS => ?_)
    have hP := hkp _ hP
    rcases hw with ⟨c_5, rfl⟩ | ⟨c_5, rfl⟩
    · have e7 : f_choose σ nb k = σ 11 k := if_pos c_2
      obtain ⟨b, hb9, eb⟩ := zhas_of hC c_5
      rw [eb] at hl
      refine lv_if_eq (tgt := 53) hx hb dX1_lookForBed_41 (by decide) (fun c => absurd c (by decide)) (fun _ => ?_)
      refine lv_aload_n hx hb dX1_lookForBed_44 rfl (lv_at hl 2 rfl) ?_
      refine lv_iload_n hx hb dX1_lookForBed_45 rfl (lv_at hl 3 rfl) ?_
      refine lv_iload_n hx hb dX1_lookForBed_46 rfl (lv_at hl 0 rfl) ?_
      have hF := zfree hD hS hA
      refine zk_V (va_runV (As := [.int (nI k), .int (nI b)]) (rest := []) ⟨hx, hb, hml, hown, hts⟩ (c_X1_tryBed l D cI a σ (k := k) (b := b) hk (by omega) _) (cwV 2 hts gX1_lookForBed_X1_tryBed rfl rfl rfl zdX1_tryBed ⟨Nat.le_of_ble_eq_true rfl, Nat.le_of_ble_eq_true rfl⟩) ⟨zbl _, va_recv hK hP (ci := 1) (q0 := 0) rfl rfl, zpr hK hP hD⟩ rfl rfl hl.1 rfl (lv_room (Nat.le_of_ble_eq_true rfl)) dX1_lookForBed_47 ⟨Nat.zero_le _, Nat.zero_le _⟩) hS hF (fun H locs hkp hP1 hD1 hS => ?_)
      have hP := hP1
      have hD := hD1.weaken (fun _ _ _ z => hF _ z)
      have hP : va_P D vwCl (zw_H cI a (f_try σ k b)) H := hP
      have hD : va_D A (zw_H cI a (f_try σ k b)) := hD
      refine lv_goto (tgt := 72) hx hb dX1_lookForBed_50 (by decide) ?_
      have e9 : f_look σ nb h k = f_try σ k b := by rw [f_look, e7, if_pos c_5, eb, nI_clamp (by omega)]
      have hP9 : va_P D vwCl (zw_H cI a (f_look σ nb h k)) H := by rw [e9]; exact hP
      have hD9 : va_D A (zw_H cI a (f_look σ nb h k)) := by rw [e9]; exact hD
      exact W.vret hx hb hr (fun t ht hW => ⟨⟨(), rfl, trivial, by rw [ht]; exact hP9, va_K.moved hW.alike hK, hD9⟩, hS.F ht⟩) hS.2.2 dX1_lookForBed_72
    · have e7 : f_choose σ nb k = σ 11 k := if_pos c_2
      refine lv_if_eq (tgt := 53) hx hb dX1_lookForBed_41 (by decide) (fun _ => ?_) (fun c => absurd (by decide) c)
      refine lv_aload_n hx hb dX1_lookForBed_53 rfl (lv_at hl 2 rfl) ?_
      refine va_get (D := D) (ci := 1) (v := .int (nI h)) (C := RX1) (T := TX1) (N := 5) hx hb hts hinX1 hown hK hP 0 rfl rfl 0 (by decide) hf7 (fun _ h9 => h9) (congrArg (fun z => some (Value.int z)) hC.2.2.2.2.1) dX1_lookForBed_54 ?_
      refine lv_bipush (v := 8) hx hb dX1_lookForBed_57 (by decide) ?_
      refine zk_rem (x := h) (y := 8) hx hb dX1_lookForBed_59 (by omega) (by decide) (by decide) ?_
      refine lv_iconst (v := 4) hx hb dX1_lookForBed_60 (by decide) ?_
      refine lv_icmp_lt (tgt := 72) hx hb dX1_lookForBed_61 (by decide) (fun c_8 => ?_) (fun c_8 => ?_)
      · have e9 : f_look σ nb h k = σ := by rw [f_look, e7, if_neg c_5, if_pos c_8]
        have hP9 : va_P D vwCl (zw_H cI a (f_look σ nb h k)) H := by rw [e9]; exact hP
        have hD9 : va_D A (zw_H cI a (f_look σ nb h k)) := by rw [e9]; exact hD
        exact W.vret hx hb hr (fun t ht hW => ⟨⟨(), rfl, trivial, by rw [ht]; exact hP9, va_K.moved hW.alike hK, hD9⟩, hS.F ht⟩) hS.2.2 dX1_lookForBed_72
      · refine lv_aload_n hx hb dX1_lookForBed_64 rfl (lv_at hl 2 rfl) ?_
        refine va_get (D := D) (ci := 1) (v := .ref (a 2)) (C := RX1) (T := TX1) (N := 5) hx hb hts hinX1 hown hK hP 0 rfl rfl 4 (by decide) hf29 (fun _ h9 => h9) rfl dX1_lookForBed_65 ?_
        refine lv_iload_n hx hb dX1_lookForBed_68 rfl (lv_at hl 3 rfl) ?_
        have hF := zfree hD hS hA
        refine zk_V (va_runV (As := [.int (nI k)]) (rest := []) ⟨hx, hb, hml, hown, hts⟩ (c_X2_lieOnFloor l D cI a σ (k := k) hk _) (cwV 1 hts gX1_lookForBed_X2_lieOnFloor rfl rfl rfl zdX2_lieOnFloor ⟨Nat.le_of_ble_eq_true rfl, Nat.le_of_ble_eq_true rfl⟩) ⟨zbl _, va_recv hK hP (ci := 2) (q0 := 2) rfl rfl, zpr hK hP hD⟩ rfl rfl hl.1 rfl (lv_room (Nat.le_of_ble_eq_true rfl)) dX1_lookForBed_69 ⟨Nat.zero_le _, Nat.zero_le _⟩) hS hF (fun H locs hkp hP1 hD1 hS => ?_)
        have hP := hP1
        have hD := hD1.weaken (fun _ _ _ z => hF _ z)
        have hP : va_P D vwCl (zw_H cI a (f_floor σ k)) H := hP
        have hD : va_D A (zw_H cI a (f_floor σ k)) := hD
        have e9 : f_look σ nb h k = f_floor σ k := by rw [f_look, e7, if_neg c_5, if_neg c_8]
        have hP9 : va_P D vwCl (zw_H cI a (f_look σ nb h k)) H := by rw [e9]; exact hP
        have hD9 : va_D A (zw_H cI a (f_look σ nb h k)) := by rw [e9]; exact hD
        exact W.vret hx hb hr (fun t ht hW => ⟨⟨(), rfl, trivial, by rw [ht]; exact hP9, va_K.moved hW.alike hK, hD9⟩, hS.F ht⟩) hS.2.2 dX1_lookForBed_72
  · refine lv_if_eq (tgt := 25) hx hb dX1_lookForBed_18 (by decide) (fun _ => ?_) (fun c => absurd (by decide) c)
    refine lv_aload_n hx hb dX1_lookForBed_25 rfl (lv_at hl 1 rfl) ?_
    refine va_get (D := D) (ci := 1) (v := .ref (a 1)) (C := RX1) (T := TX1) (N := 5) hx hb hts hinX1 hown hK hP 0 rfl rfl 3 (by decide) hf22 (fun _ h9 => h9) rfl dX1_lookForBed_26 ?_
    refine zk_R (D := D) (va_runV (As := []) (rest := []) ⟨hx, hb, hml, hown, hts⟩ (c_X0_cheapestFree l D cI a σ hC _) (cwV 0 hts gX1_lookForBed_X0_cheapestFree rfl rfl rfl zdX0_cheapestFree ⟨Nat.le_of_ble_eq_true rfl, Nat.le_of_ble_eq_true rfl⟩) ⟨zbl _, va_recv hK hP (ci := 0) (q0 := 1) rfl rfl, zpr hK hP hD⟩ rfl rfl hl.1 rfl (lv_room (Nat.le_of_ble_eq_true rfl)) dX1_lookForBed_29 ⟨Nat.zero_le _, Nat.zero_le _⟩) hS (fun r_10 H locs hw hkp hS => ?_)
    have hP := hkp _ hP
    subst hw
    refine lv_istore_n (lv' := [(3, .int (f_ch σ nb)), (2, .int (σ 11 k)), (0, .ref (a 0)), (1, .int (nI k))]) hx hb dX1_lookForBed_32 rfl hl (by decide) rfl (fun ls hl => ?_)
    refine lv_aload_n hx hb dX1_lookForBed_33 rfl (lv_at hl 2 rfl) ?_
    refine va_get (D := D) (ci := 1) (v := .ref (a 1)) (C := RX1) (T := TX1) (N := 5) hx hb hts hinX1 hown hK hP 0 rfl rfl 3 (by decide) hf22 (fun _ h9 => h9) rfl dX1_lookForBed_34 ?_
    refine lv_iload_n hx hb dX1_lookForBed_37 rfl (lv_at hl 0 rfl) ?_
    refine zk_R (D := D) (va_runV (As := [.int (f_ch σ nb)]) (rest := []) ⟨hx, hb, hml, hown, hts⟩ (c_X0_has l D cI a σ (f_ch σ nb) _) (cwV 1 hts gX1_lookForBed_X0_has rfl rfl rfl zdX0_has ⟨Nat.le_of_ble_eq_true rfl, Nat.le_of_ble_eq_true rfl⟩) ⟨zbl _, va_recv hK hP (ci := 0) (q0 := 1) rfl rfl, zpr hK hP hD⟩ rfl rfl hl.1 rfl (lv_room (Nat.le_of_ble_eq_true rfl)) dX1_lookForBed_38 ⟨Nat.zero_le _, Nat.zero_le _⟩) hS (fun r_11 H locs hw hkp hS => ?_)
    have hP := hkp _ hP
    rcases hw with ⟨c_12, rfl⟩ | ⟨c_12, rfl⟩
    · have e7 : f_choose σ nb k = f_ch σ nb := if_neg c_2
      obtain ⟨b, hb9, eb⟩ := zhas_of hC c_12
      rw [eb] at hl
      refine lv_if_eq (tgt := 53) hx hb dX1_lookForBed_41 (by decide) (fun c => absurd c (by decide)) (fun _ => ?_)
      refine lv_aload_n hx hb dX1_lookForBed_44 rfl (lv_at hl 2 rfl) ?_
      refine lv_iload_n hx hb dX1_lookForBed_45 rfl (lv_at hl 3 rfl) ?_
      refine lv_iload_n hx hb dX1_lookForBed_46 rfl (lv_at hl 0 rfl) ?_
      have hF := zfree hD hS hA
      refine zk_V (va_runV (As := [.int (nI k), .int (nI b)]) (rest := []) ⟨hx, hb, hml, hown, hts⟩ (c_X1_tryBed l D cI a σ (k := k) (b := b) hk (by omega) _) (cwV 2 hts gX1_lookForBed_X1_tryBed rfl rfl rfl zdX1_tryBed ⟨Nat.le_of_ble_eq_true rfl, Nat.le_of_ble_eq_true rfl⟩) ⟨zbl _, va_recv hK hP (ci := 1) (q0 := 0) rfl rfl, zpr hK hP hD⟩ rfl rfl hl.1 rfl (lv_room (Nat.le_of_ble_eq_true rfl)) dX1_lookForBed_47 ⟨Nat.zero_le _, Nat.zero_le _⟩) hS hF (fun H locs hkp hP1 hD1 hS => ?_)
      have hP := hP1
      have hD := hD1.weaken (fun _ _ _ z => hF _ z)
      have hP : va_P D vwCl (zw_H cI a (f_try σ k b)) H := hP
      have hD : va_D A (zw_H cI a (f_try σ k b)) := hD
      refine lv_goto (tgt := 72) hx hb dX1_lookForBed_50 (by decide) ?_
      have e9 : f_look σ nb h k = f_try σ k b := by rw [f_look, e7, if_pos c_12, eb, nI_clamp (by omega)]
      have hP9 : va_P D vwCl (zw_H cI a (f_look σ nb h k)) H := by rw [e9]; exact hP
      have hD9 : va_D A (zw_H cI a (f_look σ nb h k)) := by rw [e9]; exact hD
      exact W.vret hx hb hr (fun t ht hW => ⟨⟨(), rfl, trivial, by rw [ht]; exact hP9, va_K.moved hW.alike hK, hD9⟩, hS.F ht⟩) hS.2.2 dX1_lookForBed_72
    · have e7 : f_choose σ nb k = f_ch σ nb := if_neg c_2
      refine lv_if_eq (tgt := 53) hx hb dX1_lookForBed_41 (by decide) (fun _ => ?_) (fun c => absurd (by decide) c)
      refine lv_aload_n hx hb dX1_lookForBed_53 rfl (lv_at hl 2 rfl) ?_
      refine va_get (D := D) (ci := 1) (v := .int (nI h)) (C := RX1) (T := TX1) (N := 5) hx hb hts hinX1 hown hK hP 0 rfl rfl 0 (by decide) hf7 (fun _ h9 => h9) (congrArg (fun z => some (Value.int z)) hC.2.2.2.2.1) dX1_lookForBed_54 ?_
      refine lv_bipush (v := 8) hx hb dX1_lookForBed_57 (by decide) ?_
      refine zk_rem (x := h) (y := 8) hx hb dX1_lookForBed_59 (by omega) (by decide) (by decide) ?_
      refine lv_iconst (v := 4) hx hb dX1_lookForBed_60 (by decide) ?_
      refine lv_icmp_lt (tgt := 72) hx hb dX1_lookForBed_61 (by decide) (fun c_15 => ?_) (fun c_15 => ?_)
      · have e9 : f_look σ nb h k = σ := by rw [f_look, e7, if_neg c_12, if_pos c_15]
        have hP9 : va_P D vwCl (zw_H cI a (f_look σ nb h k)) H := by rw [e9]; exact hP
        have hD9 : va_D A (zw_H cI a (f_look σ nb h k)) := by rw [e9]; exact hD
        exact W.vret hx hb hr (fun t ht hW => ⟨⟨(), rfl, trivial, by rw [ht]; exact hP9, va_K.moved hW.alike hK, hD9⟩, hS.F ht⟩) hS.2.2 dX1_lookForBed_72
      · refine lv_aload_n hx hb dX1_lookForBed_64 rfl (lv_at hl 2 rfl) ?_
        refine va_get (D := D) (ci := 1) (v := .ref (a 2)) (C := RX1) (T := TX1) (N := 5) hx hb hts hinX1 hown hK hP 0 rfl rfl 4 (by decide) hf29 (fun _ h9 => h9) rfl dX1_lookForBed_65 ?_
        refine lv_iload_n hx hb dX1_lookForBed_68 rfl (lv_at hl 3 rfl) ?_
        have hF := zfree hD hS hA
        refine zk_V (va_runV (As := [.int (nI k)]) (rest := []) ⟨hx, hb, hml, hown, hts⟩ (c_X2_lieOnFloor l D cI a σ (k := k) hk _) (cwV 1 hts gX1_lookForBed_X2_lieOnFloor rfl rfl rfl zdX2_lieOnFloor ⟨Nat.le_of_ble_eq_true rfl, Nat.le_of_ble_eq_true rfl⟩) ⟨zbl _, va_recv hK hP (ci := 2) (q0 := 2) rfl rfl, zpr hK hP hD⟩ rfl rfl hl.1 rfl (lv_room (Nat.le_of_ble_eq_true rfl)) dX1_lookForBed_69 ⟨Nat.zero_le _, Nat.zero_le _⟩) hS hF (fun H locs hkp hP1 hD1 hS => ?_)
        have hP := hP1
        have hD := hD1.weaken (fun _ _ _ z => hF _ z)
        have hP : va_P D vwCl (zw_H cI a (f_floor σ k)) H := hP
        have hD : va_D A (zw_H cI a (f_floor σ k)) := hD
        have e9 : f_look σ nb h k = f_floor σ k := by rw [f_look, e7, if_neg c_12, if_neg c_15]
        have hP9 : va_P D vwCl (zw_H cI a (f_look σ nb h k)) H := by rw [e9]; exact hP
        have hD9 : va_D A (zw_H cI a (f_look σ nb h k)) := by rw [e9]; exact hD
        exact W.vret hx hb hr (fun t ht hW => ⟨⟨(), rfl, trivial, by rw [ht]; exact hP9, va_K.moved hW.alike hK, hD9⟩, hS.F ht⟩) hS.2.2 dX1_lookForBed_72

theorem f_pay_0 (σ : zS) (k : Nat) : f_pay σ k 0 = σ 0 := rfl
theorem f_pay_6 (σ : zS) (k : Nat) : f_pay σ k 6 = σ 6 := rfl
theorem f_red_0 (σ : zS) (k : Nat) : f_red σ k 0 = σ 0 := rfl
theorem f_red_6 (σ : zS) (k : Nat) : f_red σ k 6 = σ 6 := rfl

set_option maxHeartbeats 4000000 in
set_option maxRecDepth 100000 in
theorem c_X1_serve (l : Launch) (D : va_G) (cI : ClassId) (a : Nat → Nat) (σ : zS) {k : Nat} (hk : k < 10) {nb ns h : Nat} (hC : zC σ nb ns h) : zMV l yX1_serve wsX1_serve ({ frames := 5, cells := 0, slots := 0, locals := 105 }) [.ref (a 0), .int (nI k)] D [(cI, .int)] (zw_H cI a σ) (zw_H cI a (f_serve σ nb h k)) := by
  intro sz
  refine Met.ofW (cc := cX1_serve) (maxL := 2) (ret := none) (by decide) rfl ?_
  intro p e s m args below meth c s₁ B hml hv
  obtain ⟨rfl, hsz, hP, hK, hD⟩ := hv
  have hx := B.exec
  have hb := B.bytes
  have hr := B.returns
  have hts := atoms_spec (ws := wsX1_serve) B.pre
  have hown : s.vm.findClass RX1 = some m.cls := findClass_of_methodNamed B.named
  have hlocks := B.notSynchronized
  subst hsz
  have hD := hD.self (sz := s.heap.size)
  generalize hAe : va_A (zw_H cI a σ) s.heap.size = A at hD ⊢
  have hA : ∀ q : Nat, s.heap.size ≤ q → A q := fun q h => by rw [← hAe]; exact Or.inr h
  have hS : va_S A s.heap s.heap [] := va_S.rf
  have hP : va_P D vwCl (zw_H cI a σ) s.heap := hP
  have hl := lv_entry ([.ref (a 0), .int (nI k)]) (n := 2) (Nat.le_of_ble_eq_true rfl)
  rw [lg_entry_eq]
  generalize (lg_sl ([.ref (a 0), .int (nI k)]) ++ List.replicate (2 - (lg_sl ([.ref (a 0), .int (nI k)])).length) Slot.unset).toArray = ls at hl ⊢
  have hl : lv_has ls 2 [(0, .ref (a 0)), (1, .int (nI k))] := hl
  have hf29 := hts (.fieldLink RX1 29 "HotBeds$House" "sailors" "LHotBeds$Sailors;") (by decide +kernel)
  have hf7 := hts (.fieldLink RX1 7 "HotBeds$House" "hour" "I") (by decide +kernel)
  have hinX1 : ∀ w ∈ u_ws RX1 TX1 5, w ∈ wsX1_serve := by decide +kernel
  have hnb := hC.2.1
  have hns := hC.2.2.2.1
  have hh := hC.2.2.2.2.2.1
  refine lv_aload_n hx hb dX1_serve_0 rfl (lv_at hl 0 rfl) ?_
  refine lv_iload_n hx hb dX1_serve_1 rfl (lv_at hl 1 rfl) ?_
  refine zk_R (D := D) (va_runV (As := [.int (nI k)]) (rest := []) ⟨hx, hb, hml, hown, hts⟩ (c_X1_isInWatch l D cI a σ (k := k) hk hC _) (cwV 1 hts gX1_serve_X1_isInWatch rfl rfl rfl zdX1_isInWatch ⟨Nat.le_of_ble_eq_true rfl, Nat.le_of_ble_eq_true rfl⟩) ⟨zbl _, va_recv hK hP (ci := 1) (q0 := 0) rfl rfl, zpr hK hP hD⟩ rfl rfl hl.1 rfl (lv_room (Nat.le_of_ble_eq_true rfl)) dX1_serve_2 ⟨Nat.zero_le _, Nat.zero_le _⟩) hS (fun r_1 H locs hw hkp hS => ?_)
  have hP := hkp _ hP
  rcases hw with ⟨c_2, rfl⟩ | ⟨c_2, rfl⟩
  · refine lv_if_ne (tgt := 9) hx hb dX1_serve_5 (by decide) (fun _ => ?_) (fun c => absurd c (by decide))
    refine lv_aload_n hx hb dX1_serve_9 rfl (lv_at hl 0 rfl) ?_
    refine va_get (D := D) (ci := 1) (v := .int (nI h)) (C := RX1) (T := TX1) (N := 5) hx hb hts hinX1 hown hK hP 0 rfl rfl 0 (by decide) hf7 (fun _ h9 => h9) (congrArg (fun z => some (Value.int z)) hC.2.2.2.2.1) dX1_serve_10 ?_
    refine lv_bipush (v := 8) hx hb dX1_serve_13 (by decide) ?_
    refine zk_rem (x := h) (y := 8) hx hb dX1_serve_15 (by omega) (by decide) (by decide) ?_
    refine lv_if_ne (tgt := 40) hx hb dX1_serve_16 (by decide) (fun c_4 => ?_) (fun c_4 => ?_)
    · refine lv_aload_n hx hb dX1_serve_40 rfl (lv_at hl 0 rfl) ?_
      refine va_get (D := D) (ci := 1) (v := .ref (a 2)) (C := RX1) (T := TX1) (N := 5) hx hb hts hinX1 hown hK hP 0 rfl rfl 4 (by decide) hf29 (fun _ h9 => h9) rfl dX1_serve_41 ?_
      refine lv_iload_n hx hb dX1_serve_44 rfl (lv_at hl 1 rfl) ?_
      refine zk_R (D := D) (va_runV (As := [.int (nI k)]) (rest := []) ⟨hx, hb, hml, hown, hts⟩ (c_X2_isUp l D cI a σ (k := k) hk _) (cwV 1 hts gX1_serve_X2_isUp rfl rfl rfl zdX2_isUp ⟨Nat.le_of_ble_eq_true rfl, Nat.le_of_ble_eq_true rfl⟩) ⟨zbl _, va_recv hK hP (ci := 2) (q0 := 2) rfl rfl, zpr hK hP hD⟩ rfl rfl hl.1 rfl (lv_room (Nat.le_of_ble_eq_true rfl)) dX1_serve_45 ⟨Nat.zero_le _, Nat.zero_le _⟩) hS (fun r_5 H locs hw hkp hS => ?_)
      have hP := hkp _ hP
      rcases hw with ⟨c_6, rfl⟩ | ⟨c_6, rfl⟩
      · refine lv_if_eq (tgt := 56) hx hb dX1_serve_48 (by decide) (fun c => absurd c (by decide)) (fun _ => ?_)
        refine lv_aload_n hx hb dX1_serve_51 rfl (lv_at hl 0 rfl) ?_
        refine lv_iload_n hx hb dX1_serve_52 rfl (lv_at hl 1 rfl) ?_
        have hF := zfree hD hS hA
        refine zk_V (va_runV (As := [.int (nI k)]) (rest := []) ⟨hx, hb, hml, hown, hts⟩ (c_X1_lookForBed l D cI a σ (k := k) hk hC _) (cwV 1 hts gX1_serve_X1_lookForBed rfl rfl rfl zdX1_lookForBed ⟨Nat.le_of_ble_eq_true rfl, Nat.le_of_ble_eq_true rfl⟩) ⟨zbl _, va_recv hK hP (ci := 1) (q0 := 0) rfl rfl, zpr hK hP hD⟩ rfl rfl hl.1 rfl (lv_room (Nat.le_of_ble_eq_true rfl)) dX1_serve_53 ⟨Nat.zero_le _, Nat.zero_le _⟩) hS hF (fun H locs hkp hP1 hD1 hS => ?_)
        have hP := hP1
        have hD := hD1.weaken (fun _ _ _ z => hF _ z)
        have hP : va_P D vwCl (zw_H cI a (f_look σ nb h k)) H := hP
        have hD : va_D A (zw_H cI a (f_look σ nb h k)) := hD
        have e9 : f_serve σ nb h k = f_look σ nb h k := by simp only [f_serve, f_payR, if_pos c_2, if_neg c_4, if_pos c_6]
        have hP9 : va_P D vwCl (zw_H cI a (f_serve σ nb h k)) H := by rw [e9]; exact hP
        have hD9 : va_D A (zw_H cI a (f_serve σ nb h k)) := by rw [e9]; exact hD
        exact W.vret hx hb hr (fun t ht hW => ⟨⟨(), rfl, trivial, by rw [ht]; exact hP9, va_K.moved hW.alike hK, hD9⟩, hS.F ht⟩) hS.2.2 dX1_serve_56
      · refine lv_if_eq (tgt := 56) hx hb dX1_serve_48 (by decide) (fun _ => ?_) (fun c => absurd (by decide) c)
        have e9 : f_serve σ nb h k = σ := by simp only [f_serve, f_payR, if_pos c_2, if_neg c_4, if_neg c_6]
        have hP9 : va_P D vwCl (zw_H cI a (f_serve σ nb h k)) H := by rw [e9]; exact hP
        have hD9 : va_D A (zw_H cI a (f_serve σ nb h k)) := by rw [e9]; exact hD
        exact W.vret hx hb hr (fun t ht hW => ⟨⟨(), rfl, trivial, by rw [ht]; exact hP9, va_K.moved hW.alike hK, hD9⟩, hS.F ht⟩) hS.2.2 dX1_serve_56
    · refine lv_aload_n hx hb dX1_serve_19 rfl (lv_at hl 0 rfl) ?_
      refine va_get (D := D) (ci := 1) (v := .ref (a 2)) (C := RX1) (T := TX1) (N := 5) hx hb hts hinX1 hown hK hP 0 rfl rfl 4 (by decide) hf29 (fun _ h9 => h9) rfl dX1_serve_20 ?_
      refine lv_iload_n hx hb dX1_serve_23 rfl (lv_at hl 1 rfl) ?_
      have hF := zfree hD hS hA
      refine zk_V (va_runV (As := [.int (nI k)]) (rest := []) ⟨hx, hb, hml, hown, hts⟩ (c_X2_payWage l D cI a σ (k := k) hk _) (cwV 1 hts gX1_serve_X2_payWage rfl rfl rfl zdX2_payWage ⟨Nat.le_of_ble_eq_true rfl, Nat.le_of_ble_eq_true rfl⟩) ⟨zbl _, va_recv hK hP (ci := 2) (q0 := 2) rfl rfl, zpr hK hP hD⟩ rfl rfl hl.1 rfl (lv_room (Nat.le_of_ble_eq_true rfl)) dX1_serve_24 ⟨Nat.zero_le _, Nat.zero_le _⟩) hS hF (fun H locs hkp hP1 hD1 hS => ?_)
      have hP := hP1
      have hD := hD1.weaken (fun _ _ _ z => hF _ z)
      have hP : va_P D vwCl (zw_H cI a (f_pay σ k)) H := hP
      have hD : va_D A (zw_H cI a (f_pay σ k)) := hD
      have hC := hC.to (f_pay_0 σ k) (f_pay_6 σ k)
      refine lv_aload_n hx hb dX1_serve_27 rfl (lv_at hl 0 rfl) ?_
      refine lv_iload_n hx hb dX1_serve_28 rfl (lv_at hl 1 rfl) ?_
      refine zk_R (D := D) (va_runV (As := [.int (nI k)]) (rest := []) ⟨hx, hb, hml, hown, hts⟩ (c_X1_canRedeemBoots l D cI a (f_pay σ k) (k := k) hk _) (cwV 1 hts gX1_serve_X1_canRedeemBoots rfl rfl rfl zdX1_canRedeemBoots ⟨Nat.le_of_ble_eq_true rfl, Nat.le_of_ble_eq_true rfl⟩) ⟨zbl _, va_recv hK hP (ci := 1) (q0 := 0) rfl rfl, zpr hK hP hD⟩ rfl rfl hl.1 rfl (lv_room (Nat.le_of_ble_eq_true rfl)) dX1_serve_29 ⟨Nat.zero_le _, Nat.zero_le _⟩) hS (fun r_9 H locs hw hkp hS => ?_)
      have hP := hkp _ hP
      rcases hw with ⟨c_10, rfl⟩ | ⟨c_10, rfl⟩
      · refine lv_if_eq (tgt := 40) hx hb dX1_serve_32 (by decide) (fun c => absurd c (by decide)) (fun _ => ?_)
        refine lv_aload_n hx hb dX1_serve_35 rfl (lv_at hl 0 rfl) ?_
        refine lv_iload_n hx hb dX1_serve_36 rfl (lv_at hl 1 rfl) ?_
        have hF := zfree hD hS hA
        refine zk_V (va_runV (As := [.int (nI k)]) (rest := []) ⟨hx, hb, hml, hown, hts⟩ (c_X1_redeemBoots l D cI a (f_pay σ k) (k := k) hk _) (cwV 1 hts gX1_serve_X1_redeemBoots rfl rfl rfl zdX1_redeemBoots ⟨Nat.le_of_ble_eq_true rfl, Nat.le_of_ble_eq_true rfl⟩) ⟨zbl _, va_recv hK hP (ci := 1) (q0 := 0) rfl rfl, zpr hK hP hD⟩ rfl rfl hl.1 rfl (lv_room (Nat.le_of_ble_eq_true rfl)) dX1_serve_37 ⟨Nat.zero_le _, Nat.zero_le _⟩) hS hF (fun H locs hkp hP1 hD1 hS => ?_)
        have hP := hP1
        have hD := hD1.weaken (fun _ _ _ z => hF _ z)
        have hP : va_P D vwCl (zw_H cI a (f_red (f_pay σ k) k)) H := hP
        have hD : va_D A (zw_H cI a (f_red (f_pay σ k) k)) := hD
        have hC := hC.to (f_red_0 (f_pay σ k) k) (f_red_6 (f_pay σ k) k)
        refine lv_aload_n hx hb dX1_serve_40 rfl (lv_at hl 0 rfl) ?_
        refine va_get (D := D) (ci := 1) (v := .ref (a 2)) (C := RX1) (T := TX1) (N := 5) hx hb hts hinX1 hown hK hP 0 rfl rfl 4 (by decide) hf29 (fun _ h9 => h9) rfl dX1_serve_41 ?_
        refine lv_iload_n hx hb dX1_serve_44 rfl (lv_at hl 1 rfl) ?_
        refine zk_R (D := D) (va_runV (As := [.int (nI k)]) (rest := []) ⟨hx, hb, hml, hown, hts⟩ (c_X2_isUp l D cI a (f_red (f_pay σ k) k) (k := k) hk _) (cwV 1 hts gX1_serve_X2_isUp rfl rfl rfl zdX2_isUp ⟨Nat.le_of_ble_eq_true rfl, Nat.le_of_ble_eq_true rfl⟩) ⟨zbl _, va_recv hK hP (ci := 2) (q0 := 2) rfl rfl, zpr hK hP hD⟩ rfl rfl hl.1 rfl (lv_room (Nat.le_of_ble_eq_true rfl)) dX1_serve_45 ⟨Nat.zero_le _, Nat.zero_le _⟩) hS (fun r_12 H locs hw hkp hS => ?_)
        have hP := hkp _ hP
        rcases hw with ⟨c_13, rfl⟩ | ⟨c_13, rfl⟩
        · refine lv_if_eq (tgt := 56) hx hb dX1_serve_48 (by decide) (fun c => absurd c (by decide)) (fun _ => ?_)
          refine lv_aload_n hx hb dX1_serve_51 rfl (lv_at hl 0 rfl) ?_
          refine lv_iload_n hx hb dX1_serve_52 rfl (lv_at hl 1 rfl) ?_
          have hF := zfree hD hS hA
          refine zk_V (va_runV (As := [.int (nI k)]) (rest := []) ⟨hx, hb, hml, hown, hts⟩ (c_X1_lookForBed l D cI a (f_red (f_pay σ k) k) (k := k) hk hC _) (cwV 1 hts gX1_serve_X1_lookForBed rfl rfl rfl zdX1_lookForBed ⟨Nat.le_of_ble_eq_true rfl, Nat.le_of_ble_eq_true rfl⟩) ⟨zbl _, va_recv hK hP (ci := 1) (q0 := 0) rfl rfl, zpr hK hP hD⟩ rfl rfl hl.1 rfl (lv_room (Nat.le_of_ble_eq_true rfl)) dX1_serve_53 ⟨Nat.zero_le _, Nat.zero_le _⟩) hS hF (fun H locs hkp hP1 hD1 hS => ?_)
          have hP := hP1
          have hD := hD1.weaken (fun _ _ _ z => hF _ z)
          have hP : va_P D vwCl (zw_H cI a (f_look (f_red (f_pay σ k) k) nb h k)) H := hP
          have hD : va_D A (zw_H cI a (f_look (f_red (f_pay σ k) k) nb h k)) := hD
          have e9 : f_serve σ nb h k = f_look (f_red (f_pay σ k) k) nb h k := by simp only [f_serve, f_payR, if_pos c_2, if_pos c_4, if_pos c_10, if_pos c_13]
          have hP9 : va_P D vwCl (zw_H cI a (f_serve σ nb h k)) H := by rw [e9]; exact hP
          have hD9 : va_D A (zw_H cI a (f_serve σ nb h k)) := by rw [e9]; exact hD
          exact W.vret hx hb hr (fun t ht hW => ⟨⟨(), rfl, trivial, by rw [ht]; exact hP9, va_K.moved hW.alike hK, hD9⟩, hS.F ht⟩) hS.2.2 dX1_serve_56
        · refine lv_if_eq (tgt := 56) hx hb dX1_serve_48 (by decide) (fun _ => ?_) (fun c => absurd (by decide) c)
          have e9 : f_serve σ nb h k = f_red (f_pay σ k) k := by simp only [f_serve, f_payR, if_pos c_2, if_pos c_4, if_pos c_10, if_neg c_13]
          have hP9 : va_P D vwCl (zw_H cI a (f_serve σ nb h k)) H := by rw [e9]; exact hP
          have hD9 : va_D A (zw_H cI a (f_serve σ nb h k)) := by rw [e9]; exact hD
          exact W.vret hx hb hr (fun t ht hW => ⟨⟨(), rfl, trivial, by rw [ht]; exact hP9, va_K.moved hW.alike hK, hD9⟩, hS.F ht⟩) hS.2.2 dX1_serve_56
      · refine lv_if_eq (tgt := 40) hx hb dX1_serve_32 (by decide) (fun _ => ?_) (fun c => absurd (by decide) c)
        refine lv_aload_n hx hb dX1_serve_40 rfl (lv_at hl 0 rfl) ?_
        refine va_get (D := D) (ci := 1) (v := .ref (a 2)) (C := RX1) (T := TX1) (N := 5) hx hb hts hinX1 hown hK hP 0 rfl rfl 4 (by decide) hf29 (fun _ h9 => h9) rfl dX1_serve_41 ?_
        refine lv_iload_n hx hb dX1_serve_44 rfl (lv_at hl 1 rfl) ?_
        refine zk_R (D := D) (va_runV (As := [.int (nI k)]) (rest := []) ⟨hx, hb, hml, hown, hts⟩ (c_X2_isUp l D cI a (f_pay σ k) (k := k) hk _) (cwV 1 hts gX1_serve_X2_isUp rfl rfl rfl zdX2_isUp ⟨Nat.le_of_ble_eq_true rfl, Nat.le_of_ble_eq_true rfl⟩) ⟨zbl _, va_recv hK hP (ci := 2) (q0 := 2) rfl rfl, zpr hK hP hD⟩ rfl rfl hl.1 rfl (lv_room (Nat.le_of_ble_eq_true rfl)) dX1_serve_45 ⟨Nat.zero_le _, Nat.zero_le _⟩) hS (fun r_17 H locs hw hkp hS => ?_)
        have hP := hkp _ hP
        rcases hw with ⟨c_18, rfl⟩ | ⟨c_18, rfl⟩
        · refine lv_if_eq (tgt := 56) hx hb dX1_serve_48 (by decide) (fun c => absurd c (by decide)) (fun _ => ?_)
          refine lv_aload_n hx hb dX1_serve_51 rfl (lv_at hl 0 rfl) ?_
          refine lv_iload_n hx hb dX1_serve_52 rfl (lv_at hl 1 rfl) ?_
          have hF := zfree hD hS hA
          refine zk_V (va_runV (As := [.int (nI k)]) (rest := []) ⟨hx, hb, hml, hown, hts⟩ (c_X1_lookForBed l D cI a (f_pay σ k) (k := k) hk hC _) (cwV 1 hts gX1_serve_X1_lookForBed rfl rfl rfl zdX1_lookForBed ⟨Nat.le_of_ble_eq_true rfl, Nat.le_of_ble_eq_true rfl⟩) ⟨zbl _, va_recv hK hP (ci := 1) (q0 := 0) rfl rfl, zpr hK hP hD⟩ rfl rfl hl.1 rfl (lv_room (Nat.le_of_ble_eq_true rfl)) dX1_serve_53 ⟨Nat.zero_le _, Nat.zero_le _⟩) hS hF (fun H locs hkp hP1 hD1 hS => ?_)
          have hP := hP1
          have hD := hD1.weaken (fun _ _ _ z => hF _ z)
          have hP : va_P D vwCl (zw_H cI a (f_look (f_pay σ k) nb h k)) H := hP
          have hD : va_D A (zw_H cI a (f_look (f_pay σ k) nb h k)) := hD
          have e9 : f_serve σ nb h k = f_look (f_pay σ k) nb h k := by simp only [f_serve, f_payR, if_pos c_2, if_pos c_4, if_neg c_10, if_pos c_18]
          have hP9 : va_P D vwCl (zw_H cI a (f_serve σ nb h k)) H := by rw [e9]; exact hP
          have hD9 : va_D A (zw_H cI a (f_serve σ nb h k)) := by rw [e9]; exact hD
          exact W.vret hx hb hr (fun t ht hW => ⟨⟨(), rfl, trivial, by rw [ht]; exact hP9, va_K.moved hW.alike hK, hD9⟩, hS.F ht⟩) hS.2.2 dX1_serve_56
        · refine lv_if_eq (tgt := 56) hx hb dX1_serve_48 (by decide) (fun _ => ?_) (fun c => absurd (by decide) c)
          have e9 : f_serve σ nb h k = f_pay σ k := by simp only [f_serve, f_payR, if_pos c_2, if_pos c_4, if_neg c_10, if_neg c_18]
          have hP9 : va_P D vwCl (zw_H cI a (f_serve σ nb h k)) H := by rw [e9]; exact hP
          have hD9 : va_D A (zw_H cI a (f_serve σ nb h k)) := by rw [e9]; exact hD
          exact W.vret hx hb hr (fun t ht hW => ⟨⟨(), rfl, trivial, by rw [ht]; exact hP9, va_K.moved hW.alike hK, hD9⟩, hS.F ht⟩) hS.2.2 dX1_serve_56
  · refine lv_if_ne (tgt := 9) hx hb dX1_serve_5 (by decide) (fun c => absurd (by decide) c) (fun _ => ?_)
    have e9 : f_serve σ nb h k = σ := by simp only [f_serve, f_payR, if_neg c_2]
    have hP9 : va_P D vwCl (zw_H cI a (f_serve σ nb h k)) H := by rw [e9]; exact hP
    have hD9 : va_D A (zw_H cI a (f_serve σ nb h k)) := by rw [e9]; exact hD
    exact W.vret hx hb hr (fun t ht hW => ⟨⟨(), rfl, trivial, by rw [ht]; exact hP9, va_K.moved hW.alike hK, hD9⟩, hS.F ht⟩) hS.2.2 dX1_serve_8
end
section
theorem zlk {x : Int32} {o1 o2 d : Int} (h1 : ¬ x = 1) (h2 : ¬ x = 2) : Op.lookupswitch.offset [((1 : Int), o1), ((2 : Int), o2)] d x.toInt = d := by
  have n1 : ¬ (1 : Int) = x.toInt := fun z => h1 (Int32.toInt_inj.mp z.symm)
  have n2 : ¬ (2 : Int) = x.toInt := fun z => h2 (Int32.toInt_inj.mp z.symm)
  rw [Op.lookupswitch.offset_cons, if_neg n1, Op.lookupswitch.offset_cons, if_neg n2, Op.lookupswitch.offset_nil]
theorem f_getUp_0 (σ : zS) (k : Nat) : f_getUp σ k 0 = σ 0 := by unfold f_getUp f_leave; split <;> rfl
theorem f_getUp_6 (σ : zS) (k : Nat) : f_getUp σ k 6 = σ 6 := by unfold f_getUp f_leave; split <;> rfl
theorem f_try1_0 (σ : zS) (k b : Nat) : f_try1 σ k b 0 = σ 0 := by unfold f_try1; split <;> rfl
theorem f_try1_6 (σ : zS) (k b : Nat) : f_try1 σ k b 6 = σ 6 := by unfold f_try1; split <;> rfl
theorem f_try_0 (σ : zS) (k b : Nat) : f_try σ k b 0 = σ 0 := by unfold f_try; split <;> exact f_try1_0 σ k b
theorem f_try_6 (σ : zS) (k b : Nat) : f_try σ k b 6 = σ 6 := by unfold f_try; split <;> exact f_try1_6 σ k b
theorem f_look_0 (σ : zS) (nb h k : Nat) : f_look σ nb h k 0 = σ 0 := by
  unfold f_look
  split
  · exact f_try_0 _ _ _
  · split <;> rfl
theorem f_look_6 (σ : zS) (nb h k : Nat) : f_look σ nb h k 6 = σ 6 := by
  unfold f_look
  split
  · exact f_try_6 _ _ _
  · split <;> rfl
theorem f_payR_0 (σ : zS) (h k : Nat) : f_payR σ h k 0 = σ 0 := by
  unfold f_payR
  split
  · split <;> rfl
  · rfl
theorem f_payR_6 (σ : zS) (h k : Nat) : f_payR σ h k 6 = σ 6 := by
  unfold f_payR
  split
  · split <;> rfl
  · rfl
theorem f_serve_0 (σ : zS) (nb h k : Nat) : f_serve σ nb h k 0 = σ 0 := by
  unfold f_serve
  split
  · split
    · exact (f_look_0 _ _ _ _).trans (f_payR_0 _ _ _)
    · exact f_payR_0 _ _ _
  · rfl
theorem f_serve_6 (σ : zS) (nb h k : Nat) : f_serve σ nb h k 6 = σ 6 := by
  unfold f_serve
  split
  · split
    · exact (f_look_6 _ _ _ _).trans (f_payR_6 _ _ _)
    · exact f_payR_6 _ _ _
  · rfl
theorem f_ring_0 (σ : zS) (h k : Nat) : f_ring σ h k 0 = σ 0 := by
  unfold f_ring
  split
  · rfl
  · split
    · rfl
    · split
      · rfl
      · exact f_getUp_0 _ _
theorem f_ring_6 (σ : zS) (h k : Nat) : f_ring σ h k 6 = σ 6 := by
  unfold f_ring
  split
  · rfl
  · split
    · rfl
    · split
      · rfl
      · exact f_getUp_6 _ _
theorem f_itr_row {F : zS → Nat → zS} {r : Nat} (hF : ∀ τ k, F τ k r = τ r) (σ : zS) : ∀ j : Nat, f_itr F j σ r = σ r
  | 0 => rfl
  | j + 1 => (hF (f_itr F j σ) j).trans (f_itr_row hF σ j)
theorem zC.itr {F : zS → Nat → zS} {σ : zS} {nb ns h : Nat} (hC : zC σ nb ns h) (h0 : ∀ τ k, F τ k 0 = τ 0) (h6 : ∀ τ k, F τ k 6 = τ 6) (j : Nat) : zC (f_itr F j σ) nb ns h := hC.to (f_itr_row h0 σ j) (f_itr_row h6 σ j)
theorem zC.ring {σ : zS} {nb ns h : Nat} (hC : zC σ nb ns h) (j : Nat) : zC (f_itr (fun τ k => f_ring τ h k) j σ) nb ns h := hC.itr (fun τ k => f_ring_0 τ h k) (fun τ k => f_ring_6 τ h k) j
theorem zC.serve {σ : zS} {nb ns h : Nat} (hC : zC σ nb ns h) (j : Nat) : zC (f_itr (fun τ k => f_serve τ nb h k) j σ) nb ns h := hC.itr (fun τ k => f_serve_0 τ nb h k) (fun τ k => f_serve_6 τ nb h k) j
theorem zC.rest {σ : zS} {nb ns h : Nat} (hC : zC σ nb ns h) (j : Nat) : zC (f_itr (fun τ k => f_rest τ h k) j σ) nb ns h := hC.itr (F := fun τ k => f_rest τ h k) (fun _ _ => rfl) (fun _ _ => rfl) j
theorem zC.cool {σ : zS} {nb ns h : Nat} (hC : zC σ nb ns h) (j : Nat) : zC (f_cool σ j) nb ns h := hC.to (f_cool_0 σ j) (f_cool_6 σ j)
theorem zC.hour {σ : zS} {nb ns h : Nat} (hC : zC σ nb ns h) (hh : h + 1 < 2 ^ 30) : zC (f_hour σ nb ns h) nb ns (h + 1) := by
  have h1 := ((hC.ring ns).serve ns)
  have h2 := (h1.rest ns).cool nb
  exact ⟨h2.1, h2.2.1, h2.2.2.1, h2.2.2.2.1, rfl, hh, h2.2.2.2.2.2.2⟩
theorem zC.hours {σ : zS} {nb ns h : Nat} (hC : zC σ nb ns h) : ∀ n : Nat, h + n < 2 ^ 30 → zC (f_hours σ nb ns h n) nb ns (h + n)
  | 0, _ => hC
  | n + 1, hn => (hC.hours n (by omega)).hour hn

set_option maxHeartbeats 4000000 in
set_option maxRecDepth 100000 in
theorem c_X1_restOfHour (l : Launch) (D : va_G) (cI : ClassId) (a : Nat → Nat) (σ : zS) {k : Nat} (hk : k < 10) {nb ns h : Nat} (hC : zC σ nb ns h) : zMR l yX1_restOfHour wsX1_restOfHour ({ frames := 2, cells := 0, slots := 0, locals := 42 }) [.ref (a 0), .int (nI k)] D [(cI, .int)] (zw_H cI a σ) (fun r => r = f_roh σ h k) := by
  intro sz
  refine Met.ofW (cc := cX1_restOfHour) (maxL := 2) (ret := (some .int)) (by decide) rfl ?_
  intro p e s m args below meth c s₁ B hml hv
  obtain ⟨rfl, hsz, hP, hK, hD⟩ := hv
  have hx := B.exec
  have hb := B.bytes
  have hr := B.returns
  have hts := atoms_spec (ws := wsX1_restOfHour) B.pre
  have hown : s.vm.findClass RX1 = some m.cls := findClass_of_methodNamed B.named
  have hlocks := B.notSynchronized
  have hS : va_S (fun _ => False) s.heap s.heap [] := va_S.rf
  have hP : va_P D vwCl (zw_H cI a σ) s.heap := hP
  have hl := lv_entry ([.ref (a 0), .int (nI k)]) (n := 2) (Nat.le_of_ble_eq_true rfl)
  rw [lg_entry_eq]
  generalize (lg_sl ([.ref (a 0), .int (nI k)]) ++ List.replicate (2 - (lg_sl ([.ref (a 0), .int (nI k)])).length) Slot.unset).toArray = ls at hl ⊢
  have hl : lv_has ls 2 [(0, .ref (a 0)), (1, .int (nI k))] := hl
  have hf22 := hts (.fieldLink RX1 22 "HotBeds$House" "beds" "LHotBeds$Beds;") (by decide +kernel)
  have hf29 := hts (.fieldLink RX1 29 "HotBeds$House" "sailors" "LHotBeds$Sailors;") (by decide +kernel)
  have hf61 := hts (.fieldLink RX1 61 "HotBeds$Sailors" "bed" "[I") (by decide +kernel)
  have hf7 := hts (.fieldLink RX1 7 "HotBeds$House" "hour" "I") (by decide +kernel)
  have hf71 := hts (.fieldLink RX1 71 "HotBeds$Sailors" "place" "[I") (by decide +kernel)
  have hinX1 : ∀ w ∈ u_ws RX1 TX1 5, w ∈ wsX1_restOfHour := by decide +kernel
  have hinX2 : ∀ w ∈ u_ws RX2 TX2 13, w ∈ wsX1_restOfHour := by decide +kernel
  have hnb := hC.2.1
  have hns := hC.2.2.2.1
  have hh := hC.2.2.2.2.2.1
  refine lv_aload_n hx hb dX1_restOfHour_0 rfl (lv_at hl 0 rfl) ?_
  refine va_get (D := D) (ci := 1) (v := .ref (a 2)) (C := RX1) (T := TX1) (N := 5) hx hb hts hinX1 hown hK hP 0 rfl rfl 4 (by decide) hf29 (fun _ h9 => h9) rfl dX1_restOfHour_1 ?_
  refine va_get (D := D) (ci := 2) (v := .ref (a 14)) (C := RX2) (T := TX2) (N := 13) hx hb hts hinX2 hown hK hP 2 rfl rfl 7 (by decide) hf71 (fun _ h9 => h9) rfl dX1_restOfHour_4 ?_
  refine lv_iload_n hx hb dX1_restOfHour_7 rfl (lv_at hl 1 rfl) ?_
  refine zk_ld hx hb hK hP 14 0 (zwq12 cI a _) rfl (k := k) hk (by decide) (v := σ 12 k) rfl dX1_restOfHour_8 ?_
  by_cases c_1 : σ 12 k = 1
  · refine lv_lookup hx hb dX1_restOfHour_9 (by decide) (off := 27) (by rw [c_1]; decide) (tgt := 36) (by decide) ?_
    refine lv_aload_n hx hb dX1_restOfHour_36 rfl (lv_at hl 0 rfl) ?_
    refine va_get (D := D) (ci := 1) (v := .ref (a 1)) (C := RX1) (T := TX1) (N := 5) hx hb hts hinX1 hown hK hP 0 rfl rfl 3 (by decide) hf22 (fun _ h9 => h9) rfl dX1_restOfHour_37 ?_
    refine lv_aload_n hx hb dX1_restOfHour_40 rfl (lv_at hl 0 rfl) ?_
    refine va_get (D := D) (ci := 1) (v := .ref (a 2)) (C := RX1) (T := TX1) (N := 5) hx hb hts hinX1 hown hK hP 0 rfl rfl 4 (by decide) hf29 (fun _ h9 => h9) rfl dX1_restOfHour_41 ?_
    refine va_get (D := D) (ci := 2) (v := .ref (a 15)) (C := RX2) (T := TX2) (N := 13) hx hb hts hinX2 hown hK hP 2 rfl rfl 8 (by decide) hf61 (fun _ h9 => h9) rfl dX1_restOfHour_44 ?_
    refine lv_iload_n hx hb dX1_restOfHour_47 rfl (lv_at hl 1 rfl) ?_
    refine zk_ld hx hb hK hP 15 0 (zwq13 cI a _) rfl (k := k) hk (by decide) (v := σ 13 k) rfl dX1_restOfHour_48 ?_
    refine zk_R (D := D) (va_runV (As := [.int (σ 13 k)]) (rest := []) ⟨hx, hb, hml, hown, hts⟩ (c_X0_isWarm l D cI a σ (σ 13 k) hC _) (cwV 1 hts gX1_restOfHour_X0_isWarm rfl rfl rfl zdX0_isWarm ⟨Nat.le_of_ble_eq_true rfl, Nat.le_of_ble_eq_true rfl⟩) ⟨zbl _, va_recv hK hP (ci := 0) (q0 := 1) rfl rfl, zpr hK hP hD⟩ rfl rfl hl.1 rfl (lv_room (Nat.le_of_ble_eq_true rfl)) dX1_restOfHour_49 ⟨Nat.zero_le _, Nat.zero_le _⟩) hS (fun r_3 H locs hw hkp hS => ?_)
    have hP := hkp _ hP
    rcases hw with ⟨c_4, rfl⟩ | ⟨c_4, rfl⟩
    · refine lv_if_eq (tgt := 59) hx hb dX1_restOfHour_52 (by decide) (fun c => absurd c (by decide)) (fun _ => ?_)
      refine lv_iconst (v := 2) hx hb dX1_restOfHour_55 (by decide) ?_
      refine lv_goto (tgt := 60) hx hb dX1_restOfHour_56 (by decide) ?_
      exact W.iret (v := 2) hx hb hr (fun t ht hW => ⟨⟨2, (), rfl, (by simp only [f_roh, if_pos c_1, if_pos c_4]), trivial⟩, hS.F ht⟩) hS.2.2 dX1_restOfHour_60
    · refine lv_if_eq (tgt := 59) hx hb dX1_restOfHour_52 (by decide) (fun _ => ?_) (fun c => absurd (by decide) c)
      refine lv_iconst (v := 1) hx hb dX1_restOfHour_59 (by decide) ?_
      exact W.iret (v := 1) hx hb hr (fun t ht hW => ⟨⟨1, (), rfl, (by simp only [f_roh, if_pos c_1, if_neg c_4]), trivial⟩, hS.F ht⟩) hS.2.2 dX1_restOfHour_60
  · by_cases c_2 : σ 12 k = 2
    · refine lv_lookup hx hb dX1_restOfHour_9 (by decide) (off := 52) (by rw [c_2]; decide) (tgt := 61) (by decide) ?_
      refine lv_aload_n hx hb dX1_restOfHour_61 rfl (lv_at hl 0 rfl) ?_
      refine va_get (D := D) (ci := 1) (v := .int (nI h)) (C := RX1) (T := TX1) (N := 5) hx hb hts hinX1 hown hK hP 0 rfl rfl 0 (by decide) hf7 (fun _ h9 => h9) (congrArg (fun z => some (Value.int z)) hC.2.2.2.2.1) dX1_restOfHour_62 ?_
      refine lv_iconst (v := 2) hx hb dX1_restOfHour_65 (by decide) ?_
      refine zk_rem (x := h) (y := 2) hx hb dX1_restOfHour_66 (by omega) (by decide) (by decide) ?_
      refine lv_if_ne (tgt := 74) hx hb dX1_restOfHour_67 (by decide) (fun c_7 => ?_) (fun c_7 => ?_)
      · refine lv_iconst (v := 1) hx hb dX1_restOfHour_74 (by decide) ?_
        exact W.iret (v := 1) hx hb hr (fun t ht hW => ⟨⟨1, (), rfl, (by simp only [f_roh, if_neg c_1, if_pos c_2, if_neg c_7]), trivial⟩, hS.F ht⟩) hS.2.2 dX1_restOfHour_75
      · refine lv_iconst (v := 0) hx hb dX1_restOfHour_70 (by decide) ?_
        refine lv_goto (tgt := 75) hx hb dX1_restOfHour_71 (by decide) ?_
        exact W.iret (v := 0) hx hb hr (fun t ht hW => ⟨⟨0, (), rfl, (by simp only [f_roh, if_neg c_1, if_pos c_2, if_pos c_7]), trivial⟩, hS.F ht⟩) hS.2.2 dX1_restOfHour_75
    · refine lv_lookup hx hb dX1_restOfHour_9 (by decide) (off := 67) (zlk c_1 c_2) (tgt := 76) (by decide) ?_
      refine lv_iconst (v := 0) hx hb dX1_restOfHour_76 (by decide) ?_
      exact W.iret (v := 0) hx hb hr (fun t ht hW => ⟨⟨0, (), rfl, (by simp only [f_roh, if_neg c_1, if_neg c_2]), trivial⟩, hS.F ht⟩) hS.2.2 dX1_restOfHour_77

set_option maxHeartbeats 4000000 in
set_option maxRecDepth 100000 in
theorem c_X1_goOn (l : Launch) (D : va_G) (cI : ClassId) (a : Nat → Nat) (σ : zS) {n : Nat} {nb ns h : Nat} (hC : zC σ nb ns h) (hn : h + n < 2 ^ 30) : zMV l yX1_goOn wsX1_goOn ({ frames := 6, cells := 0, slots := 0, locals := 126 }) [.ref (a 0), .int (nI n)] D [(cI, .int)] (zw_H cI a σ) (zw_H cI a (f_hours σ nb ns h n)) := by
  intro sz
  refine Met.ofW (cc := cX1_goOn) (maxL := 4) (ret := none) (by decide) rfl ?_
  intro p e s m args below meth c s₁ B hml hv
  obtain ⟨rfl, hsz, hP, hK, hD⟩ := hv
  have hx := B.exec
  have hb := B.bytes
  have hr := B.returns
  have hts := atoms_spec (ws := wsX1_goOn) B.pre
  have hown : s.vm.findClass RX1 = some m.cls := findClass_of_methodNamed B.named
  have hlocks := B.notSynchronized
  subst hsz
  have hD := hD.self (sz := s.heap.size)
  generalize hAe : va_A (zw_H cI a σ) s.heap.size = A at hD ⊢
  have hA : ∀ q : Nat, s.heap.size ≤ q → A q := fun q h => by rw [← hAe]; exact Or.inr h
  have hS : va_S A s.heap s.heap [] := va_S.rf
  have hP : va_P D vwCl (zw_H cI a σ) s.heap := hP
  have hl := lv_entry ([.ref (a 0), .int (nI n)]) (n := 4) (Nat.le_of_ble_eq_true rfl)
  rw [lg_entry_eq]
  generalize (lg_sl ([.ref (a 0), .int (nI n)]) ++ List.replicate (4 - (lg_sl ([.ref (a 0), .int (nI n)])).length) Slot.unset).toArray = ls at hl ⊢
  have hl : lv_has ls 4 [(0, .ref (a 0)), (1, .int (nI n))] := hl
  have hf22 := hts (.fieldLink RX1 22 "HotBeds$House" "beds" "LHotBeds$Beds;") (by decide +kernel)
  have hf29 := hts (.fieldLink RX1 29 "HotBeds$House" "sailors" "LHotBeds$Sailors;") (by decide +kernel)
  have hf40 := hts (.fieldLink RX1 40 "HotBeds$Sailors" "size" "I") (by decide +kernel)
  have hf50 := hts (.fieldLink RX1 50 "HotBeds$Sailors" "rest" "[I") (by decide +kernel)
  have hf7 := hts (.fieldLink RX1 7 "HotBeds$House" "hour" "I") (by decide +kernel)
  have hinX1 : ∀ w ∈ u_ws RX1 TX1 5, w ∈ wsX1_goOn := by decide +kernel
  have hinX2 : ∀ w ∈ u_ws RX2 TX2 13, w ∈ wsX1_goOn := by decide +kernel
  have hC0 := hC
  have hnb := hC.2.1
  have hns := hC.2.2.2.1
  have hh := hC.2.2.2.2.2.1
  refine lv_iconst (v := 0) hx hb dX1_goOn_0 (by decide) ?_
  refine lv_istore_n (lv' := [(2, .int 0), (0, .ref (a 0)), (1, .int (nI n))]) hx hb dX1_goOn_1 rfl hl (by decide) rfl (fun ls hl => ?_)
  refine zk_loop (pc := 2) (fun i H locs ls => va_P D vwCl (zw_H cI a (f_hours σ nb ns h i)) H ∧ va_D A (zw_H cI a (f_hours σ nb ns h i)) ∧ va_S A s.heap H locs ∧ lv_has ls 4 [(0, .ref (a 0)), (1, .int (nI n)), (2, .int (nI i))]) n (fun i hki ih H locs ls hI => ?_) (fun H locs ls hI => ?_) _ _ _ ⟨hP, hD, hS, lv_sub hl [1, 2, 0] rfl⟩
  · obtain ⟨hP, hD, hS, hl⟩ := hI
    have hC := hC0.hours i (by omega)
    refine lv_iload_n hx hb dX1_goOn_2 rfl (lv_at hl 2 rfl) ?_
    refine lv_iload_n hx hb dX1_goOn_3 rfl (lv_at hl 1 rfl) ?_
    refine lv_icmp_ge (tgt := 114) hx hb dX1_goOn_4 (by decide) (fun c => absurd c (nI_ge hki (by omega))) (fun _ => ?_)
    refine lv_iconst (v := 0) hx hb dX1_goOn_7 (by decide) ?_
    refine lv_istore_n (lv' := [(3, .int 0), (0, .ref (a 0)), (1, .int (nI n)), (2, .int (nI i))]) hx hb dX1_goOn_8 rfl hl (by decide) rfl (fun ls hl => ?_)
    refine zk_loop (pc := 9) (fun j H locs ls => va_P D vwCl (zw_H cI a (f_itr (fun τ k => f_ring τ (h + i) k) j (f_hours σ nb ns h i))) H ∧ va_D A (zw_H cI a (f_itr (fun τ k => f_ring τ (h + i) k) j (f_hours σ nb ns h i))) ∧ va_S A s.heap H locs ∧ lv_has ls 4 [(0, .ref (a 0)), (1, .int (nI n)), (2, .int (nI i)), (3, .int (nI j))]) ns (fun j hkj ih H locs ls hI => ?_) (fun H locs ls hI => ?_) _ _ _ ⟨hP, hD, hS, lv_sub hl [1, 2, 3, 0] rfl⟩
    · obtain ⟨hP, hD, hS, hl⟩ := hI
      have hC := hC.ring j
      refine lv_iload_n hx hb dX1_goOn_9 rfl (lv_at hl 3 rfl) ?_
      refine lv_aload_n hx hb dX1_goOn_10 rfl (lv_at hl 0 rfl) ?_
      refine va_get (D := D) (ci := 1) (v := .ref (a 2)) (C := RX1) (T := TX1) (N := 5) hx hb hts hinX1 hown hK hP 0 rfl rfl 4 (by decide) hf29 (fun _ h9 => h9) rfl dX1_goOn_11 ?_
      refine va_get (D := D) (ci := 2) (v := .int (nI ns)) (C := RX2) (T := TX2) (N := 13) hx hb hts hinX2 hown hK hP 2 rfl rfl 0 (by decide) hf40 (fun _ h9 => h9) (congrArg (fun z => some (Value.int z)) hC.2.2.1) dX1_goOn_14 ?_
      refine lv_icmp_ge (tgt := 31) hx hb dX1_goOn_17 (by decide) (fun c => absurd c (nI_ge hkj (by omega))) (fun _ => ?_)
      refine lv_aload_n hx hb dX1_goOn_20 rfl (lv_at hl 0 rfl) ?_
      refine lv_iload_n hx hb dX1_goOn_21 rfl (lv_at hl 3 rfl) ?_
      have hF := zfree hD hS hA
      refine zk_V (va_runV (As := [.int (nI j)]) (rest := []) ⟨hx, hb, hml, hown, hts⟩ (c_X1_ringBell l D cI a (f_itr (fun τ k => f_ring τ (h + i) k) j (f_hours σ nb ns h i)) (k := j) (by omega) hC _) (cwV 1 hts gX1_goOn_X1_ringBell rfl rfl rfl zdX1_ringBell ⟨Nat.le_of_ble_eq_true rfl, Nat.le_of_ble_eq_true rfl⟩) ⟨zbl _, va_recv hK hP (ci := 1) (q0 := 0) rfl rfl, zpr hK hP hD⟩ rfl rfl hl.1 rfl (lv_room (Nat.le_of_ble_eq_true rfl)) dX1_goOn_22 ⟨Nat.zero_le _, Nat.zero_le _⟩) hS hF (fun H locs hkp hP1 hD1 hS => ?_)
      have hP := hP1
      have hD := hD1.weaken (fun _ _ _ z => hF _ z)
      have hP : va_P D vwCl (zw_H cI a (f_ring (f_itr (fun τ k => f_ring τ (h + i) k) j (f_hours σ nb ns h i)) (h + i) j)) H := hP
      have hD : va_D A (zw_H cI a (f_ring (f_itr (fun τ k => f_ring τ (h + i) k) j (f_hours σ nb ns h i)) (h + i) j)) := hD
      refine lv_iinc (v := nI (j + 1)) (lv' := [(3, .int (nI (j + 1))), (0, .ref (a 0)), (1, .int (nI n)), (2, .int (nI i))]) hx hb dX1_goOn_25 hl (k := 3) rfl (nI_1 j) (by decide) rfl (fun ls hl => ?_)
      refine lv_goto (tgt := 9) hx hb dX1_goOn_28 (by decide) ?_
      exact ih _ _ _ ⟨hP, hD, hS, lv_sub hl [1, 2, 3, 0] rfl⟩
    · obtain ⟨hP, hD, hS, hl⟩ := hI
      have hC := hC.ring ns
      refine lv_iload_n hx hb dX1_goOn_9 rfl (lv_at hl 3 rfl) ?_
      refine lv_aload_n hx hb dX1_goOn_10 rfl (lv_at hl 0 rfl) ?_
      refine va_get (D := D) (ci := 1) (v := .ref (a 2)) (C := RX1) (T := TX1) (N := 5) hx hb hts hinX1 hown hK hP 0 rfl rfl 4 (by decide) hf29 (fun _ h9 => h9) rfl dX1_goOn_11 ?_
      refine va_get (D := D) (ci := 2) (v := .int (nI ns)) (C := RX2) (T := TX2) (N := 13) hx hb hts hinX2 hown hK hP 2 rfl rfl 0 (by decide) hf40 (fun _ h9 => h9) (congrArg (fun z => some (Value.int z)) hC.2.2.1) dX1_goOn_14 ?_
      refine lv_icmp_ge (tgt := 31) hx hb dX1_goOn_17 (by decide) (fun _ => ?_) (fun c => absurd (Int32.le_refl _) c)
      refine lv_iconst (v := 0) hx hb dX1_goOn_31 (by decide) ?_
      refine lv_istore_n (lv' := [(3, .int 0), (0, .ref (a 0)), (1, .int (nI n)), (2, .int (nI i))]) hx hb dX1_goOn_32 rfl hl (by decide) rfl (fun ls hl => ?_)
      refine zk_loop (pc := 33) (fun j H locs ls => va_P D vwCl (zw_H cI a (f_itr (fun τ k => f_serve τ nb (h + i) k) j (f_itr (fun τ k => f_ring τ (h + i) k) ns (f_hours σ nb ns h i)))) H ∧ va_D A (zw_H cI a (f_itr (fun τ k => f_serve τ nb (h + i) k) j (f_itr (fun τ k => f_ring τ (h + i) k) ns (f_hours σ nb ns h i)))) ∧ va_S A s.heap H locs ∧ lv_has ls 4 [(0, .ref (a 0)), (1, .int (nI n)), (2, .int (nI i)), (3, .int (nI j))]) ns (fun j hkj ih H locs ls hI => ?_) (fun H locs ls hI => ?_) _ _ _ ⟨hP, hD, hS, lv_sub hl [1, 2, 3, 0] rfl⟩
      · obtain ⟨hP, hD, hS, hl⟩ := hI
        have hC := hC.serve j
        refine lv_iload_n hx hb dX1_goOn_33 rfl (lv_at hl 3 rfl) ?_
        refine lv_aload_n hx hb dX1_goOn_34 rfl (lv_at hl 0 rfl) ?_
        refine va_get (D := D) (ci := 1) (v := .ref (a 2)) (C := RX1) (T := TX1) (N := 5) hx hb hts hinX1 hown hK hP 0 rfl rfl 4 (by decide) hf29 (fun _ h9 => h9) rfl dX1_goOn_35 ?_
        refine va_get (D := D) (ci := 2) (v := .int (nI ns)) (C := RX2) (T := TX2) (N := 13) hx hb hts hinX2 hown hK hP 2 rfl rfl 0 (by decide) hf40 (fun _ h9 => h9) (congrArg (fun z => some (Value.int z)) hC.2.2.1) dX1_goOn_38 ?_
        refine lv_icmp_ge (tgt := 55) hx hb dX1_goOn_41 (by decide) (fun c => absurd c (nI_ge hkj (by omega))) (fun _ => ?_)
        refine lv_aload_n hx hb dX1_goOn_44 rfl (lv_at hl 0 rfl) ?_
        refine lv_iload_n hx hb dX1_goOn_45 rfl (lv_at hl 3 rfl) ?_
        have hF := zfree hD hS hA
        refine zk_V (va_runV (As := [.int (nI j)]) (rest := []) ⟨hx, hb, hml, hown, hts⟩ (c_X1_serve l D cI a (f_itr (fun τ k => f_serve τ nb (h + i) k) j (f_itr (fun τ k => f_ring τ (h + i) k) ns (f_hours σ nb ns h i))) (k := j) (by omega) hC _) (cwV 1 hts gX1_goOn_X1_serve rfl rfl rfl zdX1_serve ⟨Nat.le_of_ble_eq_true rfl, Nat.le_of_ble_eq_true rfl⟩) ⟨zbl _, va_recv hK hP (ci := 1) (q0 := 0) rfl rfl, zpr hK hP hD⟩ rfl rfl hl.1 rfl (lv_room (Nat.le_of_ble_eq_true rfl)) dX1_goOn_46 ⟨Nat.zero_le _, Nat.zero_le _⟩) hS hF (fun H locs hkp hP1 hD1 hS => ?_)
        have hP := hP1
        have hD := hD1.weaken (fun _ _ _ z => hF _ z)
        have hP : va_P D vwCl (zw_H cI a (f_serve (f_itr (fun τ k => f_serve τ nb (h + i) k) j (f_itr (fun τ k => f_ring τ (h + i) k) ns (f_hours σ nb ns h i))) nb (h + i) j)) H := hP
        have hD : va_D A (zw_H cI a (f_serve (f_itr (fun τ k => f_serve τ nb (h + i) k) j (f_itr (fun τ k => f_ring τ (h + i) k) ns (f_hours σ nb ns h i))) nb (h + i) j)) := hD
        refine lv_iinc (v := nI (j + 1)) (lv' := [(3, .int (nI (j + 1))), (0, .ref (a 0)), (1, .int (nI n)), (2, .int (nI i))]) hx hb dX1_goOn_49 hl (k := 3) rfl (nI_1 j) (by decide) rfl (fun ls hl => ?_)
        refine lv_goto (tgt := 33) hx hb dX1_goOn_52 (by decide) ?_
        exact ih _ _ _ ⟨hP, hD, hS, lv_sub hl [1, 2, 3, 0] rfl⟩
      · obtain ⟨hP, hD, hS, hl⟩ := hI
        have hC := hC.serve ns
        refine lv_iload_n hx hb dX1_goOn_33 rfl (lv_at hl 3 rfl) ?_
        refine lv_aload_n hx hb dX1_goOn_34 rfl (lv_at hl 0 rfl) ?_
        refine va_get (D := D) (ci := 1) (v := .ref (a 2)) (C := RX1) (T := TX1) (N := 5) hx hb hts hinX1 hown hK hP 0 rfl rfl 4 (by decide) hf29 (fun _ h9 => h9) rfl dX1_goOn_35 ?_
        refine va_get (D := D) (ci := 2) (v := .int (nI ns)) (C := RX2) (T := TX2) (N := 13) hx hb hts hinX2 hown hK hP 2 rfl rfl 0 (by decide) hf40 (fun _ h9 => h9) (congrArg (fun z => some (Value.int z)) hC.2.2.1) dX1_goOn_38 ?_
        refine lv_icmp_ge (tgt := 55) hx hb dX1_goOn_41 (by decide) (fun _ => ?_) (fun c => absurd (Int32.le_refl _) c)
        refine lv_iconst (v := 0) hx hb dX1_goOn_55 (by decide) ?_
        refine lv_istore_n (lv' := [(3, .int 0), (0, .ref (a 0)), (1, .int (nI n)), (2, .int (nI i))]) hx hb dX1_goOn_56 rfl hl (by decide) rfl (fun ls hl => ?_)
        refine zk_loop (pc := 57) (fun j H locs ls => va_P D vwCl (zw_H cI a (f_itr (fun τ k => f_rest τ (h + i) k) j (f_itr (fun τ k => f_serve τ nb (h + i) k) ns (f_itr (fun τ k => f_ring τ (h + i) k) ns (f_hours σ nb ns h i))))) H ∧ va_D A (zw_H cI a (f_itr (fun τ k => f_rest τ (h + i) k) j (f_itr (fun τ k => f_serve τ nb (h + i) k) ns (f_itr (fun τ k => f_ring τ (h + i) k) ns (f_hours σ nb ns h i))))) ∧ va_S A s.heap H locs ∧ lv_has ls 4 [(0, .ref (a 0)), (1, .int (nI n)), (2, .int (nI i)), (3, .int (nI j))]) ns (fun j hkj ih H locs ls hI => ?_) (fun H locs ls hI => ?_) _ _ _ ⟨hP, hD, hS, lv_sub hl [1, 2, 3, 0] rfl⟩
        · obtain ⟨hP, hD, hS, hl⟩ := hI
          have hC := hC.rest j
          refine lv_iload_n hx hb dX1_goOn_57 rfl (lv_at hl 3 rfl) ?_
          refine lv_aload_n hx hb dX1_goOn_58 rfl (lv_at hl 0 rfl) ?_
          refine va_get (D := D) (ci := 1) (v := .ref (a 2)) (C := RX1) (T := TX1) (N := 5) hx hb hts hinX1 hown hK hP 0 rfl rfl 4 (by decide) hf29 (fun _ h9 => h9) rfl dX1_goOn_59 ?_
          refine va_get (D := D) (ci := 2) (v := .int (nI ns)) (C := RX2) (T := TX2) (N := 13) hx hb hts hinX2 hown hK hP 2 rfl rfl 0 (by decide) hf40 (fun _ h9 => h9) (congrArg (fun z => some (Value.int z)) hC.2.2.1) dX1_goOn_62 ?_
          refine lv_icmp_ge (tgt := 91) hx hb dX1_goOn_65 (by decide) (fun c => absurd c (nI_ge hkj (by omega))) (fun _ => ?_)
          refine lv_aload_n hx hb dX1_goOn_68 rfl (lv_at hl 0 rfl) ?_
          refine va_get (D := D) (ci := 1) (v := .ref (a 2)) (C := RX1) (T := TX1) (N := 5) hx hb hts hinX1 hown hK hP 0 rfl rfl 4 (by decide) hf29 (fun _ h9 => h9) rfl dX1_goOn_69 ?_
          refine va_get (D := D) (ci := 2) (v := .ref (a 16)) (C := RX2) (T := TX2) (N := 13) hx hb hts hinX2 hown hK hP 2 rfl rfl 9 (by decide) hf50 (fun _ h9 => h9) rfl dX1_goOn_72 ?_
          refine lv_iload_n hx hb dX1_goOn_75 rfl (lv_at hl 3 rfl) ?_
          refine lv_dup2_11 hx hb dX1_goOn_76 rfl rfl ?_
          refine zk_ld hx hb hK hP 16 0 (zwq14 cI a _) rfl (k := j) (by omega) (by decide) (v := (f_itr (fun τ k => f_rest τ (h + i) k) j (f_itr (fun τ k => f_serve τ nb (h + i) k) ns (f_itr (fun τ k => f_ring τ (h + i) k) ns (f_hours σ nb ns h i)))) 14 j) rfl dX1_goOn_77 ?_
          refine lv_aload_n hx hb dX1_goOn_78 rfl (lv_at hl 0 rfl) ?_
          refine lv_iload_n hx hb dX1_goOn_79 rfl (lv_at hl 3 rfl) ?_
          refine zk_R (D := D) (va_runV (As := [.int (nI j)]) (rest := [.int ((f_itr (fun τ k => f_rest τ (h + i) k) j (f_itr (fun τ k => f_serve τ nb (h + i) k) ns (f_itr (fun τ k => f_ring τ (h + i) k) ns (f_hours σ nb ns h i)))) 14 j), .int (nI j), .ref (a 16)]) ⟨hx, hb, hml, hown, hts⟩ (c_X1_restOfHour l D cI a (f_itr (fun τ k => f_rest τ (h + i) k) j (f_itr (fun τ k => f_serve τ nb (h + i) k) ns (f_itr (fun τ k => f_ring τ (h + i) k) ns (f_hours σ nb ns h i)))) (k := j) (by omega) hC _) (cwV 1 hts gX1_goOn_X1_restOfHour rfl rfl rfl zdX1_restOfHour ⟨Nat.le_of_ble_eq_true rfl, Nat.le_of_ble_eq_true rfl⟩) ⟨zbl _, va_recv hK hP (ci := 1) (q0 := 0) rfl rfl, zpr hK hP hD⟩ rfl rfl hl.1 rfl (lv_room (Nat.le_of_ble_eq_true rfl)) dX1_goOn_80 ⟨Nat.zero_le _, Nat.zero_le _⟩) hS (fun r_7 H locs hw hkp hS => ?_)
          have hP := hkp _ hP
          subst hw
          refine lv_iadd hx hb dX1_goOn_83 ?_
          refine zk_st hx hb hK hP hD hS 16 0 (zwq14 cI a _) rfl (k := j) (by omega) (by decide) (zws14 cI a _ _ _) dX1_goOn_84 (fun H locs hP hD hS => ?_)
          have hP : va_P D vwCl (zw_H cI a (zs (f_itr (fun τ k => f_rest τ (h + i) k) j (f_itr (fun τ k => f_serve τ nb (h + i) k) ns (f_itr (fun τ k => f_ring τ (h + i) k) ns (f_hours σ nb ns h i)))) 14 j (((f_itr (fun τ k => f_rest τ (h + i) k) j (f_itr (fun τ k => f_serve τ nb (h + i) k) ns (f_itr (fun τ k => f_ring τ (h + i) k) ns (f_hours σ nb ns h i)))) 14 j) + (f_roh (f_itr (fun τ k => f_rest τ (h + i) k) j (f_itr (fun τ k => f_serve τ nb (h + i) k) ns (f_itr (fun τ k => f_ring τ (h + i) k) ns (f_hours σ nb ns h i)))) (h + i) j)))) H := hP
          have hD : va_D A (zw_H cI a (zs (f_itr (fun τ k => f_rest τ (h + i) k) j (f_itr (fun τ k => f_serve τ nb (h + i) k) ns (f_itr (fun τ k => f_ring τ (h + i) k) ns (f_hours σ nb ns h i)))) 14 j (((f_itr (fun τ k => f_rest τ (h + i) k) j (f_itr (fun τ k => f_serve τ nb (h + i) k) ns (f_itr (fun τ k => f_ring τ (h + i) k) ns (f_hours σ nb ns h i)))) 14 j) + (f_roh (f_itr (fun τ k => f_rest τ (h + i) k) j (f_itr (fun τ k => f_serve τ nb (h + i) k) ns (f_itr (fun τ k => f_ring τ (h + i) k) ns (f_hours σ nb ns h i)))) (h + i) j)))) := hD
          refine lv_iinc (v := nI (j + 1)) (lv' := [(3, .int (nI (j + 1))), (0, .ref (a 0)), (1, .int (nI n)), (2, .int (nI i))]) hx hb dX1_goOn_85 hl (k := 3) rfl (nI_1 j) (by decide) rfl (fun ls hl => ?_)
          refine lv_goto (tgt := 57) hx hb dX1_goOn_88 (by decide) ?_
          exact ih _ _ _ ⟨hP, hD, hS, lv_sub hl [1, 2, 3, 0] rfl⟩
        · obtain ⟨hP, hD, hS, hl⟩ := hI
          have hC := hC.rest ns
          refine lv_iload_n hx hb dX1_goOn_57 rfl (lv_at hl 3 rfl) ?_
          refine lv_aload_n hx hb dX1_goOn_58 rfl (lv_at hl 0 rfl) ?_
          refine va_get (D := D) (ci := 1) (v := .ref (a 2)) (C := RX1) (T := TX1) (N := 5) hx hb hts hinX1 hown hK hP 0 rfl rfl 4 (by decide) hf29 (fun _ h9 => h9) rfl dX1_goOn_59 ?_
          refine va_get (D := D) (ci := 2) (v := .int (nI ns)) (C := RX2) (T := TX2) (N := 13) hx hb hts hinX2 hown hK hP 2 rfl rfl 0 (by decide) hf40 (fun _ h9 => h9) (congrArg (fun z => some (Value.int z)) hC.2.2.1) dX1_goOn_62 ?_
          refine lv_icmp_ge (tgt := 91) hx hb dX1_goOn_65 (by decide) (fun _ => ?_) (fun c => absurd (Int32.le_refl _) c)
          refine lv_aload_n hx hb dX1_goOn_91 rfl (lv_at hl 0 rfl) ?_
          refine va_get (D := D) (ci := 1) (v := .ref (a 1)) (C := RX1) (T := TX1) (N := 5) hx hb hts hinX1 hown hK hP 0 rfl rfl 3 (by decide) hf22 (fun _ h9 => h9) rfl dX1_goOn_92 ?_
          have hF := zfree hD hS hA
          refine zk_V (va_runV (As := []) (rest := []) ⟨hx, hb, hml, hown, hts⟩ (c_X0_changeWarmth l D cI a (f_itr (fun τ k => f_rest τ (h + i) k) ns (f_itr (fun τ k => f_serve τ nb (h + i) k) ns (f_itr (fun τ k => f_ring τ (h + i) k) ns (f_hours σ nb ns h i)))) hC _) (cwV 0 hts gX1_goOn_X0_changeWarmth rfl rfl rfl zdX0_changeWarmth ⟨Nat.le_of_ble_eq_true rfl, Nat.le_of_ble_eq_true rfl⟩) ⟨zbl _, va_recv hK hP (ci := 0) (q0 := 1) rfl rfl, zpr hK hP hD⟩ rfl rfl hl.1 rfl (lv_room (Nat.le_of_ble_eq_true rfl)) dX1_goOn_95 ⟨Nat.zero_le _, Nat.zero_le _⟩) hS hF (fun H locs hkp hP1 hD1 hS => ?_)
          have hP := hP1
          have hD := hD1.weaken (fun _ _ _ z => hF _ z)
          have hP : va_P D vwCl (zw_H cI a (f_cool (f_itr (fun τ k => f_rest τ (h + i) k) ns (f_itr (fun τ k => f_serve τ nb (h + i) k) ns (f_itr (fun τ k => f_ring τ (h + i) k) ns (f_hours σ nb ns h i)))) nb)) H := hP
          have hD : va_D A (zw_H cI a (f_cool (f_itr (fun τ k => f_rest τ (h + i) k) ns (f_itr (fun τ k => f_serve τ nb (h + i) k) ns (f_itr (fun τ k => f_ring τ (h + i) k) ns (f_hours σ nb ns h i)))) nb)) := hD
          have hC := hC.cool nb
          refine lv_aload_n hx hb dX1_goOn_98 rfl (lv_at hl 0 rfl) ?_
          refine lv_dup hx hb dX1_goOn_99 rfl ?_
          refine va_get (D := D) (ci := 1) (v := .int (nI (h + i))) (C := RX1) (T := TX1) (N := 5) hx hb hts hinX1 hown hK hP 0 rfl rfl 0 (by decide) hf7 (fun _ h9 => h9) (congrArg (fun z => some (Value.int z)) hC.2.2.2.2.1) dX1_goOn_100 ?_
          refine lv_iconst (v := 1) hx hb dX1_goOn_103 (by decide) ?_
          refine zk_add (x := (h + i)) (y := 1) hx hb dX1_goOn_104 ?_
          refine va_put (D := D) (ci := 1) (v := .int (nI ((h + i) + 1))) (ty := .int) (C := RX1) (T := TX1) (N := 5) hx hb hts hinX1 tyX1 tyX1_ok nmX1 hown hK hP hD hS 0 rfl rfl 0 (by decide) hf7 (fun _ h9 => h9)  rfl (by decide +kernel) rfl rfl (Nat.le_of_ble_eq_true rfl) dX1_goOn_105 (fun H locs hP hD hS => ?_)
          have hP : va_P D vwCl (zw_H cI a (zs (f_cool (f_itr (fun τ k => f_rest τ (h + i) k) ns (f_itr (fun τ k => f_serve τ nb (h + i) k) ns (f_itr (fun τ k => f_ring τ (h + i) k) ns (f_hours σ nb ns h i)))) nb) 0 0 (nI ((h + i) + 1)))) H := hP
          have hD : va_D A (zw_H cI a (zs (f_cool (f_itr (fun τ k => f_rest τ (h + i) k) ns (f_itr (fun τ k => f_serve τ nb (h + i) k) ns (f_itr (fun τ k => f_ring τ (h + i) k) ns (f_hours σ nb ns h i)))) nb) 0 0 (nI ((h + i) + 1)))) := hD
          refine lv_iinc (v := nI (i + 1)) (lv' := [(2, .int (nI (i + 1))), (0, .ref (a 0)), (1, .int (nI n)), (3, .int (nI ns))]) hx hb dX1_goOn_108 hl (k := 2) rfl (nI_1 i) (by decide) rfl (fun ls hl => ?_)
          refine lv_goto (tgt := 2) hx hb dX1_goOn_111 (by decide) ?_
          have e1 : f_hours σ nb ns h (i + 1) = zs (f_cool (f_itr (fun τ k => f_rest τ (h + i) k) ns (f_itr (fun τ k => f_serve τ nb (h + i) k) ns (f_itr (fun τ k => f_ring τ (h + i) k) ns (f_hours σ nb ns h i)))) nb) 0 0 (nI ((h + i) + 1)) := rfl
          exact ih _ _ _ ⟨by rw [e1]; exact hP, by rw [e1]; exact hD, hS, lv_sub hl [1, 2, 0] rfl⟩
  · obtain ⟨hP, hD, hS, hl⟩ := hI
    refine lv_iload_n hx hb dX1_goOn_2 rfl (lv_at hl 2 rfl) ?_
    refine lv_iload_n hx hb dX1_goOn_3 rfl (lv_at hl 1 rfl) ?_
    refine lv_icmp_ge (tgt := 114) hx hb dX1_goOn_4 (by decide) (fun _ => ?_) (fun c => absurd (Int32.le_refl _) c)
    have hP9 := hP
    have hD9 := hD
    exact W.vret hx hb hr (fun t ht hW => ⟨⟨(), rfl, trivial, by rw [ht]; exact hP9, va_K.moved hW.alike hK, hD9⟩, hS.F ht⟩) hS.2.2 dX1_goOn_114
end
section
set_option maxRecDepth 20000 in
theorem ggX3_init_X1_init : GoodIn wsX3_init wsX1_init := goodIn_r _ [10, 11, 2, 3, 12, 13, 14, 15, 16, 17, 18, 19, 20, 21, 22, 23, 24, 25, 26, 27, 28, 29, 30, 31, 32, 33, 34, 35, 36, 37, 38, 39, 40, 41, 42, 43, 44, 45, 46, 47, 48, 49, 50, 51, 52, 53, 56, 57, 58, 59, 60, 61, 62, 63, 64, 65, 66, 67, 68, 69, 70, 71, 72, 73, 74] (by decide +kernel) (by decide +kernel)
set_option maxRecDepth 20000 in
theorem gX3_init_X1_init_n9 : GoodIn wsX3_init (wsX1_init) := ggX3_init_X1_init
theorem dX3_init_0 : decode cX3_init 0 = .ok (.aload_n 0, 1) := by decide +kernel
theorem dX3_init_1 : decode cX3_init 1 = .ok (.invokespecial 1, 3) := by decide +kernel
theorem dX3_init_4 : decode cX3_init 4 = .ok (.aload_n 0, 1) := by decide +kernel
theorem dX3_init_5 : decode cX3_init 5 = .ok (.new 7, 3) := by decide +kernel
theorem dX3_init_8 : decode cX3_init 8 = .ok (.dup, 1) := by decide +kernel
theorem dX3_init_9 : decode cX3_init 9 = .ok (.invokespecial 9, 3) := by decide +kernel
theorem dX3_init_12 : decode cX3_init 12 = .ok (.putfield 10, 3) := by decide +kernel
theorem dX3_init_15 : decode cX3_init 15 = .ok (.aload_n 0, 1) := by decide +kernel
theorem dX3_init_16 : decode cX3_init 16 = .ok (.new 7, 3) := by decide +kernel
theorem dX3_init_19 : decode cX3_init 19 = .ok (.dup, 1) := by decide +kernel
theorem dX3_init_20 : decode cX3_init 20 = .ok (.invokespecial 9, 3) := by decide +kernel
theorem dX3_init_23 : decode cX3_init 23 = .ok (.putfield 16, 3) := by decide +kernel
theorem dX3_init_26 : decode cX3_init 26 = .ok (.return_, 1) := by decide +kernel
set_option maxRecDepth 20000 in
theorem ggX3_bed_X0_add : GoodIn wsX3_bed wsX0_add := goodIn_ca (goodIn_r _ [9, 10, 11, 12, 13, 14, 22, 23, 24, 25, 26, 27] (by decide +kernel) (by decide +kernel)) (goodIn_sub (fun _ h => List.mem_cons_of_mem _ (List.mem_append_right _ h)) (by decide +kernel))
set_option maxRecDepth 20000 in
theorem gX3_bed_X0_add : GoodIn wsX3_bed (wsV RX3 30 RX0 yX0_add wsX0_add) := goodIn_app (goodIn_of _ (by decide +kernel)) ggX3_bed_X0_add
theorem dX3_bed_0 : decode cX3_bed 0 = .ok (.iload_n 1, 1) := by decide +kernel
theorem dX3_bed_1 : decode cX3_bed 1 = .ok (.ifCond .lt 9, 3) := by decide +kernel
theorem dX3_bed_4 : decode cX3_bed 4 = .ok (.iload_n 1, 1) := by decide +kernel
theorem dX3_bed_5 : decode cX3_bed 5 = .ok (.bipush 9, 2) := by decide +kernel
theorem dX3_bed_7 : decode cX3_bed 7 = .ok (.if_icmp .le 13, 3) := by decide +kernel
theorem dX3_bed_10 : decode cX3_bed 10 = .ok (.new 19, 3) := by decide +kernel
theorem dX3_bed_13 : decode cX3_bed 13 = .ok (.dup, 1) := by decide +kernel
theorem dX3_bed_14 : decode cX3_bed 14 = .ok (.ldc 21, 2) := by decide +kernel
theorem dX3_bed_16 : decode cX3_bed 16 = .ok (.invokespecial 23, 3) := by decide +kernel
theorem dX3_bed_19 : decode cX3_bed 19 = .ok (.athrow, 1) := by decide +kernel
theorem dX3_bed_20 : decode cX3_bed 20 = .ok (.aload_n 0, 1) := by decide +kernel
theorem dX3_bed_21 : decode cX3_bed 21 = .ok (.getfield 10, 3) := by decide +kernel
theorem dX3_bed_24 : decode cX3_bed 24 = .ok (.getfield 26, 3) := by decide +kernel
theorem dX3_bed_27 : decode cX3_bed 27 = .ok (.iload_n 1, 1) := by decide +kernel
theorem dX3_bed_28 : decode cX3_bed 28 = .ok (.invokevirtual 30, 3) := by decide +kernel
theorem dX3_bed_31 : decode cX3_bed 31 = .ok (.ireturn, 1) := by decide +kernel
set_option maxRecDepth 20000 in
theorem ggX3_sailor_X3_requireWatch : GoodIn wsX3_sailor wsX3_requireWatch := goodIn_ca (goodIn_r _ [8, 9, 10] (by decide +kernel) (by decide +kernel)) (goodIn_sub (fun _ h => List.mem_cons_of_mem _ (List.mem_append_left _ (List.mem_append_right _ h))) (by decide +kernel))
set_option maxRecDepth 20000 in
theorem gX3_sailor_X3_requireWatch : GoodIn wsX3_sailor (va_wsS RX3 36 yX3_requireWatch wsX3_requireWatch) := goodIn_app (goodIn_of _ (by decide +kernel)) ggX3_sailor_X3_requireWatch
set_option maxRecDepth 20000 in
theorem ggX3_sailor_X2_add : GoodIn wsX3_sailor wsX2_add := goodIn_ca (goodIn_r _ [15, 16, 17, 18, 19, 20, 21, 22, 23, 24, 25, 26, 34, 35, 36, 37, 38, 39, 40, 41, 42, 43, 44, 45, 46] (by decide +kernel) (by decide +kernel)) (goodIn_sub (fun _ h => List.mem_cons_of_mem _ (List.mem_append_right _ h)) (by decide +kernel))
set_option maxRecDepth 20000 in
theorem gX3_sailor_X2_add : GoodIn wsX3_sailor (wsV RX3 52 RX2 yX2_add wsX2_add) := goodIn_app (goodIn_of _ (by decide +kernel)) ggX3_sailor_X2_add
theorem dX3_sailor_0 : decode cX3_sailor 0 = .ok (.iload_n 1, 1) := by decide +kernel
theorem dX3_sailor_1 : decode cX3_sailor 1 = .ok (.invokestatic 36, 3) := by decide +kernel
theorem dX3_sailor_4 : decode cX3_sailor 4 = .ok (.iload_n 2, 1) := by decide +kernel
theorem dX3_sailor_5 : decode cX3_sailor 5 = .ok (.ifCond .lt 9, 3) := by decide +kernel
theorem dX3_sailor_8 : decode cX3_sailor 8 = .ok (.iload_n 2, 1) := by decide +kernel
theorem dX3_sailor_9 : decode cX3_sailor 9 = .ok (.bipush 9, 2) := by decide +kernel
theorem dX3_sailor_11 : decode cX3_sailor 11 = .ok (.if_icmp .le 13, 3) := by decide +kernel
theorem dX3_sailor_14 : decode cX3_sailor 14 = .ok (.new 19, 3) := by decide +kernel
theorem dX3_sailor_17 : decode cX3_sailor 17 = .ok (.dup, 1) := by decide +kernel
theorem dX3_sailor_18 : decode cX3_sailor 18 = .ok (.ldc 40, 2) := by decide +kernel
theorem dX3_sailor_20 : decode cX3_sailor 20 = .ok (.invokespecial 23, 3) := by decide +kernel
theorem dX3_sailor_23 : decode cX3_sailor 23 = .ok (.athrow, 1) := by decide +kernel
theorem dX3_sailor_24 : decode cX3_sailor 24 = .ok (.iload_n 3, 1) := by decide +kernel
theorem dX3_sailor_25 : decode cX3_sailor 25 = .ok (.ifCond .lt 9, 3) := by decide +kernel
theorem dX3_sailor_28 : decode cX3_sailor 28 = .ok (.iload_n 3, 1) := by decide +kernel
theorem dX3_sailor_29 : decode cX3_sailor 29 = .ok (.bipush 20, 2) := by decide +kernel
theorem dX3_sailor_31 : decode cX3_sailor 31 = .ok (.if_icmp .le 13, 3) := by decide +kernel
theorem dX3_sailor_34 : decode cX3_sailor 34 = .ok (.new 19, 3) := by decide +kernel
theorem dX3_sailor_37 : decode cX3_sailor 37 = .ok (.dup, 1) := by decide +kernel
theorem dX3_sailor_38 : decode cX3_sailor 38 = .ok (.ldc 42, 2) := by decide +kernel
theorem dX3_sailor_40 : decode cX3_sailor 40 = .ok (.invokespecial 23, 3) := by decide +kernel
theorem dX3_sailor_43 : decode cX3_sailor 43 = .ok (.athrow, 1) := by decide +kernel
theorem dX3_sailor_44 : decode cX3_sailor 44 = .ok (.iload 4, 2) := by decide +kernel
theorem dX3_sailor_46 : decode cX3_sailor 46 = .ok (.ifCond .lt 10, 3) := by decide +kernel
theorem dX3_sailor_49 : decode cX3_sailor 49 = .ok (.iload 4, 2) := by decide +kernel
theorem dX3_sailor_51 : decode cX3_sailor 51 = .ok (.bipush 99, 2) := by decide +kernel
theorem dX3_sailor_53 : decode cX3_sailor 53 = .ok (.if_icmp .le 13, 3) := by decide +kernel
theorem dX3_sailor_56 : decode cX3_sailor 56 = .ok (.new 19, 3) := by decide +kernel
theorem dX3_sailor_59 : decode cX3_sailor 59 = .ok (.dup, 1) := by decide +kernel
theorem dX3_sailor_60 : decode cX3_sailor 60 = .ok (.ldc 46, 2) := by decide +kernel
theorem dX3_sailor_62 : decode cX3_sailor 62 = .ok (.invokespecial 23, 3) := by decide +kernel
theorem dX3_sailor_65 : decode cX3_sailor 65 = .ok (.athrow, 1) := by decide +kernel
theorem dX3_sailor_66 : decode cX3_sailor 66 = .ok (.aload_n 0, 1) := by decide +kernel
theorem dX3_sailor_67 : decode cX3_sailor 67 = .ok (.getfield 10, 3) := by decide +kernel
theorem dX3_sailor_70 : decode cX3_sailor 70 = .ok (.getfield 48, 3) := by decide +kernel
theorem dX3_sailor_73 : decode cX3_sailor 73 = .ok (.iload_n 1, 1) := by decide +kernel
theorem dX3_sailor_74 : decode cX3_sailor 74 = .ok (.iload_n 2, 1) := by decide +kernel
theorem dX3_sailor_75 : decode cX3_sailor 75 = .ok (.iload_n 3, 1) := by decide +kernel
theorem dX3_sailor_76 : decode cX3_sailor 76 = .ok (.iload 4, 2) := by decide +kernel
theorem dX3_sailor_78 : decode cX3_sailor 78 = .ok (.invokevirtual 52, 3) := by decide +kernel
theorem dX3_sailor_81 : decode cX3_sailor 81 = .ok (.ireturn, 1) := by decide +kernel
set_option maxRecDepth 20000 in
theorem ggX3_keep_X3_requireSailor : GoodIn wsX3_keep wsX3_requireSailor := goodIn_ca (goodIn_r _ [8, 9, 10, 1, 2, 11, 23, 24, 25, 26, 27, 28, 29, 30, 31, 32, 33, 34, 35, 36, 37, 38, 39, 40, 41, 42] (by decide +kernel) (by decide +kernel)) (goodIn_sub (fun _ h => List.mem_cons_of_mem _ (List.mem_append_right _ h)) (by decide +kernel))
set_option maxRecDepth 20000 in
theorem gX3_keep_X3_requireSailor : GoodIn wsX3_keep (wsV RX3 55 RX3 yX3_requireSailor wsX3_requireSailor) := goodIn_app (goodIn_of _ (by decide +kernel)) ggX3_keep_X3_requireSailor
set_option maxRecDepth 20000 in
theorem ggX3_keep_X3_requireBed : GoodIn wsX3_keep wsX3_requireBed := goodIn_ca (goodIn_r _ [15, 9, 10, 1, 16, 17, 18, 19, 20, 21, 22, 23, 24, 25, 26, 27, 28, 29, 43, 44, 45, 46, 47, 48] (by decide +kernel) (by decide +kernel)) (goodIn_sub (fun _ h => List.mem_cons_of_mem _ (List.mem_append_right _ h)) (by decide +kernel))
set_option maxRecDepth 20000 in
theorem gX3_keep_X3_requireBed : GoodIn wsX3_keep (wsV RX3 58 RX3 yX3_requireBed wsX3_requireBed) := goodIn_app (goodIn_of _ (by decide +kernel)) ggX3_keep_X3_requireBed
theorem dX3_keep_0 : decode cX3_keep 0 = .ok (.aload_n 0, 1) := by decide +kernel
theorem dX3_keep_1 : decode cX3_keep 1 = .ok (.iload_n 1, 1) := by decide +kernel
theorem dX3_keep_2 : decode cX3_keep 2 = .ok (.invokevirtual 55, 3) := by decide +kernel
theorem dX3_keep_5 : decode cX3_keep 5 = .ok (.iload_n 2, 1) := by decide +kernel
theorem dX3_keep_6 : decode cX3_keep 6 = .ok (.iconst (-1), 1) := by decide +kernel
theorem dX3_keep_7 : decode cX3_keep 7 = .ok (.if_icmp .eq 8, 3) := by decide +kernel
theorem dX3_keep_10 : decode cX3_keep 10 = .ok (.aload_n 0, 1) := by decide +kernel
theorem dX3_keep_11 : decode cX3_keep 11 = .ok (.iload_n 2, 1) := by decide +kernel
theorem dX3_keep_12 : decode cX3_keep 12 = .ok (.invokevirtual 58, 3) := by decide +kernel
theorem dX3_keep_15 : decode cX3_keep 15 = .ok (.aload_n 0, 1) := by decide +kernel
theorem dX3_keep_16 : decode cX3_keep 16 = .ok (.getfield 10, 3) := by decide +kernel
theorem dX3_keep_19 : decode cX3_keep 19 = .ok (.getfield 48, 3) := by decide +kernel
theorem dX3_keep_22 : decode cX3_keep 22 = .ok (.getfield 61, 3) := by decide +kernel
theorem dX3_keep_25 : decode cX3_keep 25 = .ok (.iload_n 1, 1) := by decide +kernel
theorem dX3_keep_26 : decode cX3_keep 26 = .ok (.iaload, 1) := by decide +kernel
theorem dX3_keep_27 : decode cX3_keep 27 = .ok (.istore_n 3, 1) := by decide +kernel
theorem dX3_keep_28 : decode cX3_keep 28 = .ok (.aload_n 0, 1) := by decide +kernel
theorem dX3_keep_29 : decode cX3_keep 29 = .ok (.getfield 10, 3) := by decide +kernel
theorem dX3_keep_32 : decode cX3_keep 32 = .ok (.getfield 48, 3) := by decide +kernel
theorem dX3_keep_35 : decode cX3_keep 35 = .ok (.getfield 61, 3) := by decide +kernel
theorem dX3_keep_38 : decode cX3_keep 38 = .ok (.iload_n 1, 1) := by decide +kernel
theorem dX3_keep_39 : decode cX3_keep 39 = .ok (.iload_n 2, 1) := by decide +kernel
theorem dX3_keep_40 : decode cX3_keep 40 = .ok (.iastore, 1) := by decide +kernel
theorem dX3_keep_41 : decode cX3_keep 41 = .ok (.iload_n 3, 1) := by decide +kernel
theorem dX3_keep_42 : decode cX3_keep 42 = .ok (.ireturn, 1) := by decide +kernel
theorem dX3_setBell_0 : decode cX3_setBell 0 = .ok (.iload_n 1, 1) := by decide +kernel
theorem dX3_setBell_1 : decode cX3_setBell 1 = .ok (.ifCond .lt 9, 3) := by decide +kernel
theorem dX3_setBell_4 : decode cX3_setBell 4 = .ok (.iload_n 1, 1) := by decide +kernel
theorem dX3_setBell_5 : decode cX3_setBell 5 = .ok (.bipush 9, 2) := by decide +kernel
theorem dX3_setBell_7 : decode cX3_setBell 7 = .ok (.if_icmp .le 13, 3) := by decide +kernel
theorem dX3_setBell_10 : decode cX3_setBell 10 = .ok (.new 19, 3) := by decide +kernel
theorem dX3_setBell_13 : decode cX3_setBell 13 = .ok (.dup, 1) := by decide +kernel
theorem dX3_setBell_14 : decode cX3_setBell 14 = .ok (.ldc 65, 2) := by decide +kernel
theorem dX3_setBell_16 : decode cX3_setBell 16 = .ok (.invokespecial 23, 3) := by decide +kernel
theorem dX3_setBell_19 : decode cX3_setBell 19 = .ok (.athrow, 1) := by decide +kernel
theorem dX3_setBell_20 : decode cX3_setBell 20 = .ok (.aload_n 0, 1) := by decide +kernel
theorem dX3_setBell_21 : decode cX3_setBell 21 = .ok (.getfield 10, 3) := by decide +kernel
theorem dX3_setBell_24 : decode cX3_setBell 24 = .ok (.getfield 67, 3) := by decide +kernel
theorem dX3_setBell_27 : decode cX3_setBell 27 = .ok (.istore_n 2, 1) := by decide +kernel
theorem dX3_setBell_28 : decode cX3_setBell 28 = .ok (.aload_n 0, 1) := by decide +kernel
theorem dX3_setBell_29 : decode cX3_setBell 29 = .ok (.getfield 10, 3) := by decide +kernel
theorem dX3_setBell_32 : decode cX3_setBell 32 = .ok (.iload_n 1, 1) := by decide +kernel
theorem dX3_setBell_33 : decode cX3_setBell 33 = .ok (.putfield 67, 3) := by decide +kernel
theorem dX3_setBell_36 : decode cX3_setBell 36 = .ok (.iload_n 2, 1) := by decide +kernel
theorem dX3_setBell_37 : decode cX3_setBell 37 = .ok (.ireturn, 1) := by decide +kernel
theorem dX3_setPawn_0 : decode cX3_setPawn 0 = .ok (.iload_n 1, 1) := by decide +kernel
theorem dX3_setPawn_1 : decode cX3_setPawn 1 = .ok (.iconst 1, 1) := by decide +kernel
theorem dX3_setPawn_2 : decode cX3_setPawn 2 = .ok (.if_icmp .lt 9, 3) := by decide +kernel
theorem dX3_setPawn_5 : decode cX3_setPawn 5 = .ok (.iload_n 1, 1) := by decide +kernel
theorem dX3_setPawn_6 : decode cX3_setPawn 6 = .ok (.bipush 20, 2) := by decide +kernel
theorem dX3_setPawn_8 : decode cX3_setPawn 8 = .ok (.if_icmp .le 13, 3) := by decide +kernel
theorem dX3_setPawn_11 : decode cX3_setPawn 11 = .ok (.new 19, 3) := by decide +kernel
theorem dX3_setPawn_14 : decode cX3_setPawn 14 = .ok (.dup, 1) := by decide +kernel
theorem dX3_setPawn_15 : decode cX3_setPawn 15 = .ok (.ldc 71, 2) := by decide +kernel
theorem dX3_setPawn_17 : decode cX3_setPawn 17 = .ok (.invokespecial 23, 3) := by decide +kernel
theorem dX3_setPawn_20 : decode cX3_setPawn 20 = .ok (.athrow, 1) := by decide +kernel
theorem dX3_setPawn_21 : decode cX3_setPawn 21 = .ok (.aload_n 0, 1) := by decide +kernel
theorem dX3_setPawn_22 : decode cX3_setPawn 22 = .ok (.getfield 10, 3) := by decide +kernel
theorem dX3_setPawn_25 : decode cX3_setPawn 25 = .ok (.getfield 73, 3) := by decide +kernel
theorem dX3_setPawn_28 : decode cX3_setPawn 28 = .ok (.istore_n 2, 1) := by decide +kernel
theorem dX3_setPawn_29 : decode cX3_setPawn 29 = .ok (.aload_n 0, 1) := by decide +kernel
theorem dX3_setPawn_30 : decode cX3_setPawn 30 = .ok (.getfield 10, 3) := by decide +kernel
theorem dX3_setPawn_33 : decode cX3_setPawn 33 = .ok (.iload_n 1, 1) := by decide +kernel
theorem dX3_setPawn_34 : decode cX3_setPawn 34 = .ok (.putfield 73, 3) := by decide +kernel
theorem dX3_setPawn_37 : decode cX3_setPawn 37 = .ok (.iload_n 2, 1) := by decide +kernel
theorem dX3_setPawn_38 : decode cX3_setPawn 38 = .ok (.ireturn, 1) := by decide +kernel
set_option maxRecDepth 20000 in
theorem ggX3_give_X3_requireSailor : GoodIn wsX3_give wsX3_requireSailor := goodIn_ca (goodIn_r _ [10, 11, 12, 3, 4, 13, 24, 25, 26, 27, 28, 29, 30, 31, 32, 33, 34, 35, 36, 37, 38, 39, 40, 41, 42, 43] (by decide +kernel) (by decide +kernel)) (goodIn_sub (fun _ h => List.mem_cons_of_mem _ (List.mem_append_right _ h)) (by decide +kernel))
set_option maxRecDepth 20000 in
theorem gX3_give_X3_requireSailor : GoodIn wsX3_give (wsV RX3 55 RX3 yX3_requireSailor wsX3_requireSailor) := goodIn_app (goodIn_of _ (by decide +kernel)) ggX3_give_X3_requireSailor
set_option maxRecDepth 20000 in
theorem ggX3_give_X2_earn : GoodIn wsX3_give wsX2_earn := goodIn_r _ [18, 19, 20, 21, 22, 23, 31, 32, 33, 34, 35, 36, 37, 38, 39, 40, 41, 42, 43] (by decide +kernel) (by decide +kernel)
set_option maxRecDepth 20000 in
theorem gX3_give_X2_earn : GoodIn wsX3_give (wsV RX3 78 RX2 yX2_earn wsX2_earn) := goodIn_app (goodIn_of _ (by decide +kernel)) ggX3_give_X2_earn
theorem dX3_give_0 : decode cX3_give 0 = .ok (.aload_n 0, 1) := by decide +kernel
theorem dX3_give_1 : decode cX3_give 1 = .ok (.iload_n 1, 1) := by decide +kernel
theorem dX3_give_2 : decode cX3_give 2 = .ok (.invokevirtual 55, 3) := by decide +kernel
theorem dX3_give_5 : decode cX3_give 5 = .ok (.iload_n 2, 1) := by decide +kernel
theorem dX3_give_6 : decode cX3_give 6 = .ok (.iconst 1, 1) := by decide +kernel
theorem dX3_give_7 : decode cX3_give 7 = .ok (.if_icmp .lt 9, 3) := by decide +kernel
theorem dX3_give_10 : decode cX3_give 10 = .ok (.iload_n 2, 1) := by decide +kernel
theorem dX3_give_11 : decode cX3_give 11 = .ok (.bipush 99, 2) := by decide +kernel
theorem dX3_give_13 : decode cX3_give 13 = .ok (.if_icmp .le 13, 3) := by decide +kernel
theorem dX3_give_16 : decode cX3_give 16 = .ok (.new 19, 3) := by decide +kernel
theorem dX3_give_19 : decode cX3_give 19 = .ok (.dup, 1) := by decide +kernel
theorem dX3_give_20 : decode cX3_give 20 = .ok (.ldc 76, 2) := by decide +kernel
theorem dX3_give_22 : decode cX3_give 22 = .ok (.invokespecial 23, 3) := by decide +kernel
theorem dX3_give_25 : decode cX3_give 25 = .ok (.athrow, 1) := by decide +kernel
theorem dX3_give_26 : decode cX3_give 26 = .ok (.aload_n 0, 1) := by decide +kernel
theorem dX3_give_27 : decode cX3_give 27 = .ok (.getfield 10, 3) := by decide +kernel
theorem dX3_give_30 : decode cX3_give 30 = .ok (.getfield 48, 3) := by decide +kernel
theorem dX3_give_33 : decode cX3_give 33 = .ok (.iload_n 1, 1) := by decide +kernel
theorem dX3_give_34 : decode cX3_give 34 = .ok (.iload_n 2, 1) := by decide +kernel
theorem dX3_give_35 : decode cX3_give 35 = .ok (.invokevirtual 78, 3) := by decide +kernel
theorem dX3_give_38 : decode cX3_give 38 = .ok (.aload_n 0, 1) := by decide +kernel
theorem dX3_give_39 : decode cX3_give 39 = .ok (.getfield 10, 3) := by decide +kernel
theorem dX3_give_42 : decode cX3_give 42 = .ok (.getfield 48, 3) := by decide +kernel
theorem dX3_give_45 : decode cX3_give 45 = .ok (.getfield 82, 3) := by decide +kernel
theorem dX3_give_48 : decode cX3_give 48 = .ok (.iload_n 1, 1) := by decide +kernel
theorem dX3_give_49 : decode cX3_give 49 = .ok (.iaload, 1) := by decide +kernel
theorem dX3_give_50 : decode cX3_give 50 = .ok (.ireturn, 1) := by decide +kernel
set_option maxRecDepth 20000 in
theorem ggX3_pawn_X3_requireSailor : GoodIn wsX3_pawn wsX3_requireSailor := goodIn_ca (goodIn_r _ [10, 11, 12, 3, 4, 13, 37, 38, 39, 40, 41, 42, 43, 44, 45, 46, 47, 48, 49, 50, 51, 52, 53, 54, 55, 56] (by decide +kernel) (by decide +kernel)) (goodIn_sub (fun _ h => List.mem_cons_of_mem _ (List.mem_append_right _ h)) (by decide +kernel))
set_option maxRecDepth 20000 in
theorem gX3_pawn_X3_requireSailor : GoodIn wsX3_pawn (wsV RX3 55 RX3 yX3_requireSailor wsX3_requireSailor) := goodIn_app (goodIn_of _ (by decide +kernel)) ggX3_pawn_X3_requireSailor
set_option maxRecDepth 20000 in
theorem ggX3_pawn_X2_hasBoots : GoodIn wsX3_pawn wsX2_hasBoots := goodIn_r _ [18, 19, 44, 45, 46, 47, 48, 49, 50, 51, 52, 53, 54, 55, 56] (by decide +kernel) (by decide +kernel)
set_option maxRecDepth 20000 in
theorem gX3_pawn_X2_hasBoots : GoodIn wsX3_pawn (wsV RX3 85 RX2 yX2_hasBoots wsX2_hasBoots) := goodIn_app (goodIn_of _ (by decide +kernel)) ggX3_pawn_X2_hasBoots
set_option maxRecDepth 20000 in
theorem ggX3_pawn_X1_pawnBoots : GoodIn wsX3_pawn wsX1_pawnBoots := goodIn_r _ [24, 25, 26, 27, 28, 29, 30, 17, 31, 32, 33, 34, 35, 36, 39, 40, 41, 42, 43, 44, 45, 46, 47, 48, 49, 50, 51, 52, 53, 54, 55, 56] (by decide +kernel) (by decide +kernel)
set_option maxRecDepth 20000 in
theorem gX3_pawn_X1_pawnBoots : GoodIn wsX3_pawn (wsV RX3 94 RX1 yX1_pawnBoots wsX1_pawnBoots) := goodIn_app (goodIn_of _ (by decide +kernel)) ggX3_pawn_X1_pawnBoots
theorem dX3_pawn_0 : decode cX3_pawn 0 = .ok (.aload_n 0, 1) := by decide +kernel
theorem dX3_pawn_1 : decode cX3_pawn 1 = .ok (.iload_n 1, 1) := by decide +kernel
theorem dX3_pawn_2 : decode cX3_pawn 2 = .ok (.invokevirtual 55, 3) := by decide +kernel
theorem dX3_pawn_5 : decode cX3_pawn 5 = .ok (.aload_n 0, 1) := by decide +kernel
theorem dX3_pawn_6 : decode cX3_pawn 6 = .ok (.getfield 10, 3) := by decide +kernel
theorem dX3_pawn_9 : decode cX3_pawn 9 = .ok (.getfield 48, 3) := by decide +kernel
theorem dX3_pawn_12 : decode cX3_pawn 12 = .ok (.iload_n 1, 1) := by decide +kernel
theorem dX3_pawn_13 : decode cX3_pawn 13 = .ok (.invokevirtual 85, 3) := by decide +kernel
theorem dX3_pawn_16 : decode cX3_pawn 16 = .ok (.ifCond .ne 13, 3) := by decide +kernel
theorem dX3_pawn_19 : decode cX3_pawn 19 = .ok (.new 89, 3) := by decide +kernel
theorem dX3_pawn_22 : decode cX3_pawn 22 = .ok (.dup, 1) := by decide +kernel
theorem dX3_pawn_23 : decode cX3_pawn 23 = .ok (.ldc 91, 2) := by decide +kernel
theorem dX3_pawn_25 : decode cX3_pawn 25 = .ok (.invokespecial 93, 3) := by decide +kernel
theorem dX3_pawn_28 : decode cX3_pawn 28 = .ok (.athrow, 1) := by decide +kernel
theorem dX3_pawn_29 : decode cX3_pawn 29 = .ok (.aload_n 0, 1) := by decide +kernel
theorem dX3_pawn_30 : decode cX3_pawn 30 = .ok (.getfield 10, 3) := by decide +kernel
theorem dX3_pawn_33 : decode cX3_pawn 33 = .ok (.iload_n 1, 1) := by decide +kernel
theorem dX3_pawn_34 : decode cX3_pawn 34 = .ok (.invokevirtual 94, 3) := by decide +kernel
theorem dX3_pawn_37 : decode cX3_pawn 37 = .ok (.aload_n 0, 1) := by decide +kernel
theorem dX3_pawn_38 : decode cX3_pawn 38 = .ok (.getfield 10, 3) := by decide +kernel
theorem dX3_pawn_41 : decode cX3_pawn 41 = .ok (.getfield 48, 3) := by decide +kernel
theorem dX3_pawn_44 : decode cX3_pawn 44 = .ok (.getfield 82, 3) := by decide +kernel
theorem dX3_pawn_47 : decode cX3_pawn 47 = .ok (.iload_n 1, 1) := by decide +kernel
theorem dX3_pawn_48 : decode cX3_pawn 48 = .ok (.iaload, 1) := by decide +kernel
theorem dX3_pawn_49 : decode cX3_pawn 49 = .ok (.ireturn, 1) := by decide +kernel
set_option maxRecDepth 20000 in
theorem ggX3_redeem_X3_requireSailor : GoodIn wsX3_redeem wsX3_requireSailor := goodIn_ca (goodIn_r _ [10, 11, 12, 3, 4, 13, 33, 34, 35, 36, 37, 38, 39, 40, 41, 42, 43, 44, 45, 46, 47, 48, 49, 50, 51, 52] (by decide +kernel) (by decide +kernel)) (goodIn_sub (fun _ h => List.mem_cons_of_mem _ (List.mem_append_right _ h)) (by decide +kernel))
set_option maxRecDepth 20000 in
theorem gX3_redeem_X3_requireSailor : GoodIn wsX3_redeem (wsV RX3 55 RX3 yX3_requireSailor wsX3_requireSailor) := goodIn_app (goodIn_of _ (by decide +kernel)) ggX3_redeem_X3_requireSailor
set_option maxRecDepth 20000 in
theorem ggX3_redeem_X1_canRedeemBoots : GoodIn wsX3_redeem wsX1_canRedeemBoots := goodIn_r _ [18, 19, 20, 21, 22, 23, 24, 25, 26, 27, 35, 36, 37, 38, 39, 40, 41, 42, 43, 44, 45, 46, 47, 48, 49, 50, 51, 52] (by decide +kernel) (by decide +kernel)
set_option maxRecDepth 20000 in
theorem gX3_redeem_X1_canRedeemBoots : GoodIn wsX3_redeem (wsV RX3 97 RX1 yX1_canRedeemBoots wsX1_canRedeemBoots) := goodIn_app (goodIn_of _ (by decide +kernel)) ggX3_redeem_X1_canRedeemBoots
set_option maxRecDepth 20000 in
theorem ggX3_redeem_X1_redeemBoots : GoodIn wsX3_redeem wsX1_redeemBoots := goodIn_r _ [31, 19, 20, 21, 32, 35, 36, 37, 38, 39, 40, 41, 42, 43, 44, 45, 46, 47, 48, 49, 50, 51, 52] (by decide +kernel) (by decide +kernel)
set_option maxRecDepth 20000 in
theorem gX3_redeem_X1_redeemBoots : GoodIn wsX3_redeem (wsV RX3 102 RX1 yX1_redeemBoots wsX1_redeemBoots) := goodIn_app (goodIn_of _ (by decide +kernel)) ggX3_redeem_X1_redeemBoots
theorem dX3_redeem_0 : decode cX3_redeem 0 = .ok (.aload_n 0, 1) := by decide +kernel
theorem dX3_redeem_1 : decode cX3_redeem 1 = .ok (.iload_n 1, 1) := by decide +kernel
theorem dX3_redeem_2 : decode cX3_redeem 2 = .ok (.invokevirtual 55, 3) := by decide +kernel
theorem dX3_redeem_5 : decode cX3_redeem 5 = .ok (.aload_n 0, 1) := by decide +kernel
theorem dX3_redeem_6 : decode cX3_redeem 6 = .ok (.getfield 10, 3) := by decide +kernel
theorem dX3_redeem_9 : decode cX3_redeem 9 = .ok (.iload_n 1, 1) := by decide +kernel
theorem dX3_redeem_10 : decode cX3_redeem 10 = .ok (.invokevirtual 97, 3) := by decide +kernel
theorem dX3_redeem_13 : decode cX3_redeem 13 = .ok (.ifCond .ne 13, 3) := by decide +kernel
theorem dX3_redeem_16 : decode cX3_redeem 16 = .ok (.new 89, 3) := by decide +kernel
theorem dX3_redeem_19 : decode cX3_redeem 19 = .ok (.dup, 1) := by decide +kernel
theorem dX3_redeem_20 : decode cX3_redeem 20 = .ok (.ldc 100, 2) := by decide +kernel
theorem dX3_redeem_22 : decode cX3_redeem 22 = .ok (.invokespecial 93, 3) := by decide +kernel
theorem dX3_redeem_25 : decode cX3_redeem 25 = .ok (.athrow, 1) := by decide +kernel
theorem dX3_redeem_26 : decode cX3_redeem 26 = .ok (.aload_n 0, 1) := by decide +kernel
theorem dX3_redeem_27 : decode cX3_redeem 27 = .ok (.getfield 10, 3) := by decide +kernel
theorem dX3_redeem_30 : decode cX3_redeem 30 = .ok (.iload_n 1, 1) := by decide +kernel
theorem dX3_redeem_31 : decode cX3_redeem 31 = .ok (.invokevirtual 102, 3) := by decide +kernel
theorem dX3_redeem_34 : decode cX3_redeem 34 = .ok (.aload_n 0, 1) := by decide +kernel
theorem dX3_redeem_35 : decode cX3_redeem 35 = .ok (.getfield 10, 3) := by decide +kernel
theorem dX3_redeem_38 : decode cX3_redeem 38 = .ok (.getfield 48, 3) := by decide +kernel
theorem dX3_redeem_41 : decode cX3_redeem 41 = .ok (.getfield 82, 3) := by decide +kernel
theorem dX3_redeem_44 : decode cX3_redeem 44 = .ok (.iload_n 1, 1) := by decide +kernel
theorem dX3_redeem_45 : decode cX3_redeem 45 = .ok (.iaload, 1) := by decide +kernel
theorem dX3_redeem_46 : decode cX3_redeem 46 = .ok (.ireturn, 1) := by decide +kernel
set_option maxRecDepth 20000 in
theorem ggX3_call_X3_requireSailor : GoodIn wsX3_call wsX3_requireSailor := goodIn_ca (goodIn_r _ [10, 11, 12, 3, 4, 13, 36, 37, 38, 39, 40, 41, 42, 43, 44, 45, 46, 47, 48, 49, 50, 51, 52, 53, 54, 55] (by decide +kernel) (by decide +kernel)) (goodIn_sub (fun _ h => List.mem_cons_of_mem _ (List.mem_append_right _ h)) (by decide +kernel))
set_option maxRecDepth 20000 in
theorem gX3_call_X3_requireSailor : GoodIn wsX3_call (wsV RX3 55 RX3 yX3_requireSailor wsX3_requireSailor) := goodIn_app (goodIn_of _ (by decide +kernel)) ggX3_call_X3_requireSailor
set_option maxRecDepth 20000 in
theorem ggX3_call_X2_isUp : GoodIn wsX3_call wsX2_isUp := goodIn_r _ [18, 19, 43, 44, 45, 46, 47, 48, 49, 50, 51, 52, 53, 54, 55] (by decide +kernel) (by decide +kernel)
set_option maxRecDepth 20000 in
theorem gX3_call_X2_isUp : GoodIn wsX3_call (wsV RX3 105 RX2 yX2_isUp wsX2_isUp) := goodIn_app (goodIn_of _ (by decide +kernel)) ggX3_call_X2_isUp
set_option maxRecDepth 20000 in
theorem ggX3_call_X1_getUp : GoodIn wsX3_call wsX1_getUp := goodIn_r _ [24, 25, 26, 27, 28, 29, 30, 31, 32, 33, 34, 35, 38, 39, 40, 41, 42, 43, 44, 45, 46, 47, 48, 49, 50, 51, 52, 53, 54, 55, 56, 57, 58, 59, 60, 61] (by decide +kernel) (by decide +kernel)
set_option maxRecDepth 20000 in
theorem gX3_call_X1_getUp : GoodIn wsX3_call (wsV RX3 113 RX1 yX1_getUp wsX1_getUp) := goodIn_app (goodIn_of _ (by decide +kernel)) ggX3_call_X1_getUp
theorem dX3_call_0 : decode cX3_call 0 = .ok (.aload_n 0, 1) := by decide +kernel
theorem dX3_call_1 : decode cX3_call 1 = .ok (.iload_n 1, 1) := by decide +kernel
theorem dX3_call_2 : decode cX3_call 2 = .ok (.invokevirtual 55, 3) := by decide +kernel
theorem dX3_call_5 : decode cX3_call 5 = .ok (.aload_n 0, 1) := by decide +kernel
theorem dX3_call_6 : decode cX3_call 6 = .ok (.getfield 10, 3) := by decide +kernel
theorem dX3_call_9 : decode cX3_call 9 = .ok (.getfield 48, 3) := by decide +kernel
theorem dX3_call_12 : decode cX3_call 12 = .ok (.iload_n 1, 1) := by decide +kernel
theorem dX3_call_13 : decode cX3_call 13 = .ok (.invokevirtual 105, 3) := by decide +kernel
theorem dX3_call_16 : decode cX3_call 16 = .ok (.ifCond .eq 13, 3) := by decide +kernel
theorem dX3_call_19 : decode cX3_call 19 = .ok (.new 89, 3) := by decide +kernel
theorem dX3_call_22 : decode cX3_call 22 = .ok (.dup, 1) := by decide +kernel
theorem dX3_call_23 : decode cX3_call 23 = .ok (.ldc 108, 2) := by decide +kernel
theorem dX3_call_25 : decode cX3_call 25 = .ok (.invokespecial 93, 3) := by decide +kernel
theorem dX3_call_28 : decode cX3_call 28 = .ok (.athrow, 1) := by decide +kernel
theorem dX3_call_29 : decode cX3_call 29 = .ok (.aload_n 0, 1) := by decide +kernel
theorem dX3_call_30 : decode cX3_call 30 = .ok (.getfield 10, 3) := by decide +kernel
theorem dX3_call_33 : decode cX3_call 33 = .ok (.getfield 48, 3) := by decide +kernel
theorem dX3_call_36 : decode cX3_call 36 = .ok (.getfield 110, 3) := by decide +kernel
theorem dX3_call_39 : decode cX3_call 39 = .ok (.iload_n 1, 1) := by decide +kernel
theorem dX3_call_40 : decode cX3_call 40 = .ok (.iaload, 1) := by decide +kernel
theorem dX3_call_41 : decode cX3_call 41 = .ok (.istore_n 2, 1) := by decide +kernel
theorem dX3_call_42 : decode cX3_call 42 = .ok (.aload_n 0, 1) := by decide +kernel
theorem dX3_call_43 : decode cX3_call 43 = .ok (.getfield 10, 3) := by decide +kernel
theorem dX3_call_46 : decode cX3_call 46 = .ok (.iload_n 1, 1) := by decide +kernel
theorem dX3_call_47 : decode cX3_call 47 = .ok (.invokevirtual 113, 3) := by decide +kernel
theorem dX3_call_50 : decode cX3_call 50 = .ok (.iload_n 2, 1) := by decide +kernel
theorem dX3_call_51 : decode cX3_call 51 = .ok (.ireturn, 1) := by decide +kernel
set_option maxRecDepth 20000 in
theorem ggX3_shift_X3_requireSailor : GoodIn wsX3_shift wsX3_requireSailor := goodIn_ca (goodIn_r _ [8, 9, 10, 1, 2, 11, 27, 28, 29, 30, 31, 32, 33, 34, 35, 36, 37, 38, 39, 40, 41, 42, 43, 44, 45, 46] (by decide +kernel) (by decide +kernel)) (goodIn_sub (fun _ h => List.mem_cons_of_mem _ (List.mem_append_left _ (List.mem_append_right _ h))) (by decide +kernel))
set_option maxRecDepth 20000 in
theorem gX3_shift_X3_requireSailor : GoodIn wsX3_shift (wsV RX3 55 RX3 yX3_requireSailor wsX3_requireSailor) := goodIn_app (goodIn_of _ (by decide +kernel)) ggX3_shift_X3_requireSailor
set_option maxRecDepth 20000 in
theorem ggX3_shift_X3_requireWatch : GoodIn wsX3_shift wsX3_requireWatch := goodIn_ca (goodIn_r _ [14, 9, 10] (by decide +kernel) (by decide +kernel)) (goodIn_sub (fun _ h => List.mem_cons_of_mem _ (List.mem_append_left _ (List.mem_append_right _ h))) (by decide +kernel))
set_option maxRecDepth 20000 in
theorem gX3_shift_X3_requireWatch : GoodIn wsX3_shift (va_wsS RX3 36 yX3_requireWatch wsX3_requireWatch) := goodIn_app (goodIn_of _ (by decide +kernel)) ggX3_shift_X3_requireWatch
set_option maxRecDepth 20000 in
theorem ggX3_shift_X3_requireUp : GoodIn wsX3_shift wsX3_requireUp := goodIn_ca (goodIn_r _ [18, 19, 20, 1, 2, 21, 22, 23, 24, 25, 26, 27, 28, 29, 30, 31, 32, 33, 34, 35, 36, 37, 38, 39, 40, 41, 42, 43, 44, 45, 46] (by decide +kernel) (by decide +kernel)) (goodIn_sub (fun _ h => List.mem_cons_of_mem _ (List.mem_append_right _ h)) (by decide +kernel))
set_option maxRecDepth 20000 in
theorem gX3_shift_X3_requireUp : GoodIn wsX3_shift (wsV RX3 116 RX3 yX3_requireUp wsX3_requireUp) := goodIn_app (goodIn_of _ (by decide +kernel)) ggX3_shift_X3_requireUp
theorem dX3_shift_0 : decode cX3_shift 0 = .ok (.aload_n 0, 1) := by decide +kernel
theorem dX3_shift_1 : decode cX3_shift 1 = .ok (.iload_n 1, 1) := by decide +kernel
theorem dX3_shift_2 : decode cX3_shift 2 = .ok (.invokevirtual 55, 3) := by decide +kernel
theorem dX3_shift_5 : decode cX3_shift 5 = .ok (.iload_n 2, 1) := by decide +kernel
theorem dX3_shift_6 : decode cX3_shift 6 = .ok (.invokestatic 36, 3) := by decide +kernel
theorem dX3_shift_9 : decode cX3_shift 9 = .ok (.aload_n 0, 1) := by decide +kernel
theorem dX3_shift_10 : decode cX3_shift 10 = .ok (.iload_n 1, 1) := by decide +kernel
theorem dX3_shift_11 : decode cX3_shift 11 = .ok (.invokevirtual 116, 3) := by decide +kernel
theorem dX3_shift_14 : decode cX3_shift 14 = .ok (.aload_n 0, 1) := by decide +kernel
theorem dX3_shift_15 : decode cX3_shift 15 = .ok (.getfield 10, 3) := by decide +kernel
theorem dX3_shift_18 : decode cX3_shift 18 = .ok (.getfield 48, 3) := by decide +kernel
theorem dX3_shift_21 : decode cX3_shift 21 = .ok (.getfield 119, 3) := by decide +kernel
theorem dX3_shift_24 : decode cX3_shift 24 = .ok (.iload_n 1, 1) := by decide +kernel
theorem dX3_shift_25 : decode cX3_shift 25 = .ok (.iaload, 1) := by decide +kernel
theorem dX3_shift_26 : decode cX3_shift 26 = .ok (.istore_n 3, 1) := by decide +kernel
theorem dX3_shift_27 : decode cX3_shift 27 = .ok (.aload_n 0, 1) := by decide +kernel
theorem dX3_shift_28 : decode cX3_shift 28 = .ok (.getfield 10, 3) := by decide +kernel
theorem dX3_shift_31 : decode cX3_shift 31 = .ok (.getfield 48, 3) := by decide +kernel
theorem dX3_shift_34 : decode cX3_shift 34 = .ok (.getfield 119, 3) := by decide +kernel
theorem dX3_shift_37 : decode cX3_shift 37 = .ok (.iload_n 1, 1) := by decide +kernel
theorem dX3_shift_38 : decode cX3_shift 38 = .ok (.iload_n 2, 1) := by decide +kernel
theorem dX3_shift_39 : decode cX3_shift 39 = .ok (.iastore, 1) := by decide +kernel
theorem dX3_shift_40 : decode cX3_shift 40 = .ok (.iload_n 3, 1) := by decide +kernel
theorem dX3_shift_41 : decode cX3_shift 41 = .ok (.ireturn, 1) := by decide +kernel
set_option maxRecDepth 20000 in
theorem ggX3_pass_X3_requireHours : GoodIn wsX3_pass wsX3_requireHours := goodIn_ca (goodIn_r _ [6, 7, 8] (by decide +kernel) (by decide +kernel)) (goodIn_sub (fun _ h => List.mem_cons_of_mem _ (List.mem_append_right _ h)) (by decide +kernel))
set_option maxRecDepth 20000 in
theorem gX3_pass_X3_requireHours : GoodIn wsX3_pass (va_wsS RX3 122 yX3_requireHours wsX3_requireHours) := goodIn_app (goodIn_of _ (by decide +kernel)) ggX3_pass_X3_requireHours
set_option maxRecDepth 20000 in
theorem ggX3_pass_X2_allFloors : GoodIn wsX3_pass wsX2_allFloors := goodIn_r _ [13, 14, 15, 16, 17, 12, 18, 19, 170, 171, 172, 173, 174, 175, 176, 177, 178, 179, 180, 181, 182] (by decide +kernel) (by decide +kernel)
set_option maxRecDepth 20000 in
theorem gX3_pass_X2_allFloors : GoodIn wsX3_pass (wsV RX3 125 RX2 yX2_allFloors wsX2_allFloors) := goodIn_app (goodIn_of _ (by decide +kernel)) ggX3_pass_X2_allFloors
set_option maxRecDepth 20000 in
theorem ggX3_pass_X1_goOn : GoodIn wsX3_pass wsX1_goOn := goodIn_r _ [24, 25, 26, 27, 28, 29, 30, 31, 32, 23, 33, 34, 35, 36, 37, 38, 12, 39, 40, 41, 42, 43, 44, 45, 46, 47, 48, 49, 50, 51, 52, 53, 54, 55, 56, 57, 58, 59, 60, 61, 62, 63, 64, 65, 66, 67, 68, 69, 70, 71, 72, 73, 74, 75, 76, 77, 78, 79, 80, 81, 82, 83, 84, 85, 86, 87, 88, 89, 90, 91, 92, 93, 94, 95, 96, 97, 98, 99, 100, 101, 102, 103, 104, 105, 106, 107, 108, 109, 110, 111, 112, 113, 114, 115, 116, 117, 118, 119, 120, 121, 122, 123, 124, 125, 126, 127, 128, 129, 130, 131, 132, 133, 134, 135, 136, 137, 138, 139, 140, 141, 142, 143, 144, 145, 146, 147, 14, 148, 149, 150, 151, 152, 153, 154, 155, 156, 157, 158, 159, 160, 161, 162, 165, 166, 167, 168, 169, 170, 171, 172, 173, 174, 175, 176, 177, 178, 179, 180, 181, 182, 183, 184, 185, 186, 187, 188] (by decide +kernel) (by decide +kernel)
set_option maxRecDepth 20000 in
theorem gX3_pass_X1_goOn : GoodIn wsX3_pass (wsV RX3 129 RX1 yX1_goOn wsX1_goOn) := goodIn_app (goodIn_of _ (by decide +kernel)) ggX3_pass_X1_goOn
theorem dX3_pass_0 : decode cX3_pass 0 = .ok (.iload_n 1, 1) := by decide +kernel
theorem dX3_pass_1 : decode cX3_pass 1 = .ok (.invokestatic 122, 3) := by decide +kernel
theorem dX3_pass_4 : decode cX3_pass 4 = .ok (.aload_n 0, 1) := by decide +kernel
theorem dX3_pass_5 : decode cX3_pass 5 = .ok (.getfield 10, 3) := by decide +kernel
theorem dX3_pass_8 : decode cX3_pass 8 = .ok (.getfield 48, 3) := by decide +kernel
theorem dX3_pass_11 : decode cX3_pass 11 = .ok (.invokevirtual 125, 3) := by decide +kernel
theorem dX3_pass_14 : decode cX3_pass 14 = .ok (.istore_n 2, 1) := by decide +kernel
theorem dX3_pass_15 : decode cX3_pass 15 = .ok (.aload_n 0, 1) := by decide +kernel
theorem dX3_pass_16 : decode cX3_pass 16 = .ok (.getfield 10, 3) := by decide +kernel
theorem dX3_pass_19 : decode cX3_pass 19 = .ok (.iload_n 1, 1) := by decide +kernel
theorem dX3_pass_20 : decode cX3_pass 20 = .ok (.invokevirtual 129, 3) := by decide +kernel
theorem dX3_pass_23 : decode cX3_pass 23 = .ok (.aload_n 0, 1) := by decide +kernel
theorem dX3_pass_24 : decode cX3_pass 24 = .ok (.getfield 10, 3) := by decide +kernel
theorem dX3_pass_27 : decode cX3_pass 27 = .ok (.getfield 48, 3) := by decide +kernel
theorem dX3_pass_30 : decode cX3_pass 30 = .ok (.invokevirtual 125, 3) := by decide +kernel
theorem dX3_pass_33 : decode cX3_pass 33 = .ok (.iload_n 2, 1) := by decide +kernel
theorem dX3_pass_34 : decode cX3_pass 34 = .ok (.isub, 1) := by decide +kernel
theorem dX3_pass_35 : decode cX3_pass 35 = .ok (.ireturn, 1) := by decide +kernel
set_option maxRecDepth 20000 in
theorem ggX3_told_X3_requireSailor : GoodIn wsX3_told wsX3_requireSailor := goodIn_ca (goodIn_r _ [20, 1, 2, 3, 4, 21, 22, 23, 24, 25, 26, 27, 28, 29, 30, 31, 32, 33, 34, 35, 36, 37, 38, 39, 40, 41] (by decide +kernel) (by decide +kernel)) (goodIn_sub (fun _ h => List.mem_cons_of_mem _ (List.mem_append_right _ h)) (by decide +kernel))
set_option maxRecDepth 20000 in
theorem gX3_told_X3_requireSailor : GoodIn wsX3_told (wsV RX3 55 RX3 yX3_requireSailor wsX3_requireSailor) := goodIn_app (goodIn_of _ (by decide +kernel)) ggX3_told_X3_requireSailor
theorem dX3_told_0 : decode cX3_told 0 = .ok (.aload_n 0, 1) := by decide +kernel
theorem dX3_told_1 : decode cX3_told 1 = .ok (.iload_n 1, 1) := by decide +kernel
theorem dX3_told_2 : decode cX3_told 2 = .ok (.invokevirtual 55, 3) := by decide +kernel
theorem dX3_told_5 : decode cX3_told 5 = .ok (.aload_n 0, 1) := by decide +kernel
theorem dX3_told_6 : decode cX3_told 6 = .ok (.getfield 10, 3) := by decide +kernel
theorem dX3_told_9 : decode cX3_told 9 = .ok (.getfield 48, 3) := by decide +kernel
theorem dX3_told_12 : decode cX3_told 12 = .ok (.astore_n 3, 1) := by decide +kernel
theorem dX3_told_13 : decode cX3_told 13 = .ok (.iload_n 2, 1) := by decide +kernel
theorem dX3_told_14 : decode cX3_told 14 = .ok (.tableswitch 135 0 10 #[58, 65, 72, 79, 86, 93, 100, 107, 114, 121, 128], 58) := by decide +kernel
theorem dX3_told_72 : decode cX3_told 72 = .ok (.aload_n 3, 1) := by decide +kernel
theorem dX3_told_73 : decode cX3_told 73 = .ok (.getfield 119, 3) := by decide +kernel
theorem dX3_told_76 : decode cX3_told 76 = .ok (.iload_n 1, 1) := by decide +kernel
theorem dX3_told_77 : decode cX3_told 77 = .ok (.iaload, 1) := by decide +kernel
theorem dX3_told_78 : decode cX3_told 78 = .ok (.ireturn, 1) := by decide +kernel
theorem dX3_told_79 : decode cX3_told 79 = .ok (.aload_n 3, 1) := by decide +kernel
theorem dX3_told_80 : decode cX3_told 80 = .ok (.getfield 132, 3) := by decide +kernel
theorem dX3_told_83 : decode cX3_told 83 = .ok (.iload_n 1, 1) := by decide +kernel
theorem dX3_told_84 : decode cX3_told 84 = .ok (.iaload, 1) := by decide +kernel
theorem dX3_told_85 : decode cX3_told 85 = .ok (.ireturn, 1) := by decide +kernel
theorem dX3_told_86 : decode cX3_told 86 = .ok (.aload_n 3, 1) := by decide +kernel
theorem dX3_told_87 : decode cX3_told 87 = .ok (.getfield 135, 3) := by decide +kernel
theorem dX3_told_90 : decode cX3_told 90 = .ok (.iload_n 1, 1) := by decide +kernel
theorem dX3_told_91 : decode cX3_told 91 = .ok (.iaload, 1) := by decide +kernel
theorem dX3_told_92 : decode cX3_told 92 = .ok (.ireturn, 1) := by decide +kernel
theorem dX3_told_93 : decode cX3_told 93 = .ok (.aload_n 3, 1) := by decide +kernel
theorem dX3_told_94 : decode cX3_told 94 = .ok (.getfield 82, 3) := by decide +kernel
theorem dX3_told_97 : decode cX3_told 97 = .ok (.iload_n 1, 1) := by decide +kernel
theorem dX3_told_98 : decode cX3_told 98 = .ok (.iaload, 1) := by decide +kernel
theorem dX3_told_99 : decode cX3_told 99 = .ok (.ireturn, 1) := by decide +kernel
theorem dX3_told_100 : decode cX3_told 100 = .ok (.aload_n 3, 1) := by decide +kernel
theorem dX3_told_101 : decode cX3_told 101 = .ok (.getfield 138, 3) := by decide +kernel
theorem dX3_told_104 : decode cX3_told 104 = .ok (.iload_n 1, 1) := by decide +kernel
theorem dX3_told_105 : decode cX3_told 105 = .ok (.iaload, 1) := by decide +kernel
theorem dX3_told_106 : decode cX3_told 106 = .ok (.ireturn, 1) := by decide +kernel
theorem dX3_told_107 : decode cX3_told 107 = .ok (.aload_n 3, 1) := by decide +kernel
theorem dX3_told_108 : decode cX3_told 108 = .ok (.getfield 61, 3) := by decide +kernel
theorem dX3_told_111 : decode cX3_told 111 = .ok (.iload_n 1, 1) := by decide +kernel
theorem dX3_told_112 : decode cX3_told 112 = .ok (.iaload, 1) := by decide +kernel
theorem dX3_told_113 : decode cX3_told 113 = .ok (.ireturn, 1) := by decide +kernel
theorem dX3_told_114 : decode cX3_told 114 = .ok (.aload_n 3, 1) := by decide +kernel
theorem dX3_told_115 : decode cX3_told 115 = .ok (.getfield 141, 3) := by decide +kernel
theorem dX3_told_118 : decode cX3_told 118 = .ok (.iload_n 1, 1) := by decide +kernel
theorem dX3_told_119 : decode cX3_told 119 = .ok (.iaload, 1) := by decide +kernel
theorem dX3_told_120 : decode cX3_told 120 = .ok (.ireturn, 1) := by decide +kernel
theorem dX3_told_121 : decode cX3_told 121 = .ok (.aload_n 3, 1) := by decide +kernel
theorem dX3_told_122 : decode cX3_told 122 = .ok (.getfield 110, 3) := by decide +kernel
theorem dX3_told_125 : decode cX3_told 125 = .ok (.iload_n 1, 1) := by decide +kernel
theorem dX3_told_126 : decode cX3_told 126 = .ok (.iaload, 1) := by decide +kernel
theorem dX3_told_127 : decode cX3_told 127 = .ok (.ireturn, 1) := by decide +kernel
theorem dX3_told_128 : decode cX3_told 128 = .ok (.aload_n 3, 1) := by decide +kernel
theorem dX3_told_129 : decode cX3_told 129 = .ok (.getfield 144, 3) := by decide +kernel
theorem dX3_told_132 : decode cX3_told 132 = .ok (.iload_n 1, 1) := by decide +kernel
theorem dX3_told_133 : decode cX3_told 133 = .ok (.iaload, 1) := by decide +kernel
theorem dX3_told_134 : decode cX3_told 134 = .ok (.ireturn, 1) := by decide +kernel
theorem dX3_told_135 : decode cX3_told 135 = .ok (.aload_n 3, 1) := by decide +kernel
theorem dX3_told_136 : decode cX3_told 136 = .ok (.getfield 147, 3) := by decide +kernel
theorem dX3_told_139 : decode cX3_told 139 = .ok (.iload_n 1, 1) := by decide +kernel
theorem dX3_told_140 : decode cX3_told 140 = .ok (.iaload, 1) := by decide +kernel
theorem dX3_told_141 : decode cX3_told 141 = .ok (.ireturn, 1) := by decide +kernel
theorem dX3_told_142 : decode cX3_told 142 = .ok (.aload_n 3, 1) := by decide +kernel
theorem dX3_told_143 : decode cX3_told 143 = .ok (.getfield 150, 3) := by decide +kernel
theorem dX3_told_146 : decode cX3_told 146 = .ok (.iload_n 1, 1) := by decide +kernel
theorem dX3_told_147 : decode cX3_told 147 = .ok (.iaload, 1) := by decide +kernel
theorem dX3_told_148 : decode cX3_told 148 = .ok (.ireturn, 1) := by decide +kernel
theorem dX3_told_149 : decode cX3_told 149 = .ok (.new 153, 3) := by decide +kernel
theorem dX3_told_152 : decode cX3_told 152 = .ok (.dup, 1) := by decide +kernel
theorem dX3_told_153 : decode cX3_told 153 = .ok (.ldc 155, 2) := by decide +kernel
theorem dX3_told_155 : decode cX3_told 155 = .ok (.invokespecial 157, 3) := by decide +kernel
theorem dX3_told_158 : decode cX3_told 158 = .ok (.athrow, 1) := by decide +kernel
set_option maxRecDepth 20000 in
theorem ggX3_about_X3_requireBed : GoodIn wsX3_about wsX3_requireBed := goodIn_ca (goodIn_r _ [14, 1, 2, 3, 4, 15, 16, 17, 18, 19, 20, 21, 22, 23, 24, 25, 26, 27, 28, 29, 30, 31, 32, 33] (by decide +kernel) (by decide +kernel)) (goodIn_sub (fun _ h => List.mem_cons_of_mem _ (List.mem_append_right _ h)) (by decide +kernel))
set_option maxRecDepth 20000 in
theorem gX3_about_X3_requireBed : GoodIn wsX3_about (wsV RX3 58 RX3 yX3_requireBed wsX3_requireBed) := goodIn_app (goodIn_of _ (by decide +kernel)) ggX3_about_X3_requireBed
theorem dX3_about_0 : decode cX3_about 0 = .ok (.aload_n 0, 1) := by decide +kernel
theorem dX3_about_1 : decode cX3_about 1 = .ok (.iload_n 1, 1) := by decide +kernel
theorem dX3_about_2 : decode cX3_about 2 = .ok (.invokevirtual 58, 3) := by decide +kernel
theorem dX3_about_5 : decode cX3_about 5 = .ok (.aload_n 0, 1) := by decide +kernel
theorem dX3_about_6 : decode cX3_about 6 = .ok (.getfield 10, 3) := by decide +kernel
theorem dX3_about_9 : decode cX3_about 9 = .ok (.getfield 26, 3) := by decide +kernel
theorem dX3_about_12 : decode cX3_about 12 = .ok (.astore_n 3, 1) := by decide +kernel
theorem dX3_about_13 : decode cX3_about 13 = .ok (.iload_n 2, 1) := by decide +kernel
theorem dX3_about_14 : decode cX3_about 14 = .ok (.tableswitch 69 0 4 #[34, 41, 48, 55, 62], 34) := by decide +kernel
theorem dX3_about_48 : decode cX3_about 48 = .ok (.aload_n 3, 1) := by decide +kernel
theorem dX3_about_49 : decode cX3_about 49 = .ok (.getfield 158, 3) := by decide +kernel
theorem dX3_about_52 : decode cX3_about 52 = .ok (.iload_n 1, 1) := by decide +kernel
theorem dX3_about_53 : decode cX3_about 53 = .ok (.iaload, 1) := by decide +kernel
theorem dX3_about_54 : decode cX3_about 54 = .ok (.ireturn, 1) := by decide +kernel
theorem dX3_about_55 : decode cX3_about 55 = .ok (.aload_n 3, 1) := by decide +kernel
theorem dX3_about_56 : decode cX3_about 56 = .ok (.getfield 161, 3) := by decide +kernel
theorem dX3_about_59 : decode cX3_about 59 = .ok (.iload_n 1, 1) := by decide +kernel
theorem dX3_about_60 : decode cX3_about 60 = .ok (.iaload, 1) := by decide +kernel
theorem dX3_about_61 : decode cX3_about 61 = .ok (.ireturn, 1) := by decide +kernel
theorem dX3_about_62 : decode cX3_about 62 = .ok (.aload_n 3, 1) := by decide +kernel
theorem dX3_about_63 : decode cX3_about 63 = .ok (.getfield 164, 3) := by decide +kernel
theorem dX3_about_66 : decode cX3_about 66 = .ok (.iload_n 1, 1) := by decide +kernel
theorem dX3_about_67 : decode cX3_about 67 = .ok (.iaload, 1) := by decide +kernel
theorem dX3_about_68 : decode cX3_about 68 = .ok (.ireturn, 1) := by decide +kernel
theorem dX3_about_69 : decode cX3_about 69 = .ok (.aload_n 3, 1) := by decide +kernel
theorem dX3_about_70 : decode cX3_about 70 = .ok (.getfield 167, 3) := by decide +kernel
theorem dX3_about_73 : decode cX3_about 73 = .ok (.iload_n 1, 1) := by decide +kernel
theorem dX3_about_74 : decode cX3_about 74 = .ok (.iaload, 1) := by decide +kernel
theorem dX3_about_75 : decode cX3_about 75 = .ok (.ireturn, 1) := by decide +kernel
theorem dX3_about_76 : decode cX3_about 76 = .ok (.aload_n 3, 1) := by decide +kernel
theorem dX3_about_77 : decode cX3_about 77 = .ok (.getfield 170, 3) := by decide +kernel
theorem dX3_about_80 : decode cX3_about 80 = .ok (.iload_n 1, 1) := by decide +kernel
theorem dX3_about_81 : decode cX3_about 81 = .ok (.iaload, 1) := by decide +kernel
theorem dX3_about_82 : decode cX3_about 82 = .ok (.ireturn, 1) := by decide +kernel
theorem dX3_about_83 : decode cX3_about 83 = .ok (.new 153, 3) := by decide +kernel
theorem dX3_about_86 : decode cX3_about 86 = .ok (.dup, 1) := by decide +kernel
theorem dX3_about_87 : decode cX3_about 87 = .ok (.ldc 173, 2) := by decide +kernel
theorem dX3_about_89 : decode cX3_about 89 = .ok (.invokespecial 157, 3) := by decide +kernel
theorem dX3_about_92 : decode cX3_about 92 = .ok (.athrow, 1) := by decide +kernel
set_option maxRecDepth 20000 in
theorem ggX3_count_X1_watchNow : GoodIn wsX3_count wsX1_watchNow := goodIn_r _ [15, 16, 40, 41, 42, 43, 44] (by decide +kernel) (by decide +kernel)
set_option maxRecDepth 20000 in
theorem gX3_count_X1_watchNow : GoodIn wsX3_count (wsV RX3 182 RX1 yX1_watchNow wsX1_watchNow) := goodIn_app (goodIn_of _ (by decide +kernel)) ggX3_count_X1_watchNow
set_option maxRecDepth 20000 in
theorem ggX3_count_X2_howManyAt : GoodIn wsX3_count wsX2_howManyAt := goodIn_r _ [21, 22, 23, 51, 52, 53, 54, 55, 56, 57, 58, 59, 60, 61, 62, 63] (by decide +kernel) (by decide +kernel)
set_option maxRecDepth 20000 in
theorem gX3_count_X2_howManyAt : GoodIn wsX3_count (wsV RX3 185 RX2 yX2_howManyAt wsX2_howManyAt) := goodIn_app (goodIn_of _ (by decide +kernel)) ggX3_count_X2_howManyAt
set_option maxRecDepth 20000 in
theorem ggX3_count_X2_allLate : GoodIn wsX3_count wsX2_allLate := goodIn_r _ [27, 28, 29, 30, 31, 20, 32, 22, 51, 52, 53, 54, 55, 56, 57, 58, 59, 60, 61, 62, 63] (by decide +kernel) (by decide +kernel)
set_option maxRecDepth 20000 in
theorem gX3_count_X2_allLate : GoodIn wsX3_count (wsV RX3 188 RX2 yX2_allLate wsX2_allLate) := goodIn_app (goodIn_of _ (by decide +kernel)) ggX3_count_X2_allLate
set_option maxRecDepth 20000 in
theorem ggX3_count_X2_allFloors : GoodIn wsX3_count wsX2_allFloors := goodIn_r _ [36, 37, 29, 30, 31, 20, 32, 22, 51, 52, 53, 54, 55, 56, 57, 58, 59, 60, 61, 62, 63] (by decide +kernel) (by decide +kernel)
set_option maxRecDepth 20000 in
theorem gX3_count_X2_allFloors : GoodIn wsX3_count (wsV RX3 125 RX2 yX2_allFloors wsX2_allFloors) := goodIn_app (goodIn_of _ (by decide +kernel)) ggX3_count_X2_allFloors
theorem dX3_count_0 : decode cX3_count 0 = .ok (.iload_n 1, 1) := by decide +kernel
theorem dX3_count_1 : decode cX3_count 1 = .ok (.tableswitch 155 0 9 #[55, 63, 74, 85, 93, 105, 117, 128, 139, 147], 55) := by decide +kernel
theorem dX3_count_56 : decode cX3_count 56 = .ok (.aload_n 0, 1) := by decide +kernel
theorem dX3_count_57 : decode cX3_count 57 = .ok (.getfield 10, 3) := by decide +kernel
theorem dX3_count_60 : decode cX3_count 60 = .ok (.getfield 175, 3) := by decide +kernel
theorem dX3_count_63 : decode cX3_count 63 = .ok (.ireturn, 1) := by decide +kernel
theorem dX3_count_64 : decode cX3_count 64 = .ok (.aload_n 0, 1) := by decide +kernel
theorem dX3_count_65 : decode cX3_count 65 = .ok (.getfield 10, 3) := by decide +kernel
theorem dX3_count_68 : decode cX3_count 68 = .ok (.getfield 26, 3) := by decide +kernel
theorem dX3_count_71 : decode cX3_count 71 = .ok (.getfield 178, 3) := by decide +kernel
theorem dX3_count_74 : decode cX3_count 74 = .ok (.ireturn, 1) := by decide +kernel
theorem dX3_count_75 : decode cX3_count 75 = .ok (.aload_n 0, 1) := by decide +kernel
theorem dX3_count_76 : decode cX3_count 76 = .ok (.getfield 10, 3) := by decide +kernel
theorem dX3_count_79 : decode cX3_count 79 = .ok (.getfield 48, 3) := by decide +kernel
theorem dX3_count_82 : decode cX3_count 82 = .ok (.getfield 181, 3) := by decide +kernel
theorem dX3_count_85 : decode cX3_count 85 = .ok (.ireturn, 1) := by decide +kernel
theorem dX3_count_86 : decode cX3_count 86 = .ok (.aload_n 0, 1) := by decide +kernel
theorem dX3_count_87 : decode cX3_count 87 = .ok (.getfield 10, 3) := by decide +kernel
theorem dX3_count_90 : decode cX3_count 90 = .ok (.invokevirtual 182, 3) := by decide +kernel
theorem dX3_count_93 : decode cX3_count 93 = .ok (.ireturn, 1) := by decide +kernel
theorem dX3_count_94 : decode cX3_count 94 = .ok (.aload_n 0, 1) := by decide +kernel
theorem dX3_count_95 : decode cX3_count 95 = .ok (.getfield 10, 3) := by decide +kernel
theorem dX3_count_98 : decode cX3_count 98 = .ok (.getfield 48, 3) := by decide +kernel
theorem dX3_count_101 : decode cX3_count 101 = .ok (.iconst 1, 1) := by decide +kernel
theorem dX3_count_102 : decode cX3_count 102 = .ok (.invokevirtual 185, 3) := by decide +kernel
theorem dX3_count_105 : decode cX3_count 105 = .ok (.ireturn, 1) := by decide +kernel
theorem dX3_count_106 : decode cX3_count 106 = .ok (.aload_n 0, 1) := by decide +kernel
theorem dX3_count_107 : decode cX3_count 107 = .ok (.getfield 10, 3) := by decide +kernel
theorem dX3_count_110 : decode cX3_count 110 = .ok (.getfield 48, 3) := by decide +kernel
theorem dX3_count_113 : decode cX3_count 113 = .ok (.iconst 2, 1) := by decide +kernel
theorem dX3_count_114 : decode cX3_count 114 = .ok (.invokevirtual 185, 3) := by decide +kernel
theorem dX3_count_117 : decode cX3_count 117 = .ok (.ireturn, 1) := by decide +kernel
theorem dX3_count_118 : decode cX3_count 118 = .ok (.aload_n 0, 1) := by decide +kernel
theorem dX3_count_119 : decode cX3_count 119 = .ok (.getfield 10, 3) := by decide +kernel
theorem dX3_count_122 : decode cX3_count 122 = .ok (.getfield 48, 3) := by decide +kernel
theorem dX3_count_125 : decode cX3_count 125 = .ok (.invokevirtual 188, 3) := by decide +kernel
theorem dX3_count_128 : decode cX3_count 128 = .ok (.ireturn, 1) := by decide +kernel
theorem dX3_count_129 : decode cX3_count 129 = .ok (.aload_n 0, 1) := by decide +kernel
theorem dX3_count_130 : decode cX3_count 130 = .ok (.getfield 10, 3) := by decide +kernel
theorem dX3_count_133 : decode cX3_count 133 = .ok (.getfield 48, 3) := by decide +kernel
theorem dX3_count_136 : decode cX3_count 136 = .ok (.invokevirtual 125, 3) := by decide +kernel
theorem dX3_count_139 : decode cX3_count 139 = .ok (.ireturn, 1) := by decide +kernel
theorem dX3_count_140 : decode cX3_count 140 = .ok (.aload_n 0, 1) := by decide +kernel
theorem dX3_count_141 : decode cX3_count 141 = .ok (.getfield 10, 3) := by decide +kernel
theorem dX3_count_144 : decode cX3_count 144 = .ok (.getfield 67, 3) := by decide +kernel
theorem dX3_count_147 : decode cX3_count 147 = .ok (.ireturn, 1) := by decide +kernel
theorem dX3_count_148 : decode cX3_count 148 = .ok (.aload_n 0, 1) := by decide +kernel
theorem dX3_count_149 : decode cX3_count 149 = .ok (.getfield 10, 3) := by decide +kernel
theorem dX3_count_152 : decode cX3_count 152 = .ok (.getfield 73, 3) := by decide +kernel
theorem dX3_count_155 : decode cX3_count 155 = .ok (.ireturn, 1) := by decide +kernel
theorem dX3_count_156 : decode cX3_count 156 = .ok (.new 153, 3) := by decide +kernel
theorem dX3_count_159 : decode cX3_count 159 = .ok (.dup, 1) := by decide +kernel
theorem dX3_count_160 : decode cX3_count 160 = .ok (.ldc 191, 2) := by decide +kernel
theorem dX3_count_162 : decode cX3_count 162 = .ok (.invokespecial 157, 3) := by decide +kernel
theorem dX3_count_165 : decode cX3_count 165 = .ok (.athrow, 1) := by decide +kernel
set_option maxRecDepth 20000 in
theorem ggX3_would_X3_requireSailor : GoodIn wsX3_would wsX3_requireSailor := goodIn_ca (goodIn_r _ [9, 10, 11, 2, 3, 12, 185, 186, 187, 188, 189, 190, 191, 192, 193, 194, 195, 196, 197, 198, 199, 200, 201, 202, 203, 204] (by decide +kernel) (by decide +kernel)) (goodIn_sub (fun _ h => List.mem_cons_of_mem _ (List.mem_append_left _ (List.mem_append_right _ h))) (by decide +kernel))
set_option maxRecDepth 20000 in
theorem gX3_would_X3_requireSailor : GoodIn wsX3_would (wsV RX3 55 RX3 yX3_requireSailor wsX3_requireSailor) := goodIn_app (goodIn_of _ (by decide +kernel)) ggX3_would_X3_requireSailor
set_option maxRecDepth 20000 in
theorem ggX3_would_X3_requireHours : GoodIn wsX3_would wsX3_requireHours := goodIn_ca (goodIn_r _ [15, 16, 17] (by decide +kernel) (by decide +kernel)) (goodIn_sub (fun _ h => List.mem_cons_of_mem _ (List.mem_append_right _ h)) (by decide +kernel))
set_option maxRecDepth 20000 in
theorem gX3_would_X3_requireHours : GoodIn wsX3_would (va_wsS RX3 122 yX3_requireHours wsX3_requireHours) := goodIn_app (goodIn_of _ (by decide +kernel)) ggX3_would_X3_requireHours
set_option maxRecDepth 20000 in
theorem ggX3_would_X1_copyFrom : GoodIn wsX3_would wsX1_copyFrom := goodIn_r _ [22, 23, 24, 25, 26, 27, 28, 29, 30, 31, 32, 33, 34, 35, 36, 37, 38, 39, 8, 40, 41, 42, 43, 44, 45, 46, 47, 48, 49, 50, 51, 52, 53, 54, 55, 56, 57, 58, 187, 188, 189, 190, 191, 205, 206, 207, 208, 209, 210, 192, 193, 194, 195, 196, 197, 198, 199, 200, 201, 202, 203, 204] (by decide +kernel) (by decide +kernel)
set_option maxRecDepth 20000 in
theorem gX3_would_X1_copyFrom : GoodIn wsX3_would (wsV RX3 193 RX1 yX1_copyFrom wsX1_copyFrom) := goodIn_app (goodIn_of _ (by decide +kernel)) ggX3_would_X1_copyFrom
set_option maxRecDepth 20000 in
theorem ggX3_would_X1_goOn : GoodIn wsX3_would wsX1_goOn := goodIn_r _ [62, 27, 63, 64, 26, 23, 65, 66, 67, 21, 68, 24, 69, 70, 71, 72, 44, 73, 53, 74, 75, 76, 77, 78, 79, 80, 81, 82, 83, 84, 85, 86, 87, 88, 89, 90, 91, 92, 93, 94, 95, 96, 31, 97, 33, 98, 99, 100, 101, 56, 57, 102, 103, 104, 105, 106, 107, 108, 109, 49, 110, 111, 112, 113, 114, 115, 116, 117, 51, 118, 119, 120, 121, 50, 122, 123, 124, 125, 126, 127, 128, 129, 25, 130, 131, 132, 133, 134, 135, 136, 137, 138, 139, 140, 141, 142, 143, 144, 38, 145, 146, 147, 148, 149, 34, 150, 151, 152, 153, 154, 155, 156, 157, 158, 159, 160, 161, 162, 163, 164, 165, 166, 167, 168, 169, 170, 58, 171, 172, 173, 174, 175, 176, 177, 178, 35, 179, 180, 181, 182, 183, 184, 187, 188, 189, 190, 191, 192, 193, 194, 195, 196, 197, 198, 199, 200, 201, 202, 203, 204, 205, 206, 207, 208, 209, 210] (by decide +kernel) (by decide +kernel)
set_option maxRecDepth 20000 in
theorem gX3_would_X1_goOn : GoodIn wsX3_would (wsV RX3 129 RX1 yX1_goOn wsX1_goOn) := goodIn_app (goodIn_of _ (by decide +kernel)) ggX3_would_X1_goOn
theorem dX3_would_0 : decode cX3_would 0 = .ok (.aload_n 0, 1) := by decide +kernel
theorem dX3_would_1 : decode cX3_would 1 = .ok (.iload_n 1, 1) := by decide +kernel
theorem dX3_would_2 : decode cX3_would 2 = .ok (.invokevirtual 55, 3) := by decide +kernel
theorem dX3_would_5 : decode cX3_would 5 = .ok (.iload_n 2, 1) := by decide +kernel
theorem dX3_would_6 : decode cX3_would 6 = .ok (.invokestatic 122, 3) := by decide +kernel
theorem dX3_would_9 : decode cX3_would 9 = .ok (.aload_n 0, 1) := by decide +kernel
theorem dX3_would_10 : decode cX3_would 10 = .ok (.getfield 16, 3) := by decide +kernel
theorem dX3_would_13 : decode cX3_would 13 = .ok (.aload_n 0, 1) := by decide +kernel
theorem dX3_would_14 : decode cX3_would 14 = .ok (.getfield 10, 3) := by decide +kernel
theorem dX3_would_17 : decode cX3_would 17 = .ok (.invokevirtual 193, 3) := by decide +kernel
theorem dX3_would_20 : decode cX3_would 20 = .ok (.aload_n 0, 1) := by decide +kernel
theorem dX3_would_21 : decode cX3_would 21 = .ok (.getfield 16, 3) := by decide +kernel
theorem dX3_would_24 : decode cX3_would 24 = .ok (.iload_n 2, 1) := by decide +kernel
theorem dX3_would_25 : decode cX3_would 25 = .ok (.invokevirtual 129, 3) := by decide +kernel
theorem dX3_would_28 : decode cX3_would 28 = .ok (.aload_n 0, 1) := by decide +kernel
theorem dX3_would_29 : decode cX3_would 29 = .ok (.getfield 16, 3) := by decide +kernel
theorem dX3_would_32 : decode cX3_would 32 = .ok (.getfield 48, 3) := by decide +kernel
theorem dX3_would_35 : decode cX3_would 35 = .ok (.getfield 144, 3) := by decide +kernel
theorem dX3_would_38 : decode cX3_would 38 = .ok (.iload_n 1, 1) := by decide +kernel
theorem dX3_would_39 : decode cX3_would 39 = .ok (.iaload, 1) := by decide +kernel
theorem dX3_would_40 : decode cX3_would 40 = .ok (.aload_n 0, 1) := by decide +kernel
theorem dX3_would_41 : decode cX3_would 41 = .ok (.getfield 10, 3) := by decide +kernel
theorem dX3_would_44 : decode cX3_would 44 = .ok (.getfield 48, 3) := by decide +kernel
theorem dX3_would_47 : decode cX3_would 47 = .ok (.getfield 144, 3) := by decide +kernel
theorem dX3_would_50 : decode cX3_would 50 = .ok (.iload_n 1, 1) := by decide +kernel
theorem dX3_would_51 : decode cX3_would 51 = .ok (.iaload, 1) := by decide +kernel
theorem dX3_would_52 : decode cX3_would 52 = .ok (.isub, 1) := by decide +kernel
theorem dX3_would_53 : decode cX3_would 53 = .ok (.ireturn, 1) := by decide +kernel
set_option maxRecDepth 20000 in
theorem ggX3_until_X3_requireSailor : GoodIn wsX3_until wsX3_requireSailor := goodIn_ca (goodIn_r _ [9, 10, 11, 2, 3, 12, 180, 181, 182, 183, 184, 185, 186, 187, 188, 189, 190, 191, 192, 193, 194, 195, 196, 197, 198, 199] (by decide +kernel) (by decide +kernel)) (goodIn_sub (fun _ h => List.mem_cons_of_mem _ (List.mem_append_right _ h)) (by decide +kernel))
set_option maxRecDepth 20000 in
theorem gX3_until_X3_requireSailor : GoodIn wsX3_until (wsV RX3 55 RX3 yX3_requireSailor wsX3_requireSailor) := goodIn_app (goodIn_of _ (by decide +kernel)) ggX3_until_X3_requireSailor
set_option maxRecDepth 20000 in
theorem ggX3_until_X1_copyFrom : GoodIn wsX3_until wsX1_copyFrom := goodIn_r _ [17, 18, 19, 20, 21, 22, 23, 24, 25, 26, 27, 28, 29, 30, 31, 32, 33, 34, 8, 35, 36, 37, 38, 39, 40, 41, 42, 43, 44, 45, 46, 47, 48, 49, 50, 51, 52, 53, 182, 183, 184, 185, 186, 200, 201, 202, 203, 204, 205, 187, 188, 189, 190, 191, 192, 193, 194, 195, 196, 197, 198, 199] (by decide +kernel) (by decide +kernel)
set_option maxRecDepth 20000 in
theorem gX3_until_X1_copyFrom : GoodIn wsX3_until (wsV RX3 193 RX1 yX1_copyFrom wsX1_copyFrom) := goodIn_app (goodIn_of _ (by decide +kernel)) ggX3_until_X1_copyFrom
set_option maxRecDepth 20000 in
theorem ggX3_until_X1_goOn : GoodIn wsX3_until wsX1_goOn := goodIn_r _ [57, 22, 58, 59, 21, 18, 60, 61, 62, 16, 63, 19, 64, 65, 66, 67, 39, 68, 48, 69, 70, 71, 72, 73, 74, 75, 76, 77, 78, 79, 80, 81, 82, 83, 84, 85, 86, 87, 88, 89, 90, 91, 26, 92, 28, 93, 94, 95, 96, 51, 52, 97, 98, 99, 100, 101, 102, 103, 104, 44, 105, 106, 107, 108, 109, 110, 111, 112, 46, 113, 114, 115, 116, 45, 117, 118, 119, 120, 121, 122, 123, 124, 20, 125, 126, 127, 128, 129, 130, 131, 132, 133, 134, 135, 136, 137, 138, 139, 33, 140, 141, 142, 143, 144, 29, 145, 146, 147, 148, 149, 150, 151, 152, 153, 154, 155, 156, 157, 158, 159, 160, 161, 162, 163, 164, 165, 53, 166, 167, 168, 169, 170, 171, 172, 173, 30, 174, 175, 176, 177, 178, 179, 182, 183, 184, 185, 186, 187, 188, 189, 190, 191, 192, 193, 194, 195, 196, 197, 198, 199, 200, 201, 202, 203, 204, 205] (by decide +kernel) (by decide +kernel)
set_option maxRecDepth 20000 in
theorem gX3_until_X1_goOn : GoodIn wsX3_until (wsV RX3 129 RX1 yX1_goOn wsX1_goOn) := goodIn_app (goodIn_of _ (by decide +kernel)) ggX3_until_X1_goOn
theorem dX3_until_0 : decode cX3_until 0 = .ok (.aload_n 0, 1) := by decide +kernel
theorem dX3_until_1 : decode cX3_until 1 = .ok (.iload_n 1, 1) := by decide +kernel
theorem dX3_until_2 : decode cX3_until 2 = .ok (.invokevirtual 55, 3) := by decide +kernel
theorem dX3_until_5 : decode cX3_until 5 = .ok (.aload_n 0, 1) := by decide +kernel
theorem dX3_until_6 : decode cX3_until 6 = .ok (.getfield 16, 3) := by decide +kernel
theorem dX3_until_9 : decode cX3_until 9 = .ok (.aload_n 0, 1) := by decide +kernel
theorem dX3_until_10 : decode cX3_until 10 = .ok (.getfield 10, 3) := by decide +kernel
theorem dX3_until_13 : decode cX3_until 13 = .ok (.invokevirtual 193, 3) := by decide +kernel
theorem dX3_until_16 : decode cX3_until 16 = .ok (.iconst 0, 1) := by decide +kernel
theorem dX3_until_17 : decode cX3_until 17 = .ok (.istore_n 2, 1) := by decide +kernel
theorem dX3_until_18 : decode cX3_until 18 = .ok (.iload_n 2, 1) := by decide +kernel
theorem dX3_until_19 : decode cX3_until 19 = .ok (.bipush 48, 2) := by decide +kernel
theorem dX3_until_21 : decode cX3_until 21 = .ok (.if_icmp .gt 35, 3) := by decide +kernel
theorem dX3_until_24 : decode cX3_until 24 = .ok (.aload_n 0, 1) := by decide +kernel
theorem dX3_until_25 : decode cX3_until 25 = .ok (.getfield 16, 3) := by decide +kernel
theorem dX3_until_28 : decode cX3_until 28 = .ok (.getfield 48, 3) := by decide +kernel
theorem dX3_until_31 : decode cX3_until 31 = .ok (.getfield 141, 3) := by decide +kernel
theorem dX3_until_34 : decode cX3_until 34 = .ok (.iload_n 1, 1) := by decide +kernel
theorem dX3_until_35 : decode cX3_until 35 = .ok (.iaload, 1) := by decide +kernel
theorem dX3_until_36 : decode cX3_until 36 = .ok (.iconst 1, 1) := by decide +kernel
theorem dX3_until_37 : decode cX3_until 37 = .ok (.if_icmp .ne 5, 3) := by decide +kernel
theorem dX3_until_40 : decode cX3_until 40 = .ok (.iload_n 2, 1) := by decide +kernel
theorem dX3_until_41 : decode cX3_until 41 = .ok (.ireturn, 1) := by decide +kernel
theorem dX3_until_42 : decode cX3_until 42 = .ok (.aload_n 0, 1) := by decide +kernel
theorem dX3_until_43 : decode cX3_until 43 = .ok (.getfield 16, 3) := by decide +kernel
theorem dX3_until_46 : decode cX3_until 46 = .ok (.iconst 1, 1) := by decide +kernel
theorem dX3_until_47 : decode cX3_until 47 = .ok (.invokevirtual 129, 3) := by decide +kernel
theorem dX3_until_50 : decode cX3_until 50 = .ok (.iinc 2 1, 3) := by decide +kernel
theorem dX3_until_53 : decode cX3_until 53 = .ok (.goto (-35), 3) := by decide +kernel
theorem dX3_until_56 : decode cX3_until 56 = .ok (.iconst (-1), 1) := by decide +kernel
theorem dX3_until_57 : decode cX3_until 57 = .ok (.ireturn, 1) := by decide +kernel
set_option maxRecDepth 20000 in
theorem ggX3_quiet_X2_allLate : GoodIn wsX3_quiet wsX2_allLate := goodIn_r _ [9, 10, 11, 12, 13, 8, 14, 15, 188, 189, 190, 191, 192, 193, 194, 195, 196, 197, 198, 199, 200] (by decide +kernel) (by decide +kernel)
set_option maxRecDepth 20000 in
theorem gX3_quiet_X2_allLate : GoodIn wsX3_quiet (wsV RX3 188 RX2 yX2_allLate wsX2_allLate) := goodIn_app (goodIn_of _ (by decide +kernel)) ggX3_quiet_X2_allLate
set_option maxRecDepth 20000 in
theorem ggX3_quiet_X1_copyFrom : GoodIn wsX3_quiet wsX1_copyFrom := goodIn_r _ [20, 21, 22, 23, 24, 25, 26, 27, 28, 29, 30, 31, 32, 33, 34, 35, 36, 37, 38, 39, 40, 41, 42, 8, 43, 15, 44, 45, 46, 47, 48, 49, 50, 51, 52, 10, 53, 54, 183, 184, 185, 186, 187, 201, 202, 203, 204, 205, 206, 188, 189, 190, 191, 192, 193, 194, 195, 196, 197, 198, 199, 200] (by decide +kernel) (by decide +kernel)
set_option maxRecDepth 20000 in
theorem gX3_quiet_X1_copyFrom : GoodIn wsX3_quiet (wsV RX3 193 RX1 yX1_copyFrom wsX1_copyFrom) := goodIn_app (goodIn_of _ (by decide +kernel)) ggX3_quiet_X1_copyFrom
set_option maxRecDepth 20000 in
theorem ggX3_quiet_X1_goOn : GoodIn wsX3_quiet wsX1_goOn := goodIn_r _ [58, 25, 59, 60, 24, 21, 61, 62, 63, 19, 64, 22, 65, 66, 67, 68, 8, 69, 50, 70, 71, 72, 73, 74, 75, 76, 77, 78, 79, 80, 81, 82, 83, 84, 85, 86, 87, 88, 89, 90, 91, 92, 29, 93, 31, 94, 95, 96, 97, 10, 53, 98, 99, 100, 101, 102, 103, 104, 105, 46, 106, 107, 108, 109, 110, 111, 112, 113, 48, 114, 115, 116, 117, 47, 118, 119, 120, 121, 122, 123, 124, 125, 23, 126, 127, 128, 129, 130, 131, 132, 133, 134, 135, 136, 137, 138, 139, 140, 36, 141, 142, 143, 144, 145, 32, 146, 147, 148, 149, 150, 151, 152, 153, 154, 155, 156, 157, 158, 159, 160, 161, 162, 163, 164, 165, 166, 54, 167, 168, 169, 170, 171, 172, 173, 174, 33, 175, 176, 177, 178, 179, 180, 183, 184, 185, 186, 187, 188, 189, 190, 191, 192, 193, 194, 195, 196, 197, 198, 199, 200, 201, 202, 203, 204, 205, 206] (by decide +kernel) (by decide +kernel)
set_option maxRecDepth 20000 in
theorem gX3_quiet_X1_goOn : GoodIn wsX3_quiet (wsV RX3 129 RX1 yX1_goOn wsX1_goOn) := goodIn_app (goodIn_of _ (by decide +kernel)) ggX3_quiet_X1_goOn
theorem dX3_quiet_0 : decode cX3_quiet 0 = .ok (.aload_n 0, 1) := by decide +kernel
theorem dX3_quiet_1 : decode cX3_quiet 1 = .ok (.getfield 10, 3) := by decide +kernel
theorem dX3_quiet_4 : decode cX3_quiet 4 = .ok (.getfield 48, 3) := by decide +kernel
theorem dX3_quiet_7 : decode cX3_quiet 7 = .ok (.invokevirtual 188, 3) := by decide +kernel
theorem dX3_quiet_10 : decode cX3_quiet 10 = .ok (.istore_n 1, 1) := by decide +kernel
theorem dX3_quiet_11 : decode cX3_quiet 11 = .ok (.iconst 0, 1) := by decide +kernel
theorem dX3_quiet_12 : decode cX3_quiet 12 = .ok (.istore_n 2, 1) := by decide +kernel
theorem dX3_quiet_13 : decode cX3_quiet 13 = .ok (.iload_n 2, 1) := by decide +kernel
theorem dX3_quiet_14 : decode cX3_quiet 14 = .ok (.bipush 9, 2) := by decide +kernel
theorem dX3_quiet_16 : decode cX3_quiet 16 = .ok (.if_icmp .gt 53, 3) := by decide +kernel
theorem dX3_quiet_19 : decode cX3_quiet 19 = .ok (.aload_n 0, 1) := by decide +kernel
theorem dX3_quiet_20 : decode cX3_quiet 20 = .ok (.getfield 16, 3) := by decide +kernel
theorem dX3_quiet_23 : decode cX3_quiet 23 = .ok (.aload_n 0, 1) := by decide +kernel
theorem dX3_quiet_24 : decode cX3_quiet 24 = .ok (.getfield 10, 3) := by decide +kernel
theorem dX3_quiet_27 : decode cX3_quiet 27 = .ok (.invokevirtual 193, 3) := by decide +kernel
theorem dX3_quiet_30 : decode cX3_quiet 30 = .ok (.aload_n 0, 1) := by decide +kernel
theorem dX3_quiet_31 : decode cX3_quiet 31 = .ok (.getfield 16, 3) := by decide +kernel
theorem dX3_quiet_34 : decode cX3_quiet 34 = .ok (.iload_n 2, 1) := by decide +kernel
theorem dX3_quiet_35 : decode cX3_quiet 35 = .ok (.putfield 67, 3) := by decide +kernel
theorem dX3_quiet_38 : decode cX3_quiet 38 = .ok (.aload_n 0, 1) := by decide +kernel
theorem dX3_quiet_39 : decode cX3_quiet 39 = .ok (.getfield 16, 3) := by decide +kernel
theorem dX3_quiet_42 : decode cX3_quiet 42 = .ok (.bipush 48, 2) := by decide +kernel
theorem dX3_quiet_44 : decode cX3_quiet 44 = .ok (.invokevirtual 129, 3) := by decide +kernel
theorem dX3_quiet_47 : decode cX3_quiet 47 = .ok (.aload_n 0, 1) := by decide +kernel
theorem dX3_quiet_48 : decode cX3_quiet 48 = .ok (.getfield 16, 3) := by decide +kernel
theorem dX3_quiet_51 : decode cX3_quiet 51 = .ok (.getfield 48, 3) := by decide +kernel
theorem dX3_quiet_54 : decode cX3_quiet 54 = .ok (.invokevirtual 188, 3) := by decide +kernel
theorem dX3_quiet_57 : decode cX3_quiet 57 = .ok (.iload_n 1, 1) := by decide +kernel
theorem dX3_quiet_58 : decode cX3_quiet 58 = .ok (.if_icmp .ne 5, 3) := by decide +kernel
theorem dX3_quiet_61 : decode cX3_quiet 61 = .ok (.iload_n 2, 1) := by decide +kernel
theorem dX3_quiet_62 : decode cX3_quiet 62 = .ok (.ireturn, 1) := by decide +kernel
theorem dX3_quiet_63 : decode cX3_quiet 63 = .ok (.iinc 2 1, 3) := by decide +kernel
theorem dX3_quiet_66 : decode cX3_quiet 66 = .ok (.goto (-53), 3) := by decide +kernel
theorem dX3_quiet_69 : decode cX3_quiet 69 = .ok (.iconst (-1), 1) := by decide +kernel
theorem dX3_quiet_70 : decode cX3_quiet 70 = .ok (.ireturn, 1) := by decide +kernel
set_option maxRecDepth 20000 in
theorem ggX3_advise_X3_requireSailor : GoodIn wsX3_advise wsX3_requireSailor := goodIn_ca (goodIn_r _ [10, 11, 12, 2, 3, 13, 188, 189, 190, 191, 192, 193, 194, 195, 196, 197, 198, 199, 200, 201, 202, 203, 204, 205, 206, 207] (by decide +kernel) (by decide +kernel)) (goodIn_sub (fun _ h => List.mem_cons_of_mem _ (List.mem_append_left _ (List.mem_append_right _ h))) (by decide +kernel))
set_option maxRecDepth 20000 in
theorem gX3_advise_X3_requireSailor : GoodIn wsX3_advise (wsV RX3 55 RX3 yX3_requireSailor wsX3_requireSailor) := goodIn_app (goodIn_of _ (by decide +kernel)) ggX3_advise_X3_requireSailor
set_option maxRecDepth 20000 in
theorem ggX3_advise_X3_requireUp : GoodIn wsX3_advise wsX3_requireUp := goodIn_ca (goodIn_r _ [17, 18, 19, 2, 3, 20, 21, 22, 23, 24, 25, 188, 189, 190, 191, 192, 193, 194, 195, 196, 197, 198, 199, 200, 201, 202, 203, 204, 205, 206, 207] (by decide +kernel) (by decide +kernel)) (goodIn_sub (fun _ h => List.mem_cons_of_mem _ (List.mem_append_right _ h)) (by decide +kernel))
set_option maxRecDepth 20000 in
theorem gX3_advise_X3_requireUp : GoodIn wsX3_advise (wsV RX3 116 RX3 yX3_requireUp wsX3_requireUp) := goodIn_app (goodIn_of _ (by decide +kernel)) ggX3_advise_X3_requireUp
set_option maxRecDepth 20000 in
theorem ggX3_advise_X1_copyFrom : GoodIn wsX3_advise wsX1_copyFrom := goodIn_r _ [30, 31, 32, 33, 34, 35, 36, 37, 38, 39, 40, 41, 42, 43, 44, 45, 46, 47, 9, 48, 49, 50, 51, 23, 52, 53, 54, 55, 56, 57, 58, 59, 25, 60, 61, 62, 63, 64, 190, 191, 192, 193, 194, 208, 209, 210, 211, 212, 213, 195, 196, 197, 198, 199, 200, 201, 202, 203, 204, 205, 206, 207] (by decide +kernel) (by decide +kernel)
set_option maxRecDepth 20000 in
theorem gX3_advise_X1_copyFrom : GoodIn wsX3_advise (wsV RX3 193 RX1 yX1_copyFrom wsX1_copyFrom) := goodIn_app (goodIn_of _ (by decide +kernel)) ggX3_advise_X1_copyFrom
set_option maxRecDepth 20000 in
theorem ggX3_advise_X1_goOn : GoodIn wsX3_advise wsX1_goOn := goodIn_r _ [68, 35, 69, 70, 34, 31, 71, 72, 73, 29, 74, 32, 75, 76, 21, 22, 23, 24, 25, 77, 78, 79, 80, 81, 82, 83, 84, 85, 86, 87, 88, 89, 90, 91, 92, 93, 94, 95, 96, 97, 98, 99, 39, 100, 41, 101, 102, 103, 104, 62, 63, 105, 106, 107, 108, 109, 110, 111, 112, 56, 113, 114, 115, 116, 117, 118, 119, 120, 58, 121, 122, 123, 124, 57, 125, 126, 127, 128, 129, 130, 131, 132, 33, 133, 134, 135, 136, 137, 138, 139, 140, 141, 142, 143, 144, 145, 146, 147, 46, 148, 149, 150, 151, 152, 42, 153, 154, 155, 156, 157, 158, 159, 160, 161, 162, 163, 164, 165, 166, 167, 168, 169, 170, 171, 172, 173, 64, 174, 175, 176, 177, 178, 179, 180, 181, 43, 182, 183, 184, 185, 186, 187, 190, 191, 192, 193, 194, 195, 196, 197, 198, 199, 200, 201, 202, 203, 204, 205, 206, 207, 208, 209, 210, 211, 212, 213] (by decide +kernel) (by decide +kernel)
set_option maxRecDepth 20000 in
theorem gX3_advise_X1_goOn : GoodIn wsX3_advise (wsV RX3 129 RX1 yX1_goOn wsX1_goOn) := goodIn_app (goodIn_of _ (by decide +kernel)) ggX3_advise_X1_goOn
theorem dX3_advise_0 : decode cX3_advise 0 = .ok (.aload_n 0, 1) := by decide +kernel
theorem dX3_advise_1 : decode cX3_advise 1 = .ok (.iload_n 1, 1) := by decide +kernel
theorem dX3_advise_2 : decode cX3_advise 2 = .ok (.invokevirtual 55, 3) := by decide +kernel
theorem dX3_advise_5 : decode cX3_advise 5 = .ok (.aload_n 0, 1) := by decide +kernel
theorem dX3_advise_6 : decode cX3_advise 6 = .ok (.iload_n 1, 1) := by decide +kernel
theorem dX3_advise_7 : decode cX3_advise 7 = .ok (.invokevirtual 116, 3) := by decide +kernel
theorem dX3_advise_10 : decode cX3_advise 10 = .ok (.iconst 0, 1) := by decide +kernel
theorem dX3_advise_11 : decode cX3_advise 11 = .ok (.istore_n 2, 1) := by decide +kernel
theorem dX3_advise_12 : decode cX3_advise 12 = .ok (.iconst (-1), 1) := by decide +kernel
theorem dX3_advise_13 : decode cX3_advise 13 = .ok (.istore_n 3, 1) := by decide +kernel
theorem dX3_advise_14 : decode cX3_advise 14 = .ok (.iconst 0, 1) := by decide +kernel
theorem dX3_advise_15 : decode cX3_advise 15 = .ok (.istore 4, 2) := by decide +kernel
theorem dX3_advise_17 : decode cX3_advise 17 = .ok (.iload 4, 2) := by decide +kernel
theorem dX3_advise_19 : decode cX3_advise 19 = .ok (.iconst 3, 1) := by decide +kernel
theorem dX3_advise_20 : decode cX3_advise 20 = .ok (.if_icmp .ge 69, 3) := by decide +kernel
theorem dX3_advise_23 : decode cX3_advise 23 = .ok (.aload_n 0, 1) := by decide +kernel
theorem dX3_advise_24 : decode cX3_advise 24 = .ok (.getfield 16, 3) := by decide +kernel
theorem dX3_advise_27 : decode cX3_advise 27 = .ok (.aload_n 0, 1) := by decide +kernel
theorem dX3_advise_28 : decode cX3_advise 28 = .ok (.getfield 10, 3) := by decide +kernel
theorem dX3_advise_31 : decode cX3_advise 31 = .ok (.invokevirtual 193, 3) := by decide +kernel
theorem dX3_advise_34 : decode cX3_advise 34 = .ok (.aload_n 0, 1) := by decide +kernel
theorem dX3_advise_35 : decode cX3_advise 35 = .ok (.getfield 16, 3) := by decide +kernel
theorem dX3_advise_38 : decode cX3_advise 38 = .ok (.getfield 48, 3) := by decide +kernel
theorem dX3_advise_41 : decode cX3_advise 41 = .ok (.getfield 119, 3) := by decide +kernel
theorem dX3_advise_44 : decode cX3_advise 44 = .ok (.iload_n 1, 1) := by decide +kernel
theorem dX3_advise_45 : decode cX3_advise 45 = .ok (.iload 4, 2) := by decide +kernel
theorem dX3_advise_47 : decode cX3_advise 47 = .ok (.iastore, 1) := by decide +kernel
theorem dX3_advise_48 : decode cX3_advise 48 = .ok (.aload_n 0, 1) := by decide +kernel
theorem dX3_advise_49 : decode cX3_advise 49 = .ok (.getfield 16, 3) := by decide +kernel
theorem dX3_advise_52 : decode cX3_advise 52 = .ok (.bipush 48, 2) := by decide +kernel
theorem dX3_advise_54 : decode cX3_advise 54 = .ok (.invokevirtual 129, 3) := by decide +kernel
theorem dX3_advise_57 : decode cX3_advise 57 = .ok (.aload_n 0, 1) := by decide +kernel
theorem dX3_advise_58 : decode cX3_advise 58 = .ok (.getfield 16, 3) := by decide +kernel
theorem dX3_advise_61 : decode cX3_advise 61 = .ok (.getfield 48, 3) := by decide +kernel
theorem dX3_advise_64 : decode cX3_advise 64 = .ok (.getfield 144, 3) := by decide +kernel
theorem dX3_advise_67 : decode cX3_advise 67 = .ok (.iload_n 1, 1) := by decide +kernel
theorem dX3_advise_68 : decode cX3_advise 68 = .ok (.iaload, 1) := by decide +kernel
theorem dX3_advise_69 : decode cX3_advise 69 = .ok (.istore 5, 2) := by decide +kernel
theorem dX3_advise_71 : decode cX3_advise 71 = .ok (.iload 5, 2) := by decide +kernel
theorem dX3_advise_73 : decode cX3_advise 73 = .ok (.iload_n 3, 1) := by decide +kernel
theorem dX3_advise_74 : decode cX3_advise 74 = .ok (.if_icmp .le 9, 3) := by decide +kernel
theorem dX3_advise_77 : decode cX3_advise 77 = .ok (.iload 4, 2) := by decide +kernel
theorem dX3_advise_79 : decode cX3_advise 79 = .ok (.istore_n 2, 1) := by decide +kernel
theorem dX3_advise_80 : decode cX3_advise 80 = .ok (.iload 5, 2) := by decide +kernel
theorem dX3_advise_82 : decode cX3_advise 82 = .ok (.istore_n 3, 1) := by decide +kernel
theorem dX3_advise_83 : decode cX3_advise 83 = .ok (.iinc 4 1, 3) := by decide +kernel
theorem dX3_advise_86 : decode cX3_advise 86 = .ok (.goto (-69), 3) := by decide +kernel
theorem dX3_advise_89 : decode cX3_advise 89 = .ok (.iload_n 2, 1) := by decide +kernel
theorem dX3_advise_90 : decode cX3_advise 90 = .ok (.ireturn, 1) := by decide +kernel
set_option maxRecDepth 20000 in
theorem ggX3_mean_X2_allRest : GoodIn wsX3_mean wsX2_allRest := goodIn_r _ [8, 9, 10, 11, 12, 7, 13, 14, 22, 23, 24, 25, 26, 27, 28, 29, 30, 31, 32, 33, 34] (by decide +kernel) (by decide +kernel)
set_option maxRecDepth 20000 in
theorem gX3_mean_X2_allRest : GoodIn wsX3_mean (wsV RX3 197 RX2 yX2_allRest wsX2_allRest) := goodIn_app (goodIn_of _ (by decide +kernel)) ggX3_mean_X2_allRest
theorem dX3_mean_0 : decode cX3_mean 0 = .ok (.aload_n 0, 1) := by decide +kernel
theorem dX3_mean_1 : decode cX3_mean 1 = .ok (.getfield 10, 3) := by decide +kernel
theorem dX3_mean_4 : decode cX3_mean 4 = .ok (.getfield 48, 3) := by decide +kernel
theorem dX3_mean_7 : decode cX3_mean 7 = .ok (.astore_n 1, 1) := by decide +kernel
theorem dX3_mean_8 : decode cX3_mean 8 = .ok (.aload_n 1, 1) := by decide +kernel
theorem dX3_mean_9 : decode cX3_mean 9 = .ok (.getfield 181, 3) := by decide +kernel
theorem dX3_mean_12 : decode cX3_mean 12 = .ok (.ifCond .gt 5, 3) := by decide +kernel
theorem dX3_mean_15 : decode cX3_mean 15 = .ok (.dconst 0, 1) := by decide +kernel
theorem dX3_mean_16 : decode cX3_mean 16 = .ok (.dreturn, 1) := by decide +kernel
theorem dX3_mean_17 : decode cX3_mean 17 = .ok (.aload_n 1, 1) := by decide +kernel
theorem dX3_mean_18 : decode cX3_mean 18 = .ok (.invokevirtual 197, 3) := by decide +kernel
theorem dX3_mean_21 : decode cX3_mean 21 = .ok (.i2d, 1) := by decide +kernel
theorem dX3_mean_22 : decode cX3_mean 22 = .ok (.aload_n 1, 1) := by decide +kernel
theorem dX3_mean_23 : decode cX3_mean 23 = .ok (.getfield 181, 3) := by decide +kernel
theorem dX3_mean_26 : decode cX3_mean 26 = .ok (.i2d, 1) := by decide +kernel
theorem dX3_mean_27 : decode cX3_mean 27 = .ok (.ddiv, 1) := by decide +kernel
theorem dX3_mean_28 : decode cX3_mean 28 = .ok (.dreturn, 1) := by decide +kernel
set_option maxRecDepth 20000 in
theorem ggX3_digest_X3_count : GoodIn wsX3_digest wsX3_count := goodIn_ca (goodIn_r _ [12, 13, 14, 3, 15, 4, 5, 6, 7, 16, 17, 18, 19, 20, 21, 22, 23, 24, 25, 26, 27, 28, 29, 30, 31, 32, 33, 34, 35, 36, 37, 38, 39, 40, 41, 42, 43, 44, 83, 84, 85, 86, 87, 88, 89, 90, 91, 92, 93, 94, 95, 96, 97, 98, 99, 100, 101, 102, 103, 104, 105, 106, 107, 108] (by decide +kernel) (by decide +kernel)) (goodIn_sub (fun _ h => List.mem_cons_of_mem _ (List.mem_append_right _ h)) (by decide +kernel))
set_option maxRecDepth 20000 in
theorem gX3_digest_X3_count : GoodIn wsX3_digest (wsV RX3 204 RX3 yX3_count wsX3_count) := goodIn_app (goodIn_of _ (by decide +kernel)) ggX3_digest_X3_count
set_option maxRecDepth 20000 in
theorem ggX3_digest_X3_about : GoodIn wsX3_digest wsX3_about := goodIn_ca (goodIn_r _ [48, 13, 14, 3, 4, 49, 50, 51, 52, 53, 54, 55, 56, 11, 57, 58, 59, 60, 61, 62, 63, 83, 84, 85, 86, 87, 88, 89, 90, 91, 92, 93, 94, 95] (by decide +kernel) (by decide +kernel)) (goodIn_sub (fun _ h => List.mem_cons_of_mem _ (List.mem_append_right _ h)) (by decide +kernel))
set_option maxRecDepth 20000 in
theorem gX3_digest_X3_about : GoodIn wsX3_digest (wsV RX3 207 RX3 yX3_about wsX3_about) := goodIn_app (goodIn_of _ (by decide +kernel)) ggX3_digest_X3_about
set_option maxRecDepth 20000 in
theorem ggX3_digest_X3_told : GoodIn wsX3_digest wsX3_told := goodIn_ca (goodIn_r _ [67, 13, 14, 3, 6, 68, 69, 70, 71, 72, 73, 74, 75, 76, 77, 78, 79, 80, 81, 11, 82, 7, 83, 84, 85, 86, 87, 88, 89, 96, 97, 98, 99, 100, 101, 102, 103, 104, 105, 106, 107, 108] (by decide +kernel) (by decide +kernel)) (goodIn_sub (fun _ h => List.mem_cons_of_mem _ (List.mem_append_right _ h)) (by decide +kernel))
set_option maxRecDepth 20000 in
theorem gX3_digest_X3_told : GoodIn wsX3_digest (wsV RX3 211 RX3 yX3_told wsX3_told) := goodIn_app (goodIn_of _ (by decide +kernel)) ggX3_digest_X3_told
theorem dX3_digest_0 : decode cX3_digest 0 = .ok (.ldc2_w 200, 3) := by decide +kernel
theorem dX3_digest_3 : decode cX3_digest 3 = .ok (.lstore_n 1, 1) := by decide +kernel
theorem dX3_digest_4 : decode cX3_digest 4 = .ok (.iconst 0, 1) := by decide +kernel
theorem dX3_digest_5 : decode cX3_digest 5 = .ok (.istore_n 3, 1) := by decide +kernel
theorem dX3_digest_6 : decode cX3_digest 6 = .ok (.iload_n 3, 1) := by decide +kernel
theorem dX3_digest_7 : decode cX3_digest 7 = .ok (.bipush 10, 2) := by decide +kernel
theorem dX3_digest_9 : decode cX3_digest 9 = .ok (.if_icmp .ge 22, 3) := by decide +kernel
theorem dX3_digest_12 : decode cX3_digest 12 = .ok (.lload_n 1, 1) := by decide +kernel
theorem dX3_digest_13 : decode cX3_digest 13 = .ok (.ldc2_w 202, 3) := by decide +kernel
theorem dX3_digest_16 : decode cX3_digest 16 = .ok (.lmul, 1) := by decide +kernel
theorem dX3_digest_17 : decode cX3_digest 17 = .ok (.aload_n 0, 1) := by decide +kernel
theorem dX3_digest_18 : decode cX3_digest 18 = .ok (.iload_n 3, 1) := by decide +kernel
theorem dX3_digest_19 : decode cX3_digest 19 = .ok (.invokevirtual 204, 3) := by decide +kernel
theorem dX3_digest_22 : decode cX3_digest 22 = .ok (.i2l, 1) := by decide +kernel
theorem dX3_digest_23 : decode cX3_digest 23 = .ok (.ladd, 1) := by decide +kernel
theorem dX3_digest_24 : decode cX3_digest 24 = .ok (.lstore_n 1, 1) := by decide +kernel
theorem dX3_digest_25 : decode cX3_digest 25 = .ok (.iinc 3 1, 3) := by decide +kernel
theorem dX3_digest_28 : decode cX3_digest 28 = .ok (.goto (-22), 3) := by decide +kernel
theorem dX3_digest_31 : decode cX3_digest 31 = .ok (.iconst 0, 1) := by decide +kernel
theorem dX3_digest_32 : decode cX3_digest 32 = .ok (.istore_n 3, 1) := by decide +kernel
theorem dX3_digest_33 : decode cX3_digest 33 = .ok (.iload_n 3, 1) := by decide +kernel
theorem dX3_digest_34 : decode cX3_digest 34 = .ok (.aload_n 0, 1) := by decide +kernel
theorem dX3_digest_35 : decode cX3_digest 35 = .ok (.getfield 10, 3) := by decide +kernel
theorem dX3_digest_38 : decode cX3_digest 38 = .ok (.getfield 26, 3) := by decide +kernel
theorem dX3_digest_41 : decode cX3_digest 41 = .ok (.getfield 178, 3) := by decide +kernel
theorem dX3_digest_44 : decode cX3_digest 44 = .ok (.if_icmp .ge 39, 3) := by decide +kernel
theorem dX3_digest_47 : decode cX3_digest 47 = .ok (.iconst 0, 1) := by decide +kernel
theorem dX3_digest_48 : decode cX3_digest 48 = .ok (.istore 4, 2) := by decide +kernel
theorem dX3_digest_50 : decode cX3_digest 50 = .ok (.iload 4, 2) := by decide +kernel
theorem dX3_digest_52 : decode cX3_digest 52 = .ok (.iconst 5, 1) := by decide +kernel
theorem dX3_digest_53 : decode cX3_digest 53 = .ok (.if_icmp .ge 24, 3) := by decide +kernel
theorem dX3_digest_56 : decode cX3_digest 56 = .ok (.lload_n 1, 1) := by decide +kernel
theorem dX3_digest_57 : decode cX3_digest 57 = .ok (.ldc2_w 202, 3) := by decide +kernel
theorem dX3_digest_60 : decode cX3_digest 60 = .ok (.lmul, 1) := by decide +kernel
theorem dX3_digest_61 : decode cX3_digest 61 = .ok (.aload_n 0, 1) := by decide +kernel
theorem dX3_digest_62 : decode cX3_digest 62 = .ok (.iload_n 3, 1) := by decide +kernel
theorem dX3_digest_63 : decode cX3_digest 63 = .ok (.iload 4, 2) := by decide +kernel
theorem dX3_digest_65 : decode cX3_digest 65 = .ok (.invokevirtual 207, 3) := by decide +kernel
theorem dX3_digest_68 : decode cX3_digest 68 = .ok (.i2l, 1) := by decide +kernel
theorem dX3_digest_69 : decode cX3_digest 69 = .ok (.ladd, 1) := by decide +kernel
theorem dX3_digest_70 : decode cX3_digest 70 = .ok (.lstore_n 1, 1) := by decide +kernel
theorem dX3_digest_71 : decode cX3_digest 71 = .ok (.iinc 4 1, 3) := by decide +kernel
theorem dX3_digest_74 : decode cX3_digest 74 = .ok (.goto (-24), 3) := by decide +kernel
theorem dX3_digest_77 : decode cX3_digest 77 = .ok (.iinc 3 1, 3) := by decide +kernel
theorem dX3_digest_80 : decode cX3_digest 80 = .ok (.goto (-47), 3) := by decide +kernel
theorem dX3_digest_83 : decode cX3_digest 83 = .ok (.iconst 0, 1) := by decide +kernel
theorem dX3_digest_84 : decode cX3_digest 84 = .ok (.istore_n 3, 1) := by decide +kernel
theorem dX3_digest_85 : decode cX3_digest 85 = .ok (.iload_n 3, 1) := by decide +kernel
theorem dX3_digest_86 : decode cX3_digest 86 = .ok (.aload_n 0, 1) := by decide +kernel
theorem dX3_digest_87 : decode cX3_digest 87 = .ok (.getfield 10, 3) := by decide +kernel
theorem dX3_digest_90 : decode cX3_digest 90 = .ok (.getfield 48, 3) := by decide +kernel
theorem dX3_digest_93 : decode cX3_digest 93 = .ok (.getfield 181, 3) := by decide +kernel
theorem dX3_digest_96 : decode cX3_digest 96 = .ok (.if_icmp .ge 40, 3) := by decide +kernel
theorem dX3_digest_99 : decode cX3_digest 99 = .ok (.iconst 0, 1) := by decide +kernel
theorem dX3_digest_100 : decode cX3_digest 100 = .ok (.istore 4, 2) := by decide +kernel
theorem dX3_digest_102 : decode cX3_digest 102 = .ok (.iload 4, 2) := by decide +kernel
theorem dX3_digest_104 : decode cX3_digest 104 = .ok (.bipush 11, 2) := by decide +kernel
theorem dX3_digest_106 : decode cX3_digest 106 = .ok (.if_icmp .ge 24, 3) := by decide +kernel
theorem dX3_digest_109 : decode cX3_digest 109 = .ok (.lload_n 1, 1) := by decide +kernel
theorem dX3_digest_110 : decode cX3_digest 110 = .ok (.ldc2_w 202, 3) := by decide +kernel
theorem dX3_digest_113 : decode cX3_digest 113 = .ok (.lmul, 1) := by decide +kernel
theorem dX3_digest_114 : decode cX3_digest 114 = .ok (.aload_n 0, 1) := by decide +kernel
theorem dX3_digest_115 : decode cX3_digest 115 = .ok (.iload_n 3, 1) := by decide +kernel
theorem dX3_digest_116 : decode cX3_digest 116 = .ok (.iload 4, 2) := by decide +kernel
theorem dX3_digest_118 : decode cX3_digest 118 = .ok (.invokevirtual 211, 3) := by decide +kernel
theorem dX3_digest_121 : decode cX3_digest 121 = .ok (.i2l, 1) := by decide +kernel
theorem dX3_digest_122 : decode cX3_digest 122 = .ok (.ladd, 1) := by decide +kernel
theorem dX3_digest_123 : decode cX3_digest 123 = .ok (.lstore_n 1, 1) := by decide +kernel
theorem dX3_digest_124 : decode cX3_digest 124 = .ok (.iinc 4 1, 3) := by decide +kernel
theorem dX3_digest_127 : decode cX3_digest 127 = .ok (.goto (-25), 3) := by decide +kernel
theorem dX3_digest_130 : decode cX3_digest 130 = .ok (.iinc 3 1, 3) := by decide +kernel
theorem dX3_digest_133 : decode cX3_digest 133 = .ok (.goto (-48), 3) := by decide +kernel
theorem dX3_digest_136 : decode cX3_digest 136 = .ok (.lload_n 1, 1) := by decide +kernel
theorem dX3_digest_137 : decode cX3_digest 137 = .ok (.lreturn, 1) := by decide +kernel
theorem dX3_requireSailor_0 : decode cX3_requireSailor 0 = .ok (.iload_n 1, 1) := by decide +kernel
theorem dX3_requireSailor_1 : decode cX3_requireSailor 1 = .ok (.ifCond .lt 17, 3) := by decide +kernel
theorem dX3_requireSailor_4 : decode cX3_requireSailor 4 = .ok (.iload_n 1, 1) := by decide +kernel
theorem dX3_requireSailor_5 : decode cX3_requireSailor 5 = .ok (.aload_n 0, 1) := by decide +kernel
theorem dX3_requireSailor_6 : decode cX3_requireSailor 6 = .ok (.getfield 10, 3) := by decide +kernel
theorem dX3_requireSailor_9 : decode cX3_requireSailor 9 = .ok (.getfield 48, 3) := by decide +kernel
theorem dX3_requireSailor_12 : decode cX3_requireSailor 12 = .ok (.getfield 181, 3) := by decide +kernel
theorem dX3_requireSailor_15 : decode cX3_requireSailor 15 = .ok (.if_icmp .lt 13, 3) := by decide +kernel
theorem dX3_requireSailor_18 : decode cX3_requireSailor 18 = .ok (.new 153, 3) := by decide +kernel
theorem dX3_requireSailor_21 : decode cX3_requireSailor 21 = .ok (.dup, 1) := by decide +kernel
theorem dX3_requireSailor_22 : decode cX3_requireSailor 22 = .ok (.ldc 214, 2) := by decide +kernel
theorem dX3_requireSailor_24 : decode cX3_requireSailor 24 = .ok (.invokespecial 157, 3) := by decide +kernel
theorem dX3_requireSailor_27 : decode cX3_requireSailor 27 = .ok (.athrow, 1) := by decide +kernel
theorem dX3_requireSailor_28 : decode cX3_requireSailor 28 = .ok (.return_, 1) := by decide +kernel
set_option maxRecDepth 20000 in
theorem ggX3_requireBed_X0_has : GoodIn wsX3_requireBed wsX0_has := goodIn_r _ [9, 10, 18, 19, 20, 21, 22, 23] (by decide +kernel) (by decide +kernel)
set_option maxRecDepth 20000 in
theorem gX3_requireBed_X0_has : GoodIn wsX3_requireBed (wsV RX3 216 RX0 yX0_has wsX0_has) := goodIn_app (goodIn_of _ (by decide +kernel)) ggX3_requireBed_X0_has
theorem dX3_requireBed_0 : decode cX3_requireBed 0 = .ok (.aload_n 0, 1) := by decide +kernel
theorem dX3_requireBed_1 : decode cX3_requireBed 1 = .ok (.getfield 10, 3) := by decide +kernel
theorem dX3_requireBed_4 : decode cX3_requireBed 4 = .ok (.getfield 26, 3) := by decide +kernel
theorem dX3_requireBed_7 : decode cX3_requireBed 7 = .ok (.iload_n 1, 1) := by decide +kernel
theorem dX3_requireBed_8 : decode cX3_requireBed 8 = .ok (.invokevirtual 216, 3) := by decide +kernel
theorem dX3_requireBed_11 : decode cX3_requireBed 11 = .ok (.ifCond .ne 13, 3) := by decide +kernel
theorem dX3_requireBed_14 : decode cX3_requireBed 14 = .ok (.new 153, 3) := by decide +kernel
theorem dX3_requireBed_17 : decode cX3_requireBed 17 = .ok (.dup, 1) := by decide +kernel
theorem dX3_requireBed_18 : decode cX3_requireBed 18 = .ok (.ldc 219, 2) := by decide +kernel
theorem dX3_requireBed_20 : decode cX3_requireBed 20 = .ok (.invokespecial 157, 3) := by decide +kernel
theorem dX3_requireBed_23 : decode cX3_requireBed 23 = .ok (.athrow, 1) := by decide +kernel
theorem dX3_requireBed_24 : decode cX3_requireBed 24 = .ok (.return_, 1) := by decide +kernel
theorem dX3_requireWatch_0 : decode cX3_requireWatch 0 = .ok (.iload_n 0, 1) := by decide +kernel
theorem dX3_requireWatch_1 : decode cX3_requireWatch 1 = .ok (.ifCond .lt 8, 3) := by decide +kernel
theorem dX3_requireWatch_4 : decode cX3_requireWatch 4 = .ok (.iload_n 0, 1) := by decide +kernel
theorem dX3_requireWatch_5 : decode cX3_requireWatch 5 = .ok (.iconst 3, 1) := by decide +kernel
theorem dX3_requireWatch_6 : decode cX3_requireWatch 6 = .ok (.if_icmp .lt 13, 3) := by decide +kernel
theorem dX3_requireWatch_9 : decode cX3_requireWatch 9 = .ok (.new 153, 3) := by decide +kernel
theorem dX3_requireWatch_12 : decode cX3_requireWatch 12 = .ok (.dup, 1) := by decide +kernel
theorem dX3_requireWatch_13 : decode cX3_requireWatch 13 = .ok (.ldc 221, 2) := by decide +kernel
theorem dX3_requireWatch_15 : decode cX3_requireWatch 15 = .ok (.invokespecial 157, 3) := by decide +kernel
theorem dX3_requireWatch_18 : decode cX3_requireWatch 18 = .ok (.athrow, 1) := by decide +kernel
theorem dX3_requireWatch_19 : decode cX3_requireWatch 19 = .ok (.return_, 1) := by decide +kernel
set_option maxRecDepth 20000 in
theorem ggX3_requireUp_X2_isUp : GoodIn wsX3_requireUp wsX2_isUp := goodIn_r _ [9, 10, 18, 19, 20, 21, 22, 23, 24, 25, 26, 27, 28, 29, 30] (by decide +kernel) (by decide +kernel)
set_option maxRecDepth 20000 in
theorem gX3_requireUp_X2_isUp : GoodIn wsX3_requireUp (wsV RX3 105 RX2 yX2_isUp wsX2_isUp) := goodIn_app (goodIn_of _ (by decide +kernel)) ggX3_requireUp_X2_isUp
theorem dX3_requireUp_0 : decode cX3_requireUp 0 = .ok (.aload_n 0, 1) := by decide +kernel
theorem dX3_requireUp_1 : decode cX3_requireUp 1 = .ok (.getfield 10, 3) := by decide +kernel
theorem dX3_requireUp_4 : decode cX3_requireUp 4 = .ok (.getfield 48, 3) := by decide +kernel
theorem dX3_requireUp_7 : decode cX3_requireUp 7 = .ok (.iload_n 1, 1) := by decide +kernel
theorem dX3_requireUp_8 : decode cX3_requireUp 8 = .ok (.invokevirtual 105, 3) := by decide +kernel
theorem dX3_requireUp_11 : decode cX3_requireUp 11 = .ok (.ifCond .ne 13, 3) := by decide +kernel
theorem dX3_requireUp_14 : decode cX3_requireUp 14 = .ok (.new 89, 3) := by decide +kernel
theorem dX3_requireUp_17 : decode cX3_requireUp 17 = .ok (.dup, 1) := by decide +kernel
theorem dX3_requireUp_18 : decode cX3_requireUp 18 = .ok (.ldc 223, 2) := by decide +kernel
theorem dX3_requireUp_20 : decode cX3_requireUp 20 = .ok (.invokespecial 93, 3) := by decide +kernel
theorem dX3_requireUp_23 : decode cX3_requireUp 23 = .ok (.athrow, 1) := by decide +kernel
theorem dX3_requireUp_24 : decode cX3_requireUp 24 = .ok (.return_, 1) := by decide +kernel
theorem dX3_requireHours_0 : decode cX3_requireHours 0 = .ok (.iload_n 0, 1) := by decide +kernel
theorem dX3_requireHours_1 : decode cX3_requireHours 1 = .ok (.iconst 1, 1) := by decide +kernel
theorem dX3_requireHours_2 : decode cX3_requireHours 2 = .ok (.if_icmp .lt 9, 3) := by decide +kernel
theorem dX3_requireHours_5 : decode cX3_requireHours 5 = .ok (.iload_n 0, 1) := by decide +kernel
theorem dX3_requireHours_6 : decode cX3_requireHours 6 = .ok (.bipush 72, 2) := by decide +kernel
theorem dX3_requireHours_8 : decode cX3_requireHours 8 = .ok (.if_icmp .le 13, 3) := by decide +kernel
theorem dX3_requireHours_11 : decode cX3_requireHours 11 = .ok (.new 19, 3) := by decide +kernel
theorem dX3_requireHours_14 : decode cX3_requireHours 14 = .ok (.dup, 1) := by decide +kernel
theorem dX3_requireHours_15 : decode cX3_requireHours 15 = .ok (.ldc 225, 2) := by decide +kernel
theorem dX3_requireHours_17 : decode cX3_requireHours 17 = .ok (.invokespecial 23, 3) := by decide +kernel
theorem dX3_requireHours_20 : decode cX3_requireHours 20 = .ok (.athrow, 1) := by decide +kernel
theorem dX3_requireHours_21 : decode cX3_requireHours 21 = .ok (.return_, 1) := by decide +kernel
theorem dX3_copyRow_0 : decode cX3_copyRow 0 = .ok (.iconst 0, 1) := by decide +kernel
theorem dX3_copyRow_1 : decode cX3_copyRow 1 = .ok (.istore_n 2, 1) := by decide +kernel
theorem dX3_copyRow_2 : decode cX3_copyRow 2 = .ok (.iload_n 2, 1) := by decide +kernel
theorem dX3_copyRow_3 : decode cX3_copyRow 3 = .ok (.aload_n 0, 1) := by decide +kernel
theorem dX3_copyRow_4 : decode cX3_copyRow 4 = .ok (.arraylength, 1) := by decide +kernel
theorem dX3_copyRow_5 : decode cX3_copyRow 5 = .ok (.if_icmp .ge 21, 3) := by decide +kernel
theorem dX3_copyRow_8 : decode cX3_copyRow 8 = .ok (.iload_n 2, 1) := by decide +kernel
theorem dX3_copyRow_9 : decode cX3_copyRow 9 = .ok (.aload_n 1, 1) := by decide +kernel
theorem dX3_copyRow_10 : decode cX3_copyRow 10 = .ok (.arraylength, 1) := by decide +kernel
theorem dX3_copyRow_11 : decode cX3_copyRow 11 = .ok (.if_icmp .ge 15, 3) := by decide +kernel
theorem dX3_copyRow_14 : decode cX3_copyRow 14 = .ok (.aload_n 1, 1) := by decide +kernel
theorem dX3_copyRow_15 : decode cX3_copyRow 15 = .ok (.iload_n 2, 1) := by decide +kernel
theorem dX3_copyRow_16 : decode cX3_copyRow 16 = .ok (.aload_n 0, 1) := by decide +kernel
theorem dX3_copyRow_17 : decode cX3_copyRow 17 = .ok (.iload_n 2, 1) := by decide +kernel
theorem dX3_copyRow_18 : decode cX3_copyRow 18 = .ok (.iaload, 1) := by decide +kernel
theorem dX3_copyRow_19 : decode cX3_copyRow 19 = .ok (.iastore, 1) := by decide +kernel
theorem dX3_copyRow_20 : decode cX3_copyRow 20 = .ok (.iinc 2 1, 3) := by decide +kernel
theorem dX3_copyRow_23 : decode cX3_copyRow 23 = .ok (.goto (-21), 3) := by decide +kernel
theorem dX3_copyRow_26 : decode cX3_copyRow 26 = .ok (.return_, 1) := by decide +kernel
end
section
/-! a world that is a part of another's: X ++ (Y ++ Z) -/
theorem fr_k {X Y Z : va_W} {k : Nat} {q : Nat × va_E} (h : Y[k]? = some q) : (X ++ (Y ++ Z))[X.length + k]? = some q := by
  have hl := (List.getElem?_eq_some_iff.mp h).1
  rw [List.getElem?_append_right (by omega), Nat.add_sub_cancel_left, List.getElem?_append_left hl]
  exact h
theorem fr_P {D : va_G} {cl : List vw_C} {X Y Z : va_W} {H : Heap} (h : va_P D cl (X ++ (Y ++ Z)) H) : va_P D cl Y H := fun _ q hk => h _ q (fr_k hk)
theorem fr_D {A : Nat → Prop} {X Y Z : va_W} (h : va_D A (X ++ (Y ++ Z))) : va_D A Y :=
  ⟨fun i j p q hi hj hpq => by have h1 := h.1 _ _ p q (fr_k hi) (fr_k hj) hpq; omega, fun _ q hk => h.2 _ q (fr_k hk)⟩
theorem fr_J {D : va_G} {cl : List vw_C} {X Y Z Y' : va_W} {A0 : Nat → Prop} {H H1 : Heap} (hP : va_P D cl (X ++ (Y ++ Z)) H) (hD : va_D A0 (X ++ (Y ++ Z))) (hkp : ∀ q : Nat, q < H.size → ¬ va_A Y H.size q → H1[q]? = H[q]?) (hF : ∀ q, va_A Y H.size q → A0 q) (hP1 : va_P D cl Y' H1) (hD1 : va_D (va_A Y H.size) Y') : va_P D cl (X ++ (Y' ++ Z)) H1 ∧ va_D A0 (X ++ (Y' ++ Z)) := by
  have kX : ∀ (k : Nat) (q : Nat × va_E), X[k]? = some q → (X ++ (Y ++ Z))[k]? = some q := fun k q hk => by
    rw [List.getElem?_append_left (List.getElem?_eq_some_iff.mp hk).1]; exact hk
  have kZ : ∀ (k : Nat) (q : Nat × va_E), Z[k]? = some q → (X ++ (Y ++ Z))[X.length + (Y.length + k)]? = some q := fun k q hk => by
    rw [List.getElem?_append_right (by omega), Nat.add_sub_cancel_left, List.getElem?_append_right (by omega), Nat.add_sub_cancel_left]; exact hk
  have ap : ∀ (i : Nat) (q : Nat × va_E), (X ++ (Y ++ Z))[i]? = some q → (i < X.length ∨ X.length + Y.length ≤ i) → q.1 < H.size ∧ ¬ va_A Y H.size q.1 := by
    intro i q hi ho
    have hl := (hP i q hi).lt
    refine ⟨hl, fun h => ?_⟩
    rcases h with ⟨k, e, h⟩ | h
    · have hkl := (List.getElem?_eq_some_iff.mp h).1
      have h2 := hD.1 i (X.length + k) q (q.1, e) hi (fr_k h) rfl
      omega
    · omega
  have aX : ∀ (k : Nat) (q : Nat × va_E), X[k]? = some q → q.1 < H.size ∧ ¬ va_A Y H.size q.1 := fun k q hk => ap k q (kX k q hk) (Or.inl (List.getElem?_eq_some_iff.mp hk).1)
  have aZ : ∀ (k : Nat) (q : Nat × va_E), Z[k]? = some q → q.1 < H.size ∧ ¬ va_A Y H.size q.1 := fun k q hk => ap _ q (kZ k q hk) (Or.inr (by omega))
  have dX : va_D A0 X := ⟨fun i j p q hi hj hpq => hD.1 i j p q (kX i p hi) (kX j q hj) hpq, fun k q hk => hD.2 k q (kX k q hk)⟩
  have dZ : va_D A0 Z := ⟨fun i j p q hi hj hpq => by have h2 := hD.1 _ _ p q (kZ i p hi) (kZ j q hj) hpq; omega, fun k q hk => hD.2 _ q (kZ k q hk)⟩
  refine ⟨va_P.app (fun k q hk => (hP k q (kX k q hk)).kept (hkp q.1 (aX k q hk).1 (aX k q hk).2)) (va_P.app hP1 (fun k q hk => (hP _ q (kZ k q hk)).kept (hkp q.1 (aZ k q hk).1 (aZ k q hk).2))), ?_⟩
  refine va_D.app dX (va_D.app (hD1.weaken (fun _ q _ h => hF q.1 h)) dZ ?_) ?_
  · intro i j p q hi hj hpq
    exact (aZ j q hj).2 (by rw [← hpq]; exact hD1.2 i p hi)
  · intro i j p q hi hj hpq
    by_cases hl : j < Y'.length
    · rw [List.getElem?_append_left hl] at hj
      exact (aX i p hi).2 (by rw [hpq]; exact hD1.2 j q hj)
    · rw [List.getElem?_append_right (by omega)] at hj
      have h2 := hD.1 _ _ p q (kX i p hi) (kZ _ q hj) hpq
      have h3 := (List.getElem?_eq_some_iff.mp hi).1
      omega
/-- one cell of a world is new, another is read: all else stays -/
theorem fr_set {D : va_G} {cl : List vw_C} {w : va_W} {A : Nat → Prop} {H H1 : Heap} {i k p q : Nat} {ep eq eq' : va_E} (hi : w[i]? = some (p, ep)) (hk : w[k]? = some (q, eq)) (hP : va_P D cl w H) (hD : va_D A w)
    (hkp : ∀ z : Nat, z < H.size → ¬ va_A [(p, ep), (q, eq)] H.size z → H1[z]? = H[z]?) (hP1 : va_P D cl [(p, ep), (q, eq')] H1) : va_P D cl (w.set k (q, eq')) H1 ∧ va_D A (w.set k (q, eq')) := by
  refine ⟨?_, hD.set hk⟩
  have hl := (List.getElem?_eq_some_iff.mp hk).1
  intro j x hj
  by_cases hjk : j = k
  · subst hjk
    rw [List.getElem?_set_self hl] at hj
    cases hj
    exact hP1 1 _ rfl
  · rw [List.getElem?_set_ne (Ne.symm hjk)] at hj
    by_cases hji : j = i
    · subst hji
      cases hi.symm.trans hj
      exact hP1 0 _ rfl
    · refine (hP j x hj).kept (hkp x.1 (hP j x hj).lt ?_)
      intro h
      rcases h with ⟨n, e, h⟩ | h
      · match n, h with
        | 0, h => cases h; exact hji (hD.1 j i x _ hj hi rfl)
        | 1, h => cases h; exact hjk (hD.1 j k x _ hj hk rfl)
        | n + 2, h => simp at h
      · exact absurd (hP j x hj).lt (Nat.not_lt.mpr h)
/-- a row's cell knows its numbers in its length alone -/
theorem fr_row {D : va_G} {cl : List vw_C} {H : Heap} {q n : Nat} {cA : ClassId} {f g : Nat → Int32} (h : ∀ j, j < n → f j = g j) (hP : va_at D cl (q, .inl (cA, n, .inl f)) H) : va_at D cl (q, .inl (cA, n, .inl g)) H := by
  have e : vp_cell cA (n, .inl f) = vp_cell cA (n, .inl g) := by
    rw [vp_cell_i, vp_cell_i]
    unfold arrV
    congr 2
    funext j
    show Value.int (f j.val) = Value.int (g j.val)
    rw [h j.val j.isLt]
  have h2 : H[q]? = some (vp_cell cA (n, .inl f)) := hP
  show H[q]? = some (vp_cell cA (n, .inl g))
  rw [← e]
  exact h2
/-! LAUNCH: what is given of the start and never changes: links between nest mates, texts, what an exception's making asks -/
def zDec : List String := ["java/lang/RuntimeException", "java/lang/Exception", Bundle.tN]
def zEx : List String := ["java/lang/IndexOutOfBoundsException", "java/lang/IllegalArgumentException", "java/lang/IllegalStateException"]
def zNest : List (String × Nat × MethodName × String) := [(RX3, 9, yX1_init, RX3), (RX0, 36, yX3_copyRow, RX3), (RX1, 21, yX0_init, RX3), (RX1, 28, yX2_init, RX3), (RX2, 59, yX3_copyRow, RX3)]
def zStr : List (String × Nat × String) := [("HotBeds", 21, "the price is not 0 to 9"), ("HotBeds", 40, "how heavily the sailor sleeps is not 0 to 9"), ("HotBeds", 42, "the wage is not 0 to 20"), ("HotBeds", 46, "the purse is not 0 to 99"), ("HotBeds", 65, "the bell is not 0 to 9"), ("HotBeds", 71, "the pawn is not 1 to 20"), ("HotBeds", 76, "the coins are not 1 to 99"), ("HotBeds", 91, "the boots are in pawn"), ("HotBeds", 100, "the boots are not in pawn, or the purse has not so much"), ("HotBeds", 108, "the sailor is up"), ("HotBeds", 155, "what is told of a sailor is not 0 to 10"), ("HotBeds", 173, "what is told about a bed is not 0 to 4"), ("HotBeds", 191, "what is counted is not 0 to 9"), ("HotBeds", 214, "there is no such sailor"), ("HotBeds", 219, "there is no such bed"), ("HotBeds", 221, "the watch is not 0 to 2"), ("HotBeds", 223, "the sailor is not up"), ("HotBeds", 225, "the hours are not 1 to 72"), ("HotBeds$Beds", 31, "there are 6 beds"), ("HotBeds$Sailors", 52, "there are 10 sailors")]
def zNot : List (String × String) := [("java/lang/IllegalArgumentException", "java/lang/IllegalStateException"), ("java/lang/IllegalArgumentException", "java/lang/IndexOutOfBoundsException"), ("java/lang/IllegalStateException", "java/lang/IllegalArgumentException"), ("java/lang/IllegalStateException", "java/lang/IndexOutOfBoundsException"), ("java/lang/IndexOutOfBoundsException", "java/lang/IllegalArgumentException"), ("java/lang/IndexOutOfBoundsException", "java/lang/IllegalStateException")]
def zL (U : State) : Prop := (∀ n ∈ zDec, va_Nw (.declares (Bundle.initS n)) U) ∧ (∀ E ∈ zEx, va_Nw (.castable E E) U) ∧ (∀ q ∈ zNest, va_Nw (.methodLinkNest q.1 q.2.1 q.2.2.1 q.2.2.2) U) ∧ (∀ q ∈ zStr, ∃ a, vk_R q.1 q.2.1 q.2.2 a U) ∧ ∀ q ∈ zNot, va_Nc q.1 q.2 U
theorem zL.warm {s U : State} (hW : s.WarmedH U.vm) (h : zL s) : zL U :=
  ⟨fun n hn => va_Nw.warmD hW (h.1 n hn), fun E hE => va_Nw.warmC hW (h.2.1 E hE), fun q hq => va_Nw.warmM hW (h.2.2.1 q hq), fun q hq => by
    obtain ⟨a, ha⟩ := h.2.2.2.1 q hq
    exact ⟨a, vk_R.warm hW ha⟩, fun q hq => va_Nc.moved hW.alike (h.2.2.2.2 q hq)⟩
def zZ (A : Nat → Prop) (U : State) (H : Heap) : Prop := vx_Zq Bundle.tN "UNASSIGNED_STACK" Bundle.steD A U H ∧ vx_Zq Bundle.tN "SUPPRESSED_SENTINEL" Bundle.listD A U H
def zPL (D : va_G) (tys : List (ClassId × FieldType)) (w : va_W) (sz : Nat) (U : State) : Prop := zPW D tys w sz U ∧ zL U
def zPX (D : va_G) (tys : List (ClassId × FieldType)) (w : va_W) (sz : Nat) (U : State) : Prop := zPW D tys w sz U ∧ zL U ∧ zZ (fun _ => False) U U.heap
theorem zblL {D : va_G} {tys : List (ClassId × FieldType)} {w : va_W} {sz : Nat} (av : List Value) : FrameBlind (va_Pc av (zPL D tys w sz)) := fun a U g mk q =>
  ⟨q.1, (zbl av a U g mk ⟨q.1, q.2.1⟩).2, q.2.2.warm (State.WarmedH.refl U)⟩
theorem zblX {D : va_G} {tys : List (ClassId × FieldType)} {w : va_W} {sz : Nat} (av : List Value) : FrameBlind (va_Pc av (zPX D tys w sz)) := fun a U g mk q =>
  ⟨q.1, (zbl av a U g mk ⟨q.1, q.2.1⟩).2, q.2.2.1.warm (State.WarmedH.refl U), vx_Zq.moved (Vm.Alike.refl U.vm) q.2.2.2.1, vx_Zq.moved (Vm.Alike.refl U.vm) q.2.2.2.2⟩
theorem zprL {D : va_G} {tys : List (ClassId × FieldType)} {w : va_W} {H : Heap} {s : State} {A : Nat → Prop} {av : List Value} (hK : va_K D vwCl tys s) (hP : va_P D vwCl w H) (hD : va_D A w) (hL : zL s) : ∀ U : State, U.heap = H → s.WarmedH U.vm → va_Pc av (zPL D tys w H.size) av.toArray U := fun U hU hW =>
  ⟨rfl, (zpr (av := av) hK hP hD U hU hW).2, hL.warm hW⟩
theorem zprX {D : va_G} {tys : List (ClassId × FieldType)} {w : va_W} {H H0 : Heap} {s : State} {A A0 : Nat → Prop} {av : List Value} {locs : List Loc} (hK : va_K D vwCl tys s) (hP : va_P D vwCl w H) (hD : va_D A w) (hL : zL s) (hZ : zZ A0 s s.heap) (hS : va_S A0 s.heap H locs) : ∀ U : State, U.heap = H → s.WarmedH U.vm → va_Pc av (zPX D tys w H.size) av.toArray U := fun U hU hW =>
  ⟨rfl, (zpr (av := av) hK hP hD U hU hW).2, hL.warm hW, by rw [hU]; exact vx_Zq.moved hW.alike ((hZ.1.kept hS.2.1).narrow (fun _ h => h.elim)), by rw [hU]; exact vx_Zq.moved hW.alike ((hZ.2.kept hS.2.1).narrow (fun _ h => h.elim))⟩
/-- as zMV, zMI, over the launch's facts -/
abbrev zNV (l : Launch) (y : MethodName) (ws : List Cond) (rm : Room) (av : List Value) (D : va_G) (tys : List (ClassId × FieldType)) (w w1 : va_W) : Prop :=
  ∀ sz : Nat, Met l y ws rm (va_Pc av (zPL D tys w sz)) (va_Qv (fun (_ : Unit) => True) (fun _ t => zQW D tys w1 (va_A w sz) t) (va_A w sz)) 0 0 (va_A w sz)
/-- a method that only reads and answers nothing -/
abbrev zMQ (l : Launch) (y : MethodName) (ws : List Cond) (rm : Room) (av : List Value) (D : va_G) (tys : List (ClassId × FieldType)) (w : va_W) : Prop :=
  ∀ sz : Nat, Met l y ws rm (va_Pc av (zPW D tys w sz)) (va_Qv (fun (_ : Unit) => True) (fun _ _ => True) (fun _ => False)) 0 0 (fun _ => False)
/-- a method that throws, before it has written anything -/
abbrev zTV (l : Launch) (y : MethodName) (ws : List Cond) (rm : Room) (av : List Value) (D : va_G) (tys : List (ClassId × FieldType)) (w : va_W) (E : String) : Prop :=
  ∀ sz : Nat, vx_Met l y ws rm (va_Pc av (zPX D tys w sz)) (va_Qv (fun (_ : Unit) => False) (fun _ _ => True) (fun _ => False)) (vx_X (fun (_ : Unit) => True) (fun X _ _ => X = E) (fun _ => False)) 1 6 (fun _ => False)
abbrev zTI (l : Launch) (y : MethodName) (ws : List Cond) (rm : Room) (av : List Value) (D : va_G) (tys : List (ClassId × FieldType)) (w : va_W) (E : String) : Prop :=
  ∀ sz : Nat, vx_Met l y ws rm (va_Pc av (zPX D tys w sz)) (va_Qi (fun (_ : Int32) (_ : Unit) => False) (fun _ _ => True) (fun _ => False)) (vx_X (fun (_ : Unit) => True) (fun X _ _ => X = E) (fun _ => False)) 1 6 (fun _ => False)
section ZX
variable {p : Program} {l : Launch} {e : Env} {R : Room} {s : State} {m : MethodId} {args : Array Value} {below : List Frame} {meth : Method} {c : Code} {H : Heap} {locs : List Loc} {cells slots : Nat} {Q : State → Prop}
variable {pc : Nat} {ls : Array Slot} {rest st0 : List Value} {a : Array Value} {A0 : Nat → Prop} {H0 : Heap} {D : va_G} {tys : List (ClassId × FieldType)} {w w1 : va_W}
theorem zk_Q (hr : va_Run p l e R s m args below meth c H locs cells slots 0 0 (F0 m pc ls st0) rest (va_Qv (fun (_ : Unit) => True) (fun _ _ => True) (fun _ => False) a) (fun _ => False)) (hS : va_S A0 H0 H locs)
    (kk : ∀ (H1 : Heap) (locs1 : List Loc), (∀ w : va_W, va_P D vwCl w H → va_P D vwCl w H1) → va_S A0 H0 H1 locs1 → W p l e R s m args below meth c H1 locs1 cells slots Q (F0 m (pc + 3) ls rest)) : W p l e R s m args below meth c H locs cells slots Q (F0 m pc ls st0) := by
  refine va_callv hr hS (fun q _ h => h.elim) (fun q h => h.elim) (fun u t H1 locs1 ht hvm hw hB hz1 hk1 hS1 => ?_)
  exact kk H1 locs1 (fun w hP => hP.kept (fun k q hk => hk1 q.1 (hP k q hk).lt (fun z => z))) hS1
variable {Qc : Array Value → State → Outcome → State → Prop} {E : String}
/-- a callee that throws, and no handler here: nothing was written -/
theorem zk_TV (hr : vx_Run p l e R s m args below meth c H locs 0 0 1 6 (F0 m pc ls st0) rest (va_Qv (fun (_ : Unit) => False) (fun _ _ => True) (fun _ => False) a) (vx_X (fun (_ : Unit) => True) (fun X _ _ => X = E) (fun _ => False)) (fun _ => False)) (hS : va_S (fun _ => False) s.heap H locs) (ht : ∀ x ∈ c.exceptionTable.toList, False) (hlocks : meth.locks = false) :
    W p l e R s m args below meth c H locs 0 0 (vx_MQ below Qc (vx_X (fun (_ : Unit) => True) (fun X _ _ => X = E) (fun _ => False)) args s 1 6 (fun _ => False)) (F0 m pc ls st0) :=
  vx_callv hr hS (fun q _ h => h.elim) (fun q h => h.elim) (fun q _ h => h.elim)
    (fun X ce q9 u t H1 locs1 _ hvm _ hBX _ _ hS1 hce hcv hcl => vx_out (fun x hx => (ht x hx).elim) hlocks hce hcv hcl (fun t ht _ => ⟨(), trivial, hBX, hS1.F ht⟩) hS1.2.2 (Nat.le_refl 1) (Nat.le_refl 6))
    (fun u t H1 locs1 _ _ hw _ _ _ _ => hw.elim)
theorem zk_TI (hr : vx_Run p l e R s m args below meth c H locs 0 0 1 6 (F0 m pc ls st0) rest (va_Qi (fun (_ : Int32) (_ : Unit) => False) (fun _ _ => True) (fun _ => False) a) (vx_X (fun (_ : Unit) => True) (fun X _ _ => X = E) (fun _ => False)) (fun _ => False)) (hS : va_S (fun _ => False) s.heap H locs) (ht : ∀ x ∈ c.exceptionTable.toList, False) (hlocks : meth.locks = false) :
    W p l e R s m args below meth c H locs 0 0 (vx_MQ below Qc (vx_X (fun (_ : Unit) => True) (fun X _ _ => X = E) (fun _ => False)) args s 1 6 (fun _ => False)) (F0 m pc ls st0) :=
  vx_calli hr hS (fun q _ h => h.elim) (fun q h => h.elim) (fun q _ h => h.elim)
    (fun X ce q9 u t H1 locs1 _ hvm _ hBX _ _ hS1 hce hcv hcl => vx_out (fun x hx => (ht x hx).elim) hlocks hce hcv hcl (fun t ht _ => ⟨(), trivial, hBX, hS1.F ht⟩) hS1.2.2 (Nat.le_refl 1) (Nat.le_refl 6))
    (fun r u t H1 locs1 _ _ hw _ _ _ _ => hw.elim)
end ZX
theorem zx_end {s : State} {H : Heap} {locs : List Loc} {E : String} (hS : va_S (fun _ => False) s.heap H locs) : ∀ t : State, s.vm.Alike t.vm → H.size ≤ t.heap.size → (∀ q : Nat, q < H.size → t.heap[q]? = H[q]?) → vx_X (fun (_ : Unit) => True) (fun X _ _ => X = E) (fun _ => False) E s t := fun _ _ hz hq =>
  ⟨(), trivial, rfl, Nat.le_trans hS.1 hz, fun q h1 h2 => (hq q (Nat.lt_of_lt_of_le h1 hS.1)).trans (hS.2.1 q h1 h2)⟩
/-- the words of a throw that are not good ones -/
def zB (E : String) : List Cond := [.castable E E, .declares (Bundle.initS "java/lang/RuntimeException"), .declares (Bundle.initS "java/lang/Exception"), .declares (Bundle.initS Bundle.tN)]
theorem zB_ok {E : String} {s : State} {args : Array Value} (hL : zL s) (hE : E ∈ zEx) : ∀ w ∈ zB E, w.before args s = true :=
  vx_c (va_Nw.use rfl (hL.2.1 E hE)) (vx_c (va_Nw.use rfl (hL.1 _ (by simp [zDec]))) (vx_c (va_Nw.use rfl (hL.1 _ (by simp [zDec]))) (vx_c (va_Nw.use rfl (hL.1 _ (by simp [zDec]))) vx_n)))
end
section
def f_cp (f g : Nat → Int32) (i : Nat) : Nat → Int32 := fun j => if j < i then f j else g j
theorem f_cp_s (f g : Nat → Int32) (i : Nat) : f_cp f g (i + 1) = upd (f_cp f g i) i (f i) := by
  funext j
  unfold f_cp upd
  by_cases h : j = i
  · subst h
    rw [if_pos (Nat.lt_succ_self _), if_pos rfl]
  · rw [if_neg h]
    show (if j < i + 1 then f j else g j) = (if j < i then f j else g j)
    by_cases h2 : j < i
    · rw [if_pos h2, if_pos (by omega)]
    · rw [if_neg h2, if_neg (by omega)]
theorem f_cp_0 (f g : Nat → Int32) : f_cp f g 0 = g := rfl

set_option maxHeartbeats 4000000 in
set_option maxRecDepth 100000 in
theorem c_X3_copyRow (l : Launch) (D : va_G) (cI : ClassId) (u0 v0 n : Nat) (f g : Nat → Int32) (hn : n < 2 ^ 31)  : zMV l yX3_copyRow wsX3_copyRow ({ frames := 0, cells := 0, slots := 0, locals := 0 }) [.ref u0, .ref v0] D [(cI, .int)] ([(u0, .inl (cI, n, .inl f)), (v0, .inl (cI, n, .inl g))]) ([(u0, .inl (cI, n, .inl f)), (v0, .inl (cI, n, .inl f))]) := by
  intro sz
  refine Met.ofW (cc := cX3_copyRow) (maxL := 3) (ret := none) (by decide) rfl ?_
  intro p e s m args below meth c s₁ B hml hv
  obtain ⟨rfl, hsz, hP, hK, hD⟩ := hv
  have hx := B.exec
  have hb := B.bytes
  have hr := B.returns
  have hts := atoms_spec (ws := wsX3_copyRow) B.pre
  have hown : s.vm.findClass RX3 = some m.cls := findClass_of_methodNamed B.named
  have hlocks := B.notSynchronized
  subst hsz
  have hD := hD.self (sz := s.heap.size)
  generalize hAe : va_A ([(u0, .inl (cI, n, .inl f)), (v0, .inl (cI, n, .inl g))]) s.heap.size = A at hD ⊢
  have hA : ∀ q : Nat, s.heap.size ≤ q → A q := fun q h => by rw [← hAe]; exact Or.inr h
  have hS : va_S A s.heap s.heap [] := va_S.rf
  have hP : va_P D vwCl ([(u0, .inl (cI, n, .inl f)), (v0, .inl (cI, n, .inl g))]) s.heap := hP
  have hl := lv_entry ([.ref u0, .ref v0]) (n := 3) (Nat.le_of_ble_eq_true rfl)
  rw [lg_entry_eq]
  generalize (lg_sl ([.ref u0, .ref v0]) ++ List.replicate (3 - (lg_sl ([.ref u0, .ref v0])).length) Slot.unset).toArray = ls at hl ⊢
  have hl : lv_has ls 3 [(0, .ref u0), (1, .ref v0)] := hl
  refine lv_iconst (v := 0) hx hb dX3_copyRow_0 (by decide) ?_
  refine lv_istore_n (lv' := [(2, .int 0), (0, .ref u0), (1, .ref v0)]) hx hb dX3_copyRow_1 rfl hl (by decide) rfl (fun ls hl => ?_)
  refine zk_loop (pc := 2) (fun i H locs ls => va_P D vwCl ([(u0, .inl (cI, n, .inl f)), (v0, .inl (cI, n, .inl (f_cp f g i)))]) H ∧ va_D A ([(u0, .inl (cI, n, .inl f)), (v0, .inl (cI, n, .inl (f_cp f g i)))]) ∧ va_S A s.heap H locs ∧ lv_has ls 3 [(0, .ref u0), (1, .ref v0), (2, .int (nI i))]) n (fun i hki ih H locs ls hI => ?_) (fun H locs ls hI => ?_) _ _ _ ⟨hP, hD, hS, lv_sub hl [1, 2, 0] rfl⟩
  · obtain ⟨hP, hD, hS, hl⟩ := hI
    refine lv_iload_n hx hb dX3_copyRow_2 rfl (lv_at hl 2 rfl) ?_
    refine lv_aload_n hx hb dX3_copyRow_3 rfl (lv_at hl 0 rfl) ?_
    refine va_alen hx hb hK hP 0 0 rfl rfl (v := nI n) rfl dX3_copyRow_4 ?_
    refine lv_icmp_ge (tgt := 26) hx hb dX3_copyRow_5 (by decide) (fun c => absurd c (nI_ge hki hn)) (fun _ => ?_)
    refine lv_iload_n hx hb dX3_copyRow_8 rfl (lv_at hl 2 rfl) ?_
    refine lv_aload_n hx hb dX3_copyRow_9 rfl (lv_at hl 1 rfl) ?_
    refine va_alen hx hb hK hP 1 0 rfl rfl (v := nI n) rfl dX3_copyRow_10 ?_
    refine lv_icmp_ge (tgt := 26) hx hb dX3_copyRow_11 (by decide) (fun c => absurd c (nI_ge hki hn)) (fun _ => ?_)
    refine lv_aload_n hx hb dX3_copyRow_14 rfl (lv_at hl 1 rfl) ?_
    refine lv_iload_n hx hb dX3_copyRow_15 rfl (lv_at hl 2 rfl) ?_
    refine lv_aload_n hx hb dX3_copyRow_16 rfl (lv_at hl 0 rfl) ?_
    refine lv_iload_n hx hb dX3_copyRow_17 rfl (lv_at hl 2 rfl) ?_
    refine zk_ld hx hb hK hP 0 0 rfl rfl (k := i) hki hn (v := f i) rfl dX3_copyRow_18 ?_
    refine zk_st hx hb hK hP hD hS 1 0 rfl rfl (k := i) hki hn rfl dX3_copyRow_19 (fun H locs hP hD hS => ?_)
    have hP : va_P D vwCl ([(u0, .inl (cI, n, .inl f)), (v0, .inl (cI, n, .inl (upd (f_cp f g i) i (f i))))]) H := hP
    have hD : va_D A ([(u0, .inl (cI, n, .inl f)), (v0, .inl (cI, n, .inl (upd (f_cp f g i) i (f i))))]) := hD
    refine lv_iinc (v := nI (i + 1)) (lv' := [(2, .int (nI (i + 1))), (0, .ref u0), (1, .ref v0)]) hx hb dX3_copyRow_20 hl (k := 2) rfl (nI_1 i) (by decide) rfl (fun ls hl => ?_)
    refine lv_goto (tgt := 2) hx hb dX3_copyRow_23 (by decide) ?_
    have e1 := f_cp_s f g i
    exact ih _ _ _ ⟨by rw [e1]; exact hP, by rw [e1]; exact hD, hS, lv_sub hl [1, 2, 0] rfl⟩
  · obtain ⟨hP, hD, hS, hl⟩ := hI
    refine lv_iload_n hx hb dX3_copyRow_2 rfl (lv_at hl 2 rfl) ?_
    refine lv_aload_n hx hb dX3_copyRow_3 rfl (lv_at hl 0 rfl) ?_
    refine va_alen hx hb hK hP 0 0 rfl rfl (v := nI n) rfl dX3_copyRow_4 ?_
    refine lv_icmp_ge (tgt := 26) hx hb dX3_copyRow_5 (by decide) (fun _ => ?_) (fun c => absurd (Int32.le_refl _) c)
    have hP9 : va_P D vwCl [(u0, .inl (cI, n, .inl f)), (v0, .inl (cI, n, .inl f))] H := fun k q hk => by
      match k, hk with
      | 0, hk => exact hP 0 q hk
      | 1, hk => cases hk; exact fr_row (fun j hj => if_pos hj) (hP 1 _ rfl)
      | k + 2, hk => simp at hk
    have hD9 : va_D A [(u0, .inl (cI, n, .inl f)), (v0, .inl (cI, n, .inl f))] := hD.set (p := 1) (a := v0) rfl
    exact W.vret hx hb hr (fun t ht hW => ⟨⟨(), rfl, trivial, by rw [ht]; exact hP9, va_K.moved hW.alike hK, hD9⟩, hS.F ht⟩) hS.2.2 dX3_copyRow_26

/-- a row put in another's place -/
def zr (σ : zS) (r : Nat) (f : Nat → Int32) : zS := fun r' => if r' = r then f else σ r'
def zw_2 (cI : ClassId) (a b : Nat → Nat) (σ τ : zS) : va_W := zw_H cI a σ ++ zw_H cI b τ

def f_cpB (σ τ : zS) : zS := zr (zr (zr (zr (zr (zs τ 0 3 (σ 0 3)) 1 (σ 1)) 2 (σ 2)) 3 (σ 3)) 4 (σ 4)) 5 (σ 5)
def f_cpS (σ τ : zS) : zS := zr (zr (zr (zr (zr (zr (zr (zr (zr (zr (zr (zr (zs τ 0 4 (σ 0 4)) 6 (σ 6)) 7 (σ 7)) 8 (σ 8)) 9 (σ 9)) 10 (σ 10)) 11 (σ 11)) 12 (σ 12)) 13 (σ 13)) 14 (σ 14)) 15 (σ 15)) 16 (σ 16)) 17 (σ 17)

set_option maxHeartbeats 4000000 in
set_option maxRecDepth 100000 in
theorem c_X0_copyFrom (l : Launch) (D : va_G) (cI : ClassId) (a b : Nat → Nat) (σ τ : zS)  : zNV l yX0_copyFrom wsX0_copyFrom ({ frames := 1, cells := 0, slots := 0, locals := 22 }) [.ref (b 1), .ref (a 1)] D [(cI, .int)] (zw_2 cI a b σ (τ)) (zw_2 cI a b σ (f_cpB σ τ)) := by
  intro sz
  refine Met.ofW (cc := cX0_copyFrom) (maxL := 2) (ret := none) (by decide) rfl ?_
  intro p e s m args below meth c s₁ B hml hv
  obtain ⟨rfl, ⟨hsz, hP, hK, hD⟩, hL⟩ := hv
  have hx := B.exec
  have hb := B.bytes
  have hr := B.returns
  have hts := atoms_spec (ws := wsX0_copyFrom) B.pre
  have hown : s.vm.findClass RX0 = some m.cls := findClass_of_methodNamed B.named
  have hlocks := B.notSynchronized
  subst hsz
  have hD := hD.self (sz := s.heap.size)
  generalize hAe : va_A (zw_2 cI a b σ (τ)) s.heap.size = A at hD ⊢
  have hA : ∀ q : Nat, s.heap.size ≤ q → A q := fun q h => by rw [← hAe]; exact Or.inr h
  have hS : va_S A s.heap s.heap [] := va_S.rf
  have hP : va_P D vwCl (zw_2 cI a b σ (τ)) s.heap := hP
  have hl := lv_entry ([.ref (b 1), .ref (a 1)]) (n := 2) (Nat.le_of_ble_eq_true rfl)
  rw [lg_entry_eq]
  generalize (lg_sl ([.ref (b 1), .ref (a 1)]) ++ List.replicate (2 - (lg_sl ([.ref (b 1), .ref (a 1)])).length) Slot.unset).toArray = ls at hl ⊢
  have hl : lv_has ls 2 [(0, .ref (b 1)), (1, .ref (a 1))] := hl
  have hf13 := hts (.fieldLink RX0 13 "HotBeds$Beds" "price" "[I") (by decide +kernel)
  have hf17 := hts (.fieldLink RX0 17 "HotBeds$Beds" "warmth" "[I") (by decide +kernel)
  have hf20 := hts (.fieldLink RX0 20 "HotBeds$Beds" "entries" "[I") (by decide +kernel)
  have hf23 := hts (.fieldLink RX0 23 "HotBeds$Beds" "paid" "[I") (by decide +kernel)
  have hf26 := hts (.fieldLink RX0 26 "HotBeds$Beds" "sleeper" "[I") (by decide +kernel)
  have hf7 := hts (.fieldLink RX0 7 "HotBeds$Beds" "size" "I") (by decide +kernel)
  have hinX0 : ∀ w ∈ u_ws RX0 TX0 6, w ∈ wsX0_copyFrom := by decide +kernel
  refine lv_aload_n hx hb dX0_copyFrom_0 rfl (lv_at hl 0 rfl) ?_
  refine lv_aload_n hx hb dX0_copyFrom_1 rfl (lv_at hl 1 rfl) ?_
  refine va_get (D := D) (ci := 0) (v := .int (σ 0 3)) (C := RX0) (T := TX0) (N := 6) hx hb hts hinX0 hown hK hP 1 rfl rfl 0 (by decide) hf7 (fun _ h9 => h9) rfl dX0_copyFrom_2 ?_
  refine va_put (D := D) (ci := 0) (v := .int (σ 0 3)) (ty := .int) (C := RX0) (T := TX0) (N := 6) hx hb hts hinX0 tyX0 tyX0_ok nmX0 hown hK hP hD hS 21 rfl rfl 0 (by decide) hf7 (fun _ h9 => h9)  rfl (by decide +kernel) rfl rfl (Nat.le_of_ble_eq_true rfl) dX0_copyFrom_5 (fun H locs hP hD hS => ?_)
  have hP : va_P D vwCl (zw_2 cI a b σ (zs (τ) 0 3 (σ 0 3))) H := hP
  have hD : va_D A (zw_2 cI a b σ (zs (τ) 0 3 (σ 0 3))) := hD
  refine lv_aload_n hx hb dX0_copyFrom_8 rfl (lv_at hl 1 rfl) ?_
  refine va_get (D := D) (ci := 0) (v := .ref (a 3)) (C := RX0) (T := TX0) (N := 6) hx hb hts hinX0 hown hK hP 1 rfl rfl 1 (by decide) hf13 (fun _ h9 => h9) rfl dX0_copyFrom_9 ?_
  refine lv_aload_n hx hb dX0_copyFrom_12 rfl (lv_at hl 0 rfl) ?_
  refine va_get (D := D) (ci := 0) (v := .ref (b 3)) (C := RX0) (T := TX0) (N := 6) hx hb hts hinX0 hown hK hP 21 rfl rfl 1 (by decide) hf13 (fun _ h9 => h9) rfl dX0_copyFrom_13 ?_
  have hF := zfree (hD.sub (ws' := [(a 3, .inl (cI, 6, .inl (σ 1))), (b 3, .inl (cI, 6, .inl ((zs (τ) 0 3 (σ 0 3)) 1)))]) [3, 23] (by decide) rfl) hS hA
  refine zk_V (va_runSN (host := RX3) (As := [.ref (a 3), .ref (b 3)]) (rest := []) ⟨hx, hb, hml, hown, hts⟩ (c_X3_copyRow l D cI (a 3) (b 3) 6 (σ 1) ((zs (τ) 0 3 (σ 0 3)) 1) (by decide) _) ⟨va_cnB 2 hts gX0_copyFrom_X3_copyRow_n36 rfl rfl rfl (hL.2.2.1 (RX0, 36, yX3_copyRow, RX3) (by decide +kernel)) (hts (.initialized RX3) (by decide +kernel)) zdX3_copyRow.2 ⟨Nat.le_of_ble_eq_true rfl, Nat.le_of_ble_eq_true rfl⟩, hts (.static yX3_copyRow) (by decide +kernel), trivial⟩ ⟨zbl _, zpr hK (hP.sub (ws' := [(a 3, .inl (cI, 6, .inl (σ 1))), (b 3, .inl (cI, 6, .inl ((zs (τ) 0 3 (σ 0 3)) 1)))]) [3, 23] rfl) (hD.sub (ws' := [(a 3, .inl (cI, 6, .inl (σ 1))), (b 3, .inl (cI, 6, .inl ((zs (τ) 0 3 (σ 0 3)) 1)))]) [3, 23] (by decide) rfl)⟩ rfl rfl hl.1 rfl (lv_room (Nat.le_of_ble_eq_true rfl)) dX0_copyFrom_16 ⟨Nat.zero_le _, Nat.zero_le _⟩) hS hF (fun H locs hkp hP1 hD1 hS => ?_)
  obtain ⟨hP, hD⟩ := fr_set (i := 3) (k := 23) rfl rfl hP hD hkp hP1
  have hP : va_P D vwCl (zw_2 cI a b σ (zr (zs (τ) 0 3 (σ 0 3)) 1 (σ 1))) H := hP
  have hD : va_D A (zw_2 cI a b σ (zr (zs (τ) 0 3 (σ 0 3)) 1 (σ 1))) := hD
  refine lv_aload_n hx hb dX0_copyFrom_19 rfl (lv_at hl 1 rfl) ?_
  refine va_get (D := D) (ci := 0) (v := .ref (a 4)) (C := RX0) (T := TX0) (N := 6) hx hb hts hinX0 hown hK hP 1 rfl rfl 2 (by decide) hf17 (fun _ h9 => h9) rfl dX0_copyFrom_20 ?_
  refine lv_aload_n hx hb dX0_copyFrom_23 rfl (lv_at hl 0 rfl) ?_
  refine va_get (D := D) (ci := 0) (v := .ref (b 4)) (C := RX0) (T := TX0) (N := 6) hx hb hts hinX0 hown hK hP 21 rfl rfl 2 (by decide) hf17 (fun _ h9 => h9) rfl dX0_copyFrom_24 ?_
  have hF := zfree (hD.sub (ws' := [(a 4, .inl (cI, 6, .inl (σ 2))), (b 4, .inl (cI, 6, .inl ((zr (zs (τ) 0 3 (σ 0 3)) 1 (σ 1)) 2)))]) [4, 24] (by decide) rfl) hS hA
  refine zk_V (va_runSN (host := RX3) (As := [.ref (a 4), .ref (b 4)]) (rest := []) ⟨hx, hb, hml, hown, hts⟩ (c_X3_copyRow l D cI (a 4) (b 4) 6 (σ 2) ((zr (zs (τ) 0 3 (σ 0 3)) 1 (σ 1)) 2) (by decide) _) ⟨va_cnB 2 hts gX0_copyFrom_X3_copyRow_n36 rfl rfl rfl (hL.2.2.1 (RX0, 36, yX3_copyRow, RX3) (by decide +kernel)) (hts (.initialized RX3) (by decide +kernel)) zdX3_copyRow.2 ⟨Nat.le_of_ble_eq_true rfl, Nat.le_of_ble_eq_true rfl⟩, hts (.static yX3_copyRow) (by decide +kernel), trivial⟩ ⟨zbl _, zpr hK (hP.sub (ws' := [(a 4, .inl (cI, 6, .inl (σ 2))), (b 4, .inl (cI, 6, .inl ((zr (zs (τ) 0 3 (σ 0 3)) 1 (σ 1)) 2)))]) [4, 24] rfl) (hD.sub (ws' := [(a 4, .inl (cI, 6, .inl (σ 2))), (b 4, .inl (cI, 6, .inl ((zr (zs (τ) 0 3 (σ 0 3)) 1 (σ 1)) 2)))]) [4, 24] (by decide) rfl)⟩ rfl rfl hl.1 rfl (lv_room (Nat.le_of_ble_eq_true rfl)) dX0_copyFrom_27 ⟨Nat.zero_le _, Nat.zero_le _⟩) hS hF (fun H locs hkp hP1 hD1 hS => ?_)
  obtain ⟨hP, hD⟩ := fr_set (i := 4) (k := 24) rfl rfl hP hD hkp hP1
  have hP : va_P D vwCl (zw_2 cI a b σ (zr (zr (zs (τ) 0 3 (σ 0 3)) 1 (σ 1)) 2 (σ 2))) H := hP
  have hD : va_D A (zw_2 cI a b σ (zr (zr (zs (τ) 0 3 (σ 0 3)) 1 (σ 1)) 2 (σ 2))) := hD
  refine lv_aload_n hx hb dX0_copyFrom_30 rfl (lv_at hl 1 rfl) ?_
  refine va_get (D := D) (ci := 0) (v := .ref (a 5)) (C := RX0) (T := TX0) (N := 6) hx hb hts hinX0 hown hK hP 1 rfl rfl 3 (by decide) hf20 (fun _ h9 => h9) rfl dX0_copyFrom_31 ?_
  refine lv_aload_n hx hb dX0_copyFrom_34 rfl (lv_at hl 0 rfl) ?_
  refine va_get (D := D) (ci := 0) (v := .ref (b 5)) (C := RX0) (T := TX0) (N := 6) hx hb hts hinX0 hown hK hP 21 rfl rfl 3 (by decide) hf20 (fun _ h9 => h9) rfl dX0_copyFrom_35 ?_
  have hF := zfree (hD.sub (ws' := [(a 5, .inl (cI, 6, .inl (σ 3))), (b 5, .inl (cI, 6, .inl ((zr (zr (zs (τ) 0 3 (σ 0 3)) 1 (σ 1)) 2 (σ 2)) 3)))]) [5, 25] (by decide) rfl) hS hA
  refine zk_V (va_runSN (host := RX3) (As := [.ref (a 5), .ref (b 5)]) (rest := []) ⟨hx, hb, hml, hown, hts⟩ (c_X3_copyRow l D cI (a 5) (b 5) 6 (σ 3) ((zr (zr (zs (τ) 0 3 (σ 0 3)) 1 (σ 1)) 2 (σ 2)) 3) (by decide) _) ⟨va_cnB 2 hts gX0_copyFrom_X3_copyRow_n36 rfl rfl rfl (hL.2.2.1 (RX0, 36, yX3_copyRow, RX3) (by decide +kernel)) (hts (.initialized RX3) (by decide +kernel)) zdX3_copyRow.2 ⟨Nat.le_of_ble_eq_true rfl, Nat.le_of_ble_eq_true rfl⟩, hts (.static yX3_copyRow) (by decide +kernel), trivial⟩ ⟨zbl _, zpr hK (hP.sub (ws' := [(a 5, .inl (cI, 6, .inl (σ 3))), (b 5, .inl (cI, 6, .inl ((zr (zr (zs (τ) 0 3 (σ 0 3)) 1 (σ 1)) 2 (σ 2)) 3)))]) [5, 25] rfl) (hD.sub (ws' := [(a 5, .inl (cI, 6, .inl (σ 3))), (b 5, .inl (cI, 6, .inl ((zr (zr (zs (τ) 0 3 (σ 0 3)) 1 (σ 1)) 2 (σ 2)) 3)))]) [5, 25] (by decide) rfl)⟩ rfl rfl hl.1 rfl (lv_room (Nat.le_of_ble_eq_true rfl)) dX0_copyFrom_38 ⟨Nat.zero_le _, Nat.zero_le _⟩) hS hF (fun H locs hkp hP1 hD1 hS => ?_)
  obtain ⟨hP, hD⟩ := fr_set (i := 5) (k := 25) rfl rfl hP hD hkp hP1
  have hP : va_P D vwCl (zw_2 cI a b σ (zr (zr (zr (zs (τ) 0 3 (σ 0 3)) 1 (σ 1)) 2 (σ 2)) 3 (σ 3))) H := hP
  have hD : va_D A (zw_2 cI a b σ (zr (zr (zr (zs (τ) 0 3 (σ 0 3)) 1 (σ 1)) 2 (σ 2)) 3 (σ 3))) := hD
  refine lv_aload_n hx hb dX0_copyFrom_41 rfl (lv_at hl 1 rfl) ?_
  refine va_get (D := D) (ci := 0) (v := .ref (a 6)) (C := RX0) (T := TX0) (N := 6) hx hb hts hinX0 hown hK hP 1 rfl rfl 4 (by decide) hf23 (fun _ h9 => h9) rfl dX0_copyFrom_42 ?_
  refine lv_aload_n hx hb dX0_copyFrom_45 rfl (lv_at hl 0 rfl) ?_
  refine va_get (D := D) (ci := 0) (v := .ref (b 6)) (C := RX0) (T := TX0) (N := 6) hx hb hts hinX0 hown hK hP 21 rfl rfl 4 (by decide) hf23 (fun _ h9 => h9) rfl dX0_copyFrom_46 ?_
  have hF := zfree (hD.sub (ws' := [(a 6, .inl (cI, 6, .inl (σ 4))), (b 6, .inl (cI, 6, .inl ((zr (zr (zr (zs (τ) 0 3 (σ 0 3)) 1 (σ 1)) 2 (σ 2)) 3 (σ 3)) 4)))]) [6, 26] (by decide) rfl) hS hA
  refine zk_V (va_runSN (host := RX3) (As := [.ref (a 6), .ref (b 6)]) (rest := []) ⟨hx, hb, hml, hown, hts⟩ (c_X3_copyRow l D cI (a 6) (b 6) 6 (σ 4) ((zr (zr (zr (zs (τ) 0 3 (σ 0 3)) 1 (σ 1)) 2 (σ 2)) 3 (σ 3)) 4) (by decide) _) ⟨va_cnB 2 hts gX0_copyFrom_X3_copyRow_n36 rfl rfl rfl (hL.2.2.1 (RX0, 36, yX3_copyRow, RX3) (by decide +kernel)) (hts (.initialized RX3) (by decide +kernel)) zdX3_copyRow.2 ⟨Nat.le_of_ble_eq_true rfl, Nat.le_of_ble_eq_true rfl⟩, hts (.static yX3_copyRow) (by decide +kernel), trivial⟩ ⟨zbl _, zpr hK (hP.sub (ws' := [(a 6, .inl (cI, 6, .inl (σ 4))), (b 6, .inl (cI, 6, .inl ((zr (zr (zr (zs (τ) 0 3 (σ 0 3)) 1 (σ 1)) 2 (σ 2)) 3 (σ 3)) 4)))]) [6, 26] rfl) (hD.sub (ws' := [(a 6, .inl (cI, 6, .inl (σ 4))), (b 6, .inl (cI, 6, .inl ((zr (zr (zr (zs (τ) 0 3 (σ 0 3)) 1 (σ 1)) 2 (σ 2)) 3 (σ 3)) 4)))]) [6, 26] (by decide) rfl)⟩ rfl rfl hl.1 rfl (lv_room (Nat.le_of_ble_eq_true rfl)) dX0_copyFrom_49 ⟨Nat.zero_le _, Nat.zero_le _⟩) hS hF (fun H locs hkp hP1 hD1 hS => ?_)
  obtain ⟨hP, hD⟩ := fr_set (i := 6) (k := 26) rfl rfl hP hD hkp hP1
  have hP : va_P D vwCl (zw_2 cI a b σ (zr (zr (zr (zr (zs (τ) 0 3 (σ 0 3)) 1 (σ 1)) 2 (σ 2)) 3 (σ 3)) 4 (σ 4))) H := hP
  have hD : va_D A (zw_2 cI a b σ (zr (zr (zr (zr (zs (τ) 0 3 (σ 0 3)) 1 (σ 1)) 2 (σ 2)) 3 (σ 3)) 4 (σ 4))) := hD
  refine lv_aload_n hx hb dX0_copyFrom_52 rfl (lv_at hl 1 rfl) ?_
  refine va_get (D := D) (ci := 0) (v := .ref (a 7)) (C := RX0) (T := TX0) (N := 6) hx hb hts hinX0 hown hK hP 1 rfl rfl 5 (by decide) hf26 (fun _ h9 => h9) rfl dX0_copyFrom_53 ?_
  refine lv_aload_n hx hb dX0_copyFrom_56 rfl (lv_at hl 0 rfl) ?_
  refine va_get (D := D) (ci := 0) (v := .ref (b 7)) (C := RX0) (T := TX0) (N := 6) hx hb hts hinX0 hown hK hP 21 rfl rfl 5 (by decide) hf26 (fun _ h9 => h9) rfl dX0_copyFrom_57 ?_
  have hF := zfree (hD.sub (ws' := [(a 7, .inl (cI, 6, .inl (σ 5))), (b 7, .inl (cI, 6, .inl ((zr (zr (zr (zr (zs (τ) 0 3 (σ 0 3)) 1 (σ 1)) 2 (σ 2)) 3 (σ 3)) 4 (σ 4)) 5)))]) [7, 27] (by decide) rfl) hS hA
  refine zk_V (va_runSN (host := RX3) (As := [.ref (a 7), .ref (b 7)]) (rest := []) ⟨hx, hb, hml, hown, hts⟩ (c_X3_copyRow l D cI (a 7) (b 7) 6 (σ 5) ((zr (zr (zr (zr (zs (τ) 0 3 (σ 0 3)) 1 (σ 1)) 2 (σ 2)) 3 (σ 3)) 4 (σ 4)) 5) (by decide) _) ⟨va_cnB 2 hts gX0_copyFrom_X3_copyRow_n36 rfl rfl rfl (hL.2.2.1 (RX0, 36, yX3_copyRow, RX3) (by decide +kernel)) (hts (.initialized RX3) (by decide +kernel)) zdX3_copyRow.2 ⟨Nat.le_of_ble_eq_true rfl, Nat.le_of_ble_eq_true rfl⟩, hts (.static yX3_copyRow) (by decide +kernel), trivial⟩ ⟨zbl _, zpr hK (hP.sub (ws' := [(a 7, .inl (cI, 6, .inl (σ 5))), (b 7, .inl (cI, 6, .inl ((zr (zr (zr (zr (zs (τ) 0 3 (σ 0 3)) 1 (σ 1)) 2 (σ 2)) 3 (σ 3)) 4 (σ 4)) 5)))]) [7, 27] rfl) (hD.sub (ws' := [(a 7, .inl (cI, 6, .inl (σ 5))), (b 7, .inl (cI, 6, .inl ((zr (zr (zr (zr (zs (τ) 0 3 (σ 0 3)) 1 (σ 1)) 2 (σ 2)) 3 (σ 3)) 4 (σ 4)) 5)))]) [7, 27] (by decide) rfl)⟩ rfl rfl hl.1 rfl (lv_room (Nat.le_of_ble_eq_true rfl)) dX0_copyFrom_60 ⟨Nat.zero_le _, Nat.zero_le _⟩) hS hF (fun H locs hkp hP1 hD1 hS => ?_)
  obtain ⟨hP, hD⟩ := fr_set (i := 7) (k := 27) rfl rfl hP hD hkp hP1
  have hP : va_P D vwCl (zw_2 cI a b σ (zr (zr (zr (zr (zr (zs (τ) 0 3 (σ 0 3)) 1 (σ 1)) 2 (σ 2)) 3 (σ 3)) 4 (σ 4)) 5 (σ 5))) H := hP
  have hD : va_D A (zw_2 cI a b σ (zr (zr (zr (zr (zr (zs (τ) 0 3 (σ 0 3)) 1 (σ 1)) 2 (σ 2)) 3 (σ 3)) 4 (σ 4)) 5 (σ 5))) := hD
  have hP9 : va_P D vwCl (zw_2 cI a b σ (f_cpB σ τ)) H := hP
  have hD9 : va_D A (zw_2 cI a b σ (f_cpB σ τ)) := hD
  exact W.vret hx hb hr (fun t ht hW => ⟨⟨(), rfl, trivial, by rw [ht]; exact hP9, va_K.moved hW.alike hK, hD9⟩, hS.F ht⟩) hS.2.2 dX0_copyFrom_63

set_option maxHeartbeats 4000000 in
set_option maxRecDepth 100000 in
theorem c_X2_copyFrom (l : Launch) (D : va_G) (cI : ClassId) (a b : Nat → Nat) (σ τ : zS)  : zNV l yX2_copyFrom wsX2_copyFrom ({ frames := 1, cells := 0, slots := 0, locals := 22 }) [.ref (b 2), .ref (a 2)] D [(cI, .int)] (zw_2 cI a b σ (τ)) (zw_2 cI a b σ (f_cpS σ τ)) := by
  intro sz
  refine Met.ofW (cc := cX2_copyFrom) (maxL := 2) (ret := none) (by decide) rfl ?_
  intro p e s m args below meth c s₁ B hml hv
  obtain ⟨rfl, ⟨hsz, hP, hK, hD⟩, hL⟩ := hv
  have hx := B.exec
  have hb := B.bytes
  have hr := B.returns
  have hts := atoms_spec (ws := wsX2_copyFrom) B.pre
  have hown : s.vm.findClass RX2 = some m.cls := findClass_of_methodNamed B.named
  have hlocks := B.notSynchronized
  subst hsz
  have hD := hD.self (sz := s.heap.size)
  generalize hAe : va_A (zw_2 cI a b σ (τ)) s.heap.size = A at hD ⊢
  have hA : ∀ q : Nat, s.heap.size ≤ q → A q := fun q h => by rw [← hAe]; exact Or.inr h
  have hS : va_S A s.heap s.heap [] := va_S.rf
  have hP : va_P D vwCl (zw_2 cI a b σ (τ)) s.heap := hP
  have hl := lv_entry ([.ref (b 2), .ref (a 2)]) (n := 2) (Nat.le_of_ble_eq_true rfl)
  rw [lg_entry_eq]
  generalize (lg_sl ([.ref (b 2), .ref (a 2)]) ++ List.replicate (2 - (lg_sl ([.ref (b 2), .ref (a 2)])).length) Slot.unset).toArray = ls at hl ⊢
  have hl : lv_has ls 2 [(0, .ref (b 2)), (1, .ref (a 2))] := hl
  have hf13 := hts (.fieldLink RX2 13 "HotBeds$Sailors" "watch" "[I") (by decide +kernel)
  have hf17 := hts (.fieldLink RX2 17 "HotBeds$Sailors" "heavy" "[I") (by decide +kernel)
  have hf20 := hts (.fieldLink RX2 20 "HotBeds$Sailors" "wage" "[I") (by decide +kernel)
  have hf23 := hts (.fieldLink RX2 23 "HotBeds$Sailors" "purse" "[I") (by decide +kernel)
  have hf26 := hts (.fieldLink RX2 26 "HotBeds$Sailors" "boots" "[I") (by decide +kernel)
  have hf29 := hts (.fieldLink RX2 29 "HotBeds$Sailors" "kept" "[I") (by decide +kernel)
  have hf32 := hts (.fieldLink RX2 32 "HotBeds$Sailors" "place" "[I") (by decide +kernel)
  have hf35 := hts (.fieldLink RX2 35 "HotBeds$Sailors" "bed" "[I") (by decide +kernel)
  have hf38 := hts (.fieldLink RX2 38 "HotBeds$Sailors" "rest" "[I") (by decide +kernel)
  have hf41 := hts (.fieldLink RX2 41 "HotBeds$Sailors" "late" "[I") (by decide +kernel)
  have hf44 := hts (.fieldLink RX2 44 "HotBeds$Sailors" "lateSincePay" "[I") (by decide +kernel)
  have hf47 := hts (.fieldLink RX2 47 "HotBeds$Sailors" "floors" "[I") (by decide +kernel)
  have hf7 := hts (.fieldLink RX2 7 "HotBeds$Sailors" "size" "I") (by decide +kernel)
  have hinX2 : ∀ w ∈ u_ws RX2 TX2 13, w ∈ wsX2_copyFrom := by decide +kernel
  refine lv_aload_n hx hb dX2_copyFrom_0 rfl (lv_at hl 0 rfl) ?_
  refine lv_aload_n hx hb dX2_copyFrom_1 rfl (lv_at hl 1 rfl) ?_
  refine va_get (D := D) (ci := 2) (v := .int (σ 0 4)) (C := RX2) (T := TX2) (N := 13) hx hb hts hinX2 hown hK hP 2 rfl rfl 0 (by decide) hf7 (fun _ h9 => h9) rfl dX2_copyFrom_2 ?_
  refine va_put (D := D) (ci := 2) (v := .int (σ 0 4)) (ty := .int) (C := RX2) (T := TX2) (N := 13) hx hb hts hinX2 tyX2 tyX2_ok nmX2 hown hK hP hD hS 22 rfl rfl 0 (by decide) hf7 (fun _ h9 => h9)  rfl (by decide +kernel) rfl rfl (Nat.le_of_ble_eq_true rfl) dX2_copyFrom_5 (fun H locs hP hD hS => ?_)
  have hP : va_P D vwCl (zw_2 cI a b σ (zs (τ) 0 4 (σ 0 4))) H := hP
  have hD : va_D A (zw_2 cI a b σ (zs (τ) 0 4 (σ 0 4))) := hD
  refine lv_aload_n hx hb dX2_copyFrom_8 rfl (lv_at hl 1 rfl) ?_
  refine va_get (D := D) (ci := 2) (v := .ref (a 8)) (C := RX2) (T := TX2) (N := 13) hx hb hts hinX2 hown hK hP 2 rfl rfl 1 (by decide) hf13 (fun _ h9 => h9) rfl dX2_copyFrom_9 ?_
  refine lv_aload_n hx hb dX2_copyFrom_12 rfl (lv_at hl 0 rfl) ?_
  refine va_get (D := D) (ci := 2) (v := .ref (b 8)) (C := RX2) (T := TX2) (N := 13) hx hb hts hinX2 hown hK hP 22 rfl rfl 1 (by decide) hf13 (fun _ h9 => h9) rfl dX2_copyFrom_13 ?_
  have hF := zfree (hD.sub (ws' := [(a 8, .inl (cI, 10, .inl (σ 6))), (b 8, .inl (cI, 10, .inl ((zs (τ) 0 4 (σ 0 4)) 6)))]) [8, 28] (by decide) rfl) hS hA
  refine zk_V (va_runSN (host := RX3) (As := [.ref (a 8), .ref (b 8)]) (rest := []) ⟨hx, hb, hml, hown, hts⟩ (c_X3_copyRow l D cI (a 8) (b 8) 10 (σ 6) ((zs (τ) 0 4 (σ 0 4)) 6) (by decide) _) ⟨va_cnB 2 hts gX2_copyFrom_X3_copyRow_n59 rfl rfl rfl (hL.2.2.1 (RX2, 59, yX3_copyRow, RX3) (by decide +kernel)) (hts (.initialized RX3) (by decide +kernel)) zdX3_copyRow.2 ⟨Nat.le_of_ble_eq_true rfl, Nat.le_of_ble_eq_true rfl⟩, hts (.static yX3_copyRow) (by decide +kernel), trivial⟩ ⟨zbl _, zpr hK (hP.sub (ws' := [(a 8, .inl (cI, 10, .inl (σ 6))), (b 8, .inl (cI, 10, .inl ((zs (τ) 0 4 (σ 0 4)) 6)))]) [8, 28] rfl) (hD.sub (ws' := [(a 8, .inl (cI, 10, .inl (σ 6))), (b 8, .inl (cI, 10, .inl ((zs (τ) 0 4 (σ 0 4)) 6)))]) [8, 28] (by decide) rfl)⟩ rfl rfl hl.1 rfl (lv_room (Nat.le_of_ble_eq_true rfl)) dX2_copyFrom_16 ⟨Nat.zero_le _, Nat.zero_le _⟩) hS hF (fun H locs hkp hP1 hD1 hS => ?_)
  obtain ⟨hP, hD⟩ := fr_set (i := 8) (k := 28) rfl rfl hP hD hkp hP1
  have hP : va_P D vwCl (zw_2 cI a b σ (zr (zs (τ) 0 4 (σ 0 4)) 6 (σ 6))) H := hP
  have hD : va_D A (zw_2 cI a b σ (zr (zs (τ) 0 4 (σ 0 4)) 6 (σ 6))) := hD
  refine lv_aload_n hx hb dX2_copyFrom_19 rfl (lv_at hl 1 rfl) ?_
  refine va_get (D := D) (ci := 2) (v := .ref (a 9)) (C := RX2) (T := TX2) (N := 13) hx hb hts hinX2 hown hK hP 2 rfl rfl 2 (by decide) hf17 (fun _ h9 => h9) rfl dX2_copyFrom_20 ?_
  refine lv_aload_n hx hb dX2_copyFrom_23 rfl (lv_at hl 0 rfl) ?_
  refine va_get (D := D) (ci := 2) (v := .ref (b 9)) (C := RX2) (T := TX2) (N := 13) hx hb hts hinX2 hown hK hP 22 rfl rfl 2 (by decide) hf17 (fun _ h9 => h9) rfl dX2_copyFrom_24 ?_
  have hF := zfree (hD.sub (ws' := [(a 9, .inl (cI, 10, .inl (σ 7))), (b 9, .inl (cI, 10, .inl ((zr (zs (τ) 0 4 (σ 0 4)) 6 (σ 6)) 7)))]) [9, 29] (by decide) rfl) hS hA
  refine zk_V (va_runSN (host := RX3) (As := [.ref (a 9), .ref (b 9)]) (rest := []) ⟨hx, hb, hml, hown, hts⟩ (c_X3_copyRow l D cI (a 9) (b 9) 10 (σ 7) ((zr (zs (τ) 0 4 (σ 0 4)) 6 (σ 6)) 7) (by decide) _) ⟨va_cnB 2 hts gX2_copyFrom_X3_copyRow_n59 rfl rfl rfl (hL.2.2.1 (RX2, 59, yX3_copyRow, RX3) (by decide +kernel)) (hts (.initialized RX3) (by decide +kernel)) zdX3_copyRow.2 ⟨Nat.le_of_ble_eq_true rfl, Nat.le_of_ble_eq_true rfl⟩, hts (.static yX3_copyRow) (by decide +kernel), trivial⟩ ⟨zbl _, zpr hK (hP.sub (ws' := [(a 9, .inl (cI, 10, .inl (σ 7))), (b 9, .inl (cI, 10, .inl ((zr (zs (τ) 0 4 (σ 0 4)) 6 (σ 6)) 7)))]) [9, 29] rfl) (hD.sub (ws' := [(a 9, .inl (cI, 10, .inl (σ 7))), (b 9, .inl (cI, 10, .inl ((zr (zs (τ) 0 4 (σ 0 4)) 6 (σ 6)) 7)))]) [9, 29] (by decide) rfl)⟩ rfl rfl hl.1 rfl (lv_room (Nat.le_of_ble_eq_true rfl)) dX2_copyFrom_27 ⟨Nat.zero_le _, Nat.zero_le _⟩) hS hF (fun H locs hkp hP1 hD1 hS => ?_)
  obtain ⟨hP, hD⟩ := fr_set (i := 9) (k := 29) rfl rfl hP hD hkp hP1
  have hP : va_P D vwCl (zw_2 cI a b σ (zr (zr (zs (τ) 0 4 (σ 0 4)) 6 (σ 6)) 7 (σ 7))) H := hP
  have hD : va_D A (zw_2 cI a b σ (zr (zr (zs (τ) 0 4 (σ 0 4)) 6 (σ 6)) 7 (σ 7))) := hD
  refine lv_aload_n hx hb dX2_copyFrom_30 rfl (lv_at hl 1 rfl) ?_
  refine va_get (D := D) (ci := 2) (v := .ref (a 10)) (C := RX2) (T := TX2) (N := 13) hx hb hts hinX2 hown hK hP 2 rfl rfl 3 (by decide) hf20 (fun _ h9 => h9) rfl dX2_copyFrom_31 ?_
  refine lv_aload_n hx hb dX2_copyFrom_34 rfl (lv_at hl 0 rfl) ?_
  refine va_get (D := D) (ci := 2) (v := .ref (b 10)) (C := RX2) (T := TX2) (N := 13) hx hb hts hinX2 hown hK hP 22 rfl rfl 3 (by decide) hf20 (fun _ h9 => h9) rfl dX2_copyFrom_35 ?_
  have hF := zfree (hD.sub (ws' := [(a 10, .inl (cI, 10, .inl (σ 8))), (b 10, .inl (cI, 10, .inl ((zr (zr (zs (τ) 0 4 (σ 0 4)) 6 (σ 6)) 7 (σ 7)) 8)))]) [10, 30] (by decide) rfl) hS hA
  refine zk_V (va_runSN (host := RX3) (As := [.ref (a 10), .ref (b 10)]) (rest := []) ⟨hx, hb, hml, hown, hts⟩ (c_X3_copyRow l D cI (a 10) (b 10) 10 (σ 8) ((zr (zr (zs (τ) 0 4 (σ 0 4)) 6 (σ 6)) 7 (σ 7)) 8) (by decide) _) ⟨va_cnB 2 hts gX2_copyFrom_X3_copyRow_n59 rfl rfl rfl (hL.2.2.1 (RX2, 59, yX3_copyRow, RX3) (by decide +kernel)) (hts (.initialized RX3) (by decide +kernel)) zdX3_copyRow.2 ⟨Nat.le_of_ble_eq_true rfl, Nat.le_of_ble_eq_true rfl⟩, hts (.static yX3_copyRow) (by decide +kernel), trivial⟩ ⟨zbl _, zpr hK (hP.sub (ws' := [(a 10, .inl (cI, 10, .inl (σ 8))), (b 10, .inl (cI, 10, .inl ((zr (zr (zs (τ) 0 4 (σ 0 4)) 6 (σ 6)) 7 (σ 7)) 8)))]) [10, 30] rfl) (hD.sub (ws' := [(a 10, .inl (cI, 10, .inl (σ 8))), (b 10, .inl (cI, 10, .inl ((zr (zr (zs (τ) 0 4 (σ 0 4)) 6 (σ 6)) 7 (σ 7)) 8)))]) [10, 30] (by decide) rfl)⟩ rfl rfl hl.1 rfl (lv_room (Nat.le_of_ble_eq_true rfl)) dX2_copyFrom_38 ⟨Nat.zero_le _, Nat.zero_le _⟩) hS hF (fun H locs hkp hP1 hD1 hS => ?_)
  obtain ⟨hP, hD⟩ := fr_set (i := 10) (k := 30) rfl rfl hP hD hkp hP1
  have hP : va_P D vwCl (zw_2 cI a b σ (zr (zr (zr (zs (τ) 0 4 (σ 0 4)) 6 (σ 6)) 7 (σ 7)) 8 (σ 8))) H := hP
  have hD : va_D A (zw_2 cI a b σ (zr (zr (zr (zs (τ) 0 4 (σ 0 4)) 6 (σ 6)) 7 (σ 7)) 8 (σ 8))) := hD
  refine lv_aload_n hx hb dX2_copyFrom_41 rfl (lv_at hl 1 rfl) ?_
  refine va_get (D := D) (ci := 2) (v := .ref (a 11)) (C := RX2) (T := TX2) (N := 13) hx hb hts hinX2 hown hK hP 2 rfl rfl 4 (by decide) hf23 (fun _ h9 => h9) rfl dX2_copyFrom_42 ?_
  refine lv_aload_n hx hb dX2_copyFrom_45 rfl (lv_at hl 0 rfl) ?_
  refine va_get (D := D) (ci := 2) (v := .ref (b 11)) (C := RX2) (T := TX2) (N := 13) hx hb hts hinX2 hown hK hP 22 rfl rfl 4 (by decide) hf23 (fun _ h9 => h9) rfl dX2_copyFrom_46 ?_
  have hF := zfree (hD.sub (ws' := [(a 11, .inl (cI, 10, .inl (σ 9))), (b 11, .inl (cI, 10, .inl ((zr (zr (zr (zs (τ) 0 4 (σ 0 4)) 6 (σ 6)) 7 (σ 7)) 8 (σ 8)) 9)))]) [11, 31] (by decide) rfl) hS hA
  refine zk_V (va_runSN (host := RX3) (As := [.ref (a 11), .ref (b 11)]) (rest := []) ⟨hx, hb, hml, hown, hts⟩ (c_X3_copyRow l D cI (a 11) (b 11) 10 (σ 9) ((zr (zr (zr (zs (τ) 0 4 (σ 0 4)) 6 (σ 6)) 7 (σ 7)) 8 (σ 8)) 9) (by decide) _) ⟨va_cnB 2 hts gX2_copyFrom_X3_copyRow_n59 rfl rfl rfl (hL.2.2.1 (RX2, 59, yX3_copyRow, RX3) (by decide +kernel)) (hts (.initialized RX3) (by decide +kernel)) zdX3_copyRow.2 ⟨Nat.le_of_ble_eq_true rfl, Nat.le_of_ble_eq_true rfl⟩, hts (.static yX3_copyRow) (by decide +kernel), trivial⟩ ⟨zbl _, zpr hK (hP.sub (ws' := [(a 11, .inl (cI, 10, .inl (σ 9))), (b 11, .inl (cI, 10, .inl ((zr (zr (zr (zs (τ) 0 4 (σ 0 4)) 6 (σ 6)) 7 (σ 7)) 8 (σ 8)) 9)))]) [11, 31] rfl) (hD.sub (ws' := [(a 11, .inl (cI, 10, .inl (σ 9))), (b 11, .inl (cI, 10, .inl ((zr (zr (zr (zs (τ) 0 4 (σ 0 4)) 6 (σ 6)) 7 (σ 7)) 8 (σ 8)) 9)))]) [11, 31] (by decide) rfl)⟩ rfl rfl hl.1 rfl (lv_room (Nat.le_of_ble_eq_true rfl)) dX2_copyFrom_49 ⟨Nat.zero_le _, Nat.zero_le _⟩) hS hF (fun H locs hkp hP1 hD1 hS => ?_)
  obtain ⟨hP, hD⟩ := fr_set (i := 11) (k := 31) rfl rfl hP hD hkp hP1
  have hP : va_P D vwCl (zw_2 cI a b σ (zr (zr (zr (zr (zs (τ) 0 4 (σ 0 4)) 6 (σ 6)) 7 (σ 7)) 8 (σ 8)) 9 (σ 9))) H := hP
  have hD : va_D A (zw_2 cI a b σ (zr (zr (zr (zr (zs (τ) 0 4 (σ 0 4)) 6 (σ 6)) 7 (σ 7)) 8 (σ 8)) 9 (σ 9))) := hD
  refine lv_aload_n hx hb dX2_copyFrom_52 rfl (lv_at hl 1 rfl) ?_
  refine va_get (D := D) (ci := 2) (v := .ref (a 12)) (C := RX2) (T := TX2) (N := 13) hx hb hts hinX2 hown hK hP 2 rfl rfl 5 (by decide) hf26 (fun _ h9 => h9) rfl dX2_copyFrom_53 ?_
  refine lv_aload_n hx hb dX2_copyFrom_56 rfl (lv_at hl 0 rfl) ?_
  refine va_get (D := D) (ci := 2) (v := .ref (b 12)) (C := RX2) (T := TX2) (N := 13) hx hb hts hinX2 hown hK hP 22 rfl rfl 5 (by decide) hf26 (fun _ h9 => h9) rfl dX2_copyFrom_57 ?_
  have hF := zfree (hD.sub (ws' := [(a 12, .inl (cI, 10, .inl (σ 10))), (b 12, .inl (cI, 10, .inl ((zr (zr (zr (zr (zs (τ) 0 4 (σ 0 4)) 6 (σ 6)) 7 (σ 7)) 8 (σ 8)) 9 (σ 9)) 10)))]) [12, 32] (by decide) rfl) hS hA
  refine zk_V (va_runSN (host := RX3) (As := [.ref (a 12), .ref (b 12)]) (rest := []) ⟨hx, hb, hml, hown, hts⟩ (c_X3_copyRow l D cI (a 12) (b 12) 10 (σ 10) ((zr (zr (zr (zr (zs (τ) 0 4 (σ 0 4)) 6 (σ 6)) 7 (σ 7)) 8 (σ 8)) 9 (σ 9)) 10) (by decide) _) ⟨va_cnB 2 hts gX2_copyFrom_X3_copyRow_n59 rfl rfl rfl (hL.2.2.1 (RX2, 59, yX3_copyRow, RX3) (by decide +kernel)) (hts (.initialized RX3) (by decide +kernel)) zdX3_copyRow.2 ⟨Nat.le_of_ble_eq_true rfl, Nat.le_of_ble_eq_true rfl⟩, hts (.static yX3_copyRow) (by decide +kernel), trivial⟩ ⟨zbl _, zpr hK (hP.sub (ws' := [(a 12, .inl (cI, 10, .inl (σ 10))), (b 12, .inl (cI, 10, .inl ((zr (zr (zr (zr (zs (τ) 0 4 (σ 0 4)) 6 (σ 6)) 7 (σ 7)) 8 (σ 8)) 9 (σ 9)) 10)))]) [12, 32] rfl) (hD.sub (ws' := [(a 12, .inl (cI, 10, .inl (σ 10))), (b 12, .inl (cI, 10, .inl ((zr (zr (zr (zr (zs (τ) 0 4 (σ 0 4)) 6 (σ 6)) 7 (σ 7)) 8 (σ 8)) 9 (σ 9)) 10)))]) [12, 32] (by decide) rfl)⟩ rfl rfl hl.1 rfl (lv_room (Nat.le_of_ble_eq_true rfl)) dX2_copyFrom_60 ⟨Nat.zero_le _, Nat.zero_le _⟩) hS hF (fun H locs hkp hP1 hD1 hS => ?_)
  obtain ⟨hP, hD⟩ := fr_set (i := 12) (k := 32) rfl rfl hP hD hkp hP1
  have hP : va_P D vwCl (zw_2 cI a b σ (zr (zr (zr (zr (zr (zs (τ) 0 4 (σ 0 4)) 6 (σ 6)) 7 (σ 7)) 8 (σ 8)) 9 (σ 9)) 10 (σ 10))) H := hP
  have hD : va_D A (zw_2 cI a b σ (zr (zr (zr (zr (zr (zs (τ) 0 4 (σ 0 4)) 6 (σ 6)) 7 (σ 7)) 8 (σ 8)) 9 (σ 9)) 10 (σ 10))) := hD
  refine lv_aload_n hx hb dX2_copyFrom_63 rfl (lv_at hl 1 rfl) ?_
  refine va_get (D := D) (ci := 2) (v := .ref (a 13)) (C := RX2) (T := TX2) (N := 13) hx hb hts hinX2 hown hK hP 2 rfl rfl 6 (by decide) hf29 (fun _ h9 => h9) rfl dX2_copyFrom_64 ?_
  refine lv_aload_n hx hb dX2_copyFrom_67 rfl (lv_at hl 0 rfl) ?_
  refine va_get (D := D) (ci := 2) (v := .ref (b 13)) (C := RX2) (T := TX2) (N := 13) hx hb hts hinX2 hown hK hP 22 rfl rfl 6 (by decide) hf29 (fun _ h9 => h9) rfl dX2_copyFrom_68 ?_
  have hF := zfree (hD.sub (ws' := [(a 13, .inl (cI, 10, .inl (σ 11))), (b 13, .inl (cI, 10, .inl ((zr (zr (zr (zr (zr (zs (τ) 0 4 (σ 0 4)) 6 (σ 6)) 7 (σ 7)) 8 (σ 8)) 9 (σ 9)) 10 (σ 10)) 11)))]) [13, 33] (by decide) rfl) hS hA
  refine zk_V (va_runSN (host := RX3) (As := [.ref (a 13), .ref (b 13)]) (rest := []) ⟨hx, hb, hml, hown, hts⟩ (c_X3_copyRow l D cI (a 13) (b 13) 10 (σ 11) ((zr (zr (zr (zr (zr (zs (τ) 0 4 (σ 0 4)) 6 (σ 6)) 7 (σ 7)) 8 (σ 8)) 9 (σ 9)) 10 (σ 10)) 11) (by decide) _) ⟨va_cnB 2 hts gX2_copyFrom_X3_copyRow_n59 rfl rfl rfl (hL.2.2.1 (RX2, 59, yX3_copyRow, RX3) (by decide +kernel)) (hts (.initialized RX3) (by decide +kernel)) zdX3_copyRow.2 ⟨Nat.le_of_ble_eq_true rfl, Nat.le_of_ble_eq_true rfl⟩, hts (.static yX3_copyRow) (by decide +kernel), trivial⟩ ⟨zbl _, zpr hK (hP.sub (ws' := [(a 13, .inl (cI, 10, .inl (σ 11))), (b 13, .inl (cI, 10, .inl ((zr (zr (zr (zr (zr (zs (τ) 0 4 (σ 0 4)) 6 (σ 6)) 7 (σ 7)) 8 (σ 8)) 9 (σ 9)) 10 (σ 10)) 11)))]) [13, 33] rfl) (hD.sub (ws' := [(a 13, .inl (cI, 10, .inl (σ 11))), (b 13, .inl (cI, 10, .inl ((zr (zr (zr (zr (zr (zs (τ) 0 4 (σ 0 4)) 6 (σ 6)) 7 (σ 7)) 8 (σ 8)) 9 (σ 9)) 10 (σ 10)) 11)))]) [13, 33] (by decide) rfl)⟩ rfl rfl hl.1 rfl (lv_room (Nat.le_of_ble_eq_true rfl)) dX2_copyFrom_71 ⟨Nat.zero_le _, Nat.zero_le _⟩) hS hF (fun H locs hkp hP1 hD1 hS => ?_)
  obtain ⟨hP, hD⟩ := fr_set (i := 13) (k := 33) rfl rfl hP hD hkp hP1
  have hP : va_P D vwCl (zw_2 cI a b σ (zr (zr (zr (zr (zr (zr (zs (τ) 0 4 (σ 0 4)) 6 (σ 6)) 7 (σ 7)) 8 (σ 8)) 9 (σ 9)) 10 (σ 10)) 11 (σ 11))) H := hP
  have hD : va_D A (zw_2 cI a b σ (zr (zr (zr (zr (zr (zr (zs (τ) 0 4 (σ 0 4)) 6 (σ 6)) 7 (σ 7)) 8 (σ 8)) 9 (σ 9)) 10 (σ 10)) 11 (σ 11))) := hD
  refine lv_aload_n hx hb dX2_copyFrom_74 rfl (lv_at hl 1 rfl) ?_
  refine va_get (D := D) (ci := 2) (v := .ref (a 14)) (C := RX2) (T := TX2) (N := 13) hx hb hts hinX2 hown hK hP 2 rfl rfl 7 (by decide) hf32 (fun _ h9 => h9) rfl dX2_copyFrom_75 ?_
  refine lv_aload_n hx hb dX2_copyFrom_78 rfl (lv_at hl 0 rfl) ?_
  refine va_get (D := D) (ci := 2) (v := .ref (b 14)) (C := RX2) (T := TX2) (N := 13) hx hb hts hinX2 hown hK hP 22 rfl rfl 7 (by decide) hf32 (fun _ h9 => h9) rfl dX2_copyFrom_79 ?_
  have hF := zfree (hD.sub (ws' := [(a 14, .inl (cI, 10, .inl (σ 12))), (b 14, .inl (cI, 10, .inl ((zr (zr (zr (zr (zr (zr (zs (τ) 0 4 (σ 0 4)) 6 (σ 6)) 7 (σ 7)) 8 (σ 8)) 9 (σ 9)) 10 (σ 10)) 11 (σ 11)) 12)))]) [14, 34] (by decide) rfl) hS hA
  refine zk_V (va_runSN (host := RX3) (As := [.ref (a 14), .ref (b 14)]) (rest := []) ⟨hx, hb, hml, hown, hts⟩ (c_X3_copyRow l D cI (a 14) (b 14) 10 (σ 12) ((zr (zr (zr (zr (zr (zr (zs (τ) 0 4 (σ 0 4)) 6 (σ 6)) 7 (σ 7)) 8 (σ 8)) 9 (σ 9)) 10 (σ 10)) 11 (σ 11)) 12) (by decide) _) ⟨va_cnB 2 hts gX2_copyFrom_X3_copyRow_n59 rfl rfl rfl (hL.2.2.1 (RX2, 59, yX3_copyRow, RX3) (by decide +kernel)) (hts (.initialized RX3) (by decide +kernel)) zdX3_copyRow.2 ⟨Nat.le_of_ble_eq_true rfl, Nat.le_of_ble_eq_true rfl⟩, hts (.static yX3_copyRow) (by decide +kernel), trivial⟩ ⟨zbl _, zpr hK (hP.sub (ws' := [(a 14, .inl (cI, 10, .inl (σ 12))), (b 14, .inl (cI, 10, .inl ((zr (zr (zr (zr (zr (zr (zs (τ) 0 4 (σ 0 4)) 6 (σ 6)) 7 (σ 7)) 8 (σ 8)) 9 (σ 9)) 10 (σ 10)) 11 (σ 11)) 12)))]) [14, 34] rfl) (hD.sub (ws' := [(a 14, .inl (cI, 10, .inl (σ 12))), (b 14, .inl (cI, 10, .inl ((zr (zr (zr (zr (zr (zr (zs (τ) 0 4 (σ 0 4)) 6 (σ 6)) 7 (σ 7)) 8 (σ 8)) 9 (σ 9)) 10 (σ 10)) 11 (σ 11)) 12)))]) [14, 34] (by decide) rfl)⟩ rfl rfl hl.1 rfl (lv_room (Nat.le_of_ble_eq_true rfl)) dX2_copyFrom_82 ⟨Nat.zero_le _, Nat.zero_le _⟩) hS hF (fun H locs hkp hP1 hD1 hS => ?_)
  obtain ⟨hP, hD⟩ := fr_set (i := 14) (k := 34) rfl rfl hP hD hkp hP1
  have hP : va_P D vwCl (zw_2 cI a b σ (zr (zr (zr (zr (zr (zr (zr (zs (τ) 0 4 (σ 0 4)) 6 (σ 6)) 7 (σ 7)) 8 (σ 8)) 9 (σ 9)) 10 (σ 10)) 11 (σ 11)) 12 (σ 12))) H := hP
  have hD : va_D A (zw_2 cI a b σ (zr (zr (zr (zr (zr (zr (zr (zs (τ) 0 4 (σ 0 4)) 6 (σ 6)) 7 (σ 7)) 8 (σ 8)) 9 (σ 9)) 10 (σ 10)) 11 (σ 11)) 12 (σ 12))) := hD
  refine lv_aload_n hx hb dX2_copyFrom_85 rfl (lv_at hl 1 rfl) ?_
  refine va_get (D := D) (ci := 2) (v := .ref (a 15)) (C := RX2) (T := TX2) (N := 13) hx hb hts hinX2 hown hK hP 2 rfl rfl 8 (by decide) hf35 (fun _ h9 => h9) rfl dX2_copyFrom_86 ?_
  refine lv_aload_n hx hb dX2_copyFrom_89 rfl (lv_at hl 0 rfl) ?_
  refine va_get (D := D) (ci := 2) (v := .ref (b 15)) (C := RX2) (T := TX2) (N := 13) hx hb hts hinX2 hown hK hP 22 rfl rfl 8 (by decide) hf35 (fun _ h9 => h9) rfl dX2_copyFrom_90 ?_
  have hF := zfree (hD.sub (ws' := [(a 15, .inl (cI, 10, .inl (σ 13))), (b 15, .inl (cI, 10, .inl ((zr (zr (zr (zr (zr (zr (zr (zs (τ) 0 4 (σ 0 4)) 6 (σ 6)) 7 (σ 7)) 8 (σ 8)) 9 (σ 9)) 10 (σ 10)) 11 (σ 11)) 12 (σ 12)) 13)))]) [15, 35] (by decide) rfl) hS hA
  refine zk_V (va_runSN (host := RX3) (As := [.ref (a 15), .ref (b 15)]) (rest := []) ⟨hx, hb, hml, hown, hts⟩ (c_X3_copyRow l D cI (a 15) (b 15) 10 (σ 13) ((zr (zr (zr (zr (zr (zr (zr (zs (τ) 0 4 (σ 0 4)) 6 (σ 6)) 7 (σ 7)) 8 (σ 8)) 9 (σ 9)) 10 (σ 10)) 11 (σ 11)) 12 (σ 12)) 13) (by decide) _) ⟨va_cnB 2 hts gX2_copyFrom_X3_copyRow_n59 rfl rfl rfl (hL.2.2.1 (RX2, 59, yX3_copyRow, RX3) (by decide +kernel)) (hts (.initialized RX3) (by decide +kernel)) zdX3_copyRow.2 ⟨Nat.le_of_ble_eq_true rfl, Nat.le_of_ble_eq_true rfl⟩, hts (.static yX3_copyRow) (by decide +kernel), trivial⟩ ⟨zbl _, zpr hK (hP.sub (ws' := [(a 15, .inl (cI, 10, .inl (σ 13))), (b 15, .inl (cI, 10, .inl ((zr (zr (zr (zr (zr (zr (zr (zs (τ) 0 4 (σ 0 4)) 6 (σ 6)) 7 (σ 7)) 8 (σ 8)) 9 (σ 9)) 10 (σ 10)) 11 (σ 11)) 12 (σ 12)) 13)))]) [15, 35] rfl) (hD.sub (ws' := [(a 15, .inl (cI, 10, .inl (σ 13))), (b 15, .inl (cI, 10, .inl ((zr (zr (zr (zr (zr (zr (zr (zs (τ) 0 4 (σ 0 4)) 6 (σ 6)) 7 (σ 7)) 8 (σ 8)) 9 (σ 9)) 10 (σ 10)) 11 (σ 11)) 12 (σ 12)) 13)))]) [15, 35] (by decide) rfl)⟩ rfl rfl hl.1 rfl (lv_room (Nat.le_of_ble_eq_true rfl)) dX2_copyFrom_93 ⟨Nat.zero_le _, Nat.zero_le _⟩) hS hF (fun H locs hkp hP1 hD1 hS => ?_)
  obtain ⟨hP, hD⟩ := fr_set (i := 15) (k := 35) rfl rfl hP hD hkp hP1
  have hP : va_P D vwCl (zw_2 cI a b σ (zr (zr (zr (zr (zr (zr (zr (zr (zs (τ) 0 4 (σ 0 4)) 6 (σ 6)) 7 (σ 7)) 8 (σ 8)) 9 (σ 9)) 10 (σ 10)) 11 (σ 11)) 12 (σ 12)) 13 (σ 13))) H := hP
  have hD : va_D A (zw_2 cI a b σ (zr (zr (zr (zr (zr (zr (zr (zr (zs (τ) 0 4 (σ 0 4)) 6 (σ 6)) 7 (σ 7)) 8 (σ 8)) 9 (σ 9)) 10 (σ 10)) 11 (σ 11)) 12 (σ 12)) 13 (σ 13))) := hD
  refine lv_aload_n hx hb dX2_copyFrom_96 rfl (lv_at hl 1 rfl) ?_
  refine va_get (D := D) (ci := 2) (v := .ref (a 16)) (C := RX2) (T := TX2) (N := 13) hx hb hts hinX2 hown hK hP 2 rfl rfl 9 (by decide) hf38 (fun _ h9 => h9) rfl dX2_copyFrom_97 ?_
  refine lv_aload_n hx hb dX2_copyFrom_100 rfl (lv_at hl 0 rfl) ?_
  refine va_get (D := D) (ci := 2) (v := .ref (b 16)) (C := RX2) (T := TX2) (N := 13) hx hb hts hinX2 hown hK hP 22 rfl rfl 9 (by decide) hf38 (fun _ h9 => h9) rfl dX2_copyFrom_101 ?_
  have hF := zfree (hD.sub (ws' := [(a 16, .inl (cI, 10, .inl (σ 14))), (b 16, .inl (cI, 10, .inl ((zr (zr (zr (zr (zr (zr (zr (zr (zs (τ) 0 4 (σ 0 4)) 6 (σ 6)) 7 (σ 7)) 8 (σ 8)) 9 (σ 9)) 10 (σ 10)) 11 (σ 11)) 12 (σ 12)) 13 (σ 13)) 14)))]) [16, 36] (by decide) rfl) hS hA
  refine zk_V (va_runSN (host := RX3) (As := [.ref (a 16), .ref (b 16)]) (rest := []) ⟨hx, hb, hml, hown, hts⟩ (c_X3_copyRow l D cI (a 16) (b 16) 10 (σ 14) ((zr (zr (zr (zr (zr (zr (zr (zr (zs (τ) 0 4 (σ 0 4)) 6 (σ 6)) 7 (σ 7)) 8 (σ 8)) 9 (σ 9)) 10 (σ 10)) 11 (σ 11)) 12 (σ 12)) 13 (σ 13)) 14) (by decide) _) ⟨va_cnB 2 hts gX2_copyFrom_X3_copyRow_n59 rfl rfl rfl (hL.2.2.1 (RX2, 59, yX3_copyRow, RX3) (by decide +kernel)) (hts (.initialized RX3) (by decide +kernel)) zdX3_copyRow.2 ⟨Nat.le_of_ble_eq_true rfl, Nat.le_of_ble_eq_true rfl⟩, hts (.static yX3_copyRow) (by decide +kernel), trivial⟩ ⟨zbl _, zpr hK (hP.sub (ws' := [(a 16, .inl (cI, 10, .inl (σ 14))), (b 16, .inl (cI, 10, .inl ((zr (zr (zr (zr (zr (zr (zr (zr (zs (τ) 0 4 (σ 0 4)) 6 (σ 6)) 7 (σ 7)) 8 (σ 8)) 9 (σ 9)) 10 (σ 10)) 11 (σ 11)) 12 (σ 12)) 13 (σ 13)) 14)))]) [16, 36] rfl) (hD.sub (ws' := [(a 16, .inl (cI, 10, .inl (σ 14))), (b 16, .inl (cI, 10, .inl ((zr (zr (zr (zr (zr (zr (zr (zr (zs (τ) 0 4 (σ 0 4)) 6 (σ 6)) 7 (σ 7)) 8 (σ 8)) 9 (σ 9)) 10 (σ 10)) 11 (σ 11)) 12 (σ 12)) 13 (σ 13)) 14)))]) [16, 36] (by decide) rfl)⟩ rfl rfl hl.1 rfl (lv_room (Nat.le_of_ble_eq_true rfl)) dX2_copyFrom_104 ⟨Nat.zero_le _, Nat.zero_le _⟩) hS hF (fun H locs hkp hP1 hD1 hS => ?_)
  obtain ⟨hP, hD⟩ := fr_set (i := 16) (k := 36) rfl rfl hP hD hkp hP1
  have hP : va_P D vwCl (zw_2 cI a b σ (zr (zr (zr (zr (zr (zr (zr (zr (zr (zs (τ) 0 4 (σ 0 4)) 6 (σ 6)) 7 (σ 7)) 8 (σ 8)) 9 (σ 9)) 10 (σ 10)) 11 (σ 11)) 12 (σ 12)) 13 (σ 13)) 14 (σ 14))) H := hP
  have hD : va_D A (zw_2 cI a b σ (zr (zr (zr (zr (zr (zr (zr (zr (zr (zs (τ) 0 4 (σ 0 4)) 6 (σ 6)) 7 (σ 7)) 8 (σ 8)) 9 (σ 9)) 10 (σ 10)) 11 (σ 11)) 12 (σ 12)) 13 (σ 13)) 14 (σ 14))) := hD
  refine lv_aload_n hx hb dX2_copyFrom_107 rfl (lv_at hl 1 rfl) ?_
  refine va_get (D := D) (ci := 2) (v := .ref (a 17)) (C := RX2) (T := TX2) (N := 13) hx hb hts hinX2 hown hK hP 2 rfl rfl 10 (by decide) hf41 (fun _ h9 => h9) rfl dX2_copyFrom_108 ?_
  refine lv_aload_n hx hb dX2_copyFrom_111 rfl (lv_at hl 0 rfl) ?_
  refine va_get (D := D) (ci := 2) (v := .ref (b 17)) (C := RX2) (T := TX2) (N := 13) hx hb hts hinX2 hown hK hP 22 rfl rfl 10 (by decide) hf41 (fun _ h9 => h9) rfl dX2_copyFrom_112 ?_
  have hF := zfree (hD.sub (ws' := [(a 17, .inl (cI, 10, .inl (σ 15))), (b 17, .inl (cI, 10, .inl ((zr (zr (zr (zr (zr (zr (zr (zr (zr (zs (τ) 0 4 (σ 0 4)) 6 (σ 6)) 7 (σ 7)) 8 (σ 8)) 9 (σ 9)) 10 (σ 10)) 11 (σ 11)) 12 (σ 12)) 13 (σ 13)) 14 (σ 14)) 15)))]) [17, 37] (by decide) rfl) hS hA
  refine zk_V (va_runSN (host := RX3) (As := [.ref (a 17), .ref (b 17)]) (rest := []) ⟨hx, hb, hml, hown, hts⟩ (c_X3_copyRow l D cI (a 17) (b 17) 10 (σ 15) ((zr (zr (zr (zr (zr (zr (zr (zr (zr (zs (τ) 0 4 (σ 0 4)) 6 (σ 6)) 7 (σ 7)) 8 (σ 8)) 9 (σ 9)) 10 (σ 10)) 11 (σ 11)) 12 (σ 12)) 13 (σ 13)) 14 (σ 14)) 15) (by decide) _) ⟨va_cnB 2 hts gX2_copyFrom_X3_copyRow_n59 rfl rfl rfl (hL.2.2.1 (RX2, 59, yX3_copyRow, RX3) (by decide +kernel)) (hts (.initialized RX3) (by decide +kernel)) zdX3_copyRow.2 ⟨Nat.le_of_ble_eq_true rfl, Nat.le_of_ble_eq_true rfl⟩, hts (.static yX3_copyRow) (by decide +kernel), trivial⟩ ⟨zbl _, zpr hK (hP.sub (ws' := [(a 17, .inl (cI, 10, .inl (σ 15))), (b 17, .inl (cI, 10, .inl ((zr (zr (zr (zr (zr (zr (zr (zr (zr (zs (τ) 0 4 (σ 0 4)) 6 (σ 6)) 7 (σ 7)) 8 (σ 8)) 9 (σ 9)) 10 (σ 10)) 11 (σ 11)) 12 (σ 12)) 13 (σ 13)) 14 (σ 14)) 15)))]) [17, 37] rfl) (hD.sub (ws' := [(a 17, .inl (cI, 10, .inl (σ 15))), (b 17, .inl (cI, 10, .inl ((zr (zr (zr (zr (zr (zr (zr (zr (zr (zs (τ) 0 4 (σ 0 4)) 6 (σ 6)) 7 (σ 7)) 8 (σ 8)) 9 (σ 9)) 10 (σ 10)) 11 (σ 11)) 12 (σ 12)) 13 (σ 13)) 14 (σ 14)) 15)))]) [17, 37] (by decide) rfl)⟩ rfl rfl hl.1 rfl (lv_room (Nat.le_of_ble_eq_true rfl)) dX2_copyFrom_115 ⟨Nat.zero_le _, Nat.zero_le _⟩) hS hF (fun H locs hkp hP1 hD1 hS => ?_)
  obtain ⟨hP, hD⟩ := fr_set (i := 17) (k := 37) rfl rfl hP hD hkp hP1
  have hP : va_P D vwCl (zw_2 cI a b σ (zr (zr (zr (zr (zr (zr (zr (zr (zr (zr (zs (τ) 0 4 (σ 0 4)) 6 (σ 6)) 7 (σ 7)) 8 (σ 8)) 9 (σ 9)) 10 (σ 10)) 11 (σ 11)) 12 (σ 12)) 13 (σ 13)) 14 (σ 14)) 15 (σ 15))) H := hP
  have hD : va_D A (zw_2 cI a b σ (zr (zr (zr (zr (zr (zr (zr (zr (zr (zr (zs (τ) 0 4 (σ 0 4)) 6 (σ 6)) 7 (σ 7)) 8 (σ 8)) 9 (σ 9)) 10 (σ 10)) 11 (σ 11)) 12 (σ 12)) 13 (σ 13)) 14 (σ 14)) 15 (σ 15))) := hD
  refine lv_aload_n hx hb dX2_copyFrom_118 rfl (lv_at hl 1 rfl) ?_
  refine va_get (D := D) (ci := 2) (v := .ref (a 18)) (C := RX2) (T := TX2) (N := 13) hx hb hts hinX2 hown hK hP 2 rfl rfl 11 (by decide) hf44 (fun _ h9 => h9) rfl dX2_copyFrom_119 ?_
  refine lv_aload_n hx hb dX2_copyFrom_122 rfl (lv_at hl 0 rfl) ?_
  refine va_get (D := D) (ci := 2) (v := .ref (b 18)) (C := RX2) (T := TX2) (N := 13) hx hb hts hinX2 hown hK hP 22 rfl rfl 11 (by decide) hf44 (fun _ h9 => h9) rfl dX2_copyFrom_123 ?_
  have hF := zfree (hD.sub (ws' := [(a 18, .inl (cI, 10, .inl (σ 16))), (b 18, .inl (cI, 10, .inl ((zr (zr (zr (zr (zr (zr (zr (zr (zr (zr (zs (τ) 0 4 (σ 0 4)) 6 (σ 6)) 7 (σ 7)) 8 (σ 8)) 9 (σ 9)) 10 (σ 10)) 11 (σ 11)) 12 (σ 12)) 13 (σ 13)) 14 (σ 14)) 15 (σ 15)) 16)))]) [18, 38] (by decide) rfl) hS hA
  refine zk_V (va_runSN (host := RX3) (As := [.ref (a 18), .ref (b 18)]) (rest := []) ⟨hx, hb, hml, hown, hts⟩ (c_X3_copyRow l D cI (a 18) (b 18) 10 (σ 16) ((zr (zr (zr (zr (zr (zr (zr (zr (zr (zr (zs (τ) 0 4 (σ 0 4)) 6 (σ 6)) 7 (σ 7)) 8 (σ 8)) 9 (σ 9)) 10 (σ 10)) 11 (σ 11)) 12 (σ 12)) 13 (σ 13)) 14 (σ 14)) 15 (σ 15)) 16) (by decide) _) ⟨va_cnB 2 hts gX2_copyFrom_X3_copyRow_n59 rfl rfl rfl (hL.2.2.1 (RX2, 59, yX3_copyRow, RX3) (by decide +kernel)) (hts (.initialized RX3) (by decide +kernel)) zdX3_copyRow.2 ⟨Nat.le_of_ble_eq_true rfl, Nat.le_of_ble_eq_true rfl⟩, hts (.static yX3_copyRow) (by decide +kernel), trivial⟩ ⟨zbl _, zpr hK (hP.sub (ws' := [(a 18, .inl (cI, 10, .inl (σ 16))), (b 18, .inl (cI, 10, .inl ((zr (zr (zr (zr (zr (zr (zr (zr (zr (zr (zs (τ) 0 4 (σ 0 4)) 6 (σ 6)) 7 (σ 7)) 8 (σ 8)) 9 (σ 9)) 10 (σ 10)) 11 (σ 11)) 12 (σ 12)) 13 (σ 13)) 14 (σ 14)) 15 (σ 15)) 16)))]) [18, 38] rfl) (hD.sub (ws' := [(a 18, .inl (cI, 10, .inl (σ 16))), (b 18, .inl (cI, 10, .inl ((zr (zr (zr (zr (zr (zr (zr (zr (zr (zr (zs (τ) 0 4 (σ 0 4)) 6 (σ 6)) 7 (σ 7)) 8 (σ 8)) 9 (σ 9)) 10 (σ 10)) 11 (σ 11)) 12 (σ 12)) 13 (σ 13)) 14 (σ 14)) 15 (σ 15)) 16)))]) [18, 38] (by decide) rfl)⟩ rfl rfl hl.1 rfl (lv_room (Nat.le_of_ble_eq_true rfl)) dX2_copyFrom_126 ⟨Nat.zero_le _, Nat.zero_le _⟩) hS hF (fun H locs hkp hP1 hD1 hS => ?_)
  obtain ⟨hP, hD⟩ := fr_set (i := 18) (k := 38) rfl rfl hP hD hkp hP1
  have hP : va_P D vwCl (zw_2 cI a b σ (zr (zr (zr (zr (zr (zr (zr (zr (zr (zr (zr (zs (τ) 0 4 (σ 0 4)) 6 (σ 6)) 7 (σ 7)) 8 (σ 8)) 9 (σ 9)) 10 (σ 10)) 11 (σ 11)) 12 (σ 12)) 13 (σ 13)) 14 (σ 14)) 15 (σ 15)) 16 (σ 16))) H := hP
  have hD : va_D A (zw_2 cI a b σ (zr (zr (zr (zr (zr (zr (zr (zr (zr (zr (zr (zs (τ) 0 4 (σ 0 4)) 6 (σ 6)) 7 (σ 7)) 8 (σ 8)) 9 (σ 9)) 10 (σ 10)) 11 (σ 11)) 12 (σ 12)) 13 (σ 13)) 14 (σ 14)) 15 (σ 15)) 16 (σ 16))) := hD
  refine lv_aload_n hx hb dX2_copyFrom_129 rfl (lv_at hl 1 rfl) ?_
  refine va_get (D := D) (ci := 2) (v := .ref (a 19)) (C := RX2) (T := TX2) (N := 13) hx hb hts hinX2 hown hK hP 2 rfl rfl 12 (by decide) hf47 (fun _ h9 => h9) rfl dX2_copyFrom_130 ?_
  refine lv_aload_n hx hb dX2_copyFrom_133 rfl (lv_at hl 0 rfl) ?_
  refine va_get (D := D) (ci := 2) (v := .ref (b 19)) (C := RX2) (T := TX2) (N := 13) hx hb hts hinX2 hown hK hP 22 rfl rfl 12 (by decide) hf47 (fun _ h9 => h9) rfl dX2_copyFrom_134 ?_
  have hF := zfree (hD.sub (ws' := [(a 19, .inl (cI, 10, .inl (σ 17))), (b 19, .inl (cI, 10, .inl ((zr (zr (zr (zr (zr (zr (zr (zr (zr (zr (zr (zs (τ) 0 4 (σ 0 4)) 6 (σ 6)) 7 (σ 7)) 8 (σ 8)) 9 (σ 9)) 10 (σ 10)) 11 (σ 11)) 12 (σ 12)) 13 (σ 13)) 14 (σ 14)) 15 (σ 15)) 16 (σ 16)) 17)))]) [19, 39] (by decide) rfl) hS hA
  refine zk_V (va_runSN (host := RX3) (As := [.ref (a 19), .ref (b 19)]) (rest := []) ⟨hx, hb, hml, hown, hts⟩ (c_X3_copyRow l D cI (a 19) (b 19) 10 (σ 17) ((zr (zr (zr (zr (zr (zr (zr (zr (zr (zr (zr (zs (τ) 0 4 (σ 0 4)) 6 (σ 6)) 7 (σ 7)) 8 (σ 8)) 9 (σ 9)) 10 (σ 10)) 11 (σ 11)) 12 (σ 12)) 13 (σ 13)) 14 (σ 14)) 15 (σ 15)) 16 (σ 16)) 17) (by decide) _) ⟨va_cnB 2 hts gX2_copyFrom_X3_copyRow_n59 rfl rfl rfl (hL.2.2.1 (RX2, 59, yX3_copyRow, RX3) (by decide +kernel)) (hts (.initialized RX3) (by decide +kernel)) zdX3_copyRow.2 ⟨Nat.le_of_ble_eq_true rfl, Nat.le_of_ble_eq_true rfl⟩, hts (.static yX3_copyRow) (by decide +kernel), trivial⟩ ⟨zbl _, zpr hK (hP.sub (ws' := [(a 19, .inl (cI, 10, .inl (σ 17))), (b 19, .inl (cI, 10, .inl ((zr (zr (zr (zr (zr (zr (zr (zr (zr (zr (zr (zs (τ) 0 4 (σ 0 4)) 6 (σ 6)) 7 (σ 7)) 8 (σ 8)) 9 (σ 9)) 10 (σ 10)) 11 (σ 11)) 12 (σ 12)) 13 (σ 13)) 14 (σ 14)) 15 (σ 15)) 16 (σ 16)) 17)))]) [19, 39] rfl) (hD.sub (ws' := [(a 19, .inl (cI, 10, .inl (σ 17))), (b 19, .inl (cI, 10, .inl ((zr (zr (zr (zr (zr (zr (zr (zr (zr (zr (zr (zs (τ) 0 4 (σ 0 4)) 6 (σ 6)) 7 (σ 7)) 8 (σ 8)) 9 (σ 9)) 10 (σ 10)) 11 (σ 11)) 12 (σ 12)) 13 (σ 13)) 14 (σ 14)) 15 (σ 15)) 16 (σ 16)) 17)))]) [19, 39] (by decide) rfl)⟩ rfl rfl hl.1 rfl (lv_room (Nat.le_of_ble_eq_true rfl)) dX2_copyFrom_137 ⟨Nat.zero_le _, Nat.zero_le _⟩) hS hF (fun H locs hkp hP1 hD1 hS => ?_)
  obtain ⟨hP, hD⟩ := fr_set (i := 19) (k := 39) rfl rfl hP hD hkp hP1
  have hP : va_P D vwCl (zw_2 cI a b σ (zr (zr (zr (zr (zr (zr (zr (zr (zr (zr (zr (zr (zs (τ) 0 4 (σ 0 4)) 6 (σ 6)) 7 (σ 7)) 8 (σ 8)) 9 (σ 9)) 10 (σ 10)) 11 (σ 11)) 12 (σ 12)) 13 (σ 13)) 14 (σ 14)) 15 (σ 15)) 16 (σ 16)) 17 (σ 17))) H := hP
  have hD : va_D A (zw_2 cI a b σ (zr (zr (zr (zr (zr (zr (zr (zr (zr (zr (zr (zr (zs (τ) 0 4 (σ 0 4)) 6 (σ 6)) 7 (σ 7)) 8 (σ 8)) 9 (σ 9)) 10 (σ 10)) 11 (σ 11)) 12 (σ 12)) 13 (σ 13)) 14 (σ 14)) 15 (σ 15)) 16 (σ 16)) 17 (σ 17))) := hD
  have hP9 : va_P D vwCl (zw_2 cI a b σ (f_cpS σ τ)) H := hP
  have hD9 : va_D A (zw_2 cI a b σ (f_cpS σ τ)) := hD
  exact W.vret hx hb hr (fun t ht hW => ⟨⟨(), rfl, trivial, by rw [ht]; exact hP9, va_K.moved hW.alike hK, hD9⟩, hS.F ht⟩) hS.2.2 dX2_copyFrom_140

set_option maxHeartbeats 4000000 in
set_option maxRecDepth 100000 in
theorem c_X1_copyFrom (l : Launch) (D : va_G) (cI : ClassId) (a b : Nat → Nat) (σ τ : zS)  : zNV l yX1_copyFrom wsX1_copyFrom ({ frames := 2, cells := 0, slots := 0, locals := 43 }) [.ref (b 0), .ref (a 0)] D [(cI, .int)] (zw_2 cI a b σ (τ)) (zw_2 cI a b σ σ) := by
  intro sz
  refine Met.ofW (cc := cX1_copyFrom) (maxL := 2) (ret := none) (by decide) rfl ?_
  intro p e s m args below meth c s₁ B hml hv
  obtain ⟨rfl, ⟨hsz, hP, hK, hD⟩, hL⟩ := hv
  have hx := B.exec
  have hb := B.bytes
  have hr := B.returns
  have hts := atoms_spec (ws := wsX1_copyFrom) B.pre
  have hown : s.vm.findClass RX1 = some m.cls := findClass_of_methodNamed B.named
  have hlocks := B.notSynchronized
  subst hsz
  have hD := hD.self (sz := s.heap.size)
  generalize hAe : va_A (zw_2 cI a b σ (τ)) s.heap.size = A at hD ⊢
  have hA : ∀ q : Nat, s.heap.size ≤ q → A q := fun q h => by rw [← hAe]; exact Or.inr h
  have hS : va_S A s.heap s.heap [] := va_S.rf
  have hP : va_P D vwCl (zw_2 cI a b σ (τ)) s.heap := hP
  have hl := lv_entry ([.ref (b 0), .ref (a 0)]) (n := 2) (Nat.le_of_ble_eq_true rfl)
  rw [lg_entry_eq]
  generalize (lg_sl ([.ref (b 0), .ref (a 0)]) ++ List.replicate (2 - (lg_sl ([.ref (b 0), .ref (a 0)])).length) Slot.unset).toArray = ls at hl ⊢
  have hl : lv_has ls 2 [(0, .ref (b 0)), (1, .ref (a 0))] := hl
  have hf13 := hts (.fieldLink RX1 13 "HotBeds$House" "bell" "I") (by decide +kernel)
  have hf16 := hts (.fieldLink RX1 16 "HotBeds$House" "pawn" "I") (by decide +kernel)
  have hf22 := hts (.fieldLink RX1 22 "HotBeds$House" "beds" "LHotBeds$Beds;") (by decide +kernel)
  have hf29 := hts (.fieldLink RX1 29 "HotBeds$House" "sailors" "LHotBeds$Sailors;") (by decide +kernel)
  have hf7 := hts (.fieldLink RX1 7 "HotBeds$House" "hour" "I") (by decide +kernel)
  have hinX1 : ∀ w ∈ u_ws RX1 TX1 5, w ∈ wsX1_copyFrom := by decide +kernel
  refine lv_aload_n hx hb dX1_copyFrom_0 rfl (lv_at hl 0 rfl) ?_
  refine lv_aload_n hx hb dX1_copyFrom_1 rfl (lv_at hl 1 rfl) ?_
  refine va_get (D := D) (ci := 1) (v := .int (σ 0 0)) (C := RX1) (T := TX1) (N := 5) hx hb hts hinX1 hown hK hP 0 rfl rfl 0 (by decide) hf7 (fun _ h9 => h9) rfl dX1_copyFrom_2 ?_
  refine va_put (D := D) (ci := 1) (v := .int (σ 0 0)) (ty := .int) (C := RX1) (T := TX1) (N := 5) hx hb hts hinX1 tyX1 tyX1_ok nmX1 hown hK hP hD hS 20 rfl rfl 0 (by decide) hf7 (fun _ h9 => h9)  rfl (by decide +kernel) rfl rfl (Nat.le_of_ble_eq_true rfl) dX1_copyFrom_5 (fun H locs hP hD hS => ?_)
  have hP : va_P D vwCl (zw_2 cI a b σ (zs (τ) 0 0 (σ 0 0))) H := hP
  have hD : va_D A (zw_2 cI a b σ (zs (τ) 0 0 (σ 0 0))) := hD
  refine lv_aload_n hx hb dX1_copyFrom_8 rfl (lv_at hl 0 rfl) ?_
  refine lv_aload_n hx hb dX1_copyFrom_9 rfl (lv_at hl 1 rfl) ?_
  refine va_get (D := D) (ci := 1) (v := .int (σ 0 1)) (C := RX1) (T := TX1) (N := 5) hx hb hts hinX1 hown hK hP 0 rfl rfl 1 (by decide) hf13 (fun _ h9 => h9) rfl dX1_copyFrom_10 ?_
  refine va_put (D := D) (ci := 1) (v := .int (σ 0 1)) (ty := .int) (C := RX1) (T := TX1) (N := 5) hx hb hts hinX1 tyX1 tyX1_ok nmX1 hown hK hP hD hS 20 rfl rfl 1 (by decide) hf13 (fun _ h9 => h9)  rfl (by decide +kernel) rfl rfl (Nat.le_of_ble_eq_true rfl) dX1_copyFrom_13 (fun H locs hP hD hS => ?_)
  have hP : va_P D vwCl (zw_2 cI a b σ (zs (zs (τ) 0 0 (σ 0 0)) 0 1 (σ 0 1))) H := hP
  have hD : va_D A (zw_2 cI a b σ (zs (zs (τ) 0 0 (σ 0 0)) 0 1 (σ 0 1))) := hD
  refine lv_aload_n hx hb dX1_copyFrom_16 rfl (lv_at hl 0 rfl) ?_
  refine lv_aload_n hx hb dX1_copyFrom_17 rfl (lv_at hl 1 rfl) ?_
  refine va_get (D := D) (ci := 1) (v := .int (σ 0 2)) (C := RX1) (T := TX1) (N := 5) hx hb hts hinX1 hown hK hP 0 rfl rfl 2 (by decide) hf16 (fun _ h9 => h9) rfl dX1_copyFrom_18 ?_
  refine va_put (D := D) (ci := 1) (v := .int (σ 0 2)) (ty := .int) (C := RX1) (T := TX1) (N := 5) hx hb hts hinX1 tyX1 tyX1_ok nmX1 hown hK hP hD hS 20 rfl rfl 2 (by decide) hf16 (fun _ h9 => h9)  rfl (by decide +kernel) rfl rfl (Nat.le_of_ble_eq_true rfl) dX1_copyFrom_21 (fun H locs hP hD hS => ?_)
  have hP : va_P D vwCl (zw_2 cI a b σ (zs (zs (zs (τ) 0 0 (σ 0 0)) 0 1 (σ 0 1)) 0 2 (σ 0 2))) H := hP
  have hD : va_D A (zw_2 cI a b σ (zs (zs (zs (τ) 0 0 (σ 0 0)) 0 1 (σ 0 1)) 0 2 (σ 0 2))) := hD
  refine lv_aload_n hx hb dX1_copyFrom_24 rfl (lv_at hl 0 rfl) ?_
  refine va_get (D := D) (ci := 1) (v := .ref (b 1)) (C := RX1) (T := TX1) (N := 5) hx hb hts hinX1 hown hK hP 20 rfl rfl 3 (by decide) hf22 (fun _ h9 => h9) rfl dX1_copyFrom_25 ?_
  refine lv_aload_n hx hb dX1_copyFrom_28 rfl (lv_at hl 1 rfl) ?_
  refine va_get (D := D) (ci := 1) (v := .ref (a 1)) (C := RX1) (T := TX1) (N := 5) hx hb hts hinX1 hown hK hP 0 rfl rfl 3 (by decide) hf22 (fun _ h9 => h9) rfl dX1_copyFrom_29 ?_
  have hF := zfree hD hS hA
  refine zk_V (va_runV (As := [.ref (a 1)]) (rest := []) ⟨hx, hb, hml, hown, hts⟩ (c_X0_copyFrom l D cI a b σ (zs (zs (zs (τ) 0 0 (σ 0 0)) 0 1 (σ 0 1)) 0 2 (σ 0 2)) _) (cwV 1 hts gX1_copyFrom_X0_copyFrom rfl rfl rfl zdX0_copyFrom ⟨Nat.le_of_ble_eq_true rfl, Nat.le_of_ble_eq_true rfl⟩) ⟨zblL _, va_recv hK hP (ci := 0) (q0 := 21) rfl rfl, zprL hK hP hD hL⟩ rfl rfl hl.1 rfl (lv_room (Nat.le_of_ble_eq_true rfl)) dX1_copyFrom_32 ⟨Nat.zero_le _, Nat.zero_le _⟩) hS hF (fun H locs hkp hP1 hD1 hS => ?_)
  have hP := hP1
  have hD := hD1.weaken (fun _ _ _ z => hF _ z)
  have hP : va_P D vwCl (zw_2 cI a b σ (f_cpB σ (zs (zs (zs (τ) 0 0 (σ 0 0)) 0 1 (σ 0 1)) 0 2 (σ 0 2)))) H := hP
  have hD : va_D A (zw_2 cI a b σ (f_cpB σ (zs (zs (zs (τ) 0 0 (σ 0 0)) 0 1 (σ 0 1)) 0 2 (σ 0 2)))) := hD
  refine lv_aload_n hx hb dX1_copyFrom_35 rfl (lv_at hl 0 rfl) ?_
  refine va_get (D := D) (ci := 1) (v := .ref (b 2)) (C := RX1) (T := TX1) (N := 5) hx hb hts hinX1 hown hK hP 20 rfl rfl 4 (by decide) hf29 (fun _ h9 => h9) rfl dX1_copyFrom_36 ?_
  refine lv_aload_n hx hb dX1_copyFrom_39 rfl (lv_at hl 1 rfl) ?_
  refine va_get (D := D) (ci := 1) (v := .ref (a 2)) (C := RX1) (T := TX1) (N := 5) hx hb hts hinX1 hown hK hP 0 rfl rfl 4 (by decide) hf29 (fun _ h9 => h9) rfl dX1_copyFrom_40 ?_
  have hF := zfree hD hS hA
  refine zk_V (va_runV (As := [.ref (a 2)]) (rest := []) ⟨hx, hb, hml, hown, hts⟩ (c_X2_copyFrom l D cI a b σ (f_cpB σ (zs (zs (zs (τ) 0 0 (σ 0 0)) 0 1 (σ 0 1)) 0 2 (σ 0 2))) _) (cwV 1 hts gX1_copyFrom_X2_copyFrom rfl rfl rfl zdX2_copyFrom ⟨Nat.le_of_ble_eq_true rfl, Nat.le_of_ble_eq_true rfl⟩) ⟨zblL _, va_recv hK hP (ci := 2) (q0 := 22) rfl rfl, zprL hK hP hD hL⟩ rfl rfl hl.1 rfl (lv_room (Nat.le_of_ble_eq_true rfl)) dX1_copyFrom_43 ⟨Nat.zero_le _, Nat.zero_le _⟩) hS hF (fun H locs hkp hP1 hD1 hS => ?_)
  have hP := hP1
  have hD := hD1.weaken (fun _ _ _ z => hF _ z)
  have hP : va_P D vwCl (zw_2 cI a b σ (f_cpS σ (f_cpB σ (zs (zs (zs (τ) 0 0 (σ 0 0)) 0 1 (σ 0 1)) 0 2 (σ 0 2))))) H := hP
  have hD : va_D A (zw_2 cI a b σ (f_cpS σ (f_cpB σ (zs (zs (zs (τ) 0 0 (σ 0 0)) 0 1 (σ 0 1)) 0 2 (σ 0 2))))) := hD
  have hP9 : va_P D vwCl (zw_2 cI a b σ σ) H := hP
  have hD9 : va_D A (zw_2 cI a b σ σ) := hD
  exact W.vret hx hb hr (fun t ht hW => ⟨⟨(), rfl, trivial, by rw [ht]; exact hP9, va_K.moved hW.alike hK, hD9⟩, hS.F ht⟩) hS.2.2 dX1_copyFrom_46
end
section
def f_addB (σ : zS) (nb : Nat) (v : Int32) : zS := zs (zs (zs σ 1 nb v) 5 nb (-1)) 0 3 (nI (nb + 1))
def f_addS (σ : zS) (ns : Nat) (v1 v2 v3 v4 : Int32) : zS := zs (zs (zs (zs (zs (zs (zs (zs (zs σ 6 ns v1) 7 ns v2) 8 ns v3) 9 ns v4) 10 ns 1) 11 ns (-1)) 12 ns 0) 13 ns (-1)) 0 4 (nI (ns + 1))

set_option maxHeartbeats 4000000 in
set_option maxRecDepth 100000 in
theorem c_X0_add (l : Launch) (D : va_G) (cI : ClassId) (a : Nat → Nat) (σ : zS) (v : Int32) {nb ns h : Nat} (hC : zC σ nb ns h) (hb6 : nb < 6) : zMI l yX0_add wsX0_add ({ frames := 0, cells := 0, slots := 0, locals := 0 }) [.ref (a 1), .int v] D [(cI, .int)] (zw_H cI a σ) (zw_H cI a (f_addB σ nb v)) (fun r => r = nI nb) := by
  intro sz
  refine Met.ofW (cc := cX0_add) (maxL := 3) (ret := (some .int)) (by decide) rfl ?_
  intro p e s m args below meth c s₁ B hml hv
  obtain ⟨rfl, hsz, hP, hK, hD⟩ := hv
  have hx := B.exec
  have hb := B.bytes
  have hr := B.returns
  have hts := atoms_spec (ws := wsX0_add) B.pre
  have hown : s.vm.findClass RX0 = some m.cls := findClass_of_methodNamed B.named
  have hlocks := B.notSynchronized
  subst hsz
  have hD := hD.self (sz := s.heap.size)
  generalize hAe : va_A (zw_H cI a σ) s.heap.size = A at hD ⊢
  have hA : ∀ q : Nat, s.heap.size ≤ q → A q := fun q h => by rw [← hAe]; exact Or.inr h
  have hS : va_S A s.heap s.heap [] := va_S.rf
  have hP : va_P D vwCl (zw_H cI a σ) s.heap := hP
  have hl := lv_entry ([.ref (a 1), .int v]) (n := 3) (Nat.le_of_ble_eq_true rfl)
  rw [lg_entry_eq]
  generalize (lg_sl ([.ref (a 1), .int v]) ++ List.replicate (3 - (lg_sl ([.ref (a 1), .int v])).length) Slot.unset).toArray = ls at hl ⊢
  have hl : lv_has ls 3 [(0, .ref (a 1)), (1, .int v)] := hl
  have hf13 := hts (.fieldLink RX0 13 "HotBeds$Beds" "price" "[I") (by decide +kernel)
  have hf26 := hts (.fieldLink RX0 26 "HotBeds$Beds" "sleeper" "[I") (by decide +kernel)
  have hf7 := hts (.fieldLink RX0 7 "HotBeds$Beds" "size" "I") (by decide +kernel)
  have hinX0 : ∀ w ∈ u_ws RX0 TX0 6, w ∈ wsX0_add := by decide +kernel
  refine lv_aload_n hx hb dX0_add_0 rfl (lv_at hl 0 rfl) ?_
  refine va_get (D := D) (ci := 0) (v := .int (nI nb)) (C := RX0) (T := TX0) (N := 6) hx hb hts hinX0 hown hK hP 1 rfl rfl 0 (by decide) hf7 (fun _ h9 => h9) (congrArg (fun z => some (Value.int z)) hC.1) dX0_add_1 ?_
  refine lv_bipush (v := 6) hx hb dX0_add_4 (by decide) ?_
  refine lv_icmp_lt (tgt := 19) hx hb dX0_add_6 (by decide) (fun _ => ?_) (fun c => absurd (nI_lt (b := 6) hb6 (by decide)) c)
  refine lv_aload_n hx hb dX0_add_19 rfl (lv_at hl 0 rfl) ?_
  refine va_get (D := D) (ci := 0) (v := .int (nI nb)) (C := RX0) (T := TX0) (N := 6) hx hb hts hinX0 hown hK hP 1 rfl rfl 0 (by decide) hf7 (fun _ h9 => h9) (congrArg (fun z => some (Value.int z)) hC.1) dX0_add_20 ?_
  refine lv_istore_n (lv' := [(2, .int (nI nb)), (0, .ref (a 1)), (1, .int v)]) hx hb dX0_add_23 rfl hl (by decide) rfl (fun ls hl => ?_)
  refine lv_aload_n hx hb dX0_add_24 rfl (lv_at hl 1 rfl) ?_
  refine va_get (D := D) (ci := 0) (v := .ref (a 3)) (C := RX0) (T := TX0) (N := 6) hx hb hts hinX0 hown hK hP 1 rfl rfl 1 (by decide) hf13 (fun _ h9 => h9) rfl dX0_add_25 ?_
  refine lv_iload_n hx hb dX0_add_28 rfl (lv_at hl 0 rfl) ?_
  refine lv_iload_n hx hb dX0_add_29 rfl (lv_at hl 2 rfl) ?_
  refine zk_st hx hb hK hP hD hS 3 0 (zwq1 cI a _) rfl (k := nb) hb6 (by decide) (zws1 cI a _ _ _) dX0_add_30 (fun H locs hP hD hS => ?_)
  have hP : va_P D vwCl (zw_H cI a (zs σ 1 nb v)) H := hP
  have hD : va_D A (zw_H cI a (zs σ 1 nb v)) := hD
  refine lv_aload_n hx hb dX0_add_31 rfl (lv_at hl 1 rfl) ?_
  refine va_get (D := D) (ci := 0) (v := .ref (a 7)) (C := RX0) (T := TX0) (N := 6) hx hb hts hinX0 hown hK hP 1 rfl rfl 5 (by decide) hf26 (fun _ h9 => h9) rfl dX0_add_32 ?_
  refine lv_iload_n hx hb dX0_add_35 rfl (lv_at hl 0 rfl) ?_
  refine lv_iconst (v := (-1)) hx hb dX0_add_36 (by decide) ?_
  refine zk_st hx hb hK hP hD hS 7 0 (zwq5 cI a _) rfl (k := nb) hb6 (by decide) (zws5 cI a _ _ _) dX0_add_37 (fun H locs hP hD hS => ?_)
  have hP : va_P D vwCl (zw_H cI a (zs (zs σ 1 nb v) 5 nb (-1))) H := hP
  have hD : va_D A (zw_H cI a (zs (zs σ 1 nb v) 5 nb (-1))) := hD
  refine lv_aload_n hx hb dX0_add_38 rfl (lv_at hl 1 rfl) ?_
  refine lv_iload_n hx hb dX0_add_39 rfl (lv_at hl 0 rfl) ?_
  refine lv_iconst (v := 1) hx hb dX0_add_40 (by decide) ?_
  refine zk_add (x := nb) (y := 1) hx hb dX0_add_41 ?_
  refine va_put (D := D) (ci := 0) (v := .int (nI (nb + 1))) (ty := .int) (C := RX0) (T := TX0) (N := 6) hx hb hts hinX0 tyX0 tyX0_ok nmX0 hown hK hP hD hS 1 rfl rfl 0 (by decide) hf7 (fun _ h9 => h9)  rfl (by decide +kernel) rfl rfl (Nat.le_of_ble_eq_true rfl) dX0_add_42 (fun H locs hP hD hS => ?_)
  have hP : va_P D vwCl (zw_H cI a (zs (zs (zs σ 1 nb v) 5 nb (-1)) 0 3 (nI (nb + 1)))) H := hP
  have hD : va_D A (zw_H cI a (zs (zs (zs σ 1 nb v) 5 nb (-1)) 0 3 (nI (nb + 1)))) := hD
  refine lv_iload_n hx hb dX0_add_45 rfl (lv_at hl 0 rfl) ?_
  have e9 : f_addB σ nb v = zs (zs (zs σ 1 nb v) 5 nb (-1)) 0 3 (nI (nb + 1)) := by simp only [f_addB]
  have hP9 : va_P D vwCl (zw_H cI a (f_addB σ nb v)) H := by rw [e9]; exact hP
  have hD9 : va_D A (zw_H cI a (f_addB σ nb v)) := by rw [e9]; exact hD
  exact W.iret (v := nI nb) hx hb hr (fun t ht hW => ⟨⟨nI nb, (), rfl, rfl, by rw [ht]; exact hP9, va_K.moved hW.alike hK, hD9⟩, hS.F ht⟩) hS.2.2 dX0_add_46

set_option maxHeartbeats 4000000 in
set_option maxRecDepth 100000 in
theorem c_X2_add (l : Launch) (D : va_G) (cI : ClassId) (a : Nat → Nat) (σ : zS) (v1 v2 v3 v4 : Int32) {nb ns h : Nat} (hC : zC σ nb ns h) (hs10 : ns < 10) : zMI l yX2_add wsX2_add ({ frames := 0, cells := 0, slots := 0, locals := 0 }) [.ref (a 2), .int v1, .int v2, .int v3, .int v4] D [(cI, .int)] (zw_H cI a σ) (zw_H cI a (f_addS σ ns v1 v2 v3 v4)) (fun r => r = nI ns) := by
  intro sz
  refine Met.ofW (cc := cX2_add) (maxL := 6) (ret := (some .int)) (by decide) rfl ?_
  intro p e s m args below meth c s₁ B hml hv
  obtain ⟨rfl, hsz, hP, hK, hD⟩ := hv
  have hx := B.exec
  have hb := B.bytes
  have hr := B.returns
  have hts := atoms_spec (ws := wsX2_add) B.pre
  have hown : s.vm.findClass RX2 = some m.cls := findClass_of_methodNamed B.named
  have hlocks := B.notSynchronized
  subst hsz
  have hD := hD.self (sz := s.heap.size)
  generalize hAe : va_A (zw_H cI a σ) s.heap.size = A at hD ⊢
  have hA : ∀ q : Nat, s.heap.size ≤ q → A q := fun q h => by rw [← hAe]; exact Or.inr h
  have hS : va_S A s.heap s.heap [] := va_S.rf
  have hP : va_P D vwCl (zw_H cI a σ) s.heap := hP
  have hl := lv_entry ([.ref (a 2), .int v1, .int v2, .int v3, .int v4]) (n := 6) (Nat.le_of_ble_eq_true rfl)
  rw [lg_entry_eq]
  generalize (lg_sl ([.ref (a 2), .int v1, .int v2, .int v3, .int v4]) ++ List.replicate (6 - (lg_sl ([.ref (a 2), .int v1, .int v2, .int v3, .int v4])).length) Slot.unset).toArray = ls at hl ⊢
  have hl : lv_has ls 6 [(0, .ref (a 2)), (1, .int v1), (2, .int v2), (3, .int v3), (4, .int v4)] := hl
  have hf13 := hts (.fieldLink RX2 13 "HotBeds$Sailors" "watch" "[I") (by decide +kernel)
  have hf17 := hts (.fieldLink RX2 17 "HotBeds$Sailors" "heavy" "[I") (by decide +kernel)
  have hf20 := hts (.fieldLink RX2 20 "HotBeds$Sailors" "wage" "[I") (by decide +kernel)
  have hf23 := hts (.fieldLink RX2 23 "HotBeds$Sailors" "purse" "[I") (by decide +kernel)
  have hf26 := hts (.fieldLink RX2 26 "HotBeds$Sailors" "boots" "[I") (by decide +kernel)
  have hf29 := hts (.fieldLink RX2 29 "HotBeds$Sailors" "kept" "[I") (by decide +kernel)
  have hf32 := hts (.fieldLink RX2 32 "HotBeds$Sailors" "place" "[I") (by decide +kernel)
  have hf35 := hts (.fieldLink RX2 35 "HotBeds$Sailors" "bed" "[I") (by decide +kernel)
  have hf7 := hts (.fieldLink RX2 7 "HotBeds$Sailors" "size" "I") (by decide +kernel)
  have hinX2 : ∀ w ∈ u_ws RX2 TX2 13, w ∈ wsX2_add := by decide +kernel
  refine lv_aload_n hx hb dX2_add_0 rfl (lv_at hl 0 rfl) ?_
  refine va_get (D := D) (ci := 2) (v := .int (nI ns)) (C := RX2) (T := TX2) (N := 13) hx hb hts hinX2 hown hK hP 2 rfl rfl 0 (by decide) hf7 (fun _ h9 => h9) (congrArg (fun z => some (Value.int z)) hC.2.2.1) dX2_add_1 ?_
  refine lv_bipush (v := 10) hx hb dX2_add_4 (by decide) ?_
  refine lv_icmp_lt (tgt := 19) hx hb dX2_add_6 (by decide) (fun _ => ?_) (fun c => absurd (nI_lt (b := 10) hs10 (by decide)) c)
  refine lv_aload_n hx hb dX2_add_19 rfl (lv_at hl 0 rfl) ?_
  refine va_get (D := D) (ci := 2) (v := .int (nI ns)) (C := RX2) (T := TX2) (N := 13) hx hb hts hinX2 hown hK hP 2 rfl rfl 0 (by decide) hf7 (fun _ h9 => h9) (congrArg (fun z => some (Value.int z)) hC.2.2.1) dX2_add_20 ?_
  refine lv_istore (lv' := [(5, .int (nI ns)), (0, .ref (a 2)), (1, .int v1), (2, .int v2), (3, .int v3), (4, .int v4)]) hx hb dX2_add_23 hl (by decide) rfl (fun ls hl => ?_)
  refine lv_aload_n hx hb dX2_add_25 rfl (lv_at hl 1 rfl) ?_
  refine va_get (D := D) (ci := 2) (v := .ref (a 8)) (C := RX2) (T := TX2) (N := 13) hx hb hts hinX2 hown hK hP 2 rfl rfl 1 (by decide) hf13 (fun _ h9 => h9) rfl dX2_add_26 ?_
  refine lv_iload hx hb dX2_add_29 (lv_at hl 0 rfl) ?_
  refine lv_iload_n hx hb dX2_add_31 rfl (lv_at hl 2 rfl) ?_
  refine zk_st hx hb hK hP hD hS 8 0 (zwq6 cI a _) rfl (k := ns) hs10 (by decide) (zws6 cI a _ _ _) dX2_add_32 (fun H locs hP hD hS => ?_)
  have hP : va_P D vwCl (zw_H cI a (zs σ 6 ns v1)) H := hP
  have hD : va_D A (zw_H cI a (zs σ 6 ns v1)) := hD
  refine lv_aload_n hx hb dX2_add_33 rfl (lv_at hl 1 rfl) ?_
  refine va_get (D := D) (ci := 2) (v := .ref (a 9)) (C := RX2) (T := TX2) (N := 13) hx hb hts hinX2 hown hK hP 2 rfl rfl 2 (by decide) hf17 (fun _ h9 => h9) rfl dX2_add_34 ?_
  refine lv_iload hx hb dX2_add_37 (lv_at hl 0 rfl) ?_
  refine lv_iload_n hx hb dX2_add_39 rfl (lv_at hl 3 rfl) ?_
  refine zk_st hx hb hK hP hD hS 9 0 (zwq7 cI a _) rfl (k := ns) hs10 (by decide) (zws7 cI a _ _ _) dX2_add_40 (fun H locs hP hD hS => ?_)
  have hP : va_P D vwCl (zw_H cI a (zs (zs σ 6 ns v1) 7 ns v2)) H := hP
  have hD : va_D A (zw_H cI a (zs (zs σ 6 ns v1) 7 ns v2)) := hD
  refine lv_aload_n hx hb dX2_add_41 rfl (lv_at hl 1 rfl) ?_
  refine va_get (D := D) (ci := 2) (v := .ref (a 10)) (C := RX2) (T := TX2) (N := 13) hx hb hts hinX2 hown hK hP 2 rfl rfl 3 (by decide) hf20 (fun _ h9 => h9) rfl dX2_add_42 ?_
  refine lv_iload hx hb dX2_add_45 (lv_at hl 0 rfl) ?_
  refine lv_iload_n hx hb dX2_add_47 rfl (lv_at hl 4 rfl) ?_
  refine zk_st hx hb hK hP hD hS 10 0 (zwq8 cI a _) rfl (k := ns) hs10 (by decide) (zws8 cI a _ _ _) dX2_add_48 (fun H locs hP hD hS => ?_)
  have hP : va_P D vwCl (zw_H cI a (zs (zs (zs σ 6 ns v1) 7 ns v2) 8 ns v3)) H := hP
  have hD : va_D A (zw_H cI a (zs (zs (zs σ 6 ns v1) 7 ns v2) 8 ns v3)) := hD
  refine lv_aload_n hx hb dX2_add_49 rfl (lv_at hl 1 rfl) ?_
  refine va_get (D := D) (ci := 2) (v := .ref (a 11)) (C := RX2) (T := TX2) (N := 13) hx hb hts hinX2 hown hK hP 2 rfl rfl 4 (by decide) hf23 (fun _ h9 => h9) rfl dX2_add_50 ?_
  refine lv_iload hx hb dX2_add_53 (lv_at hl 0 rfl) ?_
  refine lv_iload hx hb dX2_add_55 (lv_at hl 5 rfl) ?_
  refine zk_st hx hb hK hP hD hS 11 0 (zwq9 cI a _) rfl (k := ns) hs10 (by decide) (zws9 cI a _ _ _) dX2_add_57 (fun H locs hP hD hS => ?_)
  have hP : va_P D vwCl (zw_H cI a (zs (zs (zs (zs σ 6 ns v1) 7 ns v2) 8 ns v3) 9 ns v4)) H := hP
  have hD : va_D A (zw_H cI a (zs (zs (zs (zs σ 6 ns v1) 7 ns v2) 8 ns v3) 9 ns v4)) := hD
  refine lv_aload_n hx hb dX2_add_58 rfl (lv_at hl 1 rfl) ?_
  refine va_get (D := D) (ci := 2) (v := .ref (a 12)) (C := RX2) (T := TX2) (N := 13) hx hb hts hinX2 hown hK hP 2 rfl rfl 5 (by decide) hf26 (fun _ h9 => h9) rfl dX2_add_59 ?_
  refine lv_iload hx hb dX2_add_62 (lv_at hl 0 rfl) ?_
  refine lv_iconst (v := 1) hx hb dX2_add_64 (by decide) ?_
  refine zk_st hx hb hK hP hD hS 12 0 (zwq10 cI a _) rfl (k := ns) hs10 (by decide) (zws10 cI a _ _ _) dX2_add_65 (fun H locs hP hD hS => ?_)
  have hP : va_P D vwCl (zw_H cI a (zs (zs (zs (zs (zs σ 6 ns v1) 7 ns v2) 8 ns v3) 9 ns v4) 10 ns 1)) H := hP
  have hD : va_D A (zw_H cI a (zs (zs (zs (zs (zs σ 6 ns v1) 7 ns v2) 8 ns v3) 9 ns v4) 10 ns 1)) := hD
  refine lv_aload_n hx hb dX2_add_66 rfl (lv_at hl 1 rfl) ?_
  refine va_get (D := D) (ci := 2) (v := .ref (a 13)) (C := RX2) (T := TX2) (N := 13) hx hb hts hinX2 hown hK hP 2 rfl rfl 6 (by decide) hf29 (fun _ h9 => h9) rfl dX2_add_67 ?_
  refine lv_iload hx hb dX2_add_70 (lv_at hl 0 rfl) ?_
  refine lv_iconst (v := (-1)) hx hb dX2_add_72 (by decide) ?_
  refine zk_st hx hb hK hP hD hS 13 0 (zwq11 cI a _) rfl (k := ns) hs10 (by decide) (zws11 cI a _ _ _) dX2_add_73 (fun H locs hP hD hS => ?_)
  have hP : va_P D vwCl (zw_H cI a (zs (zs (zs (zs (zs (zs σ 6 ns v1) 7 ns v2) 8 ns v3) 9 ns v4) 10 ns 1) 11 ns (-1))) H := hP
  have hD : va_D A (zw_H cI a (zs (zs (zs (zs (zs (zs σ 6 ns v1) 7 ns v2) 8 ns v3) 9 ns v4) 10 ns 1) 11 ns (-1))) := hD
  refine lv_aload_n hx hb dX2_add_74 rfl (lv_at hl 1 rfl) ?_
  refine va_get (D := D) (ci := 2) (v := .ref (a 14)) (C := RX2) (T := TX2) (N := 13) hx hb hts hinX2 hown hK hP 2 rfl rfl 7 (by decide) hf32 (fun _ h9 => h9) rfl dX2_add_75 ?_
  refine lv_iload hx hb dX2_add_78 (lv_at hl 0 rfl) ?_
  refine lv_iconst (v := 0) hx hb dX2_add_80 (by decide) ?_
  refine zk_st hx hb hK hP hD hS 14 0 (zwq12 cI a _) rfl (k := ns) hs10 (by decide) (zws12 cI a _ _ _) dX2_add_81 (fun H locs hP hD hS => ?_)
  have hP : va_P D vwCl (zw_H cI a (zs (zs (zs (zs (zs (zs (zs σ 6 ns v1) 7 ns v2) 8 ns v3) 9 ns v4) 10 ns 1) 11 ns (-1)) 12 ns 0)) H := hP
  have hD : va_D A (zw_H cI a (zs (zs (zs (zs (zs (zs (zs σ 6 ns v1) 7 ns v2) 8 ns v3) 9 ns v4) 10 ns 1) 11 ns (-1)) 12 ns 0)) := hD
  refine lv_aload_n hx hb dX2_add_82 rfl (lv_at hl 1 rfl) ?_
  refine va_get (D := D) (ci := 2) (v := .ref (a 15)) (C := RX2) (T := TX2) (N := 13) hx hb hts hinX2 hown hK hP 2 rfl rfl 8 (by decide) hf35 (fun _ h9 => h9) rfl dX2_add_83 ?_
  refine lv_iload hx hb dX2_add_86 (lv_at hl 0 rfl) ?_
  refine lv_iconst (v := (-1)) hx hb dX2_add_88 (by decide) ?_
  refine zk_st hx hb hK hP hD hS 15 0 (zwq13 cI a _) rfl (k := ns) hs10 (by decide) (zws13 cI a _ _ _) dX2_add_89 (fun H locs hP hD hS => ?_)
  have hP : va_P D vwCl (zw_H cI a (zs (zs (zs (zs (zs (zs (zs (zs σ 6 ns v1) 7 ns v2) 8 ns v3) 9 ns v4) 10 ns 1) 11 ns (-1)) 12 ns 0) 13 ns (-1))) H := hP
  have hD : va_D A (zw_H cI a (zs (zs (zs (zs (zs (zs (zs (zs σ 6 ns v1) 7 ns v2) 8 ns v3) 9 ns v4) 10 ns 1) 11 ns (-1)) 12 ns 0) 13 ns (-1))) := hD
  refine lv_aload_n hx hb dX2_add_90 rfl (lv_at hl 1 rfl) ?_
  refine lv_iload hx hb dX2_add_91 (lv_at hl 0 rfl) ?_
  refine lv_iconst (v := 1) hx hb dX2_add_93 (by decide) ?_
  refine zk_add (x := ns) (y := 1) hx hb dX2_add_94 ?_
  refine va_put (D := D) (ci := 2) (v := .int (nI (ns + 1))) (ty := .int) (C := RX2) (T := TX2) (N := 13) hx hb hts hinX2 tyX2 tyX2_ok nmX2 hown hK hP hD hS 2 rfl rfl 0 (by decide) hf7 (fun _ h9 => h9)  rfl (by decide +kernel) rfl rfl (Nat.le_of_ble_eq_true rfl) dX2_add_95 (fun H locs hP hD hS => ?_)
  have hP : va_P D vwCl (zw_H cI a (zs (zs (zs (zs (zs (zs (zs (zs (zs σ 6 ns v1) 7 ns v2) 8 ns v3) 9 ns v4) 10 ns 1) 11 ns (-1)) 12 ns 0) 13 ns (-1)) 0 4 (nI (ns + 1)))) H := hP
  have hD : va_D A (zw_H cI a (zs (zs (zs (zs (zs (zs (zs (zs (zs σ 6 ns v1) 7 ns v2) 8 ns v3) 9 ns v4) 10 ns 1) 11 ns (-1)) 12 ns 0) 13 ns (-1)) 0 4 (nI (ns + 1)))) := hD
  refine lv_iload hx hb dX2_add_98 (lv_at hl 0 rfl) ?_
  have e9 : f_addS σ ns v1 v2 v3 v4 = zs (zs (zs (zs (zs (zs (zs (zs (zs σ 6 ns v1) 7 ns v2) 8 ns v3) 9 ns v4) 10 ns 1) 11 ns (-1)) 12 ns 0) 13 ns (-1)) 0 4 (nI (ns + 1)) := by simp only [f_addS]
  have hP9 : va_P D vwCl (zw_H cI a (f_addS σ ns v1 v2 v3 v4)) H := by rw [e9]; exact hP
  have hD9 : va_D A (zw_H cI a (f_addS σ ns v1 v2 v3 v4)) := by rw [e9]; exact hD
  exact W.iret (v := nI ns) hx hb hr (fun t ht hW => ⟨⟨nI ns, (), rfl, rfl, by rw [ht]; exact hP9, va_K.moved hW.alike hK, hD9⟩, hS.F ht⟩) hS.2.2 dX2_add_100

set_option maxHeartbeats 4000000 in
set_option maxRecDepth 100000 in
theorem t_X0_add (l : Launch) (hst : l.stackTraces = false) (D : va_G) (cI : ClassId) (a : Nat → Nat) (σ : zS) (v : Int32) {nb ns h : Nat} (hC : zC σ nb ns h) (h6 : nb = 6) : zTI l yX0_add wsX0_add ({ frames := 6, cells := 1, slots := 6, locals := 82 }) [.ref (a 1), .int v] D [(cI, .int)] (zw_H cI a σ) "java/lang/IllegalStateException" := by
  intro sz
  refine vx_ofW (cc := cX0_add) (maxL := 3) (ret := (some .int)) (by decide) rfl ?_
  intro p e s m args below meth c s₁ B hml ht hv
  obtain ⟨rfl, ⟨hsz, hP, hK, hD⟩, hL, hZ⟩ := hv
  have hx := B.exec
  have hb := B.bytes
  have hr := B.returns
  have hts := atoms_spec (ws := wsX0_add) B.pre
  have hown : s.vm.findClass RX0 = some m.cls := findClass_of_methodNamed B.named
  have hlocks := B.notSynchronized
  have hS : va_S (fun _ => False) s.heap s.heap [] := va_S.rf
  have hP : va_P D vwCl (zw_H cI a σ) s.heap := hP
  have hl := lv_entry ([.ref (a 1), .int v]) (n := 3) (Nat.le_of_ble_eq_true rfl)
  rw [lg_entry_eq]
  generalize (lg_sl ([.ref (a 1), .int v]) ++ List.replicate (3 - (lg_sl ([.ref (a 1), .int v])).length) Slot.unset).toArray = ls at hl ⊢
  have hl : lv_has ls 3 [(0, .ref (a 1)), (1, .int v)] := hl
  have hf7 := hts (.fieldLink RX0 7 "HotBeds$Beds" "size" "I") (by decide +kernel)
  have hinX0 : ∀ w ∈ u_ws RX0 TX0 6, w ∈ wsX0_add := by decide +kernel
  refine lv_aload_n hx hb dX0_add_0 rfl (lv_at hl 0 rfl) ?_
  refine va_get (D := D) (ci := 0) (v := .int (nI nb)) (C := RX0) (T := TX0) (N := 6) hx hb hts hinX0 hown hK hP 1 rfl rfl 0 (by decide) hf7 (fun _ h9 => h9) (congrArg (fun z => some (Value.int z)) hC.1) dX0_add_1 ?_
  refine lv_bipush (v := 6) hx hb dX0_add_4 (by decide) ?_
  refine lv_icmp_lt (tgt := 19) hx hb dX0_add_6 (by decide) (fun c => absurd c (by rw [h6]; decide)) (fun _ => ?_)
  obtain ⟨sa, hstr⟩ := hL.2.2.2.1 (RX0, 31, "there are 6 beds") (by decide +kernel)
  exact vx_throwS (names := ["java/lang/RuntimeException", "java/lang/Exception"]) hx hb hst hown (by decide +kernel) (by decide +kernel) (hts (.classLink RX0 29 "java/lang/IllegalStateException") (by decide +kernel)) (hts (.initialized "java/lang/IllegalStateException") (by decide +kernel)) hstr (vx_hat (fun w hw => hts w (List.mem_cons_of_mem _ (List.mem_append_right _ hw))) (B := zB "java/lang/IllegalStateException") (by decide +kernel) (zB_ok hL (by decide +kernel))) (by decide +kernel) hZ.1 hZ.2 hS (hl.1.trans hml.symm) dX0_add_9 dX0_add_12 dX0_add_13 dX0_add_15 dX0_add_18 (fun x hx => (ht x hx).elim) (Nat.le_of_ble_eq_true rfl) (Nat.le_of_ble_eq_true rfl) (Nat.le_refl _) (Nat.le_refl _) hlocks (zx_end hS) hS.2.2 (Nat.le_refl _) (Nat.le_refl _)

set_option maxHeartbeats 4000000 in
set_option maxRecDepth 100000 in
theorem t_X2_add (l : Launch) (hst : l.stackTraces = false) (D : va_G) (cI : ClassId) (a : Nat → Nat) (σ : zS) (v1 v2 v3 v4 : Int32) {nb ns h : Nat} (hC : zC σ nb ns h) (h10 : ns = 10) : zTI l yX2_add wsX2_add ({ frames := 6, cells := 1, slots := 6, locals := 82 }) [.ref (a 2), .int v1, .int v2, .int v3, .int v4] D [(cI, .int)] (zw_H cI a σ) "java/lang/IllegalStateException" := by
  intro sz
  refine vx_ofW (cc := cX2_add) (maxL := 6) (ret := (some .int)) (by decide) rfl ?_
  intro p e s m args below meth c s₁ B hml ht hv
  obtain ⟨rfl, ⟨hsz, hP, hK, hD⟩, hL, hZ⟩ := hv
  have hx := B.exec
  have hb := B.bytes
  have hr := B.returns
  have hts := atoms_spec (ws := wsX2_add) B.pre
  have hown : s.vm.findClass RX2 = some m.cls := findClass_of_methodNamed B.named
  have hlocks := B.notSynchronized
  have hS : va_S (fun _ => False) s.heap s.heap [] := va_S.rf
  have hP : va_P D vwCl (zw_H cI a σ) s.heap := hP
  have hl := lv_entry ([.ref (a 2), .int v1, .int v2, .int v3, .int v4]) (n := 6) (Nat.le_of_ble_eq_true rfl)
  rw [lg_entry_eq]
  generalize (lg_sl ([.ref (a 2), .int v1, .int v2, .int v3, .int v4]) ++ List.replicate (6 - (lg_sl ([.ref (a 2), .int v1, .int v2, .int v3, .int v4])).length) Slot.unset).toArray = ls at hl ⊢
  have hl : lv_has ls 6 [(0, .ref (a 2)), (1, .int v1), (2, .int v2), (3, .int v3), (4, .int v4)] := hl
  have hf7 := hts (.fieldLink RX2 7 "HotBeds$Sailors" "size" "I") (by decide +kernel)
  have hinX2 : ∀ w ∈ u_ws RX2 TX2 13, w ∈ wsX2_add := by decide +kernel
  refine lv_aload_n hx hb dX2_add_0 rfl (lv_at hl 0 rfl) ?_
  refine va_get (D := D) (ci := 2) (v := .int (nI ns)) (C := RX2) (T := TX2) (N := 13) hx hb hts hinX2 hown hK hP 2 rfl rfl 0 (by decide) hf7 (fun _ h9 => h9) (congrArg (fun z => some (Value.int z)) hC.2.2.1) dX2_add_1 ?_
  refine lv_bipush (v := 10) hx hb dX2_add_4 (by decide) ?_
  refine lv_icmp_lt (tgt := 19) hx hb dX2_add_6 (by decide) (fun c => absurd c (by rw [h10]; decide)) (fun _ => ?_)
  obtain ⟨sa, hstr⟩ := hL.2.2.2.1 (RX2, 52, "there are 10 sailors") (by decide +kernel)
  exact vx_throwS (names := ["java/lang/RuntimeException", "java/lang/Exception"]) hx hb hst hown (by decide +kernel) (by decide +kernel) (hts (.classLink RX2 50 "java/lang/IllegalStateException") (by decide +kernel)) (hts (.initialized "java/lang/IllegalStateException") (by decide +kernel)) hstr (vx_hat (fun w hw => hts w (List.mem_cons_of_mem _ (List.mem_append_right _ hw))) (B := zB "java/lang/IllegalStateException") (by decide +kernel) (zB_ok hL (by decide +kernel))) (by decide +kernel) hZ.1 hZ.2 hS (hl.1.trans hml.symm) dX2_add_9 dX2_add_12 dX2_add_13 dX2_add_15 dX2_add_18 (fun x hx => (ht x hx).elim) (Nat.le_of_ble_eq_true rfl) (Nat.le_of_ble_eq_true rfl) (Nat.le_refl _) (Nat.le_refl _) hlocks (zx_end hS) hS.2.2 (Nat.le_refl _) (Nat.le_refl _)
end
