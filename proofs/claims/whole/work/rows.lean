section
-- ===== PART A: goes FIRST, ahead of the names: the tables' words, and 'selects' of the private methods out of them =====
/-- a private method of a class that the tables say can be made, by its rows of tables_1 -/
def lw_okq (q : MethodName × Nat) : Prop := (q.1.cls ≠ "java/lang/invoke/MethodHandle" ∧ q.1.cls ≠ "java/lang/invoke/VarHandle") ∧ Cond.instantiable q.1.cls q.2 ∈ tables_1 ∧ Cond.privateMethod q.1 ∈ tables_1 ∧ Cond.instanceMethod q.1 ∈ tables_1
theorem lw_p0 : lw_okq (⟨"WishLamp", "isThing", "(I)Z"⟩, 10) := ⟨⟨by decide +kernel, by decide +kernel⟩, List.mem_of_getElem? (i := 13) (by decide +kernel), List.mem_of_getElem? (i := 290) (by decide +kernel), List.mem_of_getElem? (i := 291) (by decide +kernel)⟩
theorem lw_p1 : lw_okq (⟨"WishLamp", "isWorld", "(I)Z"⟩, 10) := ⟨⟨by decide +kernel, by decide +kernel⟩, List.mem_of_getElem? (i := 13) (by decide +kernel), List.mem_of_getElem? (i := 306) (by decide +kernel), List.mem_of_getElem? (i := 307) (by decide +kernel)⟩
theorem lw_p2 : lw_okq (⟨"WishLamp", "isFaulty", "()Z"⟩, 10) := ⟨⟨by decide +kernel, by decide +kernel⟩, List.mem_of_getElem? (i := 13) (by decide +kernel), List.mem_of_getElem? (i := 352) (by decide +kernel), List.mem_of_getElem? (i := 353) (by decide +kernel)⟩
theorem lw_p3 : lw_okq (⟨"WishLamp$Clause", "isSoAt", "(II)Z"⟩, 3) := ⟨⟨by decide +kernel, by decide +kernel⟩, List.mem_of_getElem? (i := 106) (by decide +kernel), List.mem_of_getElem? (i := 364) (by decide +kernel), List.mem_of_getElem? (i := 365) (by decide +kernel)⟩
theorem lw_p4 : lw_okq (⟨"WishLamp", "wishWorlds", "()J"⟩, 10) := ⟨⟨by decide +kernel, by decide +kernel⟩, List.mem_of_getElem? (i := 13) (by decide +kernel), List.mem_of_getElem? (i := 377) (by decide +kernel), List.mem_of_getElem? (i := 378) (by decide +kernel)⟩
theorem lw_p5 : lw_okq (⟨"WishLamp", "wishOutcome", "()I"⟩, 10) := ⟨⟨by decide +kernel, by decide +kernel⟩, List.mem_of_getElem? (i := 13) (by decide +kernel), List.mem_of_getElem? (i := 408) (by decide +kernel), List.mem_of_getElem? (i := 409) (by decide +kernel)⟩
theorem lw_p6 : lw_okq (⟨"WishLamp", "refusalOf", "(ZZ)I"⟩, 10) := ⟨⟨by decide +kernel, by decide +kernel⟩, List.mem_of_getElem? (i := 13) (by decide +kernel), List.mem_of_getElem? (i := 437) (by decide +kernel), List.mem_of_getElem? (i := 438) (by decide +kernel)⟩
theorem lw_p7 : lw_okq (⟨"WishLamp", "gainOf", "(II)I"⟩, 10) := ⟨⟨by decide +kernel, by decide +kernel⟩, List.mem_of_getElem? (i := 13) (by decide +kernel), List.mem_of_getElem? (i := 447) (by decide +kernel), List.mem_of_getElem? (i := 448) (by decide +kernel)⟩
theorem lw_p8 : lw_okq (⟨"WishLamp", "tryPlace", "(IJ)V"⟩, 10) := ⟨⟨by decide +kernel, by decide +kernel⟩, List.mem_of_getElem? (i := 13) (by decide +kernel), List.mem_of_getElem? (i := 472) (by decide +kernel), List.mem_of_getElem? (i := 473) (by decide +kernel)⟩
theorem lw_p9 : lw_okq (⟨"WishLamp", "tryChange", "(IIJ)V"⟩, 10) := ⟨⟨by decide +kernel, by decide +kernel⟩, List.mem_of_getElem? (i := 13) (by decide +kernel), List.mem_of_getElem? (i := 476) (by decide +kernel), List.mem_of_getElem? (i := 477) (by decide +kernel)⟩
theorem lw_p10 : lw_okq (⟨"WishLamp", "signPut", "(II)I"⟩, 10) := ⟨⟨by decide +kernel, by decide +kernel⟩, List.mem_of_getElem? (i := 13) (by decide +kernel), List.mem_of_getElem? (i := 480) (by decide +kernel), List.mem_of_getElem? (i := 481) (by decide +kernel)⟩
theorem lw_p11 : lw_okq (⟨"WishLamp$Spirit", "termWorlds", "(II)J"⟩, 4) := ⟨⟨by decide +kernel, by decide +kernel⟩, List.mem_of_getElem? (i := 150) (by decide +kernel), List.mem_of_getElem? (i := 502) (by decide +kernel), List.mem_of_getElem? (i := 503) (by decide +kernel)⟩
theorem lw_p12 : lw_okq (⟨"WishLamp$Draw", "listStirs", "(I)V"⟩, 8) := ⟨⟨by decide +kernel, by decide +kernel⟩, List.mem_of_getElem? (i := 170) (by decide +kernel), List.mem_of_getElem? (i := 546) (by decide +kernel), List.mem_of_getElem? (i := 547) (by decide +kernel)⟩
theorem lw_p13 : lw_okq (⟨"WishLamp$Draw", "drawUpSaying", "(I[II)V"⟩, 8) := ⟨⟨by decide +kernel, by decide +kernel⟩, List.mem_of_getElem? (i := 170) (by decide +kernel), List.mem_of_getElem? (i := 550) (by decide +kernel), List.mem_of_getElem? (i := 551) (by decide +kernel)⟩
theorem lw_p14 : lw_okq (⟨"WishLamp$Draw", "worstNear", "(I[I)I"⟩, 8) := ⟨⟨by decide +kernel, by decide +kernel⟩, List.mem_of_getElem? (i := 170) (by decide +kernel), List.mem_of_getElem? (i := 554) (by decide +kernel), List.mem_of_getElem? (i := 555) (by decide +kernel)⟩
theorem lw_p15 : lw_okq (⟨"WishLamp$Draw", "takePart", "(II[I)V"⟩, 8) := ⟨⟨by decide +kernel, by decide +kernel⟩, List.mem_of_getElem? (i := 170) (by decide +kernel), List.mem_of_getElem? (i := 565) (by decide +kernel), List.mem_of_getElem? (i := 566) (by decide +kernel)⟩
def lw_privs_1 : List (MethodName × Nat) := [(⟨"WishLamp", "isThing", "(I)Z"⟩, 10), (⟨"WishLamp", "isWorld", "(I)Z"⟩, 10), (⟨"WishLamp", "isFaulty", "()Z"⟩, 10), (⟨"WishLamp$Clause", "isSoAt", "(II)Z"⟩, 3), (⟨"WishLamp", "wishWorlds", "()J"⟩, 10), (⟨"WishLamp", "wishOutcome", "()I"⟩, 10), (⟨"WishLamp", "refusalOf", "(ZZ)I"⟩, 10), (⟨"WishLamp", "gainOf", "(II)I"⟩, 10), (⟨"WishLamp", "tryPlace", "(IJ)V"⟩, 10), (⟨"WishLamp", "tryChange", "(IIJ)V"⟩, 10), (⟨"WishLamp", "signPut", "(II)I"⟩, 10), (⟨"WishLamp$Spirit", "termWorlds", "(II)J"⟩, 4), (⟨"WishLamp$Draw", "listStirs", "(I)V"⟩, 8), (⟨"WishLamp$Draw", "drawUpSaying", "(I[II)V"⟩, 8), (⟨"WishLamp$Draw", "worstNear", "(I[I)I"⟩, 8), (⟨"WishLamp$Draw", "takePart", "(II[I)V"⟩, 8)]
theorem lw_r1 : ∀ q ∈ lw_privs_1, lw_okq q := List.forall_mem_cons.mpr ⟨lw_p0, List.forall_mem_cons.mpr ⟨lw_p1, List.forall_mem_cons.mpr ⟨lw_p2, List.forall_mem_cons.mpr ⟨lw_p3, List.forall_mem_cons.mpr ⟨lw_p4, List.forall_mem_cons.mpr ⟨lw_p5, List.forall_mem_cons.mpr ⟨lw_p6, List.forall_mem_cons.mpr ⟨lw_p7, List.forall_mem_cons.mpr ⟨lw_p8, List.forall_mem_cons.mpr ⟨lw_p9, List.forall_mem_cons.mpr ⟨lw_p10, List.forall_mem_cons.mpr ⟨lw_p11, List.forall_mem_cons.mpr ⟨lw_p12, List.forall_mem_cons.mpr ⟨lw_p13, List.forall_mem_cons.mpr ⟨lw_p14, List.forall_mem_cons.mpr ⟨lw_p15, fun _ h => absurd h List.not_mem_nil⟩⟩⟩⟩⟩⟩⟩⟩⟩⟩⟩⟩⟩⟩⟩⟩
theorem lw_p16 : lw_okq (⟨"WishLamp", "follow", "([I)V"⟩, 10) := ⟨⟨by decide +kernel, by decide +kernel⟩, List.mem_of_getElem? (i := 13) (by decide +kernel), List.mem_of_getElem? (i := 570) (by decide +kernel), List.mem_of_getElem? (i := 571) (by decide +kernel)⟩
theorem lw_p17 : lw_okq (⟨"WishLamp", "firstOfRow", "(II)I"⟩, 10) := ⟨⟨by decide +kernel, by decide +kernel⟩, List.mem_of_getElem? (i := 13) (by decide +kernel), List.mem_of_getElem? (i := 574) (by decide +kernel), List.mem_of_getElem? (i := 575) (by decide +kernel)⟩
theorem lw_p18 : lw_okq (⟨"WishLamp", "votesFor", "(I)I"⟩, 10) := ⟨⟨by decide +kernel, by decide +kernel⟩, List.mem_of_getElem? (i := 13) (by decide +kernel), List.mem_of_getElem? (i := 593) (by decide +kernel), List.mem_of_getElem? (i := 594) (by decide +kernel)⟩
theorem lw_p19 : lw_okq (⟨"WishLamp", "fillMerits", "()V"⟩, 10) := ⟨⟨by decide +kernel, by decide +kernel⟩, List.mem_of_getElem? (i := 13) (by decide +kernel), List.mem_of_getElem? (i := 601) (by decide +kernel), List.mem_of_getElem? (i := 602) (by decide +kernel)⟩
theorem lw_p20 : lw_okq (⟨"WishLamp", "toldPlain", "(I)I"⟩, 10) := ⟨⟨by decide +kernel, by decide +kernel⟩, List.mem_of_getElem? (i := 13) (by decide +kernel), List.mem_of_getElem? (i := 687) (by decide +kernel), List.mem_of_getElem? (i := 688) (by decide +kernel)⟩
theorem lw_p21 : lw_okq (⟨"WishLampModel", "plain", "()V"⟩, 29) := ⟨⟨by decide +kernel, by decide +kernel⟩, List.mem_of_getElem? (i := 691) (by decide +kernel), List.mem_of_getElem? (i := 697) (by decide +kernel), List.mem_of_getElem? (i := 698) (by decide +kernel)⟩
theorem lw_p22 : lw_okq (⟨"WishLampModel", "all", "()J"⟩, 29) := ⟨⟨by decide +kernel, by decide +kernel⟩, List.mem_of_getElem? (i := 691) (by decide +kernel), List.mem_of_getElem? (i := 701) (by decide +kernel), List.mem_of_getElem? (i := 702) (by decide +kernel)⟩
theorem lw_p23 : lw_okq (⟨"WishLampModel", "worlds", "()I"⟩, 29) := ⟨⟨by decide +kernel, by decide +kernel⟩, List.mem_of_getElem? (i := 691) (by decide +kernel), List.mem_of_getElem? (i := 706) (by decide +kernel), List.mem_of_getElem? (i := 707) (by decide +kernel)⟩
theorem lw_p24 : lw_okq (⟨"WishLampModel", "isThing", "(I)Z"⟩, 29) := ⟨⟨by decide +kernel, by decide +kernel⟩, List.mem_of_getElem? (i := 691) (by decide +kernel), List.mem_of_getElem? (i := 813) (by decide +kernel), List.mem_of_getElem? (i := 814) (by decide +kernel)⟩
theorem lw_p25 : lw_okq (⟨"WishLampModel", "isWorld", "(I)Z"⟩, 29) := ⟨⟨by decide +kernel, by decide +kernel⟩, List.mem_of_getElem? (i := 691) (by decide +kernel), List.mem_of_getElem? (i := 829) (by decide +kernel), List.mem_of_getElem? (i := 830) (by decide +kernel)⟩
theorem lw_p26 : lw_okq (⟨"WishLampModel", "worthTo", "(II)I"⟩, 29) := ⟨⟨by decide +kernel, by decide +kernel⟩, List.mem_of_getElem? (i := 691) (by decide +kernel), List.mem_of_getElem? (i := 837) (by decide +kernel), List.mem_of_getElem? (i := 838) (by decide +kernel)⟩
theorem lw_p27 : lw_okq (⟨"WishLampModel", "faultOf", "()I"⟩, 29) := ⟨⟨by decide +kernel, by decide +kernel⟩, List.mem_of_getElem? (i := 691) (by decide +kernel), List.mem_of_getElem? (i := 856) (by decide +kernel), List.mem_of_getElem? (i := 857) (by decide +kernel)⟩
theorem lw_p28 : lw_okq (⟨"WishLampModel", "isLetter", "(I)Z"⟩, 29) := ⟨⟨by decide +kernel, by decide +kernel⟩, List.mem_of_getElem? (i := 691) (by decide +kernel), List.mem_of_getElem? (i := 860) (by decide +kernel), List.mem_of_getElem? (i := 861) (by decide +kernel)⟩
theorem lw_p29 : lw_okq (⟨"WishLampModel", "layPad", "()V"⟩, 29) := ⟨⟨by decide +kernel, by decide +kernel⟩, List.mem_of_getElem? (i := 691) (by decide +kernel), List.mem_of_getElem? (i := 871) (by decide +kernel), List.mem_of_getElem? (i := 872) (by decide +kernel)⟩
theorem lw_p30 : lw_okq (⟨"WishLampModel", "isSo", "(II)Z"⟩, 29) := ⟨⟨by decide +kernel, by decide +kernel⟩, List.mem_of_getElem? (i := 691) (by decide +kernel), List.mem_of_getElem? (i := 875) (by decide +kernel), List.mem_of_getElem? (i := 876) (by decide +kernel)⟩
theorem lw_p31 : lw_okq (⟨"WishLampModel", "pairOf", "(IZZ)Z"⟩, 29) := ⟨⟨by decide +kernel, by decide +kernel⟩, List.mem_of_getElem? (i := 691) (by decide +kernel), List.mem_of_getElem? (i := 879) (by decide +kernel), List.mem_of_getElem? (i := 880) (by decide +kernel)⟩
def lw_privs_2 : List (MethodName × Nat) := [(⟨"WishLamp", "follow", "([I)V"⟩, 10), (⟨"WishLamp", "firstOfRow", "(II)I"⟩, 10), (⟨"WishLamp", "votesFor", "(I)I"⟩, 10), (⟨"WishLamp", "fillMerits", "()V"⟩, 10), (⟨"WishLamp", "toldPlain", "(I)I"⟩, 10), (⟨"WishLampModel", "plain", "()V"⟩, 29), (⟨"WishLampModel", "all", "()J"⟩, 29), (⟨"WishLampModel", "worlds", "()I"⟩, 29), (⟨"WishLampModel", "isThing", "(I)Z"⟩, 29), (⟨"WishLampModel", "isWorld", "(I)Z"⟩, 29), (⟨"WishLampModel", "worthTo", "(II)I"⟩, 29), (⟨"WishLampModel", "faultOf", "()I"⟩, 29), (⟨"WishLampModel", "isLetter", "(I)Z"⟩, 29), (⟨"WishLampModel", "layPad", "()V"⟩, 29), (⟨"WishLampModel", "isSo", "(II)Z"⟩, 29), (⟨"WishLampModel", "pairOf", "(IZZ)Z"⟩, 29)]
theorem lw_r2 : ∀ q ∈ lw_privs_2, lw_okq q := List.forall_mem_cons.mpr ⟨lw_p16, List.forall_mem_cons.mpr ⟨lw_p17, List.forall_mem_cons.mpr ⟨lw_p18, List.forall_mem_cons.mpr ⟨lw_p19, List.forall_mem_cons.mpr ⟨lw_p20, List.forall_mem_cons.mpr ⟨lw_p21, List.forall_mem_cons.mpr ⟨lw_p22, List.forall_mem_cons.mpr ⟨lw_p23, List.forall_mem_cons.mpr ⟨lw_p24, List.forall_mem_cons.mpr ⟨lw_p25, List.forall_mem_cons.mpr ⟨lw_p26, List.forall_mem_cons.mpr ⟨lw_p27, List.forall_mem_cons.mpr ⟨lw_p28, List.forall_mem_cons.mpr ⟨lw_p29, List.forall_mem_cons.mpr ⟨lw_p30, List.forall_mem_cons.mpr ⟨lw_p31, fun _ h => absurd h List.not_mem_nil⟩⟩⟩⟩⟩⟩⟩⟩⟩⟩⟩⟩⟩⟩⟩⟩
theorem lw_p32 : lw_okq (⟨"WishLampModel", "keeping", "(I)J"⟩, 29) := ⟨⟨by decide +kernel, by decide +kernel⟩, List.mem_of_getElem? (i := 691) (by decide +kernel), List.mem_of_getElem? (i := 887) (by decide +kernel), List.mem_of_getElem? (i := 888) (by decide +kernel)⟩
theorem lw_p33 : lw_okq (⟨"WishLampModel", "saidOf", "()I"⟩, 29) := ⟨⟨by decide +kernel, by decide +kernel⟩, List.mem_of_getElem? (i := 691) (by decide +kernel), List.mem_of_getElem? (i := 891) (by decide +kernel), List.mem_of_getElem? (i := 892) (by decide +kernel)⟩
theorem lw_p34 : lw_okq (⟨"WishLampModel", "count", "(J)I"⟩, 29) := ⟨⟨by decide +kernel, by decide +kernel⟩, List.mem_of_getElem? (i := 691) (by decide +kernel), List.mem_of_getElem? (i := 901) (by decide +kernel), List.mem_of_getElem? (i := 902) (by decide +kernel)⟩
theorem lw_p35 : lw_okq (⟨"WishLampModel", "made", "()I"⟩, 29) := ⟨⟨by decide +kernel, by decide +kernel⟩, List.mem_of_getElem? (i := 691) (by decide +kernel), List.mem_of_getElem? (i := 909) (by decide +kernel), List.mem_of_getElem? (i := 910) (by decide +kernel)⟩
theorem lw_p36 : lw_okq (⟨"WishLampModel", "madeOf", "(JI)I"⟩, 29) := ⟨⟨by decide +kernel, by decide +kernel⟩, List.mem_of_getElem? (i := 691) (by decide +kernel), List.mem_of_getElem? (i := 913) (by decide +kernel), List.mem_of_getElem? (i := 914) (by decide +kernel)⟩
theorem lw_p37 : lw_okq (⟨"WishLampModel", "likes", "(II)I"⟩, 29) := ⟨⟨by decide +kernel, by decide +kernel⟩, List.mem_of_getElem? (i := 691) (by decide +kernel), List.mem_of_getElem? (i := 917) (by decide +kernel), List.mem_of_getElem? (i := 918) (by decide +kernel)⟩
theorem lw_p38 : lw_okq (⟨"WishLampModel", "tasteOf", "(I)I"⟩, 29) := ⟨⟨by decide +kernel, by decide +kernel⟩, List.mem_of_getElem? (i := 691) (by decide +kernel), List.mem_of_getElem? (i := 921) (by decide +kernel), List.mem_of_getElem? (i := 922) (by decide +kernel)⟩
theorem lw_p39 : lw_okq (⟨"WishLampModel", "terms", "()I"⟩, 29) := ⟨⟨by decide +kernel, by decide +kernel⟩, List.mem_of_getElem? (i := 691) (by decide +kernel), List.mem_of_getElem? (i := 952) (by decide +kernel), List.mem_of_getElem? (i := 953) (by decide +kernel)⟩
theorem lw_p40 : lw_okq (⟨"WishLampModel", "madeOfTerm", "(II)I"⟩, 29) := ⟨⟨by decide +kernel, by decide +kernel⟩, List.mem_of_getElem? (i := 691) (by decide +kernel), List.mem_of_getElem? (i := 956) (by decide +kernel), List.mem_of_getElem? (i := 957) (by decide +kernel)⟩
theorem lw_p41 : lw_okq (⟨"WishLampModel", "keepingTerm", "(II)J"⟩, 29) := ⟨⟨by decide +kernel, by decide +kernel⟩, List.mem_of_getElem? (i := 691) (by decide +kernel), List.mem_of_getElem? (i := 960) (by decide +kernel), List.mem_of_getElem? (i := 961) (by decide +kernel)⟩
theorem lw_p42 : lw_okq (⟨"WishLampModel", "layTerm", "(I)V"⟩, 29) := ⟨⟨by decide +kernel, by decide +kernel⟩, List.mem_of_getElem? (i := 691) (by decide +kernel), List.mem_of_getElem? (i := 964) (by decide +kernel), List.mem_of_getElem? (i := 965) (by decide +kernel)⟩
theorem lw_p43 : lw_okq (⟨"WishLampModel", "keepsTerm", "(II)Z"⟩, 29) := ⟨⟨by decide +kernel, by decide +kernel⟩, List.mem_of_getElem? (i := 691) (by decide +kernel), List.mem_of_getElem? (i := 968) (by decide +kernel), List.mem_of_getElem? (i := 969) (by decide +kernel)⟩
theorem lw_p44 : lw_okq (⟨"WishLampModel", "words", "(I)I"⟩, 29) := ⟨⟨by decide +kernel, by decide +kernel⟩, List.mem_of_getElem? (i := 691) (by decide +kernel), List.mem_of_getElem? (i := 976) (by decide +kernel), List.mem_of_getElem? (i := 977) (by decide +kernel)⟩
theorem lw_p45 : lw_okq (⟨"WishLampModel", "digitOf", "(II)I"⟩, 29) := ⟨⟨by decide +kernel, by decide +kernel⟩, List.mem_of_getElem? (i := 691) (by decide +kernel), List.mem_of_getElem? (i := 980) (by decide +kernel), List.mem_of_getElem? (i := 981) (by decide +kernel)⟩
theorem lw_p46 : lw_okq (⟨"WishLampModel", "layAhead", "(I)V"⟩, 29) := ⟨⟨by decide +kernel, by decide +kernel⟩, List.mem_of_getElem? (i := 691) (by decide +kernel), List.mem_of_getElem? (i := 992) (by decide +kernel), List.mem_of_getElem? (i := 993) (by decide +kernel)⟩
theorem lw_p47 : lw_okq (⟨"WishLampModel", "bestFrom", "(II)I"⟩, 29) := ⟨⟨by decide +kernel, by decide +kernel⟩, List.mem_of_getElem? (i := 691) (by decide +kernel), List.mem_of_getElem? (i := 996) (by decide +kernel), List.mem_of_getElem? (i := 997) (by decide +kernel)⟩
def lw_privs_3 : List (MethodName × Nat) := [(⟨"WishLampModel", "keeping", "(I)J"⟩, 29), (⟨"WishLampModel", "saidOf", "()I"⟩, 29), (⟨"WishLampModel", "count", "(J)I"⟩, 29), (⟨"WishLampModel", "made", "()I"⟩, 29), (⟨"WishLampModel", "madeOf", "(JI)I"⟩, 29), (⟨"WishLampModel", "likes", "(II)I"⟩, 29), (⟨"WishLampModel", "tasteOf", "(I)I"⟩, 29), (⟨"WishLampModel", "terms", "()I"⟩, 29), (⟨"WishLampModel", "madeOfTerm", "(II)I"⟩, 29), (⟨"WishLampModel", "keepingTerm", "(II)J"⟩, 29), (⟨"WishLampModel", "layTerm", "(I)V"⟩, 29), (⟨"WishLampModel", "keepsTerm", "(II)Z"⟩, 29), (⟨"WishLampModel", "words", "(I)I"⟩, 29), (⟨"WishLampModel", "digitOf", "(II)I"⟩, 29), (⟨"WishLampModel", "layAhead", "(I)V"⟩, 29), (⟨"WishLampModel", "bestFrom", "(II)I"⟩, 29)]
theorem lw_r3 : ∀ q ∈ lw_privs_3, lw_okq q := List.forall_mem_cons.mpr ⟨lw_p32, List.forall_mem_cons.mpr ⟨lw_p33, List.forall_mem_cons.mpr ⟨lw_p34, List.forall_mem_cons.mpr ⟨lw_p35, List.forall_mem_cons.mpr ⟨lw_p36, List.forall_mem_cons.mpr ⟨lw_p37, List.forall_mem_cons.mpr ⟨lw_p38, List.forall_mem_cons.mpr ⟨lw_p39, List.forall_mem_cons.mpr ⟨lw_p40, List.forall_mem_cons.mpr ⟨lw_p41, List.forall_mem_cons.mpr ⟨lw_p42, List.forall_mem_cons.mpr ⟨lw_p43, List.forall_mem_cons.mpr ⟨lw_p44, List.forall_mem_cons.mpr ⟨lw_p45, List.forall_mem_cons.mpr ⟨lw_p46, List.forall_mem_cons.mpr ⟨lw_p47, fun _ h => absurd h List.not_mem_nil⟩⟩⟩⟩⟩⟩⟩⟩⟩⟩⟩⟩⟩⟩⟩⟩
theorem lw_p48 : lw_okq (⟨"WishLampModel", "votesFor", "(I)I"⟩, 29) := ⟨⟨by decide +kernel, by decide +kernel⟩, List.mem_of_getElem? (i := 691) (by decide +kernel), List.mem_of_getElem? (i := 1013) (by decide +kernel), List.mem_of_getElem? (i := 1014) (by decide +kernel)⟩
theorem lw_p49 : lw_okq (⟨"WishLampModel", "worthToAll", "(I)I"⟩, 29) := ⟨⟨by decide +kernel, by decide +kernel⟩, List.mem_of_getElem? (i := 691) (by decide +kernel), List.mem_of_getElem? (i := 1022) (by decide +kernel), List.mem_of_getElem? (i := 1023) (by decide +kernel)⟩
theorem lw_p50 : lw_okq (⟨"WishLampModel", "isTaste", "(I)Z"⟩, 29) := ⟨⟨by decide +kernel, by decide +kernel⟩, List.mem_of_getElem? (i := 691) (by decide +kernel), List.mem_of_getElem? (i := 1038) (by decide +kernel), List.mem_of_getElem? (i := 1039) (by decide +kernel)⟩
theorem lw_p51 : lw_okq (⟨"WishLampModel", "tasteBy", "(II)I"⟩, 29) := ⟨⟨by decide +kernel, by decide +kernel⟩, List.mem_of_getElem? (i := 691) (by decide +kernel), List.mem_of_getElem? (i := 1042) (by decide +kernel), List.mem_of_getElem? (i := 1043) (by decide +kernel)⟩
def lw_privs_4 : List (MethodName × Nat) := [(⟨"WishLampModel", "votesFor", "(I)I"⟩, 29), (⟨"WishLampModel", "worthToAll", "(I)I"⟩, 29), (⟨"WishLampModel", "isTaste", "(I)Z"⟩, 29), (⟨"WishLampModel", "tasteBy", "(II)I"⟩, 29)]
theorem lw_r4 : ∀ q ∈ lw_privs_4, lw_okq q := List.forall_mem_cons.mpr ⟨lw_p48, List.forall_mem_cons.mpr ⟨lw_p49, List.forall_mem_cons.mpr ⟨lw_p50, List.forall_mem_cons.mpr ⟨lw_p51, fun _ h => absurd h List.not_mem_nil⟩⟩⟩⟩
def lw_privs : List (MethodName × Nat) := lw_privs_1 ++ (lw_privs_2 ++ (lw_privs_3 ++ (lw_privs_4)))
def lw_tbl : List Cond := k2_sels lw_privs ++ tables_1
theorem lw_privs_ok : ∀ q ∈ lw_privs, lw_okq q := by
  show ∀ q ∈ lw_privs_1 ++ (lw_privs_2 ++ (lw_privs_3 ++ (lw_privs_4))), lw_okq q
  exact List.forall_mem_append.mpr ⟨lw_r1, List.forall_mem_append.mpr ⟨lw_r2, List.forall_mem_append.mpr ⟨lw_r3, lw_r4⟩⟩⟩
def RX0 : String := "WishLamp$Best"
def TX0 : u_T := fun k => match k with
  | 0 => ("WishLamp$Best", "found", "Z", false)
  | 1 => ("WishLamp$Best", "value", "I", false)
  | _ => ("WishLamp$Best", "rank", "I", false)
def tyX0 : Nat → FieldType := fun k => match k with
  | 0 => .boolean
  | 1 => .int
  | _ => .int
abbrev wsX00 : List Cond := u_ws RX0 TX0 3
theorem nmX0 : ∀ a, a < 3 → ∀ b, b < 3 → a ≠ b → (TX0 a).2.1 ≠ (TX0 b).2.1 := by decide +kernel
theorem tyX0_ok : ∀ k, k < 3 → parseFieldDescriptor (TX0 k).2.2.1 = some (tyX0 k) := by decide +kernel
abbrev cX0_init : ByteArray := prog_2_method_1_code
def yX0_init : MethodName := ⟨RX0, "<init>", "()V"⟩
abbrev cX0_clear : ByteArray := prog_2_method_2_code
def yX0_clear : MethodName := ⟨RX0, "clear", "()V"⟩
abbrev cX0_offer : ByteArray := prog_2_method_3_code
def yX0_offer : MethodName := ⟨RX0, "offer", "(II)V"⟩
def RX1 : String := "WishLamp$Clause"
def TX1 : u_T := fun k => match k with
  | 0 => ("WishLamp$Clause", "signs", "[I", true)
  | 1 => ("WishLamp$Clause", "count", "I", false)
  | _ => ("WishLamp$Clause", "parts", "[J", true)
def tyX1 : Nat → FieldType := fun k => match k with
  | 0 => .array .int
  | 1 => .int
  | _ => .array .long
abbrev wsX10 : List Cond := u_ws RX1 TX1 3
theorem nmX1 : ∀ a, a < 3 → ∀ b, b < 3 → a ≠ b → (TX1 a).2.1 ≠ (TX1 b).2.1 := by decide +kernel
theorem tyX1_ok : ∀ k, k < 3 → parseFieldDescriptor (TX1 k).2.2.1 = some (tyX1 k) := by decide +kernel
abbrev cX1_init : ByteArray := prog_3_method_1_code
def yX1_init : MethodName := ⟨RX1, "<init>", "()V"⟩
abbrev cX1_write : ByteArray := prog_3_method_2_code
def yX1_write : MethodName := ⟨RX1, "write", "(I)Z"⟩
abbrev cX1_clear : ByteArray := prog_3_method_3_code
def yX1_clear : MethodName := ⟨RX1, "clear", "()I"⟩
abbrev cX1_copyChanged : ByteArray := prog_3_method_4_code
def yX1_copyChanged : MethodName := ⟨RX1, "copyChanged", "(LWishLamp$Clause;II)V"⟩
abbrev cX1_firstFault : ByteArray := prog_3_method_5_code
def yX1_firstFault : MethodName := ⟨RX1, "firstFault", "(I)I"⟩
abbrev cX1_saidThings : ByteArray := prog_3_method_6_code
def yX1_saidThings : MethodName := ⟨RX1, "saidThings", "()I"⟩
abbrev cX1_worldsFrom : ByteArray := prog_3_method_7_code
def yX1_worldsFrom : MethodName := ⟨RX1, "worldsFrom", "(I)J"⟩
abbrev cX1_isSoAt : ByteArray := prog_3_method_8_code
def yX1_isSoAt : MethodName := ⟨RX1, "isSoAt", "(II)Z"⟩
abbrev cX1_leafWorlds : ByteArray := prog_3_method_9_code
def yX1_leafWorlds : MethodName := ⟨RX1, "leafWorlds", "(I)J"⟩
abbrev cX1_joined : ByteArray := prog_3_method_10_code
def yX1_joined : MethodName := ⟨RX1, "joined", "(IJJ)J"⟩
def RX2 : String := "WishLamp$Draw"
def TX2 : u_T := fun k => match k with
  | 0 => ("WishLamp$Draw", "state", "LWishLamp$State;", true)
  | 1 => ("WishLamp$Draw", "terms", "LWishLamp$Terms;", true)
  | 2 => ("WishLamp$Draw", "ranks", "[I", true)
  | 3 => ("WishLamp$Draw", "worlds", "[I", true)
  | 4 => ("WishLamp$Draw", "partRanks", "[I", true)
  | 5 => ("WishLamp$Draw", "partWorlds", "[I", true)
  | 6 => ("WishLamp$Draw", "stirs", "[I", true)
  | _ => ("WishLamp$Draw", "stirCount", "I", false)
def tyX2 : Nat → FieldType := fun k => match k with
  | 0 => .object "WishLamp$State"
  | 1 => .object "WishLamp$Terms"
  | 2 => .array .int
  | 3 => .array .int
  | 4 => .array .int
  | 5 => .array .int
  | 6 => .array .int
  | _ => .int
abbrev wsX20 : List Cond := u_ws RX2 TX2 8
theorem nmX2 : ∀ a, a < 8 → ∀ b, b < 8 → a ≠ b → (TX2 a).2.1 ≠ (TX2 b).2.1 := by decide +kernel
theorem tyX2_ok : ∀ k, k < 8 → parseFieldDescriptor (TX2 k).2.2.1 = some (tyX2 k) := by decide +kernel
abbrev cX2_init : ByteArray := prog_4_method_1_code
def yX2_init : MethodName := ⟨RX2, "<init>", "(LWishLamp$State;LWishLamp$Terms;)V"⟩
abbrev cX2_drawUp : ByteArray := prog_4_method_2_code
def yX2_drawUp : MethodName := ⟨RX2, "drawUp", "([III)V"⟩
abbrev cX2_listStirs : ByteArray := prog_4_method_3_code
def yX2_listStirs : MethodName := ⟨RX2, "listStirs", "(I)V"⟩
abbrev cX2_drawUpSaying : ByteArray := prog_4_method_4_code
def yX2_drawUpSaying : MethodName := ⟨RX2, "drawUpSaying", "(I[II)V"⟩
abbrev cX2_takePart : ByteArray := prog_4_method_5_code
def yX2_takePart : MethodName := ⟨RX2, "takePart", "(II[I)V"⟩
abbrev cX2_worstNear : ByteArray := prog_4_method_6_code
def yX2_worstNear : MethodName := ⟨RX2, "worstNear", "(I[I)I"⟩
abbrev cX2_isBetter : ByteArray := prog_4_method_7_code
def yX2_isBetter : MethodName := ⟨RX2, "isBetter", "(IIII)Z"⟩
def RX3 : String := "WishLamp$Spirit"
def TX3 : u_T := fun k => match k with
  | 0 => ("WishLamp$Spirit", "state", "LWishLamp$State;", true)
  | 1 => ("WishLamp$Spirit", "terms", "LWishLamp$Terms;", true)
  | 2 => ("WishLamp$Spirit", "worths", "[I", true)
  | _ => ("WishLamp$Spirit", "scores", "[I", true)
def tyX3 : Nat → FieldType := fun k => match k with
  | 0 => .object "WishLamp$State"
  | 1 => .object "WishLamp$Terms"
  | 2 => .array .int
  | _ => .array .int
abbrev wsX30 : List Cond := u_ws RX3 TX3 4
theorem nmX3 : ∀ a, a < 4 → ∀ b, b < 4 → a ≠ b → (TX3 a).2.1 ≠ (TX3 b).2.1 := by decide +kernel
theorem tyX3_ok : ∀ k, k < 4 → parseFieldDescriptor (TX3 k).2.2.1 = some (tyX3 k) := by decide +kernel
abbrev cX3_init : ByteArray := prog_5_method_1_code
def yX3_init : MethodName := ⟨RX3, "<init>", "(LWishLamp$State;LWishLamp$Terms;)V"⟩
abbrev cX3_ready : ByteArray := prog_5_method_2_code
def yX3_ready : MethodName := ⟨RX3, "ready", "()V"⟩
abbrev cX3_outcome : ByteArray := prog_5_method_3_code
def yX3_outcome : MethodName := ⟨RX3, "outcome", "(JI)I"⟩
abbrev cX3_ofTerm : ByteArray := prog_5_method_4_code
def yX3_ofTerm : MethodName := ⟨RX3, "ofTerm", "(II)I"⟩
abbrev cX3_didAll : ByteArray := prog_5_method_5_code
def yX3_didAll : MethodName := ⟨RX3, "didAll", "(I)Z"⟩
abbrev cX3_termWorlds : ByteArray := prog_5_method_6_code
def yX3_termWorlds : MethodName := ⟨RX3, "termWorlds", "(II)J"⟩
abbrev cX3_movedBy : ByteArray := prog_5_method_7_code
def yX3_movedBy : MethodName := ⟨RX3, "movedBy", "(JI)J"⟩
def RX4 : String := "WishLamp$State"
def TX4 : u_T := fun k => match k with
  | 0 => ("WishLamp$State", "things", "I", false)
  | 1 => ("WishLamp$State", "here", "I", false)
  | 2 => ("WishLamp$State", "way", "I", false)
  | 3 => ("WishLamp$State", "wisher", "I", false)
  | 4 => ("WishLamp$State", "still", "I", false)
  | 5 => ("WishLamp$State", "law", "J", false)
  | 6 => ("WishLamp$State", "worths", "[I", true)
  | 7 => ("WishLamp$State", "tastes", "[I", true)
  | 8 => ("WishLamp$State", "shares", "[I", true)
  | 9 => ("WishLamp$State", "past", "[I", true)
  | 10 => ("WishLamp$State", "pastCount", "I", false)
  | 11 => ("WishLamp$State", "fitting", "[J", true)
  | 12 => ("WishLamp$State", "pickedCount", "I", false)
  | 13 => ("WishLamp$State", "cameFrom", "[I", true)
  | 14 => ("WishLamp$State", "cameTo", "[I", true)
  | _ => ("WishLamp$State", "cameCount", "I", false)
def tyX4 : Nat → FieldType := fun k => match k with
  | 0 => .int
  | 1 => .int
  | 2 => .int
  | 3 => .int
  | 4 => .int
  | 5 => .long
  | 6 => .array .int
  | 7 => .array .int
  | 8 => .array .int
  | 9 => .array .int
  | 10 => .int
  | 11 => .array .long
  | 12 => .int
  | 13 => .array .int
  | 14 => .array .int
  | _ => .int
abbrev wsX40 : List Cond := u_ws RX4 TX4 16
theorem nmX4 : ∀ a, a < 16 → ∀ b, b < 16 → a ≠ b → (TX4 a).2.1 ≠ (TX4 b).2.1 := by decide +kernel
theorem tyX4_ok : ∀ k, k < 16 → parseFieldDescriptor (TX4 k).2.2.1 = some (tyX4 k) := by decide +kernel
abbrev cX4_init : ByteArray := prog_6_method_1_code
def yX4_init : MethodName := ⟨RX4, "<init>", "()V"⟩
abbrev cX4_begin : ByteArray := prog_6_method_2_code
def yX4_begin : MethodName := ⟨RX4, "begin", "(I)V"⟩
abbrev cX4_forgetSights : ByteArray := prog_6_method_3_code
def yX4_forgetSights : MethodName := ⟨RX4, "forgetSights", "()V"⟩
abbrev cX4_copyFrom : ByteArray := prog_6_method_4_code
def yX4_copyFrom : MethodName := ⟨RX4, "copyFrom", "(LWishLamp$State;)V"⟩
abbrev cX4_worldCount : ByteArray := prog_6_method_5_code
def yX4_worldCount : MethodName := ⟨RX4, "worldCount", "()I"⟩
abbrev cX4_allWorlds : ByteArray := prog_6_method_6_code
def yX4_allWorlds : MethodName := ⟨RX4, "allWorlds", "()J"⟩
abbrev cX4_worthTo : ByteArray := prog_6_method_7_code
def yX4_worthTo : MethodName := ⟨RX4, "worthTo", "(II)I"⟩
abbrev cX4_stillWorlds : ByteArray := prog_6_method_8_code
def yX4_stillWorlds : MethodName := ⟨RX4, "stillWorlds", "(II)J"⟩
abbrev cX4_remember : ByteArray := prog_6_method_9_code
def yX4_remember : MethodName := ⟨RX4, "remember", "(I)V"⟩
abbrev cX4_canFit : ByteArray := prog_6_method_10_code
def yX4_canFit : MethodName := ⟨RX4, "canFit", "(I)Z"⟩
abbrev cX4_ruleOut : ByteArray := prog_6_method_11_code
def yX4_ruleOut : MethodName := ⟨RX4, "ruleOut", "(I)V"⟩
def RX5 : String := "WishLamp$Terms"
def TX5 : u_T := fun k => match k with
  | 0 => ("WishLamp$Terms", "count", "I", false)
  | 1 => ("WishLamp$Terms", "said", "[I", true)
  | 2 => ("WishLamp$Terms", "so", "[I", true)
  | 3 => ("WishLamp$Terms", "worlds", "[J", true)
  | _ => ("WishLamp$Terms", "weights", "[I", true)
def tyX5 : Nat → FieldType := fun k => match k with
  | 0 => .int
  | 1 => .array .int
  | 2 => .array .int
  | 3 => .array .long
  | _ => .array .int
abbrev wsX50 : List Cond := u_ws RX5 TX5 5
theorem nmX5 : ∀ a, a < 5 → ∀ b, b < 5 → a ≠ b → (TX5 a).2.1 ≠ (TX5 b).2.1 := by decide +kernel
theorem tyX5_ok : ∀ k, k < 5 → parseFieldDescriptor (TX5 k).2.2.1 = some (tyX5 k) := by decide +kernel
abbrev cX5_init : ByteArray := prog_7_method_1_code
def yX5_init : MethodName := ⟨RX5, "<init>", "()V"⟩
abbrev cX5_listFor : ByteArray := prog_7_method_2_code
def yX5_listFor : MethodName := ⟨RX5, "listFor", "(I)V"⟩
abbrev cX5_digitOf : ByteArray := prog_7_method_3_code
def yX5_digitOf : MethodName := ⟨RX5, "digitOf", "(II)I"⟩
abbrev cX5_wordsOf : ByteArray := prog_7_method_4_code
def yX5_wordsOf : MethodName := ⟨RX5, "wordsOf", "(I)I"⟩
abbrev cX5_rankOf : ByteArray := prog_7_method_5_code
def yX5_rankOf : MethodName := ⟨RX5, "rankOf", "(I)I"⟩
abbrev cX5_rankFor : ByteArray := prog_7_method_6_code
def yX5_rankFor : MethodName := ⟨RX5, "rankFor", "(II)I"⟩
abbrev cX5_tasteTakes : ByteArray := prog_7_method_7_code
def yX5_tasteTakes : MethodName := ⟨RX5, "tasteTakes", "(IJI)Z"⟩
def RX6 : String := "WishLamp"
def TX6 : u_T := fun k => match k with
  | 0 => ("WishLamp", "state", "LWishLamp$State;", true)
  | 1 => ("WishLamp", "images", "[LWishLamp$State;", true)
  | 2 => ("WishLamp", "pad", "LWishLamp$Clause;", true)
  | 3 => ("WishLamp", "changed", "LWishLamp$Clause;", true)
  | 4 => ("WishLamp", "terms", "LWishLamp$Terms;", true)
  | 5 => ("WishLamp", "spirit", "LWishLamp$Spirit;", true)
  | 6 => ("WishLamp", "draw", "LWishLamp$Draw;", true)
  | 7 => ("WishLamp", "best", "LWishLamp$Best;", true)
  | 8 => ("WishLamp", "values", "[I", true)
  | _ => ("WishLamp", "spare", "[I", true)
def tyX6 : Nat → FieldType := fun k => match k with
  | 0 => .object "WishLamp$State"
  | 1 => .array (.object "WishLamp$State")
  | 2 => .object "WishLamp$Clause"
  | 3 => .object "WishLamp$Clause"
  | 4 => .object "WishLamp$Terms"
  | 5 => .object "WishLamp$Spirit"
  | 6 => .object "WishLamp$Draw"
  | 7 => .object "WishLamp$Best"
  | 8 => .array .int
  | _ => .array .int
abbrev wsX60 : List Cond := u_ws RX6 TX6 10
theorem nmX6 : ∀ a, a < 10 → ∀ b, b < 10 → a ≠ b → (TX6 a).2.1 ≠ (TX6 b).2.1 := by decide +kernel
theorem tyX6_ok : ∀ k, k < 10 → parseFieldDescriptor (TX6 k).2.2.1 = some (tyX6 k) := by decide +kernel
abbrev cX6_init : ByteArray := prog_1_method_1_code
def yX6_init : MethodName := ⟨RX6, "<init>", "()V"⟩
abbrev cX6_things : ByteArray := prog_1_method_2_code
def yX6_things : MethodName := ⟨RX6, "things", "(I)I"⟩
abbrev cX6_worth : ByteArray := prog_1_method_3_code
def yX6_worth : MethodName := ⟨RX6, "worth", "(III)I"⟩
abbrev cX6_taste : ByteArray := prog_1_method_4_code
def yX6_taste : MethodName := ⟨RX6, "taste", "(II)I"⟩
abbrev cX6_set : ByteArray := prog_1_method_5_code
def yX6_set : MethodName := ⟨RX6, "set", "(II)I"⟩
abbrev cX6_now : ByteArray := prog_1_method_6_code
def yX6_now : MethodName := ⟨RX6, "now", "(I)I"⟩
abbrev cX6_worthOf : ByteArray := prog_1_method_7_code
def yX6_worthOf : MethodName := ⟨RX6, "worthOf", "(II)I"⟩
abbrev cX6_say : ByteArray := prog_1_method_8_code
def yX6_say : MethodName := ⟨RX6, "say", "(I)I"⟩
abbrev cX6_wipe : ByteArray := prog_1_method_9_code
def yX6_wipe : MethodName := ⟨RX6, "wipe", "()I"⟩
abbrev cX6_fault : ByteArray := prog_1_method_10_code
def yX6_fault : MethodName := ⟨RX6, "fault", "()I"⟩
abbrev cX6_enact : ByteArray := prog_1_method_11_code
def yX6_enact : MethodName := ⟨RX6, "enact", "()I"⟩
abbrev cX6_kept : ByteArray := prog_1_method_12_code
def yX6_kept : MethodName := ⟨RX6, "kept", "(I)I"⟩
abbrev cX6_makes : ByteArray := prog_1_method_13_code
def yX6_makes : MethodName := ⟨RX6, "makes", "()I"⟩
abbrev cX6_extreme : ByteArray := prog_1_method_14_code
def yX6_extreme : MethodName := ⟨RX6, "extreme", "(III)I"⟩
abbrev cX6_harmed : ByteArray := prog_1_method_15_code
def yX6_harmed : MethodName := ⟨RX6, "harmed", "()I"⟩
abbrev cX6_grant : ByteArray := prog_1_method_16_code
def yX6_grant : MethodName := ⟨RX6, "grant", "()I"⟩
abbrev cX6_undo : ByteArray := prog_1_method_17_code
def yX6_undo : MethodName := ⟨RX6, "undo", "()I"⟩
abbrev cX6_comma : ByteArray := prog_1_method_18_code
def yX6_comma : MethodName := ⟨RX6, "comma", "(I)I"⟩
abbrev cX6_term : ByteArray := prog_1_method_19_code
def yX6_term : MethodName := ⟨RX6, "term", "(I)I"⟩
abbrev cX6_wording : ByteArray := prog_1_method_20_code
def yX6_wording : MethodName := ⟨RX6, "wording", "(II)I"⟩
abbrev cX6_most : ByteArray := prog_1_method_21_code
def yX6_most : MethodName := ⟨RX6, "most", "(II)I"⟩
abbrev cX6_row : ByteArray := prog_1_method_22_code
def yX6_row : MethodName := ⟨RX6, "row", "(III)I"⟩
abbrev cX6_lamps : ByteArray := prog_1_method_23_code
def yX6_lamps : MethodName := ⟨RX6, "lamps", "(III)I"⟩
abbrev cX6_sixths : ByteArray := prog_1_method_24_code
def yX6_sixths : MethodName := ⟨RX6, "sixths", "(IIII)I"⟩
abbrev cX6_votes : ByteArray := prog_1_method_25_code
def yX6_votes : MethodName := ⟨RX6, "votes", "()I"⟩
abbrev cX6_agreed : ByteArray := prog_1_method_26_code
def yX6_agreed : MethodName := ⟨RX6, "agreed", "(I)I"⟩
abbrev cX6_paid : ByteArray := prog_1_method_27_code
def yX6_paid : MethodName := ⟨RX6, "paid", "()I"⟩
abbrev cX6_picked : ByteArray := prog_1_method_28_code
def yX6_picked : MethodName := ⟨RX6, "picked", "(I)I"⟩
abbrev cX6_fit : ByteArray := prog_1_method_29_code
def yX6_fit : MethodName := ⟨RX6, "fit", "(I)I"⟩
abbrev cX6_came : ByteArray := prog_1_method_30_code
def yX6_came : MethodName := ⟨RX6, "came", "(II)I"⟩
abbrev cX6_letters : ByteArray := prog_1_method_31_code
def yX6_letters : MethodName := ⟨RX6, "letters", "(I)I"⟩
abbrev cX6_forget : ByteArray := prog_1_method_32_code
def yX6_forget : MethodName := ⟨RX6, "forget", "()I"⟩
abbrev cX6_drunk : ByteArray := prog_1_method_33_code
def yX6_drunk : MethodName := ⟨RX6, "drunk", "(II)J"⟩
abbrev cX6_mean : ByteArray := prog_1_method_34_code
def yX6_mean : MethodName := ⟨RX6, "mean", "(II)J"⟩
abbrev cX6_year : ByteArray := prog_1_method_35_code
def yX6_year : MethodName := ⟨RX6, "year", "(III)I"⟩
abbrev cX6_image : ByteArray := prog_1_method_36_code
def yX6_image : MethodName := ⟨RX6, "image", "(I)I"⟩
abbrev cX6_restore : ByteArray := prog_1_method_37_code
def yX6_restore : MethodName := ⟨RX6, "restore", "(I)I"⟩
abbrev cX6_told : ByteArray := prog_1_method_38_code
def yX6_told : MethodName := ⟨RX6, "told", "(I)I"⟩
abbrev cX6_toldPlain : ByteArray := prog_1_method_39_code
def yX6_toldPlain : MethodName := ⟨RX6, "toldPlain", "(I)I"⟩
abbrev cX6_isCousin : ByteArray := prog_1_method_40_code
def yX6_isCousin : MethodName := ⟨RX6, "isCousin", "(I)Z"⟩
abbrev cX6_isThing : ByteArray := prog_1_method_41_code
def yX6_isThing : MethodName := ⟨RX6, "isThing", "(I)Z"⟩
abbrev cX6_isWorld : ByteArray := prog_1_method_42_code
def yX6_isWorld : MethodName := ⟨RX6, "isWorld", "(I)Z"⟩
abbrev cX6_isBit : ByteArray := prog_1_method_43_code
def yX6_isBit : MethodName := ⟨RX6, "isBit", "(I)Z"⟩
abbrev cX6_isWords : ByteArray := prog_1_method_44_code
def yX6_isWords : MethodName := ⟨RX6, "isWords", "(I)Z"⟩
abbrev cX6_isShare : ByteArray := prog_1_method_45_code
def yX6_isShare : MethodName := ⟨RX6, "isShare", "(I)Z"⟩
abbrev cX6_isFaulty : ByteArray := prog_1_method_46_code
def yX6_isFaulty : MethodName := ⟨RX6, "isFaulty", "()Z"⟩
abbrev cX6_wishWorlds : ByteArray := prog_1_method_47_code
def yX6_wishWorlds : MethodName := ⟨RX6, "wishWorlds", "()J"⟩
abbrev cX6_refusalOf : ByteArray := prog_1_method_48_code
def yX6_refusalOf : MethodName := ⟨RX6, "refusalOf", "(ZZ)I"⟩
abbrev cX6_wishOutcome : ByteArray := prog_1_method_49_code
def yX6_wishOutcome : MethodName := ⟨RX6, "wishOutcome", "()I"⟩
abbrev cX6_gainOf : ByteArray := prog_1_method_50_code
def yX6_gainOf : MethodName := ⟨RX6, "gainOf", "(II)I"⟩
abbrev cX6_votesFor : ByteArray := prog_1_method_51_code
def yX6_votesFor : MethodName := ⟨RX6, "votesFor", "(I)I"⟩
abbrev cX6_fillMerits : ByteArray := prog_1_method_52_code
def yX6_fillMerits : MethodName := ⟨RX6, "fillMerits", "()V"⟩
abbrev cX6_tryPlace : ByteArray := prog_1_method_53_code
def yX6_tryPlace : MethodName := ⟨RX6, "tryPlace", "(IJ)V"⟩
abbrev cX6_tryChange : ByteArray := prog_1_method_54_code
def yX6_tryChange : MethodName := ⟨RX6, "tryChange", "(IIJ)V"⟩
abbrev cX6_signPut : ByteArray := prog_1_method_55_code
def yX6_signPut : MethodName := ⟨RX6, "signPut", "(II)I"⟩
abbrev cX6_follow : ByteArray := prog_1_method_56_code
def yX6_follow : MethodName := ⟨RX6, "follow", "([I)V"⟩
abbrev cX6_firstOfRow : ByteArray := prog_1_method_57_code
def yX6_firstOfRow : MethodName := ⟨RX6, "firstOfRow", "(II)I"⟩
abbrev cX6_partOf : ByteArray := prog_1_method_58_code
def yX6_partOf : MethodName := ⟨RX6, "partOf", "(III)J"⟩
abbrev cX6_orderOf : ByteArray := prog_1_method_59_code
def yX6_orderOf : MethodName := ⟨RX6, "orderOf", "(I)I"⟩
abbrev cX6_lowestOf : ByteArray := prog_1_method_60_code
def yX6_lowestOf : MethodName := ⟨RX6, "lowestOf", "(J)I"⟩
abbrev cX6_fillSums : ByteArray := prog_1_method_61_code
def yX6_fillSums : MethodName := ⟨RX6, "fillSums", "([III[I)V"⟩
abbrev cX6_leastOf : ByteArray := prog_1_method_62_code
def yX6_leastOf : MethodName := ⟨RX6, "leastOf", "(J[III)I"⟩
def RX7 : String := "WishLampModel"
def TX7 : u_T := fun k => match k with
  | 0 => ("WishLampModel", "things", "I", false)
  | 1 => ("WishLampModel", "worths", "[I", true)
  | 2 => ("WishLampModel", "tastes", "[I", true)
  | 3 => ("WishLampModel", "sixth", "[I", true)
  | 4 => ("WishLampModel", "way", "I", false)
  | 5 => ("WishLampModel", "wisher", "I", false)
  | 6 => ("WishLampModel", "still", "I", false)
  | 7 => ("WishLampModel", "world", "I", false)
  | 8 => ("WishLampModel", "lawful", "J", false)
  | 9 => ("WishLampModel", "undos", "I", false)
  | 10 => ("WishLampModel", "undone", "[I", true)
  | 11 => ("WishLampModel", "picks", "I", false)
  | 12 => ("WishLampModel", "pickKept", "[J", true)
  | 13 => ("WishLampModel", "pickWorld", "[I", true)
  | 14 => ("WishLampModel", "cames", "I", false)
  | 15 => ("WishLampModel", "came", "[I", true)
  | 16 => ("WishLampModel", "signs", "I", false)
  | 17 => ("WishLampModel", "pad", "[I", true)
  | 18 => ("WishLampModel", "size", "I", false)
  | 19 => ("WishLampModel", "text", "[I", true)
  | 20 => ("WishLampModel", "stack", "[Z", true)
  | 21 => ("WishLampModel", "yes", "I", false)
  | 22 => ("WishLampModel", "no", "I", false)
  | 23 => ("WishLampModel", "ends", "[I", true)
  | 24 => ("WishLampModel", "ahead", "[I", true)
  | 25 => ("WishLampModel", "bestTerm", "I", false)
  | 26 => ("WishLampModel", "image", "[I", true)
  | 27 => ("WishLampModel", "longs", "[J", true)
  | _ => ("WishLampModel", "isKept", "[Z", true)
def tyX7 : Nat → FieldType := fun k => match k with
  | 0 => .int
  | 1 => .array .int
  | 2 => .array .int
  | 3 => .array .int
  | 4 => .int
  | 5 => .int
  | 6 => .int
  | 7 => .int
  | 8 => .long
  | 9 => .int
  | 10 => .array .int
  | 11 => .int
  | 12 => .array .long
  | 13 => .array .int
  | 14 => .int
  | 15 => .array .int
  | 16 => .int
  | 17 => .array .int
  | 18 => .int
  | 19 => .array .int
  | 20 => .array .boolean
  | 21 => .int
  | 22 => .int
  | 23 => .array .int
  | 24 => .array .int
  | 25 => .int
  | 26 => .array .int
  | 27 => .array .long
  | _ => .array .boolean
abbrev wsX70 : List Cond := u_ws RX7 TX7 29
theorem nmX7 : ∀ a, a < 29 → ∀ b, b < 29 → a ≠ b → (TX7 a).2.1 ≠ (TX7 b).2.1 := by decide +kernel
theorem tyX7_ok : ∀ k, k < 29 → parseFieldDescriptor (TX7 k).2.2.1 = some (tyX7 k) := by decide +kernel
abbrev cX7_init : ByteArray := prog_9_method_1_code
def yX7_init : MethodName := ⟨RX7, "<init>", "()V"⟩
abbrev cX7_plain : ByteArray := prog_9_method_2_code
def yX7_plain : MethodName := ⟨RX7, "plain", "()V"⟩
abbrev cX7_worlds : ByteArray := prog_9_method_3_code
def yX7_worlds : MethodName := ⟨RX7, "worlds", "()I"⟩
abbrev cX7_all : ByteArray := prog_9_method_4_code
def yX7_all : MethodName := ⟨RX7, "all", "()J"⟩
abbrev cX7_in : ByteArray := prog_9_method_5_code
def yX7_in : MethodName := ⟨RX7, "in", "(III)Z"⟩
abbrev cX7_has : ByteArray := prog_9_method_6_code
def yX7_has : MethodName := ⟨RX7, "has", "(II)Z"⟩
abbrev cX7_holds : ByteArray := prog_9_method_7_code
def yX7_holds : MethodName := ⟨RX7, "holds", "(JI)Z"⟩
abbrev cX7_bits : ByteArray := prog_9_method_8_code
def yX7_bits : MethodName := ⟨RX7, "bits", "(I)I"⟩
abbrev cX7_isCousin : ByteArray := prog_9_method_9_code
def yX7_isCousin : MethodName := ⟨RX7, "isCousin", "(I)Z"⟩
abbrev cX7_isThing : ByteArray := prog_9_method_10_code
def yX7_isThing : MethodName := ⟨RX7, "isThing", "(I)Z"⟩
abbrev cX7_isWorld : ByteArray := prog_9_method_11_code
def yX7_isWorld : MethodName := ⟨RX7, "isWorld", "(I)Z"⟩
abbrev cX7_things : ByteArray := prog_9_method_12_code
def yX7_things : MethodName := ⟨RX7, "things", "(I)I"⟩
abbrev cX7_worth : ByteArray := prog_9_method_13_code
def yX7_worth : MethodName := ⟨RX7, "worth", "(III)I"⟩
abbrev cX7_taste : ByteArray := prog_9_method_14_code
def yX7_taste : MethodName := ⟨RX7, "taste", "(II)I"⟩
abbrev cX7_set : ByteArray := prog_9_method_15_code
def yX7_set : MethodName := ⟨RX7, "set", "(II)I"⟩
abbrev cX7_now : ByteArray := prog_9_method_16_code
def yX7_now : MethodName := ⟨RX7, "now", "(I)I"⟩
abbrev cX7_worthTo : ByteArray := prog_9_method_17_code
def yX7_worthTo : MethodName := ⟨RX7, "worthTo", "(II)I"⟩
abbrev cX7_tasteOf : ByteArray := prog_9_method_18_code
def yX7_tasteOf : MethodName := ⟨RX7, "tasteOf", "(I)I"⟩
abbrev cX7_worthOf : ByteArray := prog_9_method_19_code
def yX7_worthOf : MethodName := ⟨RX7, "worthOf", "(II)I"⟩
abbrev cX7_say : ByteArray := prog_9_method_20_code
def yX7_say : MethodName := ⟨RX7, "say", "(I)I"⟩
abbrev cX7_wipe : ByteArray := prog_9_method_21_code
def yX7_wipe : MethodName := ⟨RX7, "wipe", "()I"⟩
abbrev cX7_isPair : ByteArray := prog_9_method_22_code
def yX7_isPair : MethodName := ⟨RX7, "isPair", "(I)Z"⟩
abbrev cX7_isLetter : ByteArray := prog_9_method_23_code
def yX7_isLetter : MethodName := ⟨RX7, "isLetter", "(I)Z"⟩
abbrev cX7_faultOf : ByteArray := prog_9_method_24_code
def yX7_faultOf : MethodName := ⟨RX7, "faultOf", "()I"⟩
abbrev cX7_fault : ByteArray := prog_9_method_25_code
def yX7_fault : MethodName := ⟨RX7, "fault", "()I"⟩
abbrev cX7_layPad : ByteArray := prog_9_method_26_code
def yX7_layPad : MethodName := ⟨RX7, "layPad", "()V"⟩
abbrev cX7_pairOf : ByteArray := prog_9_method_27_code
def yX7_pairOf : MethodName := ⟨RX7, "pairOf", "(IZZ)Z"⟩
abbrev cX7_isSo : ByteArray := prog_9_method_28_code
def yX7_isSo : MethodName := ⟨RX7, "isSo", "(II)Z"⟩
abbrev cX7_saidOf : ByteArray := prog_9_method_29_code
def yX7_saidOf : MethodName := ⟨RX7, "saidOf", "()I"⟩
abbrev cX7_keeping : ByteArray := prog_9_method_30_code
def yX7_keeping : MethodName := ⟨RX7, "keeping", "(I)J"⟩
abbrev cX7_enact : ByteArray := prog_9_method_31_code
def yX7_enact : MethodName := ⟨RX7, "enact", "()I"⟩
abbrev cX7_count : ByteArray := prog_9_method_32_code
def yX7_count : MethodName := ⟨RX7, "count", "(J)I"⟩
abbrev cX7_kept : ByteArray := prog_9_method_33_code
def yX7_kept : MethodName := ⟨RX7, "kept", "(I)I"⟩
abbrev cX7_likes : ByteArray := prog_9_method_34_code
def yX7_likes : MethodName := ⟨RX7, "likes", "(II)I"⟩
abbrev cX7_madeOf : ByteArray := prog_9_method_35_code
def yX7_madeOf : MethodName := ⟨RX7, "madeOf", "(JI)I"⟩
abbrev cX7_made : ByteArray := prog_9_method_36_code
def yX7_made : MethodName := ⟨RX7, "made", "()I"⟩
abbrev cX7_makes : ByteArray := prog_9_method_37_code
def yX7_makes : MethodName := ⟨RX7, "makes", "()I"⟩
abbrev cX7_extreme : ByteArray := prog_9_method_38_code
def yX7_extreme : MethodName := ⟨RX7, "extreme", "(III)I"⟩
abbrev cX7_harmed : ByteArray := prog_9_method_39_code
def yX7_harmed : MethodName := ⟨RX7, "harmed", "()I"⟩
abbrev cX7_grant : ByteArray := prog_9_method_40_code
def yX7_grant : MethodName := ⟨RX7, "grant", "()I"⟩
abbrev cX7_undo : ByteArray := prog_9_method_41_code
def yX7_undo : MethodName := ⟨RX7, "undo", "()I"⟩
abbrev cX7_pairSign : ByteArray := prog_9_method_42_code
def yX7_pairSign : MethodName := ⟨RX7, "pairSign", "(I)I"⟩
abbrev cX7_comma : ByteArray := prog_9_method_43_code
def yX7_comma : MethodName := ⟨RX7, "comma", "(I)I"⟩
abbrev cX7_terms : ByteArray := prog_9_method_44_code
def yX7_terms : MethodName := ⟨RX7, "terms", "()I"⟩
abbrev cX7_digitOf : ByteArray := prog_9_method_45_code
def yX7_digitOf : MethodName := ⟨RX7, "digitOf", "(II)I"⟩
abbrev cX7_words : ByteArray := prog_9_method_46_code
def yX7_words : MethodName := ⟨RX7, "words", "(I)I"⟩
abbrev cX7_layTerm : ByteArray := prog_9_method_47_code
def yX7_layTerm : MethodName := ⟨RX7, "layTerm", "(I)V"⟩
abbrev cX7_keepsTerm : ByteArray := prog_9_method_48_code
def yX7_keepsTerm : MethodName := ⟨RX7, "keepsTerm", "(II)Z"⟩
abbrev cX7_keepingTerm : ByteArray := prog_9_method_49_code
def yX7_keepingTerm : MethodName := ⟨RX7, "keepingTerm", "(II)J"⟩
abbrev cX7_madeOfTerm : ByteArray := prog_9_method_50_code
def yX7_madeOfTerm : MethodName := ⟨RX7, "madeOfTerm", "(II)I"⟩
abbrev cX7_term : ByteArray := prog_9_method_51_code
def yX7_term : MethodName := ⟨RX7, "term", "(I)I"⟩
abbrev cX7_wording : ByteArray := prog_9_method_52_code
def yX7_wording : MethodName := ⟨RX7, "wording", "(II)I"⟩
abbrev cX7_most : ByteArray := prog_9_method_53_code
def yX7_most : MethodName := ⟨RX7, "most", "(II)I"⟩
abbrev cX7_bestFrom : ByteArray := prog_9_method_54_code
def yX7_bestFrom : MethodName := ⟨RX7, "bestFrom", "(II)I"⟩
abbrev cX7_layAhead : ByteArray := prog_9_method_55_code
def yX7_layAhead : MethodName := ⟨RX7, "layAhead", "(I)V"⟩
abbrev cX7_row : ByteArray := prog_9_method_56_code
def yX7_row : MethodName := ⟨RX7, "row", "(III)I"⟩
abbrev cX7_lamps : ByteArray := prog_9_method_57_code
def yX7_lamps : MethodName := ⟨RX7, "lamps", "(III)I"⟩
abbrev cX7_sixths : ByteArray := prog_9_method_58_code
def yX7_sixths : MethodName := ⟨RX7, "sixths", "(IIII)I"⟩
abbrev cX7_votesFor : ByteArray := prog_9_method_59_code
def yX7_votesFor : MethodName := ⟨RX7, "votesFor", "(I)I"⟩
abbrev cX7_votes : ByteArray := prog_9_method_60_code
def yX7_votes : MethodName := ⟨RX7, "votes", "()I"⟩
abbrev cX7_worthToAll : ByteArray := prog_9_method_61_code
def yX7_worthToAll : MethodName := ⟨RX7, "worthToAll", "(I)I"⟩
abbrev cX7_agreed : ByteArray := prog_9_method_62_code
def yX7_agreed : MethodName := ⟨RX7, "agreed", "(I)I"⟩
abbrev cX7_paid : ByteArray := prog_9_method_63_code
def yX7_paid : MethodName := ⟨RX7, "paid", "()I"⟩
abbrev cX7_picked : ByteArray := prog_9_method_64_code
def yX7_picked : MethodName := ⟨RX7, "picked", "(I)I"⟩
abbrev cX7_tasteBy : ByteArray := prog_9_method_65_code
def yX7_tasteBy : MethodName := ⟨RX7, "tasteBy", "(II)I"⟩
abbrev cX7_isTaste : ByteArray := prog_9_method_66_code
def yX7_isTaste : MethodName := ⟨RX7, "isTaste", "(I)Z"⟩
abbrev cX7_fit : ByteArray := prog_9_method_67_code
def yX7_fit : MethodName := ⟨RX7, "fit", "(I)I"⟩
abbrev cX7_came : ByteArray := prog_9_method_68_code
def yX7_came : MethodName := ⟨RX7, "came", "(II)I"⟩
abbrev cX7_letters : ByteArray := prog_9_method_69_code
def yX7_letters : MethodName := ⟨RX7, "letters", "(I)I"⟩
abbrev cX7_forget : ByteArray := prog_9_method_70_code
def yX7_forget : MethodName := ⟨RX7, "forget", "()I"⟩
abbrev cX7_least : ByteArray := prog_9_method_71_code
def yX7_least : MethodName := ⟨RX7, "least", "(JJI)J"⟩
abbrev cX7_drunk : ByteArray := prog_9_method_72_code
def yX7_drunk : MethodName := ⟨RX7, "drunk", "(II)J"⟩
abbrev cX7_mean : ByteArray := prog_9_method_73_code
def yX7_mean : MethodName := ⟨RX7, "mean", "(II)J"⟩
abbrev cX7_year : ByteArray := prog_9_method_74_code
def yX7_year : MethodName := ⟨RX7, "year", "(III)I"⟩
abbrev cX7_image : ByteArray := prog_9_method_75_code
def yX7_image : MethodName := ⟨RX7, "image", "(I)I"⟩
abbrev cX7_restore : ByteArray := prog_9_method_76_code
def yX7_restore : MethodName := ⟨RX7, "restore", "(I)I"⟩
abbrev cX7_told : ByteArray := prog_9_method_77_code
def yX7_told : MethodName := ⟨RX7, "told", "(I)I"⟩
def RJ6 : String := "java/lang/Integer"
def TJ6 : u_T := fun k => match k with
  | _ => ("", "", "", false)
def tyJ6 : Nat → FieldType := fun k => match k with
  | _ => .int
abbrev wsJ60 : List Cond := u_ws RJ6 TJ6 0
theorem nmJ6 : ∀ a, a < 0 → ∀ b, b < 0 → a ≠ b → (TJ6 a).2.1 ≠ (TJ6 b).2.1 := by decide +kernel
theorem tyJ6_ok : ∀ k, k < 0 → parseFieldDescriptor (TJ6 k).2.2.1 = some (tyJ6 k) := by decide +kernel
abbrev cJ6_bitCount_0f7a4 : ByteArray := prog_10_method_49_code
def yJ6_bitCount_0f7a4 : MethodName := ⟨RJ6, "bitCount", "(I)I"⟩
def RJ13 : String := "java/lang/Long"
def TJ13 : u_T := fun k => match k with
  | _ => ("", "", "", false)
def tyJ13 : Nat → FieldType := fun k => match k with
  | _ => .int
abbrev wsJ130 : List Cond := u_ws RJ13 TJ13 0
theorem nmJ13 : ∀ a, a < 0 → ∀ b, b < 0 → a ≠ b → (TJ13 a).2.1 ≠ (TJ13 b).2.1 := by decide +kernel
theorem tyJ13_ok : ∀ k, k < 0 → parseFieldDescriptor (TJ13 k).2.2.1 = some (tyJ13 k) := by decide +kernel
abbrev cJ13_bitCount_95d88 : ByteArray := prog_11_method_50_code
def yJ13_bitCount_95d88 : MethodName := ⟨RJ13, "bitCount", "(J)I"⟩
def RJ10 : String := "java/lang/System"
def TJ10 : u_T := fun k => match k with
  | _ => ("", "", "", false)
def tyJ10 : Nat → FieldType := fun k => match k with
  | _ => .int
abbrev wsJ100 : List Cond := u_ws RJ10 TJ10 0
theorem nmJ10 : ∀ a, a < 0 → ∀ b, b < 0 → a ≠ b → (TJ10 a).2.1 ≠ (TJ10 b).2.1 := by decide +kernel
theorem tyJ10_ok : ∀ k, k < 0 → parseFieldDescriptor (TJ10 k).2.2.1 = some (tyJ10 k) := by decide +kernel
def RL : String := "WishLampLaw"
abbrev cL_law : ByteArray := code
def yL_law : MethodName := ⟨RL, "law", "([I)Z"⟩
abbrev vwCl : List vw_C := [(RX0, TX0, 3), (RX1, TX1, 3), (RX2, TX2, 8), (RX3, TX3, 4), (RX4, TX4, 16), (RX5, TX5, 5), (RX6, TX6, 10), (RX7, TX7, 29)]
end
section
def TB : List Cond := lw_tbl.filter goodWord
def isNest : Cond → Bool
  | .methodLinkNest .. => true
  | .fieldLinkNest .. => true
  | _ => false
def NT : List Cond := lw_tbl.filter isNest
theorem tb_good : GoodIn TB TB := fun w h => ⟨h, good_of_word (List.mem_filter.mp h).2⟩
theorem tb_in {w : Cond} (h : w ∈ lw_tbl) (g : goodWord w = true) : w ∈ TB := List.mem_filter.mpr ⟨h, g⟩
theorem tt_1 {w : Cond} (i : Nat) (h : tables_1_1[i]? = some w) : w ∈ lw_tbl := List.mem_append_right _ (List.mem_append_left _ (List.mem_of_getElem? h))
theorem tt_2 {w : Cond} (i : Nat) (h : tables_1_2[i]? = some w) : w ∈ lw_tbl := List.mem_append_right _ (List.mem_append_right _ (List.mem_append_left _ (List.mem_of_getElem? h)))
theorem tt_3 {w : Cond} (i : Nat) (h : tables_1_3[i]? = some w) : w ∈ lw_tbl := List.mem_append_right _ (List.mem_append_right _ (List.mem_append_right _ (List.mem_append_left _ (List.mem_of_getElem? h))))
theorem tt_4 {w : Cond} (i : Nat) (h : tables_1_4[i]? = some w) : w ∈ lw_tbl := List.mem_append_right _ (List.mem_append_right _ (List.mem_append_right _ (List.mem_append_right _ (List.mem_append_left _ (List.mem_of_getElem? h)))))
theorem tt_5 {w : Cond} (i : Nat) (h : tables_1_5[i]? = some w) : w ∈ lw_tbl := List.mem_append_right _ (List.mem_append_right _ (List.mem_append_right _ (List.mem_append_right _ (List.mem_append_right _ (List.mem_of_getElem? h)))))
theorem tp_1 {q : MethodName × Nat} (i : Nat) (h : lw_privs_1[i]? = some q) : Cond.selects q.1.cls q.1 q.1 ∈ lw_tbl := List.mem_append_left _ (List.mem_map.mpr ⟨q, List.mem_append_left _ (List.mem_of_getElem? h), rfl⟩)
theorem tp_2 {q : MethodName × Nat} (i : Nat) (h : lw_privs_2[i]? = some q) : Cond.selects q.1.cls q.1 q.1 ∈ lw_tbl := List.mem_append_left _ (List.mem_map.mpr ⟨q, List.mem_append_right _ (List.mem_append_left _ (List.mem_of_getElem? h)), rfl⟩)
theorem tp_3 {q : MethodName × Nat} (i : Nat) (h : lw_privs_3[i]? = some q) : Cond.selects q.1.cls q.1 q.1 ∈ lw_tbl := List.mem_append_left _ (List.mem_map.mpr ⟨q, List.mem_append_right _ (List.mem_append_right _ (List.mem_append_left _ (List.mem_of_getElem? h))), rfl⟩)
theorem tp_4 {q : MethodName × Nat} (i : Nat) (h : lw_privs_4[i]? = some q) : Cond.selects q.1.cls q.1 q.1 ∈ lw_tbl := List.mem_append_left _ (List.mem_map.mpr ⟨q, List.mem_append_right _ (List.mem_append_right _ (List.mem_append_right _ (List.mem_of_getElem? h))), rfl⟩)
abbrev Mt : Type := MethodName × ByteArray × Nat × Option FieldType
def CI (ci : Nat) (C : String) (T : u_T) (N : Nat) (ty : Nat → FieldType) : Prop := vwCl[ci]? = some (C, T, N) ∧ (∀ w ∈ u_ws C T N, w ∈ TB) ∧ (∀ k, k < N → parseFieldDescriptor (T k).2.2.1 = some (ty k)) ∧ (∀ a, a < N → ∀ b, b < N → a ≠ b → (T a).2.1 ≠ (T b).2.1)
def FA (own : String) (idx ci j : Nat) (ty : FieldType) (fin : Bool) : Prop := ∃ (C : String) (T : u_T) (N : Nat) (tf : Nat → FieldType), CI ci C T N tf ∧ j < N ∧ Cond.fieldLink own idx (T j).1 (T j).2.1 (T j).2.2.1 ∈ TB ∧ tf j = ty ∧ (T j).2.2.2 = fin ∧ (fin = true → (T j).1 = own)
def okd (y : MethodName) (na : Nat) : Prop := y.cls ≠ "java/lang/invoke/MethodHandle" ∧ y.cls ≠ "java/lang/invoke/VarHandle" ∧ (parseMethodDescriptor y.desc).map (fun d => d.parameters.length) = some na
def CB (M : Mt) (na : Nat) : Prop := Cond.code M.1 M.2.1 M.2.2.1 M.2.2.2 ∈ TB ∧ Cond.initialized M.1.cls ∈ TB ∧ okd M.1 na ∧ plainName M.1.cls = true
def CV (own : String) (idx : Nat) (M : Mt) (na : Nat) : Prop := CB M na ∧ Cond.methodLink own idx M.1 ∈ TB ∧ Cond.instanceMethod M.1 ∈ TB ∧ Cond.selects M.1.cls M.1 M.1 ∈ TB
def CS (own : String) (idx : Nat) (M : Mt) (na : Nat) : Prop := CB M na ∧ Cond.methodLink own idx M.1 ∈ TB ∧ Cond.static M.1 ∈ TB
def CSn (own : String) (idx : Nat) (M : Mt) (na : Nat) : Prop := CB M na ∧ (∃ host, Cond.methodLinkNest own idx M.1 host ∈ NT) ∧ Cond.static M.1 ∈ TB
def CN (own : String) (idx : Nat) (M : Mt) (na : Nat) : Prop := CB M na ∧ Cond.methodLink own idx M.1 ∈ TB ∧ Cond.instanceMethod M.1 ∈ TB ∧ M.1.name = "<init>" ∧ M.2.2.2 = none
def CNn (own : String) (idx : Nat) (M : Mt) (na : Nat) : Prop := CB M na ∧ (∃ host, Cond.methodLinkNest own idx M.1 host ∈ NT) ∧ Cond.instanceMethod M.1 ∈ TB ∧ M.1.name = "<init>" ∧ M.2.2.2 = none
def FA0 (own : String) (idx ci j : Nat) : Prop := ∃ (C : String) (T : u_T) (N : Nat) (tf : Nat → FieldType), CI ci C T N tf ∧ j < N ∧ Cond.fieldLink own idx (T j).1 (T j).2.1 (T j).2.2.1 ∈ TB
theorem FA.r {own : String} {idx ci j : Nat} {ty : FieldType} {fin : Bool} (h : FA own idx ci j ty fin) : FA0 own idx ci j := by
  obtain ⟨C, T, N, tf, h1, h2, h3, -⟩ := h
  exact ⟨C, T, N, tf, h1, h2, h3⟩
theorem inX0 : ∀ w ∈ u_ws RX0 TX0 3, w ∈ TB := by
  intro w hw
  obtain ⟨k, hk, rfl⟩ := List.mem_map.mp hw
  have hk := List.mem_range.mp hk
  match k, hk with
  | 0, _ => exact tb_in (tt_1 214 rfl) rfl
  | 1, _ => exact tb_in (tt_1 216 rfl) rfl
  | 2, _ => exact tb_in (tt_1 218 rfl) rfl
  | k + 3, h => exact absurd h (by omega)
theorem ciX0 : CI 0 RX0 TX0 3 tyX0 := ⟨rfl, inX0, tyX0_ok, nmX0⟩
theorem inX1 : ∀ w ∈ u_ws RX1 TX1 3, w ∈ TB := by
  intro w hw
  obtain ⟨k, hk, rfl⟩ := List.mem_map.mp hw
  have hk := List.mem_range.mp hk
  match k, hk with
  | 0, _ => exact tb_in (tt_1 116 rfl) rfl
  | 1, _ => exact tb_in (tt_1 118 rfl) rfl
  | 2, _ => exact tb_in (tt_1 120 rfl) rfl
  | k + 3, h => exact absurd h (by omega)
theorem ciX1 : CI 1 RX1 TX1 3 tyX1 := ⟨rfl, inX1, tyX1_ok, nmX1⟩
theorem inX2 : ∀ w ∈ u_ws RX2 TX2 8, w ∈ TB := by
  intro w hw
  obtain ⟨k, hk, rfl⟩ := List.mem_map.mp hw
  have hk := List.mem_range.mp hk
  match k, hk with
  | 0, _ => exact tb_in (tt_1 185 rfl) rfl
  | 1, _ => exact tb_in (tt_1 187 rfl) rfl
  | 2, _ => exact tb_in (tt_1 189 rfl) rfl
  | 3, _ => exact tb_in (tt_1 191 rfl) rfl
  | 4, _ => exact tb_in (tt_1 193 rfl) rfl
  | 5, _ => exact tb_in (tt_1 195 rfl) rfl
  | 6, _ => exact tb_in (tt_1 197 rfl) rfl
  | 7, _ => exact tb_in (tt_1 199 rfl) rfl
  | k + 8, h => exact absurd h (by omega)
theorem ciX2 : CI 2 RX2 TX2 8 tyX2 := ⟨rfl, inX2, tyX2_ok, nmX2⟩
theorem inX3 : ∀ w ∈ u_ws RX3 TX3 4, w ∈ TB := by
  intro w hw
  obtain ⟨k, hk, rfl⟩ := List.mem_map.mp hw
  have hk := List.mem_range.mp hk
  match k, hk with
  | 0, _ => exact tb_in (tt_1 160 rfl) rfl
  | 1, _ => exact tb_in (tt_1 162 rfl) rfl
  | 2, _ => exact tb_in (tt_1 164 rfl) rfl
  | 3, _ => exact tb_in (tt_1 166 rfl) rfl
  | k + 4, h => exact absurd h (by omega)
theorem ciX3 : CI 3 RX3 TX3 4 tyX3 := ⟨rfl, inX3, tyX3_ok, nmX3⟩
theorem inX4 : ∀ w ∈ u_ws RX4 TX4 16, w ∈ TB := by
  intro w hw
  obtain ⟨k, hk, rfl⟩ := List.mem_map.mp hw
  have hk := List.mem_range.mp hk
  match k, hk with
  | 0, _ => exact tb_in (tt_1 69 rfl) rfl
  | 1, _ => exact tb_in (tt_1 71 rfl) rfl
  | 2, _ => exact tb_in (tt_1 73 rfl) rfl
  | 3, _ => exact tb_in (tt_1 75 rfl) rfl
  | 4, _ => exact tb_in (tt_1 77 rfl) rfl
  | 5, _ => exact tb_in (tt_1 79 rfl) rfl
  | 6, _ => exact tb_in (tt_1 81 rfl) rfl
  | 7, _ => exact tb_in (tt_1 83 rfl) rfl
  | 8, _ => exact tb_in (tt_1 85 rfl) rfl
  | 9, _ => exact tb_in (tt_1 87 rfl) rfl
  | 10, _ => exact tb_in (tt_1 89 rfl) rfl
  | 11, _ => exact tb_in (tt_1 91 rfl) rfl
  | 12, _ => exact tb_in (tt_1 93 rfl) rfl
  | 13, _ => exact tb_in (tt_1 95 rfl) rfl
  | 14, _ => exact tb_in (tt_1 97 rfl) rfl
  | 15, _ => exact tb_in (tt_1 99 rfl) rfl
  | k + 16, h => exact absurd h (by omega)
theorem ciX4 : CI 4 RX4 TX4 16 tyX4 := ⟨rfl, inX4, tyX4_ok, nmX4⟩
theorem inX5 : ∀ w ∈ u_ws RX5 TX5 5, w ∈ TB := by
  intro w hw
  obtain ⟨k, hk, rfl⟩ := List.mem_map.mp hw
  have hk := List.mem_range.mp hk
  match k, hk with
  | 0, _ => exact tb_in (tt_1 138 rfl) rfl
  | 1, _ => exact tb_in (tt_1 140 rfl) rfl
  | 2, _ => exact tb_in (tt_1 142 rfl) rfl
  | 3, _ => exact tb_in (tt_1 144 rfl) rfl
  | 4, _ => exact tb_in (tt_1 146 rfl) rfl
  | k + 5, h => exact absurd h (by omega)
theorem ciX5 : CI 5 RX5 TX5 5 tyX5 := ⟨rfl, inX5, tyX5_ok, nmX5⟩
theorem inX6 : ∀ w ∈ u_ws RX6 TX6 10, w ∈ TB := by
  intro w hw
  obtain ⟨k, hk, rfl⟩ := List.mem_map.mp hw
  have hk := List.mem_range.mp hk
  match k, hk with
  | 0, _ => exact tb_in (tt_2 17 rfl) rfl
  | 1, _ => exact tb_in (tt_2 19 rfl) rfl
  | 2, _ => exact tb_in (tt_2 21 rfl) rfl
  | 3, _ => exact tb_in (tt_2 23 rfl) rfl
  | 4, _ => exact tb_in (tt_2 25 rfl) rfl
  | 5, _ => exact tb_in (tt_2 27 rfl) rfl
  | 6, _ => exact tb_in (tt_2 29 rfl) rfl
  | 7, _ => exact tb_in (tt_2 31 rfl) rfl
  | 8, _ => exact tb_in (tt_2 33 rfl) rfl
  | 9, _ => exact tb_in (tt_2 35 rfl) rfl
  | k + 10, h => exact absurd h (by omega)
theorem ciX6 : CI 6 RX6 TX6 10 tyX6 := ⟨rfl, inX6, tyX6_ok, nmX6⟩
theorem inX7 : ∀ w ∈ u_ws RX7 TX7 29, w ∈ TB := by
  intro w hw
  obtain ⟨k, hk, rfl⟩ := List.mem_map.mp hw
  have hk := List.mem_range.mp hk
  match k, hk with
  | 0, _ => exact tb_in (tt_4 18 rfl) rfl
  | 1, _ => exact tb_in (tt_4 20 rfl) rfl
  | 2, _ => exact tb_in (tt_4 22 rfl) rfl
  | 3, _ => exact tb_in (tt_4 24 rfl) rfl
  | 4, _ => exact tb_in (tt_4 26 rfl) rfl
  | 5, _ => exact tb_in (tt_4 28 rfl) rfl
  | 6, _ => exact tb_in (tt_4 30 rfl) rfl
  | 7, _ => exact tb_in (tt_4 32 rfl) rfl
  | 8, _ => exact tb_in (tt_4 34 rfl) rfl
  | 9, _ => exact tb_in (tt_4 36 rfl) rfl
  | 10, _ => exact tb_in (tt_4 38 rfl) rfl
  | 11, _ => exact tb_in (tt_4 40 rfl) rfl
  | 12, _ => exact tb_in (tt_4 42 rfl) rfl
  | 13, _ => exact tb_in (tt_4 44 rfl) rfl
  | 14, _ => exact tb_in (tt_4 46 rfl) rfl
  | 15, _ => exact tb_in (tt_4 48 rfl) rfl
  | 16, _ => exact tb_in (tt_4 50 rfl) rfl
  | 17, _ => exact tb_in (tt_4 52 rfl) rfl
  | 18, _ => exact tb_in (tt_4 54 rfl) rfl
  | 19, _ => exact tb_in (tt_4 56 rfl) rfl
  | 20, _ => exact tb_in (tt_4 58 rfl) rfl
  | 21, _ => exact tb_in (tt_4 60 rfl) rfl
  | 22, _ => exact tb_in (tt_4 62 rfl) rfl
  | 23, _ => exact tb_in (tt_4 64 rfl) rfl
  | 24, _ => exact tb_in (tt_4 66 rfl) rfl
  | 25, _ => exact tb_in (tt_4 68 rfl) rfl
  | 26, _ => exact tb_in (tt_4 70 rfl) rfl
  | 27, _ => exact tb_in (tt_4 72 rfl) rfl
  | 28, _ => exact tb_in (tt_4 74 rfl) rfl
  | k + 29, h => exact absurd h (by omega)
theorem ciX7 : CI 7 RX7 TX7 29 tyX7 := ⟨rfl, inX7, tyX7_ok, nmX7⟩
theorem fa_X4_34 : FA RX4 34 4 0 (.int) false := ⟨RX4, TX4, 16, tyX4, ciX4, by decide, tb_in (tt_1 26 rfl) rfl, rfl, rfl, (fun h => by cases h)⟩
theorem fr_X4_34 : FA0 RX4 34 4 0 := fa_X4_34.r
theorem fa_X6_74 : FA RX6 74 4 0 (.int) false := ⟨RX4, TX4, 16, tyX4, ciX4, by decide, tb_in (tt_1 27 rfl) rfl, rfl, rfl, (fun h => by cases h)⟩
theorem fr_X6_74 : FA0 RX6 74 4 0 := fa_X6_74.r
theorem fa_X3_90 : FA RX3 90 4 0 (.int) false := ⟨RX4, TX4, 16, tyX4, ciX4, by decide, tb_in (tt_1 28 rfl) rfl, rfl, rfl, (fun h => by cases h)⟩
theorem fr_X3_90 : FA0 RX3 90 4 0 := fa_X3_90.r
theorem fa_X4_38 : FA RX4 38 4 1 (.int) false := ⟨RX4, TX4, 16, tyX4, ciX4, by decide, tb_in (tt_1 29 rfl) rfl, rfl, rfl, (fun h => by cases h)⟩
theorem fr_X4_38 : FA0 RX4 38 4 1 := fa_X4_38.r
theorem fa_X6_103 : FA RX6 103 4 1 (.int) false := ⟨RX4, TX4, 16, tyX4, ciX4, by decide, tb_in (tt_1 30 rfl) rfl, rfl, rfl, (fun h => by cases h)⟩
theorem fr_X6_103 : FA0 RX6 103 4 1 := fa_X6_103.r
theorem fa_X4_41 : FA RX4 41 4 2 (.int) false := ⟨RX4, TX4, 16, tyX4, ciX4, by decide, tb_in (tt_1 31 rfl) rfl, rfl, rfl, (fun h => by cases h)⟩
theorem fr_X4_41 : FA0 RX4 41 4 2 := fa_X4_41.r
theorem fa_X3_37 : FA RX3 37 4 2 (.int) false := ⟨RX4, TX4, 16, tyX4, ciX4, by decide, tb_in (tt_1 32 rfl) rfl, rfl, rfl, (fun h => by cases h)⟩
theorem fr_X3_37 : FA0 RX3 37 4 2 := fa_X3_37.r
theorem fa_X6_91 : FA RX6 91 4 2 (.int) false := ⟨RX4, TX4, 16, tyX4, ciX4, by decide, tb_in (tt_1 33 rfl) rfl, rfl, rfl, (fun h => by cases h)⟩
theorem fr_X6_91 : FA0 RX6 91 4 2 := fa_X6_91.r
theorem fa_X3_29 : FA RX3 29 4 3 (.int) false := ⟨RX4, TX4, 16, tyX4, ciX4, by decide, tb_in (tt_1 34 rfl) rfl, rfl, rfl, (fun h => by cases h)⟩
theorem fr_X3_29 : FA0 RX3 29 4 3 := fa_X3_29.r
theorem fa_X4_44 : FA RX4 44 4 3 (.int) false := ⟨RX4, TX4, 16, tyX4, ciX4, by decide, tb_in (tt_1 35 rfl) rfl, rfl, rfl, (fun h => by cases h)⟩
theorem fr_X4_44 : FA0 RX4 44 4 3 := fa_X4_44.r
theorem fa_X6_94 : FA RX6 94 4 3 (.int) false := ⟨RX4, TX4, 16, tyX4, ciX4, by decide, tb_in (tt_1 36 rfl) rfl, rfl, rfl, (fun h => by cases h)⟩
theorem fr_X6_94 : FA0 RX6 94 4 3 := fa_X6_94.r
theorem fa_X4_47 : FA RX4 47 4 4 (.int) false := ⟨RX4, TX4, 16, tyX4, ciX4, by decide, tb_in (tt_1 37 rfl) rfl, rfl, rfl, (fun h => by cases h)⟩
theorem fr_X4_47 : FA0 RX4 47 4 4 := fa_X4_47.r
theorem fa_X2_63 : FA RX2 63 4 4 (.int) false := ⟨RX4, TX4, 16, tyX4, ciX4, by decide, tb_in (tt_1 38 rfl) rfl, rfl, rfl, (fun h => by cases h)⟩
theorem fr_X2_63 : FA0 RX2 63 4 4 := fa_X2_63.r
theorem fa_X6_97 : FA RX6 97 4 4 (.int) false := ⟨RX4, TX4, 16, tyX4, ciX4, by decide, tb_in (tt_1 39 rfl) rfl, rfl, rfl, (fun h => by cases h)⟩
theorem fr_X6_97 : FA0 RX6 97 4 4 := fa_X6_97.r
theorem fa_X3_87 : FA RX3 87 4 4 (.int) false := ⟨RX4, TX4, 16, tyX4, ciX4, by decide, tb_in (tt_1 40 rfl) rfl, rfl, rfl, (fun h => by cases h)⟩
theorem fr_X3_87 : FA0 RX3 87 4 4 := fa_X3_87.r
theorem fa_X4_54 : FA RX4 54 4 5 (.long) false := ⟨RX4, TX4, 16, tyX4, ciX4, by decide, tb_in (tt_1 41 rfl) rfl, rfl, rfl, (fun h => by cases h)⟩
theorem fr_X4_54 : FA0 RX4 54 4 5 := fa_X4_54.r
theorem fa_X3_80 : FA RX3 80 4 5 (.long) false := ⟨RX4, TX4, 16, tyX4, ciX4, by decide, tb_in (tt_1 42 rfl) rfl, rfl, rfl, (fun h => by cases h)⟩
theorem fr_X3_80 : FA0 RX3 80 4 5 := fa_X3_80.r
theorem fa_X2_80 : FA RX2 80 4 5 (.long) false := ⟨RX4, TX4, 16, tyX4, ciX4, by decide, tb_in (tt_1 43 rfl) rfl, rfl, rfl, (fun h => by cases h)⟩
theorem fr_X2_80 : FA0 RX2 80 4 5 := fa_X2_80.r
theorem fa_X6_139 : FA RX6 139 4 5 (.long) false := ⟨RX4, TX4, 16, tyX4, ciX4, by decide, tb_in (tt_1 44 rfl) rfl, rfl, rfl, (fun h => by cases h)⟩
theorem fr_X6_139 : FA0 RX6 139 4 5 := fa_X6_139.r
theorem fa_X4_9 : FA RX4 9 4 6 (.array .int) true := ⟨RX4, TX4, 16, tyX4, ciX4, by decide, tb_in (tt_1 45 rfl) rfl, rfl, rfl, (fun _ => rfl)⟩
theorem fr_X4_9 : FA0 RX4 9 4 6 := fa_X4_9.r
theorem fr_X3_26 : FA0 RX3 26 4 6 := ⟨RX4, TX4, 16, tyX4, ciX4, by decide, tb_in (tt_1 46 rfl) rfl⟩
theorem fr_X6_85 : FA0 RX6 85 4 6 := ⟨RX4, TX4, 16, tyX4, ciX4, by decide, tb_in (tt_1 47 rfl) rfl⟩
theorem fa_X4_15 : FA RX4 15 4 7 (.array .int) true := ⟨RX4, TX4, 16, tyX4, ciX4, by decide, tb_in (tt_1 48 rfl) rfl, rfl, rfl, (fun _ => rfl)⟩
theorem fr_X4_15 : FA0 RX4 15 4 7 := fa_X4_15.r
theorem fr_X3_40 : FA0 RX3 40 4 7 := ⟨RX4, TX4, 16, tyX4, ciX4, by decide, tb_in (tt_1 49 rfl) rfl⟩
theorem fr_X6_88 : FA0 RX6 88 4 7 := ⟨RX4, TX4, 16, tyX4, ciX4, by decide, tb_in (tt_1 50 rfl) rfl⟩
theorem fa_X4_18 : FA RX4 18 4 8 (.array .int) true := ⟨RX4, TX4, 16, tyX4, ciX4, by decide, tb_in (tt_1 51 rfl) rfl, rfl, rfl, (fun _ => rfl)⟩
theorem fr_X4_18 : FA0 RX4 18 4 8 := fa_X4_18.r
theorem fr_X6_249 : FA0 RX6 249 4 8 := ⟨RX4, TX4, 16, tyX4, ciX4, by decide, tb_in (tt_1 52 rfl) rfl⟩
theorem fa_X4_21 : FA RX4 21 4 9 (.array .int) true := ⟨RX4, TX4, 16, tyX4, ciX4, by decide, tb_in (tt_1 53 rfl) rfl, rfl, rfl, (fun _ => rfl)⟩
theorem fr_X4_21 : FA0 RX4 21 4 9 := fa_X4_21.r
theorem fr_X6_179 : FA0 RX6 179 4 9 := ⟨RX4, TX4, 16, tyX4, ciX4, by decide, tb_in (tt_1 54 rfl) rfl⟩
theorem fa_X4_58 : FA RX4 58 4 10 (.int) false := ⟨RX4, TX4, 16, tyX4, ciX4, by decide, tb_in (tt_1 55 rfl) rfl, rfl, rfl, (fun h => by cases h)⟩
theorem fr_X4_58 : FA0 RX4 58 4 10 := fa_X4_58.r
theorem fa_X6_106 : FA RX6 106 4 10 (.int) false := ⟨RX4, TX4, 16, tyX4, ciX4, by decide, tb_in (tt_1 56 rfl) rfl, rfl, rfl, (fun h => by cases h)⟩
theorem fr_X6_106 : FA0 RX6 106 4 10 := fa_X6_106.r
theorem fa_X4_24 : FA RX4 24 4 11 (.array .long) true := ⟨RX4, TX4, 16, tyX4, ciX4, by decide, tb_in (tt_1 57 rfl) rfl, rfl, rfl, (fun _ => rfl)⟩
theorem fr_X4_24 : FA0 RX4 24 4 11 := fa_X4_24.r
theorem fa_X4_64 : FA RX4 64 4 12 (.int) false := ⟨RX4, TX4, 16, tyX4, ciX4, by decide, tb_in (tt_1 58 rfl) rfl, rfl, rfl, (fun h => by cases h)⟩
theorem fr_X4_64 : FA0 RX4 64 4 12 := fa_X4_64.r
theorem fa_X6_258 : FA RX6 258 4 12 (.int) false := ⟨RX4, TX4, 16, tyX4, ciX4, by decide, tb_in (tt_1 59 rfl) rfl, rfl, rfl, (fun h => by cases h)⟩
theorem fr_X6_258 : FA0 RX6 258 4 12 := fa_X6_258.r
theorem fa_X4_28 : FA RX4 28 4 13 (.array .int) true := ⟨RX4, TX4, 16, tyX4, ciX4, by decide, tb_in (tt_1 60 rfl) rfl, rfl, rfl, (fun _ => rfl)⟩
theorem fr_X4_28 : FA0 RX4 28 4 13 := fa_X4_28.r
theorem fr_X3_64 : FA0 RX3 64 4 13 := ⟨RX4, TX4, 16, tyX4, ciX4, by decide, tb_in (tt_1 61 rfl) rfl⟩
theorem fr_X6_277 : FA0 RX6 277 4 13 := ⟨RX4, TX4, 16, tyX4, ciX4, by decide, tb_in (tt_1 62 rfl) rfl⟩
theorem fa_X4_31 : FA RX4 31 4 14 (.array .int) true := ⟨RX4, TX4, 16, tyX4, ciX4, by decide, tb_in (tt_1 63 rfl) rfl, rfl, rfl, (fun _ => rfl)⟩
theorem fr_X4_31 : FA0 RX4 31 4 14 := fa_X4_31.r
theorem fr_X3_71 : FA0 RX3 71 4 14 := ⟨RX4, TX4, 16, tyX4, ciX4, by decide, tb_in (tt_1 64 rfl) rfl⟩
theorem fr_X6_280 : FA0 RX6 280 4 14 := ⟨RX4, TX4, 16, tyX4, ciX4, by decide, tb_in (tt_1 65 rfl) rfl⟩
theorem fa_X4_67 : FA RX4 67 4 15 (.int) false := ⟨RX4, TX4, 16, tyX4, ciX4, by decide, tb_in (tt_1 66 rfl) rfl, rfl, rfl, (fun h => by cases h)⟩
theorem fr_X4_67 : FA0 RX4 67 4 15 := fa_X4_67.r
theorem fa_X3_61 : FA RX3 61 4 15 (.int) false := ⟨RX4, TX4, 16, tyX4, ciX4, by decide, tb_in (tt_1 67 rfl) rfl, rfl, rfl, (fun h => by cases h)⟩
theorem fr_X3_61 : FA0 RX3 61 4 15 := fa_X3_61.r
theorem fa_X6_274 : FA RX6 274 4 15 (.int) false := ⟨RX4, TX4, 16, tyX4, ciX4, by decide, tb_in (tt_1 68 rfl) rfl, rfl, rfl, (fun h => by cases h)⟩
theorem fr_X6_274 : FA0 RX6 274 4 15 := fa_X6_274.r
theorem fa_X1_9 : FA RX1 9 1 0 (.array .int) true := ⟨RX1, TX1, 3, tyX1, ciX1, by decide, tb_in (tt_1 111 rfl) rfl, rfl, rfl, (fun _ => rfl)⟩
theorem fr_X1_9 : FA0 RX1 9 1 0 := fa_X1_9.r
theorem fr_X6_314 : FA0 RX6 314 1 0 := ⟨RX1, TX1, 3, tyX1, ciX1, by decide, tb_in (tt_1 112 rfl) rfl⟩
theorem fa_X1_19 : FA RX1 19 1 1 (.int) false := ⟨RX1, TX1, 3, tyX1, ciX1, by decide, tb_in (tt_1 113 rfl) rfl, rfl, rfl, (fun h => by cases h)⟩
theorem fr_X1_19 : FA0 RX1 19 1 1 := fa_X1_19.r
theorem fa_X6_116 : FA RX6 116 1 1 (.int) false := ⟨RX1, TX1, 3, tyX1, ciX1, by decide, tb_in (tt_1 114 rfl) rfl, rfl, rfl, (fun h => by cases h)⟩
theorem fr_X6_116 : FA0 RX6 116 1 1 := fa_X6_116.r
theorem fa_X1_15 : FA RX1 15 1 2 (.array .long) true := ⟨RX1, TX1, 3, tyX1, ciX1, by decide, tb_in (tt_1 115 rfl) rfl, rfl, rfl, (fun _ => rfl)⟩
theorem fr_X1_15 : FA0 RX1 15 1 2 := fa_X1_15.r
theorem fa_X5_25 : FA RX5 25 5 0 (.int) false := ⟨RX5, TX5, 5, tyX5, ciX5, by decide, tb_in (tt_1 129 rfl) rfl, rfl, rfl, (fun h => by cases h)⟩
theorem fr_X5_25 : FA0 RX5 25 5 0 := fa_X5_25.r
theorem fa_X6_211 : FA RX6 211 5 0 (.int) false := ⟨RX5, TX5, 5, tyX5, ciX5, by decide, tb_in (tt_1 130 rfl) rfl, rfl, rfl, (fun h => by cases h)⟩
theorem fr_X6_211 : FA0 RX6 211 5 0 := fa_X6_211.r
theorem fa_X5_9 : FA RX5 9 5 1 (.array .int) true := ⟨RX5, TX5, 5, tyX5, ciX5, by decide, tb_in (tt_1 131 rfl) rfl, rfl, rfl, (fun _ => rfl)⟩
theorem fr_X5_9 : FA0 RX5 9 5 1 := fa_X5_9.r
theorem fr_X3_84 : FA0 RX3 84 5 1 := ⟨RX5, TX5, 5, tyX5, ciX5, by decide, tb_in (tt_1 132 rfl) rfl⟩
theorem fa_X5_15 : FA RX5 15 5 2 (.array .int) true := ⟨RX5, TX5, 5, tyX5, ciX5, by decide, tb_in (tt_1 133 rfl) rfl, rfl, rfl, (fun _ => rfl)⟩
theorem fr_X5_15 : FA0 RX5 15 5 2 := fa_X5_15.r
theorem fr_X3_99 : FA0 RX3 99 5 2 := ⟨RX5, TX5, 5, tyX5, ciX5, by decide, tb_in (tt_1 134 rfl) rfl⟩
theorem fa_X5_18 : FA RX5 18 5 3 (.array .long) true := ⟨RX5, TX5, 5, tyX5, ciX5, by decide, tb_in (tt_1 135 rfl) rfl, rfl, rfl, (fun _ => rfl)⟩
theorem fr_X5_18 : FA0 RX5 18 5 3 := fa_X5_18.r
theorem fr_X3_74 : FA0 RX3 74 5 3 := ⟨RX5, TX5, 5, tyX5, ciX5, by decide, tb_in (tt_1 136 rfl) rfl⟩
theorem fa_X5_22 : FA RX5 22 5 4 (.array .int) true := ⟨RX5, TX5, 5, tyX5, ciX5, by decide, tb_in (tt_1 137 rfl) rfl, rfl, rfl, (fun _ => rfl)⟩
theorem fr_X5_22 : FA0 RX5 22 5 4 := fa_X5_22.r
theorem fa_X3_18 : FA RX3 18 3 0 (.object "WishLamp$State") true := ⟨RX3, TX3, 4, tyX3, ciX3, by decide, tb_in (tt_1 155 rfl) rfl, rfl, rfl, (fun _ => rfl)⟩
theorem fr_X3_18 : FA0 RX3 18 3 0 := fa_X3_18.r
theorem fa_X3_22 : FA RX3 22 3 1 (.object "WishLamp$Terms") true := ⟨RX3, TX3, 4, tyX3, ciX3, by decide, tb_in (tt_1 156 rfl) rfl, rfl, rfl, (fun _ => rfl)⟩
theorem fr_X3_22 : FA0 RX3 22 3 1 := fa_X3_22.r
theorem fa_X3_9 : FA RX3 9 3 2 (.array .int) true := ⟨RX3, TX3, 4, tyX3, ciX3, by decide, tb_in (tt_1 157 rfl) rfl, rfl, rfl, (fun _ => rfl)⟩
theorem fr_X3_9 : FA0 RX3 9 3 2 := fa_X3_9.r
theorem fr_X6_215 : FA0 RX6 215 3 2 := ⟨RX3, TX3, 4, tyX3, ciX3, by decide, tb_in (tt_1 158 rfl) rfl⟩
theorem fa_X3_15 : FA RX3 15 3 3 (.array .int) true := ⟨RX3, TX3, 4, tyX3, ciX3, by decide, tb_in (tt_1 159 rfl) rfl, rfl, rfl, (fun _ => rfl)⟩
theorem fr_X3_15 : FA0 RX3 15 3 3 := fa_X3_15.r
theorem fa_X2_27 : FA RX2 27 2 0 (.object "WishLamp$State") true := ⟨RX2, TX2, 8, tyX2, ciX2, by decide, tb_in (tt_1 175 rfl) rfl, rfl, rfl, (fun _ => rfl)⟩
theorem fr_X2_27 : FA0 RX2 27 2 0 := fa_X2_27.r
theorem fa_X2_31 : FA RX2 31 2 1 (.object "WishLamp$Terms") true := ⟨RX2, TX2, 8, tyX2, ciX2, by decide, tb_in (tt_1 176 rfl) rfl, rfl, rfl, (fun _ => rfl)⟩
theorem fr_X2_31 : FA0 RX2 31 2 1 := fa_X2_31.r
theorem fa_X2_9 : FA RX2 9 2 2 (.array .int) true := ⟨RX2, TX2, 8, tyX2, ciX2, by decide, tb_in (tt_1 177 rfl) rfl, rfl, rfl, (fun _ => rfl)⟩
theorem fr_X2_9 : FA0 RX2 9 2 2 := fa_X2_9.r
theorem fr_X6_334 : FA0 RX6 334 2 2 := ⟨RX2, TX2, 8, tyX2, ciX2, by decide, tb_in (tt_1 178 rfl) rfl⟩
theorem fa_X2_15 : FA RX2 15 2 3 (.array .int) true := ⟨RX2, TX2, 8, tyX2, ciX2, by decide, tb_in (tt_1 179 rfl) rfl, rfl, rfl, (fun _ => rfl)⟩
theorem fr_X2_15 : FA0 RX2 15 2 3 := fa_X2_15.r
theorem fr_X6_331 : FA0 RX6 331 2 3 := ⟨RX2, TX2, 8, tyX2, ciX2, by decide, tb_in (tt_1 180 rfl) rfl⟩
theorem fa_X2_18 : FA RX2 18 2 4 (.array .int) true := ⟨RX2, TX2, 8, tyX2, ciX2, by decide, tb_in (tt_1 181 rfl) rfl, rfl, rfl, (fun _ => rfl)⟩
theorem fr_X2_18 : FA0 RX2 18 2 4 := fa_X2_18.r
theorem fa_X2_21 : FA RX2 21 2 5 (.array .int) true := ⟨RX2, TX2, 8, tyX2, ciX2, by decide, tb_in (tt_1 182 rfl) rfl, rfl, rfl, (fun _ => rfl)⟩
theorem fr_X2_21 : FA0 RX2 21 2 5 := fa_X2_21.r
theorem fa_X2_24 : FA RX2 24 2 6 (.array .int) true := ⟨RX2, TX2, 8, tyX2, ciX2, by decide, tb_in (tt_1 183 rfl) rfl, rfl, rfl, (fun _ => rfl)⟩
theorem fr_X2_24 : FA0 RX2 24 2 6 := fa_X2_24.r
theorem fa_X2_59 : FA RX2 59 2 7 (.int) false := ⟨RX2, TX2, 8, tyX2, ciX2, by decide, tb_in (tt_1 184 rfl) rfl, rfl, rfl, (fun h => by cases h)⟩
theorem fr_X2_59 : FA0 RX2 59 2 7 := fa_X2_59.r
theorem fa_X0_7 : FA RX0 7 0 0 (.boolean) false := ⟨RX0, TX0, 3, tyX0, ciX0, by decide, tb_in (tt_1 208 rfl) rfl, rfl, rfl, (fun h => by cases h)⟩
theorem fr_X0_7 : FA0 RX0 7 0 0 := fa_X0_7.r
theorem fa_X6_198 : FA RX6 198 0 0 (.boolean) false := ⟨RX0, TX0, 3, tyX0, ciX0, by decide, tb_in (tt_1 209 rfl) rfl, rfl, rfl, (fun h => by cases h)⟩
theorem fr_X6_198 : FA0 RX6 198 0 0 := fa_X6_198.r
theorem fa_X0_13 : FA RX0 13 0 1 (.int) false := ⟨RX0, TX0, 3, tyX0, ciX0, by decide, tb_in (tt_1 210 rfl) rfl, rfl, rfl, (fun h => by cases h)⟩
theorem fr_X0_13 : FA0 RX0 13 0 1 := fa_X0_13.r
theorem fa_X6_208 : FA RX6 208 0 1 (.int) false := ⟨RX0, TX0, 3, tyX0, ciX0, by decide, tb_in (tt_1 211 rfl) rfl, rfl, rfl, (fun h => by cases h)⟩
theorem fr_X6_208 : FA0 RX6 208 0 1 := fa_X6_208.r
theorem fa_X0_17 : FA RX0 17 0 2 (.int) false := ⟨RX0, TX0, 3, tyX0, ciX0, by decide, tb_in (tt_1 212 rfl) rfl, rfl, rfl, (fun h => by cases h)⟩
theorem fr_X0_17 : FA0 RX0 17 0 2 := fa_X0_17.r
theorem fa_X6_202 : FA RX6 202 0 2 (.int) false := ⟨RX0, TX0, 3, tyX0, ciX0, by decide, tb_in (tt_1 213 rfl) rfl, rfl, rfl, (fun h => by cases h)⟩
theorem fr_X6_202 : FA0 RX6 202 0 2 := fa_X6_202.r
theorem fa_X6_10 : FA RX6 10 6 0 (.object "WishLamp$State") true := ⟨RX6, TX6, 10, tyX6, ciX6, by decide, tb_in (tt_2 7 rfl) rfl, rfl, rfl, (fun _ => rfl)⟩
theorem fr_X6_10 : FA0 RX6 10 6 0 := fa_X6_10.r
theorem fa_X6_16 : FA RX6 16 6 1 (.array (.object "WishLamp$State")) true := ⟨RX6, TX6, 10, tyX6, ciX6, by decide, tb_in (tt_2 8 rfl) rfl, rfl, rfl, (fun _ => rfl)⟩
theorem fr_X6_16 : FA0 RX6 16 6 1 := fa_X6_16.r
theorem fa_X6_23 : FA RX6 23 6 2 (.object "WishLamp$Clause") true := ⟨RX6, TX6, 10, tyX6, ciX6, by decide, tb_in (tt_2 9 rfl) rfl, rfl, rfl, (fun _ => rfl)⟩
theorem fr_X6_23 : FA0 RX6 23 6 2 := fa_X6_23.r
theorem fa_X6_27 : FA RX6 27 6 3 (.object "WishLamp$Clause") true := ⟨RX6, TX6, 10, tyX6, ciX6, by decide, tb_in (tt_2 10 rfl) rfl, rfl, rfl, (fun _ => rfl)⟩
theorem fr_X6_27 : FA0 RX6 27 6 3 := fa_X6_27.r
theorem fa_X6_33 : FA RX6 33 6 4 (.object "WishLamp$Terms") true := ⟨RX6, TX6, 10, tyX6, ciX6, by decide, tb_in (tt_2 11 rfl) rfl, rfl, rfl, (fun _ => rfl)⟩
theorem fr_X6_33 : FA0 RX6 33 6 4 := fa_X6_33.r
theorem fa_X6_42 : FA RX6 42 6 5 (.object "WishLamp$Spirit") true := ⟨RX6, TX6, 10, tyX6, ciX6, by decide, tb_in (tt_2 12 rfl) rfl, rfl, rfl, (fun _ => rfl)⟩
theorem fr_X6_42 : FA0 RX6 42 6 5 := fa_X6_42.r
theorem fa_X6_49 : FA RX6 49 6 6 (.object "WishLamp$Draw") true := ⟨RX6, TX6, 10, tyX6, ciX6, by decide, tb_in (tt_2 13 rfl) rfl, rfl, rfl, (fun _ => rfl)⟩
theorem fr_X6_49 : FA0 RX6 49 6 6 := fa_X6_49.r
theorem fa_X6_56 : FA RX6 56 6 7 (.object "WishLamp$Best") true := ⟨RX6, TX6, 10, tyX6, ciX6, by decide, tb_in (tt_2 14 rfl) rfl, rfl, rfl, (fun _ => rfl)⟩
theorem fr_X6_56 : FA0 RX6 56 6 7 := fa_X6_56.r
theorem fa_X6_60 : FA RX6 60 6 8 (.array .int) true := ⟨RX6, TX6, 10, tyX6, ciX6, by decide, tb_in (tt_2 15 rfl) rfl, rfl, rfl, (fun _ => rfl)⟩
theorem fr_X6_60 : FA0 RX6 60 6 8 := fa_X6_60.r
theorem fa_X6_64 : FA RX6 64 6 9 (.array .int) true := ⟨RX6, TX6, 10, tyX6, ciX6, by decide, tb_in (tt_2 16 rfl) rfl, rfl, rfl, (fun _ => rfl)⟩
theorem fr_X6_64 : FA0 RX6 64 6 9 := fa_X6_64.r
theorem fa_X7_7 : FA RX7 7 7 0 (.int) false := ⟨RX7, TX7, 29, tyX7, ciX7, by decide, tb_in (tt_3 229 rfl) rfl, rfl, rfl, (fun h => by cases h)⟩
theorem fr_X7_7 : FA0 RX7 7 7 0 := fa_X7_7.r
theorem fa_X7_13 : FA RX7 13 7 1 (.array .int) true := ⟨RX7, TX7, 29, tyX7, ciX7, by decide, tb_in (tt_3 230 rfl) rfl, rfl, rfl, (fun _ => rfl)⟩
theorem fr_X7_13 : FA0 RX7 13 7 1 := fa_X7_13.r
theorem fa_X7_17 : FA RX7 17 7 2 (.array .int) true := ⟨RX7, TX7, 29, tyX7, ciX7, by decide, tb_in (tt_3 231 rfl) rfl, rfl, rfl, (fun _ => rfl)⟩
theorem fr_X7_17 : FA0 RX7 17 7 2 := fa_X7_17.r
theorem fa_X7_20 : FA RX7 20 7 3 (.array .int) true := ⟨RX7, TX7, 29, tyX7, ciX7, by decide, tb_in (tt_3 232 rfl) rfl, rfl, rfl, (fun _ => rfl)⟩
theorem fr_X7_20 : FA0 RX7 20 7 3 := fa_X7_20.r
theorem fa_X7_64 : FA RX7 64 7 4 (.int) false := ⟨RX7, TX7, 29, tyX7, ciX7, by decide, tb_in (tt_3 233 rfl) rfl, rfl, rfl, (fun h => by cases h)⟩
theorem fr_X7_64 : FA0 RX7 64 7 4 := fa_X7_64.r
theorem fa_X7_67 : FA RX7 67 7 5 (.int) false := ⟨RX7, TX7, 29, tyX7, ciX7, by decide, tb_in (tt_3 234 rfl) rfl, rfl, rfl, (fun h => by cases h)⟩
theorem fr_X7_67 : FA0 RX7 67 7 5 := fa_X7_67.r
theorem fa_X7_70 : FA RX7 70 7 6 (.int) false := ⟨RX7, TX7, 29, tyX7, ciX7, by decide, tb_in (tt_3 235 rfl) rfl, rfl, rfl, (fun h => by cases h)⟩
theorem fr_X7_70 : FA0 RX7 70 7 6 := fa_X7_70.r
theorem fa_X7_73 : FA RX7 73 7 7 (.int) false := ⟨RX7, TX7, 29, tyX7, ciX7, by decide, tb_in (tt_3 236 rfl) rfl, rfl, rfl, (fun h => by cases h)⟩
theorem fr_X7_73 : FA0 RX7 73 7 7 := fa_X7_73.r
theorem fa_X7_80 : FA RX7 80 7 8 (.long) false := ⟨RX7, TX7, 29, tyX7, ciX7, by decide, tb_in (tt_3 237 rfl) rfl, rfl, rfl, (fun h => by cases h)⟩
theorem fr_X7_80 : FA0 RX7 80 7 8 := fa_X7_80.r
theorem fa_X7_84 : FA RX7 84 7 9 (.int) false := ⟨RX7, TX7, 29, tyX7, ciX7, by decide, tb_in (tt_3 238 rfl) rfl, rfl, rfl, (fun h => by cases h)⟩
theorem fr_X7_84 : FA0 RX7 84 7 9 := fa_X7_84.r
theorem fa_X7_23 : FA RX7 23 7 10 (.array .int) true := ⟨RX7, TX7, 29, tyX7, ciX7, by decide, tb_in (tt_3 239 rfl) rfl, rfl, rfl, (fun _ => rfl)⟩
theorem fr_X7_23 : FA0 RX7 23 7 10 := fa_X7_23.r
theorem fa_X7_87 : FA RX7 87 7 11 (.int) false := ⟨RX7, TX7, 29, tyX7, ciX7, by decide, tb_in (tt_4 0 rfl) rfl, rfl, rfl, (fun h => by cases h)⟩
theorem fr_X7_87 : FA0 RX7 87 7 11 := fa_X7_87.r
theorem fa_X7_26 : FA RX7 26 7 12 (.array .long) true := ⟨RX7, TX7, 29, tyX7, ciX7, by decide, tb_in (tt_4 1 rfl) rfl, rfl, rfl, (fun _ => rfl)⟩
theorem fr_X7_26 : FA0 RX7 26 7 12 := fa_X7_26.r
theorem fa_X7_30 : FA RX7 30 7 13 (.array .int) true := ⟨RX7, TX7, 29, tyX7, ciX7, by decide, tb_in (tt_4 2 rfl) rfl, rfl, rfl, (fun _ => rfl)⟩
theorem fr_X7_30 : FA0 RX7 30 7 13 := fa_X7_30.r
theorem fa_X7_90 : FA RX7 90 7 14 (.int) false := ⟨RX7, TX7, 29, tyX7, ciX7, by decide, tb_in (tt_4 3 rfl) rfl, rfl, rfl, (fun h => by cases h)⟩
theorem fr_X7_90 : FA0 RX7 90 7 14 := fa_X7_90.r
theorem fa_X7_33 : FA RX7 33 7 15 (.array .int) true := ⟨RX7, TX7, 29, tyX7, ciX7, by decide, tb_in (tt_4 4 rfl) rfl, rfl, rfl, (fun _ => rfl)⟩
theorem fr_X7_33 : FA0 RX7 33 7 15 := fa_X7_33.r
theorem fa_X7_121 : FA RX7 121 7 16 (.int) false := ⟨RX7, TX7, 29, tyX7, ciX7, by decide, tb_in (tt_4 5 rfl) rfl, rfl, rfl, (fun h => by cases h)⟩
theorem fr_X7_121 : FA0 RX7 121 7 16 := fa_X7_121.r
theorem fa_X7_36 : FA RX7 36 7 17 (.array .int) true := ⟨RX7, TX7, 29, tyX7, ciX7, by decide, tb_in (tt_4 6 rfl) rfl, rfl, rfl, (fun _ => rfl)⟩
theorem fr_X7_36 : FA0 RX7 36 7 17 := fa_X7_36.r
theorem fa_X7_133 : FA RX7 133 7 18 (.int) false := ⟨RX7, TX7, 29, tyX7, ciX7, by decide, tb_in (tt_4 7 rfl) rfl, rfl, rfl, (fun h => by cases h)⟩
theorem fr_X7_133 : FA0 RX7 133 7 18 := fa_X7_133.r
theorem fa_X7_39 : FA RX7 39 7 19 (.array .int) true := ⟨RX7, TX7, 29, tyX7, ciX7, by decide, tb_in (tt_4 8 rfl) rfl, rfl, rfl, (fun _ => rfl)⟩
theorem fr_X7_39 : FA0 RX7 39 7 19 := fa_X7_39.r
theorem fa_X7_42 : FA RX7 42 7 20 (.array .boolean) true := ⟨RX7, TX7, 29, tyX7, ciX7, by decide, tb_in (tt_4 9 rfl) rfl, rfl, rfl, (fun _ => rfl)⟩
theorem fr_X7_42 : FA0 RX7 42 7 20 := fa_X7_42.r
theorem fa_X7_184 : FA RX7 184 7 21 (.int) false := ⟨RX7, TX7, 29, tyX7, ciX7, by decide, tb_in (tt_4 10 rfl) rfl, rfl, rfl, (fun h => by cases h)⟩
theorem fr_X7_184 : FA0 RX7 184 7 21 := fa_X7_184.r
theorem fa_X7_187 : FA RX7 187 7 22 (.int) false := ⟨RX7, TX7, 29, tyX7, ciX7, by decide, tb_in (tt_4 11 rfl) rfl, rfl, rfl, (fun h => by cases h)⟩
theorem fr_X7_187 : FA0 RX7 187 7 22 := fa_X7_187.r
theorem fa_X7_46 : FA RX7 46 7 23 (.array .int) true := ⟨RX7, TX7, 29, tyX7, ciX7, by decide, tb_in (tt_4 12 rfl) rfl, rfl, rfl, (fun _ => rfl)⟩
theorem fr_X7_46 : FA0 RX7 46 7 23 := fa_X7_46.r
theorem fa_X7_49 : FA RX7 49 7 24 (.array .int) true := ⟨RX7, TX7, 29, tyX7, ciX7, by decide, tb_in (tt_4 13 rfl) rfl, rfl, rfl, (fun _ => rfl)⟩
theorem fr_X7_49 : FA0 RX7 49 7 24 := fa_X7_49.r
theorem fa_X7_210 : FA RX7 210 7 25 (.int) false := ⟨RX7, TX7, 29, tyX7, ciX7, by decide, tb_in (tt_4 14 rfl) rfl, rfl, rfl, (fun h => by cases h)⟩
theorem fr_X7_210 : FA0 RX7 210 7 25 := fa_X7_210.r
theorem fa_X7_52 : FA RX7 52 7 26 (.array .int) true := ⟨RX7, TX7, 29, tyX7, ciX7, by decide, tb_in (tt_4 15 rfl) rfl, rfl, rfl, (fun _ => rfl)⟩
theorem fr_X7_52 : FA0 RX7 52 7 26 := fa_X7_52.r
theorem fa_X7_55 : FA RX7 55 7 27 (.array .long) true := ⟨RX7, TX7, 29, tyX7, ciX7, by decide, tb_in (tt_4 16 rfl) rfl, rfl, rfl, (fun _ => rfl)⟩
theorem fr_X7_55 : FA0 RX7 55 7 27 := fa_X7_55.r
theorem fa_X7_58 : FA RX7 58 7 28 (.array .boolean) true := ⟨RX7, TX7, 29, tyX7, ciX7, by decide, tb_in (tt_4 17 rfl) rfl, rfl, rfl, (fun _ => rfl)⟩
theorem fr_X7_58 : FA0 RX7 58 7 28 := fa_X7_58.r
abbrev mX6_init : Mt := (yX6_init, cX6_init, 1, none)
theorem cb_X6_init : CB mX6_init 0 := ⟨tb_in (tt_1 16 rfl) rfl, tb_in (tt_1 1 rfl) rfl, ⟨by decide +kernel, by decide +kernel, by decide +kernel⟩, by decide +kernel⟩
abbrev mX4_init : Mt := (yX4_init, cX4_init, 1, none)
theorem cb_X4_init : CB mX4_init 0 := ⟨tb_in (tt_1 24 rfl) rfl, tb_in (tt_1 2 rfl) rfl, ⟨by decide +kernel, by decide +kernel, by decide +kernel⟩, by decide +kernel⟩
abbrev mX1_init : Mt := (yX1_init, cX1_init, 1, none)
theorem cb_X1_init : CB mX1_init 0 := ⟨tb_in (tt_1 109 rfl) rfl, tb_in (tt_1 3 rfl) rfl, ⟨by decide +kernel, by decide +kernel, by decide +kernel⟩, by decide +kernel⟩
abbrev mX5_init : Mt := (yX5_init, cX5_init, 1, none)
theorem cb_X5_init : CB mX5_init 0 := ⟨tb_in (tt_1 127 rfl) rfl, tb_in (tt_1 4 rfl) rfl, ⟨by decide +kernel, by decide +kernel, by decide +kernel⟩, by decide +kernel⟩
abbrev mX3_init : Mt := (yX3_init, cX3_init, 3, none)
theorem cb_X3_init : CB mX3_init 2 := ⟨tb_in (tt_1 153 rfl) rfl, tb_in (tt_1 5 rfl) rfl, ⟨by decide +kernel, by decide +kernel, by decide +kernel⟩, by decide +kernel⟩
abbrev mX2_init : Mt := (yX2_init, cX2_init, 3, none)
theorem cb_X2_init : CB mX2_init 2 := ⟨tb_in (tt_1 173 rfl) rfl, tb_in (tt_1 6 rfl) rfl, ⟨by decide +kernel, by decide +kernel, by decide +kernel⟩, by decide +kernel⟩
abbrev mX0_init : Mt := (yX0_init, cX0_init, 1, none)
theorem cb_X0_init : CB mX0_init 0 := ⟨tb_in (tt_1 206 rfl) rfl, tb_in (tt_1 7 rfl) rfl, ⟨by decide +kernel, by decide +kernel, by decide +kernel⟩, by decide +kernel⟩
abbrev mX4_begin : Mt := (yX4_begin, cX4_begin, 3, none)
theorem cb_X4_begin : CB mX4_begin 1 := ⟨tb_in (tt_1 224 rfl) rfl, tb_in (tt_1 2 rfl) rfl, ⟨by decide +kernel, by decide +kernel, by decide +kernel⟩, by decide +kernel⟩
abbrev mX4_allWorlds : Mt := (yX4_allWorlds, cX4_allWorlds, 1, (some .long))
theorem cb_X4_allWorlds : CB mX4_allWorlds 0 := ⟨tb_in (tt_1 228 rfl) rfl, tb_in (tt_1 2 rfl) rfl, ⟨by decide +kernel, by decide +kernel, by decide +kernel⟩, by decide +kernel⟩
abbrev mX4_worldCount : Mt := (yX4_worldCount, cX4_worldCount, 1, (some .int))
theorem cb_X4_worldCount : CB mX4_worldCount 0 := ⟨tb_in (tt_1 233 rfl) rfl, tb_in (tt_1 2 rfl) rfl, ⟨by decide +kernel, by decide +kernel, by decide +kernel⟩, by decide +kernel⟩
abbrev mX4_forgetSights : Mt := (yX4_forgetSights, cX4_forgetSights, 2, none)
theorem cb_X4_forgetSights : CB mX4_forgetSights 0 := ⟨tb_in (tt_1 237 rfl) rfl, tb_in (tt_1 2 rfl) rfl, ⟨by decide +kernel, by decide +kernel, by decide +kernel⟩, by decide +kernel⟩
abbrev mX5_listFor : Mt := (yX5_listFor, cX5_listFor, 6, none)
theorem cb_X5_listFor : CB mX5_listFor 1 := ⟨tb_in (tt_2 1 rfl) rfl, tb_in (tt_1 4 rfl) rfl, ⟨by decide +kernel, by decide +kernel, by decide +kernel⟩, by decide +kernel⟩
abbrev mX6_things : Mt := (yX6_things, cX6_things, 3, (some .int))
theorem cb_X6_things : CB mX6_things 1 := ⟨tb_in (tt_2 41 rfl) rfl, tb_in (tt_1 1 rfl) rfl, ⟨by decide +kernel, by decide +kernel, by decide +kernel⟩, by decide +kernel⟩
abbrev mX6_worth : Mt := (yX6_worth, cX6_worth, 6, (some .int))
theorem cb_X6_worth : CB mX6_worth 3 := ⟨tb_in (tt_2 45 rfl) rfl, tb_in (tt_1 1 rfl) rfl, ⟨by decide +kernel, by decide +kernel, by decide +kernel⟩, by decide +kernel⟩
abbrev mX6_isCousin : Mt := (yX6_isCousin, cX6_isCousin, 1, (some .boolean))
theorem cb_X6_isCousin : CB mX6_isCousin 1 := ⟨tb_in (tt_2 48 rfl) rfl, tb_in (tt_1 1 rfl) rfl, ⟨by decide +kernel, by decide +kernel, by decide +kernel⟩, by decide +kernel⟩
abbrev mX6_isThing : Mt := (yX6_isThing, cX6_isThing, 2, (some .boolean))
theorem cb_X6_isThing : CB mX6_isThing 1 := ⟨tb_in (tt_2 52 rfl) rfl, tb_in (tt_1 1 rfl) rfl, ⟨by decide +kernel, by decide +kernel, by decide +kernel⟩, by decide +kernel⟩
abbrev mX6_taste : Mt := (yX6_taste, cX6_taste, 4, (some .int))
theorem cb_X6_taste : CB mX6_taste 2 := ⟨tb_in (tt_2 56 rfl) rfl, tb_in (tt_1 1 rfl) rfl, ⟨by decide +kernel, by decide +kernel, by decide +kernel⟩, by decide +kernel⟩
abbrev mX6_set : Mt := (yX6_set, cX6_set, 4, (some .int))
theorem cb_X6_set : CB mX6_set 2 := ⟨tb_in (tt_2 60 rfl) rfl, tb_in (tt_1 1 rfl) rfl, ⟨by decide +kernel, by decide +kernel, by decide +kernel⟩, by decide +kernel⟩
abbrev mX6_now : Mt := (yX6_now, cX6_now, 3, (some .int))
theorem cb_X6_now : CB mX6_now 1 := ⟨tb_in (tt_2 64 rfl) rfl, tb_in (tt_1 1 rfl) rfl, ⟨by decide +kernel, by decide +kernel, by decide +kernel⟩, by decide +kernel⟩
abbrev mX6_isWorld : Mt := (yX6_isWorld, cX6_isWorld, 2, (some .boolean))
theorem cb_X6_isWorld : CB mX6_isWorld 1 := ⟨tb_in (tt_2 68 rfl) rfl, tb_in (tt_1 1 rfl) rfl, ⟨by decide +kernel, by decide +kernel, by decide +kernel⟩, by decide +kernel⟩
abbrev mX6_worthOf : Mt := (yX6_worthOf, cX6_worthOf, 3, (some .int))
theorem cb_X6_worthOf : CB mX6_worthOf 2 := ⟨tb_in (tt_2 73 rfl) rfl, tb_in (tt_1 1 rfl) rfl, ⟨by decide +kernel, by decide +kernel, by decide +kernel⟩, by decide +kernel⟩
abbrev mX4_worthTo : Mt := (yX4_worthTo, cX4_worthTo, 5, (some .int))
theorem cb_X4_worthTo : CB mX4_worthTo 2 := ⟨tb_in (tt_2 77 rfl) rfl, tb_in (tt_1 2 rfl) rfl, ⟨by decide +kernel, by decide +kernel, by decide +kernel⟩, by decide +kernel⟩
abbrev mX6_say : Mt := (yX6_say, cX6_say, 2, (some .int))
theorem cb_X6_say : CB mX6_say 1 := ⟨tb_in (tt_2 81 rfl) rfl, tb_in (tt_1 1 rfl) rfl, ⟨by decide +kernel, by decide +kernel, by decide +kernel⟩, by decide +kernel⟩
abbrev mX1_write : Mt := (yX1_write, cX1_write, 2, (some .boolean))
theorem cb_X1_write : CB mX1_write 1 := ⟨tb_in (tt_2 85 rfl) rfl, tb_in (tt_1 3 rfl) rfl, ⟨by decide +kernel, by decide +kernel, by decide +kernel⟩, by decide +kernel⟩
abbrev mX6_wipe : Mt := (yX6_wipe, cX6_wipe, 1, (some .int))
theorem cb_X6_wipe : CB mX6_wipe 0 := ⟨tb_in (tt_2 89 rfl) rfl, tb_in (tt_1 1 rfl) rfl, ⟨by decide +kernel, by decide +kernel, by decide +kernel⟩, by decide +kernel⟩
abbrev mX1_clear : Mt := (yX1_clear, cX1_clear, 2, (some .int))
theorem cb_X1_clear : CB mX1_clear 0 := ⟨tb_in (tt_2 93 rfl) rfl, tb_in (tt_1 3 rfl) rfl, ⟨by decide +kernel, by decide +kernel, by decide +kernel⟩, by decide +kernel⟩
abbrev mX6_fault : Mt := (yX6_fault, cX6_fault, 1, (some .int))
theorem cb_X6_fault : CB mX6_fault 0 := ⟨tb_in (tt_2 97 rfl) rfl, tb_in (tt_1 1 rfl) rfl, ⟨by decide +kernel, by decide +kernel, by decide +kernel⟩, by decide +kernel⟩
abbrev mX1_firstFault : Mt := (yX1_firstFault, cX1_firstFault, 7, (some .int))
theorem cb_X1_firstFault : CB mX1_firstFault 1 := ⟨tb_in (tt_2 101 rfl) rfl, tb_in (tt_1 3 rfl) rfl, ⟨by decide +kernel, by decide +kernel, by decide +kernel⟩, by decide +kernel⟩
abbrev mX6_orderOf : Mt := (yX6_orderOf, cX6_orderOf, 2, (some .int))
theorem cb_X6_orderOf : CB mX6_orderOf 1 := ⟨tb_in (tt_2 104 rfl) rfl, tb_in (tt_1 1 rfl) rfl, ⟨by decide +kernel, by decide +kernel, by decide +kernel⟩, by decide +kernel⟩
abbrev mX6_enact : Mt := (yX6_enact, cX6_enact, 1, (some .int))
theorem cb_X6_enact : CB mX6_enact 0 := ⟨tb_in (tt_2 110 rfl) rfl, tb_in (tt_1 1 rfl) rfl, ⟨by decide +kernel, by decide +kernel, by decide +kernel⟩, by decide +kernel⟩
abbrev mX6_isFaulty : Mt := (yX6_isFaulty, cX6_isFaulty, 1, (some .boolean))
theorem cb_X6_isFaulty : CB mX6_isFaulty 0 := ⟨tb_in (tt_2 114 rfl) rfl, tb_in (tt_1 1 rfl) rfl, ⟨by decide +kernel, by decide +kernel, by decide +kernel⟩, by decide +kernel⟩
abbrev mX1_worldsFrom : Mt := (yX1_worldsFrom, cX1_worldsFrom, 6, (some .long))
theorem cb_X1_worldsFrom : CB mX1_worldsFrom 1 := ⟨tb_in (tt_2 118 rfl) rfl, tb_in (tt_1 3 rfl) rfl, ⟨by decide +kernel, by decide +kernel, by decide +kernel⟩, by decide +kernel⟩
abbrev mX1_joined : Mt := (yX1_joined, cX1_joined, 5, (some .long))
theorem cb_X1_joined : CB mX1_joined 3 := ⟨tb_in (tt_2 121 rfl) rfl, tb_in (tt_1 3 rfl) rfl, ⟨by decide +kernel, by decide +kernel, by decide +kernel⟩, by decide +kernel⟩
abbrev mX1_isSoAt : Mt := (yX1_isSoAt, cX1_isSoAt, 4, (some .boolean))
theorem cb_X1_isSoAt : CB mX1_isSoAt 2 := ⟨tb_in (tt_2 126 rfl) rfl, tb_in (tt_1 3 rfl) rfl, ⟨by decide +kernel, by decide +kernel, by decide +kernel⟩, by decide +kernel⟩
abbrev mX1_leafWorlds : Mt := (yX1_leafWorlds, cX1_leafWorlds, 2, (some .long))
theorem cb_X1_leafWorlds : CB mX1_leafWorlds 1 := ⟨tb_in (tt_2 129 rfl) rfl, tb_in (tt_1 3 rfl) rfl, ⟨by decide +kernel, by decide +kernel, by decide +kernel⟩, by decide +kernel⟩
abbrev mX6_kept : Mt := (yX6_kept, cX6_kept, 8, (some .int))
theorem cb_X6_kept : CB mX6_kept 1 := ⟨tb_in (tt_2 135 rfl) rfl, tb_in (tt_1 1 rfl) rfl, ⟨by decide +kernel, by decide +kernel, by decide +kernel⟩, by decide +kernel⟩
abbrev mX6_wishWorlds : Mt := (yX6_wishWorlds, cX6_wishWorlds, 1, (some .long))
theorem cb_X6_wishWorlds : CB mX6_wishWorlds 0 := ⟨tb_in (tt_2 139 rfl) rfl, tb_in (tt_1 1 rfl) rfl, ⟨by decide +kernel, by decide +kernel, by decide +kernel⟩, by decide +kernel⟩
abbrev mX1_saidThings : Mt := (yX1_saidThings, cX1_saidThings, 4, (some .int))
theorem cb_X1_saidThings : CB mX1_saidThings 0 := ⟨tb_in (tt_2 143 rfl) rfl, tb_in (tt_1 3 rfl) rfl, ⟨by decide +kernel, by decide +kernel, by decide +kernel⟩, by decide +kernel⟩
abbrev mX4_stillWorlds : Mt := (yX4_stillWorlds, cX4_stillWorlds, 6, (some .long))
theorem cb_X4_stillWorlds : CB mX4_stillWorlds 2 := ⟨tb_in (tt_2 147 rfl) rfl, tb_in (tt_1 2 rfl) rfl, ⟨by decide +kernel, by decide +kernel, by decide +kernel⟩, by decide +kernel⟩
abbrev mJ6_bitCount_0f7a4 : Mt := (yJ6_bitCount_0f7a4, cJ6_bitCount_0f7a4, 1, (some .int))
theorem cb_J6_bitCount_0f7a4 : CB mJ6_bitCount_0f7a4 1 := ⟨tb_in (tt_2 150 rfl) rfl, tb_in (tt_1 9 rfl) rfl, ⟨by decide +kernel, by decide +kernel, by decide +kernel⟩, by decide +kernel⟩
abbrev mJ13_bitCount_95d88 : Mt := (yJ13_bitCount_95d88, cJ13_bitCount_95d88, 2, (some .int))
theorem cb_J13_bitCount_95d88 : CB mJ13_bitCount_95d88 1 := ⟨tb_in (tt_2 156 rfl) rfl, tb_in (tt_1 10 rfl) rfl, ⟨by decide +kernel, by decide +kernel, by decide +kernel⟩, by decide +kernel⟩
abbrev mX6_lowestOf : Mt := (yX6_lowestOf, cX6_lowestOf, 2, (some .int))
theorem cb_X6_lowestOf : CB mX6_lowestOf 1 := ⟨tb_in (tt_2 162 rfl) rfl, tb_in (tt_1 1 rfl) rfl, ⟨by decide +kernel, by decide +kernel, by decide +kernel⟩, by decide +kernel⟩
abbrev mX6_makes : Mt := (yX6_makes, cX6_makes, 1, (some .int))
theorem cb_X6_makes : CB mX6_makes 0 := ⟨tb_in (tt_2 166 rfl) rfl, tb_in (tt_1 1 rfl) rfl, ⟨by decide +kernel, by decide +kernel, by decide +kernel⟩, by decide +kernel⟩
abbrev mX6_wishOutcome : Mt := (yX6_wishOutcome, cX6_wishOutcome, 1, (some .int))
theorem cb_X6_wishOutcome : CB mX6_wishOutcome 0 := ⟨tb_in (tt_2 170 rfl) rfl, tb_in (tt_1 1 rfl) rfl, ⟨by decide +kernel, by decide +kernel, by decide +kernel⟩, by decide +kernel⟩
abbrev mX3_ready : Mt := (yX3_ready, cX3_ready, 1, none)
theorem cb_X3_ready : CB mX3_ready 0 := ⟨tb_in (tt_2 174 rfl) rfl, tb_in (tt_1 5 rfl) rfl, ⟨by decide +kernel, by decide +kernel, by decide +kernel⟩, by decide +kernel⟩
abbrev mX6_fillSums : Mt := (yX6_fillSums, cX6_fillSums, 6, none)
theorem cb_X6_fillSums : CB mX6_fillSums 4 := ⟨tb_in (tt_2 177 rfl) rfl, tb_in (tt_1 1 rfl) rfl, ⟨by decide +kernel, by decide +kernel, by decide +kernel⟩, by decide +kernel⟩
abbrev mX3_outcome : Mt := (yX3_outcome, cX3_outcome, 4, (some .int))
theorem cb_X3_outcome : CB mX3_outcome 2 := ⟨tb_in (tt_2 185 rfl) rfl, tb_in (tt_1 5 rfl) rfl, ⟨by decide +kernel, by decide +kernel, by decide +kernel⟩, by decide +kernel⟩
abbrev mX6_leastOf : Mt := (yX6_leastOf, cX6_leastOf, 12, (some .int))
theorem cb_X6_leastOf : CB mX6_leastOf 4 := ⟨tb_in (tt_2 188 rfl) rfl, tb_in (tt_1 1 rfl) rfl, ⟨by decide +kernel, by decide +kernel, by decide +kernel⟩, by decide +kernel⟩
abbrev mX6_extreme : Mt := (yX6_extreme, cX6_extreme, 7, (some .int))
theorem cb_X6_extreme : CB mX6_extreme 3 := ⟨tb_in (tt_2 192 rfl) rfl, tb_in (tt_1 1 rfl) rfl, ⟨by decide +kernel, by decide +kernel, by decide +kernel⟩, by decide +kernel⟩
abbrev mX6_isBit : Mt := (yX6_isBit, cX6_isBit, 1, (some .boolean))
theorem cb_X6_isBit : CB mX6_isBit 1 := ⟨tb_in (tt_2 195 rfl) rfl, tb_in (tt_1 1 rfl) rfl, ⟨by decide +kernel, by decide +kernel, by decide +kernel⟩, by decide +kernel⟩
abbrev mX6_refusalOf : Mt := (yX6_refusalOf, cX6_refusalOf, 3, (some .int))
theorem cb_X6_refusalOf : CB mX6_refusalOf 2 := ⟨tb_in (tt_2 199 rfl) rfl, tb_in (tt_1 1 rfl) rfl, ⟨by decide +kernel, by decide +kernel, by decide +kernel⟩, by decide +kernel⟩
abbrev mX6_harmed : Mt := (yX6_harmed, cX6_harmed, 4, (some .int))
theorem cb_X6_harmed : CB mX6_harmed 0 := ⟨tb_in (tt_2 205 rfl) rfl, tb_in (tt_1 1 rfl) rfl, ⟨by decide +kernel, by decide +kernel, by decide +kernel⟩, by decide +kernel⟩
abbrev mX6_gainOf : Mt := (yX6_gainOf, cX6_gainOf, 3, (some .int))
theorem cb_X6_gainOf : CB mX6_gainOf 2 := ⟨tb_in (tt_2 209 rfl) rfl, tb_in (tt_1 1 rfl) rfl, ⟨by decide +kernel, by decide +kernel, by decide +kernel⟩, by decide +kernel⟩
abbrev mX6_grant : Mt := (yX6_grant, cX6_grant, 2, (some .int))
theorem cb_X6_grant : CB mX6_grant 0 := ⟨tb_in (tt_2 213 rfl) rfl, tb_in (tt_1 1 rfl) rfl, ⟨by decide +kernel, by decide +kernel, by decide +kernel⟩, by decide +kernel⟩
abbrev mX4_remember : Mt := (yX4_remember, cX4_remember, 2, none)
theorem cb_X4_remember : CB mX4_remember 1 := ⟨tb_in (tt_2 217 rfl) rfl, tb_in (tt_1 2 rfl) rfl, ⟨by decide +kernel, by decide +kernel, by decide +kernel⟩, by decide +kernel⟩
abbrev mX6_undo : Mt := (yX6_undo, cX6_undo, 1, (some .int))
theorem cb_X6_undo : CB mX6_undo 0 := ⟨tb_in (tt_2 222 rfl) rfl, tb_in (tt_1 1 rfl) rfl, ⟨by decide +kernel, by decide +kernel, by decide +kernel⟩, by decide +kernel⟩
abbrev mX6_comma : Mt := (yX6_comma, cX6_comma, 5, (some .int))
theorem cb_X6_comma : CB mX6_comma 1 := ⟨tb_in (tt_2 226 rfl) rfl, tb_in (tt_1 1 rfl) rfl, ⟨by decide +kernel, by decide +kernel, by decide +kernel⟩, by decide +kernel⟩
abbrev mX0_clear : Mt := (yX0_clear, cX0_clear, 1, none)
theorem cb_X0_clear : CB mX0_clear 0 := ⟨tb_in (tt_2 230 rfl) rfl, tb_in (tt_1 7 rfl) rfl, ⟨by decide +kernel, by decide +kernel, by decide +kernel⟩, by decide +kernel⟩
abbrev mX6_tryPlace : Mt := (yX6_tryPlace, cX6_tryPlace, 5, none)
theorem cb_X6_tryPlace : CB mX6_tryPlace 2 := ⟨tb_in (tt_2 234 rfl) rfl, tb_in (tt_1 1 rfl) rfl, ⟨by decide +kernel, by decide +kernel, by decide +kernel⟩, by decide +kernel⟩
abbrev mX6_tryChange : Mt := (yX6_tryChange, cX6_tryChange, 6, none)
theorem cb_X6_tryChange : CB mX6_tryChange 3 := ⟨tb_in (tt_2 238 rfl) rfl, tb_in (tt_1 1 rfl) rfl, ⟨by decide +kernel, by decide +kernel, by decide +kernel⟩, by decide +kernel⟩
abbrev mX6_signPut : Mt := (yX6_signPut, cX6_signPut, 3, (some .int))
theorem cb_X6_signPut : CB mX6_signPut 2 := ⟨tb_in (tt_3 2 rfl) rfl, tb_in (tt_1 1 rfl) rfl, ⟨by decide +kernel, by decide +kernel, by decide +kernel⟩, by decide +kernel⟩
abbrev mX1_copyChanged : Mt := (yX1_copyChanged, cX1_copyChanged, 5, none)
theorem cb_X1_copyChanged : CB mX1_copyChanged 3 := ⟨tb_in (tt_3 6 rfl) rfl, tb_in (tt_1 3 rfl) rfl, ⟨by decide +kernel, by decide +kernel, by decide +kernel⟩, by decide +kernel⟩
abbrev mX0_offer : Mt := (yX0_offer, cX0_offer, 3, none)
theorem cb_X0_offer : CB mX0_offer 2 := ⟨tb_in (tt_3 11 rfl) rfl, tb_in (tt_1 7 rfl) rfl, ⟨by decide +kernel, by decide +kernel, by decide +kernel⟩, by decide +kernel⟩
abbrev mX6_term : Mt := (yX6_term, cX6_term, 2, (some .int))
theorem cb_X6_term : CB mX6_term 1 := ⟨tb_in (tt_3 16 rfl) rfl, tb_in (tt_1 1 rfl) rfl, ⟨by decide +kernel, by decide +kernel, by decide +kernel⟩, by decide +kernel⟩
abbrev mX3_ofTerm : Mt := (yX3_ofTerm, cX3_ofTerm, 3, (some .int))
theorem cb_X3_ofTerm : CB mX3_ofTerm 2 := ⟨tb_in (tt_3 20 rfl) rfl, tb_in (tt_1 5 rfl) rfl, ⟨by decide +kernel, by decide +kernel, by decide +kernel⟩, by decide +kernel⟩
abbrev mX3_termWorlds : Mt := (yX3_termWorlds, cX3_termWorlds, 7, (some .long))
theorem cb_X3_termWorlds : CB mX3_termWorlds 2 := ⟨tb_in (tt_3 24 rfl) rfl, tb_in (tt_1 5 rfl) rfl, ⟨by decide +kernel, by decide +kernel, by decide +kernel⟩, by decide +kernel⟩
abbrev mX3_movedBy : Mt := (yX3_movedBy, cX3_movedBy, 6, (some .long))
theorem cb_X3_movedBy : CB mX3_movedBy 2 := ⟨tb_in (tt_3 30 rfl) rfl, tb_in (tt_1 5 rfl) rfl, ⟨by decide +kernel, by decide +kernel, by decide +kernel⟩, by decide +kernel⟩
abbrev mX6_wording : Mt := (yX6_wording, cX6_wording, 5, (some .int))
theorem cb_X6_wording : CB mX6_wording 2 := ⟨tb_in (tt_3 37 rfl) rfl, tb_in (tt_1 1 rfl) rfl, ⟨by decide +kernel, by decide +kernel, by decide +kernel⟩, by decide +kernel⟩
abbrev mX5_rankOf : Mt := (yX5_rankOf, cX5_rankOf, 2, (some .int))
theorem cb_X5_rankOf : CB mX5_rankOf 1 := ⟨tb_in (tt_3 41 rfl) rfl, tb_in (tt_1 4 rfl) rfl, ⟨by decide +kernel, by decide +kernel, by decide +kernel⟩, by decide +kernel⟩
abbrev mX5_wordsOf : Mt := (yX5_wordsOf, cX5_wordsOf, 2, (some .int))
theorem cb_X5_wordsOf : CB mX5_wordsOf 1 := ⟨tb_in (tt_3 45 rfl) rfl, tb_in (tt_1 4 rfl) rfl, ⟨by decide +kernel, by decide +kernel, by decide +kernel⟩, by decide +kernel⟩
abbrev mX6_most : Mt := (yX6_most, cX6_most, 5, (some .int))
theorem cb_X6_most : CB mX6_most 2 := ⟨tb_in (tt_3 50 rfl) rfl, tb_in (tt_1 1 rfl) rfl, ⟨by decide +kernel, by decide +kernel, by decide +kernel⟩, by decide +kernel⟩
abbrev mX6_isWords : Mt := (yX6_isWords, cX6_isWords, 1, (some .boolean))
theorem cb_X6_isWords : CB mX6_isWords 1 := ⟨tb_in (tt_3 53 rfl) rfl, tb_in (tt_1 1 rfl) rfl, ⟨by decide +kernel, by decide +kernel, by decide +kernel⟩, by decide +kernel⟩
abbrev mX6_row : Mt := (yX6_row, cX6_row, 5, (some .int))
theorem cb_X6_row : CB mX6_row 3 := ⟨tb_in (tt_3 58 rfl) rfl, tb_in (tt_1 1 rfl) rfl, ⟨by decide +kernel, by decide +kernel, by decide +kernel⟩, by decide +kernel⟩
abbrev mX2_drawUp : Mt := (yX2_drawUp, cX2_drawUp, 7, none)
theorem cb_X2_drawUp : CB mX2_drawUp 3 := ⟨tb_in (tt_3 62 rfl) rfl, tb_in (tt_1 6 rfl) rfl, ⟨by decide +kernel, by decide +kernel, by decide +kernel⟩, by decide +kernel⟩
abbrev mX2_listStirs : Mt := (yX2_listStirs, cX2_listStirs, 3, none)
theorem cb_X2_listStirs : CB mX2_listStirs 1 := ⟨tb_in (tt_3 68 rfl) rfl, tb_in (tt_1 6 rfl) rfl, ⟨by decide +kernel, by decide +kernel, by decide +kernel⟩, by decide +kernel⟩
abbrev mX2_drawUpSaying : Mt := (yX2_drawUpSaying, cX2_drawUpSaying, 9, none)
theorem cb_X2_drawUpSaying : CB mX2_drawUpSaying 3 := ⟨tb_in (tt_3 72 rfl) rfl, tb_in (tt_1 6 rfl) rfl, ⟨by decide +kernel, by decide +kernel, by decide +kernel⟩, by decide +kernel⟩
abbrev mX2_worstNear : Mt := (yX2_worstNear, cX2_worstNear, 6, (some .int))
theorem cb_X2_worstNear : CB mX2_worstNear 2 := ⟨tb_in (tt_3 76 rfl) rfl, tb_in (tt_1 6 rfl) rfl, ⟨by decide +kernel, by decide +kernel, by decide +kernel⟩, by decide +kernel⟩
abbrev mX5_rankFor : Mt := (yX5_rankFor, cX5_rankFor, 3, (some .int))
theorem cb_X5_rankFor : CB mX5_rankFor 2 := ⟨tb_in (tt_3 80 rfl) rfl, tb_in (tt_1 4 rfl) rfl, ⟨by decide +kernel, by decide +kernel, by decide +kernel⟩, by decide +kernel⟩
abbrev mX2_isBetter : Mt := (yX2_isBetter, cX2_isBetter, 4, (some .boolean))
theorem cb_X2_isBetter : CB mX2_isBetter 4 := ⟨tb_in (tt_3 83 rfl) rfl, tb_in (tt_1 6 rfl) rfl, ⟨by decide +kernel, by decide +kernel, by decide +kernel⟩, by decide +kernel⟩
abbrev mX2_takePart : Mt := (yX2_takePart, cX2_takePart, 6, none)
theorem cb_X2_takePart : CB mX2_takePart 3 := ⟨tb_in (tt_3 87 rfl) rfl, tb_in (tt_1 6 rfl) rfl, ⟨by decide +kernel, by decide +kernel, by decide +kernel⟩, by decide +kernel⟩
abbrev mX6_follow : Mt := (yX6_follow, cX6_follow, 3, none)
theorem cb_X6_follow : CB mX6_follow 1 := ⟨tb_in (tt_3 92 rfl) rfl, tb_in (tt_1 1 rfl) rfl, ⟨by decide +kernel, by decide +kernel, by decide +kernel⟩, by decide +kernel⟩
abbrev mX6_firstOfRow : Mt := (yX6_firstOfRow, cX6_firstOfRow, 4, (some .int))
theorem cb_X6_firstOfRow : CB mX6_firstOfRow 2 := ⟨tb_in (tt_3 96 rfl) rfl, tb_in (tt_1 1 rfl) rfl, ⟨by decide +kernel, by decide +kernel, by decide +kernel⟩, by decide +kernel⟩
abbrev mX6_lamps : Mt := (yX6_lamps, cX6_lamps, 4, (some .int))
theorem cb_X6_lamps : CB mX6_lamps 3 := ⟨tb_in (tt_3 100 rfl) rfl, tb_in (tt_1 1 rfl) rfl, ⟨by decide +kernel, by decide +kernel, by decide +kernel⟩, by decide +kernel⟩
abbrev mX6_sixths : Mt := (yX6_sixths, cX6_sixths, 5, (some .int))
theorem cb_X6_sixths : CB mX6_sixths 4 := ⟨tb_in (tt_3 104 rfl) rfl, tb_in (tt_1 1 rfl) rfl, ⟨by decide +kernel, by decide +kernel, by decide +kernel⟩, by decide +kernel⟩
abbrev mX6_isShare : Mt := (yX6_isShare, cX6_isShare, 1, (some .boolean))
theorem cb_X6_isShare : CB mX6_isShare 1 := ⟨tb_in (tt_3 107 rfl) rfl, tb_in (tt_1 1 rfl) rfl, ⟨by decide +kernel, by decide +kernel, by decide +kernel⟩, by decide +kernel⟩
abbrev mX6_votes : Mt := (yX6_votes, cX6_votes, 2, (some .int))
theorem cb_X6_votes : CB mX6_votes 0 := ⟨tb_in (tt_3 111 rfl) rfl, tb_in (tt_1 1 rfl) rfl, ⟨by decide +kernel, by decide +kernel, by decide +kernel⟩, by decide +kernel⟩
abbrev mX6_votesFor : Mt := (yX6_votesFor, cX6_votesFor, 4, (some .int))
theorem cb_X6_votesFor : CB mX6_votesFor 1 := ⟨tb_in (tt_3 115 rfl) rfl, tb_in (tt_1 1 rfl) rfl, ⟨by decide +kernel, by decide +kernel, by decide +kernel⟩, by decide +kernel⟩
abbrev mX6_agreed : Mt := (yX6_agreed, cX6_agreed, 4, (some .int))
theorem cb_X6_agreed : CB mX6_agreed 1 := ⟨tb_in (tt_3 119 rfl) rfl, tb_in (tt_1 1 rfl) rfl, ⟨by decide +kernel, by decide +kernel, by decide +kernel⟩, by decide +kernel⟩
abbrev mX6_fillMerits : Mt := (yX6_fillMerits, cX6_fillMerits, 4, none)
theorem cb_X6_fillMerits : CB mX6_fillMerits 0 := ⟨tb_in (tt_3 123 rfl) rfl, tb_in (tt_1 1 rfl) rfl, ⟨by decide +kernel, by decide +kernel, by decide +kernel⟩, by decide +kernel⟩
abbrev mX6_paid : Mt := (yX6_paid, cX6_paid, 6, (some .int))
theorem cb_X6_paid : CB mX6_paid 0 := ⟨tb_in (tt_3 127 rfl) rfl, tb_in (tt_1 1 rfl) rfl, ⟨by decide +kernel, by decide +kernel, by decide +kernel⟩, by decide +kernel⟩
abbrev mX6_picked : Mt := (yX6_picked, cX6_picked, 5, (some .int))
theorem cb_X6_picked : CB mX6_picked 1 := ⟨tb_in (tt_3 131 rfl) rfl, tb_in (tt_1 1 rfl) rfl, ⟨by decide +kernel, by decide +kernel, by decide +kernel⟩, by decide +kernel⟩
abbrev mX4_canFit : Mt := (yX4_canFit, cX4_canFit, 2, (some .boolean))
theorem cb_X4_canFit : CB mX4_canFit 1 := ⟨tb_in (tt_3 135 rfl) rfl, tb_in (tt_1 2 rfl) rfl, ⟨by decide +kernel, by decide +kernel, by decide +kernel⟩, by decide +kernel⟩
abbrev mX5_tasteTakes : Mt := (yX5_tasteTakes, cX5_tasteTakes, 13, (some .boolean))
theorem cb_X5_tasteTakes : CB mX5_tasteTakes 3 := ⟨tb_in (tt_3 139 rfl) rfl, tb_in (tt_1 4 rfl) rfl, ⟨by decide +kernel, by decide +kernel, by decide +kernel⟩, by decide +kernel⟩
abbrev mX4_ruleOut : Mt := (yX4_ruleOut, cX4_ruleOut, 2, none)
theorem cb_X4_ruleOut : CB mX4_ruleOut 1 := ⟨tb_in (tt_3 145 rfl) rfl, tb_in (tt_1 2 rfl) rfl, ⟨by decide +kernel, by decide +kernel, by decide +kernel⟩, by decide +kernel⟩
abbrev mX6_fit : Mt := (yX6_fit, cX6_fit, 6, (some .int))
theorem cb_X6_fit : CB mX6_fit 1 := ⟨tb_in (tt_3 149 rfl) rfl, tb_in (tt_1 1 rfl) rfl, ⟨by decide +kernel, by decide +kernel, by decide +kernel⟩, by decide +kernel⟩
abbrev mX5_digitOf : Mt := (yX5_digitOf, cX5_digitOf, 3, (some .int))
theorem cb_X5_digitOf : CB mX5_digitOf 2 := ⟨tb_in (tt_3 153 rfl) rfl, tb_in (tt_1 4 rfl) rfl, ⟨by decide +kernel, by decide +kernel, by decide +kernel⟩, by decide +kernel⟩
abbrev mX6_came : Mt := (yX6_came, cX6_came, 4, (some .int))
theorem cb_X6_came : CB mX6_came 2 := ⟨tb_in (tt_3 157 rfl) rfl, tb_in (tt_1 1 rfl) rfl, ⟨by decide +kernel, by decide +kernel, by decide +kernel⟩, by decide +kernel⟩
abbrev mX6_letters : Mt := (yX6_letters, cX6_letters, 4, (some .int))
theorem cb_X6_letters : CB mX6_letters 1 := ⟨tb_in (tt_3 161 rfl) rfl, tb_in (tt_1 1 rfl) rfl, ⟨by decide +kernel, by decide +kernel, by decide +kernel⟩, by decide +kernel⟩
abbrev mX3_didAll : Mt := (yX3_didAll, cX3_didAll, 3, (some .boolean))
theorem cb_X3_didAll : CB mX3_didAll 1 := ⟨tb_in (tt_3 165 rfl) rfl, tb_in (tt_1 5 rfl) rfl, ⟨by decide +kernel, by decide +kernel, by decide +kernel⟩, by decide +kernel⟩
abbrev mX6_forget : Mt := (yX6_forget, cX6_forget, 2, (some .int))
theorem cb_X6_forget : CB mX6_forget 0 := ⟨tb_in (tt_3 170 rfl) rfl, tb_in (tt_1 1 rfl) rfl, ⟨by decide +kernel, by decide +kernel, by decide +kernel⟩, by decide +kernel⟩
abbrev mX6_drunk : Mt := (yX6_drunk, cX6_drunk, 6, (some .long))
theorem cb_X6_drunk : CB mX6_drunk 2 := ⟨tb_in (tt_3 175 rfl) rfl, tb_in (tt_1 1 rfl) rfl, ⟨by decide +kernel, by decide +kernel, by decide +kernel⟩, by decide +kernel⟩
abbrev mX6_partOf : Mt := (yX6_partOf, cX6_partOf, 7, (some .long))
theorem cb_X6_partOf : CB mX6_partOf 3 := ⟨tb_in (tt_3 180 rfl) rfl, tb_in (tt_1 1 rfl) rfl, ⟨by decide +kernel, by decide +kernel, by decide +kernel⟩, by decide +kernel⟩
abbrev mX6_mean : Mt := (yX6_mean, cX6_mean, 9, (some .long))
theorem cb_X6_mean : CB mX6_mean 2 := ⟨tb_in (tt_3 184 rfl) rfl, tb_in (tt_1 1 rfl) rfl, ⟨by decide +kernel, by decide +kernel, by decide +kernel⟩, by decide +kernel⟩
abbrev mX6_year : Mt := (yX6_year, cX6_year, 10, (some .int))
theorem cb_X6_year : CB mX6_year 3 := ⟨tb_in (tt_3 188 rfl) rfl, tb_in (tt_1 1 rfl) rfl, ⟨by decide +kernel, by decide +kernel, by decide +kernel⟩, by decide +kernel⟩
abbrev mX6_image : Mt := (yX6_image, cX6_image, 3, (some .int))
theorem cb_X6_image : CB mX6_image 1 := ⟨tb_in (tt_3 193 rfl) rfl, tb_in (tt_1 1 rfl) rfl, ⟨by decide +kernel, by decide +kernel, by decide +kernel⟩, by decide +kernel⟩
abbrev mX4_copyFrom : Mt := (yX4_copyFrom, cX4_copyFrom, 2, none)
theorem cb_X4_copyFrom : CB mX4_copyFrom 1 := ⟨tb_in (tt_3 197 rfl) rfl, tb_in (tt_1 2 rfl) rfl, ⟨by decide +kernel, by decide +kernel, by decide +kernel⟩, by decide +kernel⟩
abbrev mX6_restore : Mt := (yX6_restore, cX6_restore, 3, (some .int))
theorem cb_X6_restore : CB mX6_restore 1 := ⟨tb_in (tt_3 201 rfl) rfl, tb_in (tt_1 1 rfl) rfl, ⟨by decide +kernel, by decide +kernel, by decide +kernel⟩, by decide +kernel⟩
abbrev mX6_told : Mt := (yX6_told, cX6_told, 5, (some .int))
theorem cb_X6_told : CB mX6_told 1 := ⟨tb_in (tt_3 205 rfl) rfl, tb_in (tt_1 1 rfl) rfl, ⟨by decide +kernel, by decide +kernel, by decide +kernel⟩, by decide +kernel⟩
abbrev mX6_toldPlain : Mt := (yX6_toldPlain, cX6_toldPlain, 2, (some .int))
theorem cb_X6_toldPlain : CB mX6_toldPlain 1 := ⟨tb_in (tt_3 209 rfl) rfl, tb_in (tt_1 1 rfl) rfl, ⟨by decide +kernel, by decide +kernel, by decide +kernel⟩, by decide +kernel⟩
abbrev mX7_init : Mt := (yX7_init, cX7_init, 1, none)
theorem cb_X7_init : CB mX7_init 0 := ⟨tb_in (tt_3 214 rfl) rfl, tb_in (tt_1 8 rfl) rfl, ⟨by decide +kernel, by decide +kernel, by decide +kernel⟩, by decide +kernel⟩
abbrev mX7_plain : Mt := (yX7_plain, cX7_plain, 2, none)
theorem cb_X7_plain : CB mX7_plain 0 := ⟨tb_in (tt_3 219 rfl) rfl, tb_in (tt_1 8 rfl) rfl, ⟨by decide +kernel, by decide +kernel, by decide +kernel⟩, by decide +kernel⟩
abbrev mX7_all : Mt := (yX7_all, cX7_all, 1, (some .long))
theorem cb_X7_all : CB mX7_all 0 := ⟨tb_in (tt_3 223 rfl) rfl, tb_in (tt_1 8 rfl) rfl, ⟨by decide +kernel, by decide +kernel, by decide +kernel⟩, by decide +kernel⟩
abbrev mX7_worlds : Mt := (yX7_worlds, cX7_worlds, 1, (some .int))
theorem cb_X7_worlds : CB mX7_worlds 0 := ⟨tb_in (tt_3 228 rfl) rfl, tb_in (tt_1 8 rfl) rfl, ⟨by decide +kernel, by decide +kernel, by decide +kernel⟩, by decide +kernel⟩
abbrev mX7_things : Mt := (yX7_things, cX7_things, 3, (some .int))
theorem cb_X7_things : CB mX7_things 1 := ⟨tb_in (tt_4 81 rfl) rfl, tb_in (tt_1 8 rfl) rfl, ⟨by decide +kernel, by decide +kernel, by decide +kernel⟩, by decide +kernel⟩
abbrev mX7_in : Mt := (yX7_in, cX7_in, 3, (some .boolean))
theorem cb_X7_in : CB mX7_in 3 := ⟨tb_in (tt_4 84 rfl) rfl, tb_in (tt_1 8 rfl) rfl, ⟨by decide +kernel, by decide +kernel, by decide +kernel⟩, by decide +kernel⟩
abbrev mX7_worth : Mt := (yX7_worth, cX7_worth, 5, (some .int))
theorem cb_X7_worth : CB mX7_worth 3 := ⟨tb_in (tt_4 88 rfl) rfl, tb_in (tt_1 8 rfl) rfl, ⟨by decide +kernel, by decide +kernel, by decide +kernel⟩, by decide +kernel⟩
abbrev mX7_isCousin : Mt := (yX7_isCousin, cX7_isCousin, 1, (some .boolean))
theorem cb_X7_isCousin : CB mX7_isCousin 1 := ⟨tb_in (tt_4 91 rfl) rfl, tb_in (tt_1 8 rfl) rfl, ⟨by decide +kernel, by decide +kernel, by decide +kernel⟩, by decide +kernel⟩
abbrev mX7_isThing : Mt := (yX7_isThing, cX7_isThing, 2, (some .boolean))
theorem cb_X7_isThing : CB mX7_isThing 1 := ⟨tb_in (tt_4 95 rfl) rfl, tb_in (tt_1 8 rfl) rfl, ⟨by decide +kernel, by decide +kernel, by decide +kernel⟩, by decide +kernel⟩
abbrev mX7_taste : Mt := (yX7_taste, cX7_taste, 4, (some .int))
theorem cb_X7_taste : CB mX7_taste 2 := ⟨tb_in (tt_4 99 rfl) rfl, tb_in (tt_1 8 rfl) rfl, ⟨by decide +kernel, by decide +kernel, by decide +kernel⟩, by decide +kernel⟩
abbrev mX7_set : Mt := (yX7_set, cX7_set, 5, (some .int))
theorem cb_X7_set : CB mX7_set 2 := ⟨tb_in (tt_4 103 rfl) rfl, tb_in (tt_1 8 rfl) rfl, ⟨by decide +kernel, by decide +kernel, by decide +kernel⟩, by decide +kernel⟩
abbrev mX7_now : Mt := (yX7_now, cX7_now, 3, (some .int))
theorem cb_X7_now : CB mX7_now 1 := ⟨tb_in (tt_4 107 rfl) rfl, tb_in (tt_1 8 rfl) rfl, ⟨by decide +kernel, by decide +kernel, by decide +kernel⟩, by decide +kernel⟩
abbrev mX7_isWorld : Mt := (yX7_isWorld, cX7_isWorld, 2, (some .boolean))
theorem cb_X7_isWorld : CB mX7_isWorld 1 := ⟨tb_in (tt_4 111 rfl) rfl, tb_in (tt_1 8 rfl) rfl, ⟨by decide +kernel, by decide +kernel, by decide +kernel⟩, by decide +kernel⟩
abbrev mX7_worthOf : Mt := (yX7_worthOf, cX7_worthOf, 3, (some .int))
theorem cb_X7_worthOf : CB mX7_worthOf 2 := ⟨tb_in (tt_4 115 rfl) rfl, tb_in (tt_1 8 rfl) rfl, ⟨by decide +kernel, by decide +kernel, by decide +kernel⟩, by decide +kernel⟩
abbrev mX7_worthTo : Mt := (yX7_worthTo, cX7_worthTo, 5, (some .int))
theorem cb_X7_worthTo : CB mX7_worthTo 2 := ⟨tb_in (tt_4 119 rfl) rfl, tb_in (tt_1 8 rfl) rfl, ⟨by decide +kernel, by decide +kernel, by decide +kernel⟩, by decide +kernel⟩
abbrev mX7_has : Mt := (yX7_has, cX7_has, 2, (some .boolean))
theorem cb_X7_has : CB mX7_has 2 := ⟨tb_in (tt_4 122 rfl) rfl, tb_in (tt_1 8 rfl) rfl, ⟨by decide +kernel, by decide +kernel, by decide +kernel⟩, by decide +kernel⟩
abbrev mX7_say : Mt := (yX7_say, cX7_say, 2, (some .int))
theorem cb_X7_say : CB mX7_say 1 := ⟨tb_in (tt_4 126 rfl) rfl, tb_in (tt_1 8 rfl) rfl, ⟨by decide +kernel, by decide +kernel, by decide +kernel⟩, by decide +kernel⟩
abbrev mX7_wipe : Mt := (yX7_wipe, cX7_wipe, 2, (some .int))
theorem cb_X7_wipe : CB mX7_wipe 0 := ⟨tb_in (tt_4 130 rfl) rfl, tb_in (tt_1 8 rfl) rfl, ⟨by decide +kernel, by decide +kernel, by decide +kernel⟩, by decide +kernel⟩
abbrev mX7_fault : Mt := (yX7_fault, cX7_fault, 1, (some .int))
theorem cb_X7_fault : CB mX7_fault 0 := ⟨tb_in (tt_4 134 rfl) rfl, tb_in (tt_1 8 rfl) rfl, ⟨by decide +kernel, by decide +kernel, by decide +kernel⟩, by decide +kernel⟩
abbrev mX7_faultOf : Mt := (yX7_faultOf, cX7_faultOf, 7, (some .int))
theorem cb_X7_faultOf : CB mX7_faultOf 0 := ⟨tb_in (tt_4 138 rfl) rfl, tb_in (tt_1 8 rfl) rfl, ⟨by decide +kernel, by decide +kernel, by decide +kernel⟩, by decide +kernel⟩
abbrev mX7_isLetter : Mt := (yX7_isLetter, cX7_isLetter, 2, (some .boolean))
theorem cb_X7_isLetter : CB mX7_isLetter 1 := ⟨tb_in (tt_4 142 rfl) rfl, tb_in (tt_1 8 rfl) rfl, ⟨by decide +kernel, by decide +kernel, by decide +kernel⟩, by decide +kernel⟩
abbrev mX7_isPair : Mt := (yX7_isPair, cX7_isPair, 1, (some .boolean))
theorem cb_X7_isPair : CB mX7_isPair 1 := ⟨tb_in (tt_4 145 rfl) rfl, tb_in (tt_1 8 rfl) rfl, ⟨by decide +kernel, by decide +kernel, by decide +kernel⟩, by decide +kernel⟩
abbrev mX7_enact : Mt := (yX7_enact, cX7_enact, 4, (some .int))
theorem cb_X7_enact : CB mX7_enact 0 := ⟨tb_in (tt_4 149 rfl) rfl, tb_in (tt_1 8 rfl) rfl, ⟨by decide +kernel, by decide +kernel, by decide +kernel⟩, by decide +kernel⟩
abbrev mX7_layPad : Mt := (yX7_layPad, cX7_layPad, 2, none)
theorem cb_X7_layPad : CB mX7_layPad 0 := ⟨tb_in (tt_4 153 rfl) rfl, tb_in (tt_1 8 rfl) rfl, ⟨by decide +kernel, by decide +kernel, by decide +kernel⟩, by decide +kernel⟩
abbrev mX7_isSo : Mt := (yX7_isSo, cX7_isSo, 7, (some .boolean))
theorem cb_X7_isSo : CB mX7_isSo 2 := ⟨tb_in (tt_4 157 rfl) rfl, tb_in (tt_1 8 rfl) rfl, ⟨by decide +kernel, by decide +kernel, by decide +kernel⟩, by decide +kernel⟩
abbrev mX7_pairOf : Mt := (yX7_pairOf, cX7_pairOf, 4, (some .boolean))
theorem cb_X7_pairOf : CB mX7_pairOf 3 := ⟨tb_in (tt_4 161 rfl) rfl, tb_in (tt_1 8 rfl) rfl, ⟨by decide +kernel, by decide +kernel, by decide +kernel⟩, by decide +kernel⟩
abbrev mX7_kept : Mt := (yX7_kept, cX7_kept, 6, (some .int))
theorem cb_X7_kept : CB mX7_kept 1 := ⟨tb_in (tt_4 165 rfl) rfl, tb_in (tt_1 8 rfl) rfl, ⟨by decide +kernel, by decide +kernel, by decide +kernel⟩, by decide +kernel⟩
abbrev mX7_keeping : Mt := (yX7_keeping, cX7_keeping, 7, (some .long))
theorem cb_X7_keeping : CB mX7_keeping 1 := ⟨tb_in (tt_4 169 rfl) rfl, tb_in (tt_1 8 rfl) rfl, ⟨by decide +kernel, by decide +kernel, by decide +kernel⟩, by decide +kernel⟩
abbrev mX7_saidOf : Mt := (yX7_saidOf, cX7_saidOf, 3, (some .int))
theorem cb_X7_saidOf : CB mX7_saidOf 0 := ⟨tb_in (tt_4 173 rfl) rfl, tb_in (tt_1 8 rfl) rfl, ⟨by decide +kernel, by decide +kernel, by decide +kernel⟩, by decide +kernel⟩
abbrev mX7_holds : Mt := (yX7_holds, cX7_holds, 3, (some .boolean))
theorem cb_X7_holds : CB mX7_holds 2 := ⟨tb_in (tt_4 176 rfl) rfl, tb_in (tt_1 8 rfl) rfl, ⟨by decide +kernel, by decide +kernel, by decide +kernel⟩, by decide +kernel⟩
abbrev mX7_bits : Mt := (yX7_bits, cX7_bits, 3, (some .int))
theorem cb_X7_bits : CB mX7_bits 1 := ⟨tb_in (tt_4 179 rfl) rfl, tb_in (tt_1 8 rfl) rfl, ⟨by decide +kernel, by decide +kernel, by decide +kernel⟩, by decide +kernel⟩
abbrev mX7_count : Mt := (yX7_count, cX7_count, 5, (some .int))
theorem cb_X7_count : CB mX7_count 1 := ⟨tb_in (tt_4 183 rfl) rfl, tb_in (tt_1 8 rfl) rfl, ⟨by decide +kernel, by decide +kernel, by decide +kernel⟩, by decide +kernel⟩
abbrev mX7_makes : Mt := (yX7_makes, cX7_makes, 1, (some .int))
theorem cb_X7_makes : CB mX7_makes 0 := ⟨tb_in (tt_4 187 rfl) rfl, tb_in (tt_1 8 rfl) rfl, ⟨by decide +kernel, by decide +kernel, by decide +kernel⟩, by decide +kernel⟩
abbrev mX7_made : Mt := (yX7_made, cX7_made, 2, (some .int))
theorem cb_X7_made : CB mX7_made 0 := ⟨tb_in (tt_4 191 rfl) rfl, tb_in (tt_1 8 rfl) rfl, ⟨by decide +kernel, by decide +kernel, by decide +kernel⟩, by decide +kernel⟩
abbrev mX7_madeOf : Mt := (yX7_madeOf, cX7_madeOf, 6, (some .int))
theorem cb_X7_madeOf : CB mX7_madeOf 2 := ⟨tb_in (tt_4 195 rfl) rfl, tb_in (tt_1 8 rfl) rfl, ⟨by decide +kernel, by decide +kernel, by decide +kernel⟩, by decide +kernel⟩
abbrev mX7_likes : Mt := (yX7_likes, cX7_likes, 3, (some .int))
theorem cb_X7_likes : CB mX7_likes 2 := ⟨tb_in (tt_4 199 rfl) rfl, tb_in (tt_1 8 rfl) rfl, ⟨by decide +kernel, by decide +kernel, by decide +kernel⟩, by decide +kernel⟩
abbrev mX7_tasteOf : Mt := (yX7_tasteOf, cX7_tasteOf, 4, (some .int))
theorem cb_X7_tasteOf : CB mX7_tasteOf 1 := ⟨tb_in (tt_4 203 rfl) rfl, tb_in (tt_1 8 rfl) rfl, ⟨by decide +kernel, by decide +kernel, by decide +kernel⟩, by decide +kernel⟩
abbrev mX7_extreme : Mt := (yX7_extreme, cX7_extreme, 10, (some .int))
theorem cb_X7_extreme : CB mX7_extreme 3 := ⟨tb_in (tt_4 207 rfl) rfl, tb_in (tt_1 8 rfl) rfl, ⟨by decide +kernel, by decide +kernel, by decide +kernel⟩, by decide +kernel⟩
abbrev mX7_harmed : Mt := (yX7_harmed, cX7_harmed, 4, (some .int))
theorem cb_X7_harmed : CB mX7_harmed 0 := ⟨tb_in (tt_4 211 rfl) rfl, tb_in (tt_1 8 rfl) rfl, ⟨by decide +kernel, by decide +kernel, by decide +kernel⟩, by decide +kernel⟩
abbrev mX7_grant : Mt := (yX7_grant, cX7_grant, 3, (some .int))
theorem cb_X7_grant : CB mX7_grant 0 := ⟨tb_in (tt_4 215 rfl) rfl, tb_in (tt_1 8 rfl) rfl, ⟨by decide +kernel, by decide +kernel, by decide +kernel⟩, by decide +kernel⟩
abbrev mX7_undo : Mt := (yX7_undo, cX7_undo, 1, (some .int))
theorem cb_X7_undo : CB mX7_undo 0 := ⟨tb_in (tt_4 219 rfl) rfl, tb_in (tt_1 8 rfl) rfl, ⟨by decide +kernel, by decide +kernel, by decide +kernel⟩, by decide +kernel⟩
abbrev mX7_comma : Mt := (yX7_comma, cX7_comma, 9, (some .int))
theorem cb_X7_comma : CB mX7_comma 1 := ⟨tb_in (tt_4 223 rfl) rfl, tb_in (tt_1 8 rfl) rfl, ⟨by decide +kernel, by decide +kernel, by decide +kernel⟩, by decide +kernel⟩
abbrev mX7_pairSign : Mt := (yX7_pairSign, cX7_pairSign, 1, (some .int))
theorem cb_X7_pairSign : CB mX7_pairSign 1 := ⟨tb_in (tt_4 226 rfl) rfl, tb_in (tt_1 8 rfl) rfl, ⟨by decide +kernel, by decide +kernel, by decide +kernel⟩, by decide +kernel⟩
abbrev mX7_term : Mt := (yX7_term, cX7_term, 3, (some .int))
theorem cb_X7_term : CB mX7_term 1 := ⟨tb_in (tt_4 230 rfl) rfl, tb_in (tt_1 8 rfl) rfl, ⟨by decide +kernel, by decide +kernel, by decide +kernel⟩, by decide +kernel⟩
abbrev mX7_terms : Mt := (yX7_terms, cX7_terms, 3, (some .int))
theorem cb_X7_terms : CB mX7_terms 0 := ⟨tb_in (tt_4 234 rfl) rfl, tb_in (tt_1 8 rfl) rfl, ⟨by decide +kernel, by decide +kernel, by decide +kernel⟩, by decide +kernel⟩
abbrev mX7_madeOfTerm : Mt := (yX7_madeOfTerm, cX7_madeOfTerm, 3, (some .int))
theorem cb_X7_madeOfTerm : CB mX7_madeOfTerm 2 := ⟨tb_in (tt_4 238 rfl) rfl, tb_in (tt_1 8 rfl) rfl, ⟨by decide +kernel, by decide +kernel, by decide +kernel⟩, by decide +kernel⟩
abbrev mX7_keepingTerm : Mt := (yX7_keepingTerm, cX7_keepingTerm, 6, (some .long))
theorem cb_X7_keepingTerm : CB mX7_keepingTerm 2 := ⟨tb_in (tt_5 2 rfl) rfl, tb_in (tt_1 8 rfl) rfl, ⟨by decide +kernel, by decide +kernel, by decide +kernel⟩, by decide +kernel⟩
abbrev mX7_layTerm : Mt := (yX7_layTerm, cX7_layTerm, 4, none)
theorem cb_X7_layTerm : CB mX7_layTerm 1 := ⟨tb_in (tt_5 6 rfl) rfl, tb_in (tt_1 8 rfl) rfl, ⟨by decide +kernel, by decide +kernel, by decide +kernel⟩, by decide +kernel⟩
abbrev mX7_keepsTerm : Mt := (yX7_keepsTerm, cX7_keepsTerm, 3, (some .boolean))
theorem cb_X7_keepsTerm : CB mX7_keepsTerm 2 := ⟨tb_in (tt_5 10 rfl) rfl, tb_in (tt_1 8 rfl) rfl, ⟨by decide +kernel, by decide +kernel, by decide +kernel⟩, by decide +kernel⟩
abbrev mX7_wording : Mt := (yX7_wording, cX7_wording, 7, (some .int))
theorem cb_X7_wording : CB mX7_wording 2 := ⟨tb_in (tt_5 14 rfl) rfl, tb_in (tt_1 8 rfl) rfl, ⟨by decide +kernel, by decide +kernel, by decide +kernel⟩, by decide +kernel⟩
abbrev mX7_words : Mt := (yX7_words, cX7_words, 4, (some .int))
theorem cb_X7_words : CB mX7_words 1 := ⟨tb_in (tt_5 18 rfl) rfl, tb_in (tt_1 8 rfl) rfl, ⟨by decide +kernel, by decide +kernel, by decide +kernel⟩, by decide +kernel⟩
abbrev mX7_digitOf : Mt := (yX7_digitOf, cX7_digitOf, 5, (some .int))
theorem cb_X7_digitOf : CB mX7_digitOf 2 := ⟨tb_in (tt_5 22 rfl) rfl, tb_in (tt_1 8 rfl) rfl, ⟨by decide +kernel, by decide +kernel, by decide +kernel⟩, by decide +kernel⟩
abbrev mX7_most : Mt := (yX7_most, cX7_most, 8, (some .int))
theorem cb_X7_most : CB mX7_most 2 := ⟨tb_in (tt_5 26 rfl) rfl, tb_in (tt_1 8 rfl) rfl, ⟨by decide +kernel, by decide +kernel, by decide +kernel⟩, by decide +kernel⟩
abbrev mX7_row : Mt := (yX7_row, cX7_row, 6, (some .int))
theorem cb_X7_row : CB mX7_row 3 := ⟨tb_in (tt_5 30 rfl) rfl, tb_in (tt_1 8 rfl) rfl, ⟨by decide +kernel, by decide +kernel, by decide +kernel⟩, by decide +kernel⟩
abbrev mX7_layAhead : Mt := (yX7_layAhead, cX7_layAhead, 3, none)
theorem cb_X7_layAhead : CB mX7_layAhead 1 := ⟨tb_in (tt_5 34 rfl) rfl, tb_in (tt_1 8 rfl) rfl, ⟨by decide +kernel, by decide +kernel, by decide +kernel⟩, by decide +kernel⟩
abbrev mX7_bestFrom : Mt := (yX7_bestFrom, cX7_bestFrom, 7, (some .int))
theorem cb_X7_bestFrom : CB mX7_bestFrom 2 := ⟨tb_in (tt_5 38 rfl) rfl, tb_in (tt_1 8 rfl) rfl, ⟨by decide +kernel, by decide +kernel, by decide +kernel⟩, by decide +kernel⟩
abbrev mX7_lamps : Mt := (yX7_lamps, cX7_lamps, 8, (some .int))
theorem cb_X7_lamps : CB mX7_lamps 3 := ⟨tb_in (tt_5 43 rfl) rfl, tb_in (tt_1 8 rfl) rfl, ⟨by decide +kernel, by decide +kernel, by decide +kernel⟩, by decide +kernel⟩
abbrev mX7_sixths : Mt := (yX7_sixths, cX7_sixths, 5, (some .int))
theorem cb_X7_sixths : CB mX7_sixths 4 := ⟨tb_in (tt_5 47 rfl) rfl, tb_in (tt_1 8 rfl) rfl, ⟨by decide +kernel, by decide +kernel, by decide +kernel⟩, by decide +kernel⟩
abbrev mX7_votes : Mt := (yX7_votes, cX7_votes, 2, (some .int))
theorem cb_X7_votes : CB mX7_votes 0 := ⟨tb_in (tt_5 51 rfl) rfl, tb_in (tt_1 8 rfl) rfl, ⟨by decide +kernel, by decide +kernel, by decide +kernel⟩, by decide +kernel⟩
abbrev mX7_votesFor : Mt := (yX7_votesFor, cX7_votesFor, 4, (some .int))
theorem cb_X7_votesFor : CB mX7_votesFor 1 := ⟨tb_in (tt_5 55 rfl) rfl, tb_in (tt_1 8 rfl) rfl, ⟨by decide +kernel, by decide +kernel, by decide +kernel⟩, by decide +kernel⟩
abbrev mX7_agreed : Mt := (yX7_agreed, cX7_agreed, 7, (some .int))
theorem cb_X7_agreed : CB mX7_agreed 1 := ⟨tb_in (tt_5 59 rfl) rfl, tb_in (tt_1 8 rfl) rfl, ⟨by decide +kernel, by decide +kernel, by decide +kernel⟩, by decide +kernel⟩
abbrev mX7_worthToAll : Mt := (yX7_worthToAll, cX7_worthToAll, 4, (some .int))
theorem cb_X7_worthToAll : CB mX7_worthToAll 1 := ⟨tb_in (tt_5 64 rfl) rfl, tb_in (tt_1 8 rfl) rfl, ⟨by decide +kernel, by decide +kernel, by decide +kernel⟩, by decide +kernel⟩
abbrev mX7_paid : Mt := (yX7_paid, cX7_paid, 6, (some .int))
theorem cb_X7_paid : CB mX7_paid 0 := ⟨tb_in (tt_5 68 rfl) rfl, tb_in (tt_1 8 rfl) rfl, ⟨by decide +kernel, by decide +kernel, by decide +kernel⟩, by decide +kernel⟩
abbrev mX7_picked : Mt := (yX7_picked, cX7_picked, 4, (some .int))
theorem cb_X7_picked : CB mX7_picked 1 := ⟨tb_in (tt_5 72 rfl) rfl, tb_in (tt_1 8 rfl) rfl, ⟨by decide +kernel, by decide +kernel, by decide +kernel⟩, by decide +kernel⟩
abbrev mX7_fit : Mt := (yX7_fit, cX7_fit, 6, (some .int))
theorem cb_X7_fit : CB mX7_fit 1 := ⟨tb_in (tt_5 76 rfl) rfl, tb_in (tt_1 8 rfl) rfl, ⟨by decide +kernel, by decide +kernel, by decide +kernel⟩, by decide +kernel⟩
abbrev mX7_isTaste : Mt := (yX7_isTaste, cX7_isTaste, 7, (some .boolean))
theorem cb_X7_isTaste : CB mX7_isTaste 1 := ⟨tb_in (tt_5 80 rfl) rfl, tb_in (tt_1 8 rfl) rfl, ⟨by decide +kernel, by decide +kernel, by decide +kernel⟩, by decide +kernel⟩
abbrev mX7_tasteBy : Mt := (yX7_tasteBy, cX7_tasteBy, 5, (some .int))
theorem cb_X7_tasteBy : CB mX7_tasteBy 2 := ⟨tb_in (tt_5 84 rfl) rfl, tb_in (tt_1 8 rfl) rfl, ⟨by decide +kernel, by decide +kernel, by decide +kernel⟩, by decide +kernel⟩
abbrev mX7_came : Mt := (yX7_came, cX7_came, 3, (some .int))
theorem cb_X7_came : CB mX7_came 2 := ⟨tb_in (tt_5 88 rfl) rfl, tb_in (tt_1 8 rfl) rfl, ⟨by decide +kernel, by decide +kernel, by decide +kernel⟩, by decide +kernel⟩
abbrev mX7_letters : Mt := (yX7_letters, cX7_letters, 7, (some .int))
theorem cb_X7_letters : CB mX7_letters 1 := ⟨tb_in (tt_5 92 rfl) rfl, tb_in (tt_1 8 rfl) rfl, ⟨by decide +kernel, by decide +kernel, by decide +kernel⟩, by decide +kernel⟩
abbrev mX7_forget : Mt := (yX7_forget, cX7_forget, 2, (some .int))
theorem cb_X7_forget : CB mX7_forget 0 := ⟨tb_in (tt_5 96 rfl) rfl, tb_in (tt_1 8 rfl) rfl, ⟨by decide +kernel, by decide +kernel, by decide +kernel⟩, by decide +kernel⟩
abbrev mX7_drunk : Mt := (yX7_drunk, cX7_drunk, 9, (some .long))
theorem cb_X7_drunk : CB mX7_drunk 2 := ⟨tb_in (tt_5 100 rfl) rfl, tb_in (tt_1 8 rfl) rfl, ⟨by decide +kernel, by decide +kernel, by decide +kernel⟩, by decide +kernel⟩
abbrev mX7_least : Mt := (yX7_least, cX7_least, 11, (some .long))
theorem cb_X7_least : CB mX7_least 3 := ⟨tb_in (tt_5 106 rfl) rfl, tb_in (tt_1 8 rfl) rfl, ⟨by decide +kernel, by decide +kernel, by decide +kernel⟩, by decide +kernel⟩
abbrev mX7_mean : Mt := (yX7_mean, cX7_mean, 9, (some .long))
theorem cb_X7_mean : CB mX7_mean 2 := ⟨tb_in (tt_5 110 rfl) rfl, tb_in (tt_1 8 rfl) rfl, ⟨by decide +kernel, by decide +kernel, by decide +kernel⟩, by decide +kernel⟩
abbrev mX7_year : Mt := (yX7_year, cX7_year, 10, (some .int))
theorem cb_X7_year : CB mX7_year 3 := ⟨tb_in (tt_5 114 rfl) rfl, tb_in (tt_1 8 rfl) rfl, ⟨by decide +kernel, by decide +kernel, by decide +kernel⟩, by decide +kernel⟩
abbrev mX7_image : Mt := (yX7_image, cX7_image, 4, (some .int))
theorem cb_X7_image : CB mX7_image 1 := ⟨tb_in (tt_5 119 rfl) rfl, tb_in (tt_1 8 rfl) rfl, ⟨by decide +kernel, by decide +kernel, by decide +kernel⟩, by decide +kernel⟩
abbrev mX7_restore : Mt := (yX7_restore, cX7_restore, 4, (some .int))
theorem cb_X7_restore : CB mX7_restore 1 := ⟨tb_in (tt_5 123 rfl) rfl, tb_in (tt_1 8 rfl) rfl, ⟨by decide +kernel, by decide +kernel, by decide +kernel⟩, by decide +kernel⟩
abbrev mX7_told : Mt := (yX7_told, cX7_told, 3, (some .int))
theorem cb_X7_told : CB mX7_told 1 := ⟨tb_in (tt_5 127 rfl) rfl, tb_in (tt_1 8 rfl) rfl, ⟨by decide +kernel, by decide +kernel, by decide +kernel⟩, by decide +kernel⟩
theorem ca_L_9 : CN RL 9 mX6_init 0 := ⟨cb_X6_init, tb_in (tt_1 14 rfl) rfl, tb_in (tt_1 15 rfl) rfl, rfl, rfl⟩
theorem ca_X6_9 : CNn RX6 9 mX4_init 0 := ⟨cb_X4_init, ⟨_, List.mem_filter.mpr ⟨tt_1 22 rfl, rfl⟩⟩, tb_in (tt_1 23 rfl) rfl, rfl, rfl⟩
theorem ca_X6_22 : CNn RX6 22 mX1_init 0 := ⟨cb_X1_init, ⟨_, List.mem_filter.mpr ⟨tt_1 107 rfl, rfl⟩⟩, tb_in (tt_1 108 rfl) rfl, rfl, rfl⟩
theorem ca_X6_32 : CNn RX6 32 mX5_init 0 := ⟨cb_X5_init, ⟨_, List.mem_filter.mpr ⟨tt_1 125 rfl, rfl⟩⟩, tb_in (tt_1 126 rfl) rfl, rfl, rfl⟩
theorem ca_X6_39 : CN RX6 39 mX3_init 2 := ⟨cb_X3_init, tb_in (tt_1 151 rfl) rfl, tb_in (tt_1 152 rfl) rfl, rfl, rfl⟩
theorem ca_X6_48 : CN RX6 48 mX2_init 2 := ⟨cb_X2_init, tb_in (tt_1 171 rfl) rfl, tb_in (tt_1 172 rfl) rfl, rfl, rfl⟩
theorem ca_X6_55 : CNn RX6 55 mX0_init 0 := ⟨cb_X0_init, ⟨_, List.mem_filter.mpr ⟨tt_1 204 rfl, rfl⟩⟩, tb_in (tt_1 205 rfl) rfl, rfl, rfl⟩
theorem ca_X6_67 : CV RX6 67 mX4_begin 1 := ⟨cb_X4_begin, tb_in (tt_1 221 rfl) rfl, tb_in (tt_1 222 rfl) rfl, tb_in (tt_1 223 rfl) rfl⟩
theorem ca_X4_50 : CV RX4 50 mX4_allWorlds 0 := ⟨cb_X4_allWorlds, tb_in (tt_1 225 rfl) rfl, tb_in (tt_1 226 rfl) rfl, tb_in (tt_1 227 rfl) rfl⟩
theorem ca_X4_78 : CV RX4 78 mX4_worldCount 0 := ⟨cb_X4_worldCount, tb_in (tt_1 230 rfl) rfl, tb_in (tt_1 231 rfl) rfl, tb_in (tt_1 232 rfl) rfl⟩
theorem ca_X4_61 : CV RX4 61 mX4_forgetSights 0 := ⟨cb_X4_forgetSights, tb_in (tt_1 234 rfl) rfl, tb_in (tt_1 235 rfl) rfl, tb_in (tt_1 236 rfl) rfl⟩
theorem ca_X6_71 : CV RX6 71 mX5_listFor 1 := ⟨cb_X5_listFor, tb_in (tt_1 238 rfl) rfl, tb_in (tt_1 239 rfl) rfl, tb_in (tt_2 0 rfl) rfl⟩
theorem ca_L_13 : CV RL 13 mX6_things 1 := ⟨cb_X6_things, tb_in (tt_2 38 rfl) rfl, tb_in (tt_2 39 rfl) rfl, tb_in (tt_2 40 rfl) rfl⟩
theorem ca_L_18 : CV RL 18 mX6_worth 3 := ⟨cb_X6_worth, tb_in (tt_2 42 rfl) rfl, tb_in (tt_2 43 rfl) rfl, tb_in (tt_2 44 rfl) rfl⟩
theorem ca_X6_78 : CS RX6 78 mX6_isCousin 1 := ⟨cb_X6_isCousin, tb_in (tt_2 46 rfl) rfl, tb_in (tt_2 47 rfl) rfl⟩
theorem ca_X6_82 : CV RX6 82 mX6_isThing 1 := ⟨cb_X6_isThing, tb_in (tt_2 49 rfl) rfl, tb_in (tt_2 51 rfl) rfl, tb_in (tp_1 0 rfl) rfl⟩
theorem ca_L_23 : CV RL 23 mX6_taste 2 := ⟨cb_X6_taste, tb_in (tt_2 53 rfl) rfl, tb_in (tt_2 54 rfl) rfl, tb_in (tt_2 55 rfl) rfl⟩
theorem ca_L_28 : CV RL 28 mX6_set 2 := ⟨cb_X6_set, tb_in (tt_2 57 rfl) rfl, tb_in (tt_2 58 rfl) rfl, tb_in (tt_2 59 rfl) rfl⟩
theorem ca_L_32 : CV RL 32 mX6_now 1 := ⟨cb_X6_now, tb_in (tt_2 61 rfl) rfl, tb_in (tt_2 62 rfl) rfl, tb_in (tt_2 63 rfl) rfl⟩
theorem ca_X6_100 : CV RX6 100 mX6_isWorld 1 := ⟨cb_X6_isWorld, tb_in (tt_2 65 rfl) rfl, tb_in (tt_2 67 rfl) rfl, tb_in (tp_1 1 rfl) rfl⟩
theorem ca_X6_307 : CV RX6 307 mX4_worldCount 0 := ⟨cb_X4_worldCount, tb_in (tt_2 69 rfl) rfl, tb_in (tt_1 231 rfl) rfl, tb_in (tt_1 232 rfl) rfl⟩
theorem ca_L_36 : CV RL 36 mX6_worthOf 2 := ⟨cb_X6_worthOf, tb_in (tt_2 70 rfl) rfl, tb_in (tt_2 71 rfl) rfl, tb_in (tt_2 72 rfl) rfl⟩
theorem ca_X6_109 : CV RX6 109 mX4_worthTo 2 := ⟨cb_X4_worthTo, tb_in (tt_2 74 rfl) rfl, tb_in (tt_2 75 rfl) rfl, tb_in (tt_2 76 rfl) rfl⟩
theorem ca_L_40 : CV RL 40 mX6_say 1 := ⟨cb_X6_say, tb_in (tt_2 78 rfl) rfl, tb_in (tt_2 79 rfl) rfl, tb_in (tt_2 80 rfl) rfl⟩
theorem ca_X6_113 : CV RX6 113 mX1_write 1 := ⟨cb_X1_write, tb_in (tt_2 82 rfl) rfl, tb_in (tt_2 83 rfl) rfl, tb_in (tt_2 84 rfl) rfl⟩
theorem ca_L_44 : CV RL 44 mX6_wipe 0 := ⟨cb_X6_wipe, tb_in (tt_2 86 rfl) rfl, tb_in (tt_2 87 rfl) rfl, tb_in (tt_2 88 rfl) rfl⟩
theorem ca_X6_119 : CV RX6 119 mX1_clear 0 := ⟨cb_X1_clear, tb_in (tt_2 90 rfl) rfl, tb_in (tt_2 91 rfl) rfl, tb_in (tt_2 92 rfl) rfl⟩
theorem ca_L_49 : CV RL 49 mX6_fault 0 := ⟨cb_X6_fault, tb_in (tt_2 94 rfl) rfl, tb_in (tt_2 95 rfl) rfl, tb_in (tt_2 96 rfl) rfl⟩
theorem ca_X6_123 : CV RX6 123 mX1_firstFault 1 := ⟨cb_X1_firstFault, tb_in (tt_2 98 rfl) rfl, tb_in (tt_2 99 rfl) rfl, tb_in (tt_2 100 rfl) rfl⟩
theorem ca_X1_27 : CSn RX1 27 mX6_orderOf 1 := ⟨cb_X6_orderOf, ⟨_, List.mem_filter.mpr ⟨tt_2 102 rfl, rfl⟩⟩, tb_in (tt_2 103 rfl) rfl⟩
theorem ca_L_53 : CV RL 53 mX6_enact 0 := ⟨cb_X6_enact, tb_in (tt_2 107 rfl) rfl, tb_in (tt_2 108 rfl) rfl, tb_in (tt_2 109 rfl) rfl⟩
theorem ca_X6_127 : CV RX6 127 mX6_isFaulty 0 := ⟨cb_X6_isFaulty, tb_in (tt_2 111 rfl) rfl, tb_in (tt_2 113 rfl) rfl, tb_in (tp_1 2 rfl) rfl⟩
theorem ca_X6_131 : CV RX6 131 mX1_worldsFrom 1 := ⟨cb_X1_worldsFrom, tb_in (tt_2 115 rfl) rfl, tb_in (tt_2 116 rfl) rfl, tb_in (tt_2 117 rfl) rfl⟩
theorem ca_X1_31 : CS RX1 31 mX1_joined 3 := ⟨cb_X1_joined, tb_in (tt_2 119 rfl) rfl, tb_in (tt_2 120 rfl) rfl⟩
theorem ca_X1_35 : CV RX1 35 mX1_isSoAt 2 := ⟨cb_X1_isSoAt, tb_in (tt_2 123 rfl) rfl, tb_in (tt_2 125 rfl) rfl, tb_in (tp_1 3 rfl) rfl⟩
theorem ca_X1_41 : CS RX1 41 mX1_leafWorlds 1 := ⟨cb_X1_leafWorlds, tb_in (tt_2 127 rfl) rfl, tb_in (tt_2 128 rfl) rfl⟩
theorem ca_X6_135 : CV RX6 135 mX4_allWorlds 0 := ⟨cb_X4_allWorlds, tb_in (tt_2 131 rfl) rfl, tb_in (tt_1 226 rfl) rfl, tb_in (tt_1 227 rfl) rfl⟩
theorem ca_L_57 : CV RL 57 mX6_kept 1 := ⟨cb_X6_kept, tb_in (tt_2 132 rfl) rfl, tb_in (tt_2 133 rfl) rfl, tb_in (tt_2 134 rfl) rfl⟩
theorem ca_X6_143 : CV RX6 143 mX6_wishWorlds 0 := ⟨cb_X6_wishWorlds, tb_in (tt_2 136 rfl) rfl, tb_in (tt_2 138 rfl) rfl, tb_in (tp_1 4 rfl) rfl⟩
theorem ca_X6_187 : CV RX6 187 mX1_saidThings 0 := ⟨cb_X1_saidThings, tb_in (tt_2 140 rfl) rfl, tb_in (tt_2 141 rfl) rfl, tb_in (tt_2 142 rfl) rfl⟩
theorem ca_X6_190 : CV RX6 190 mX4_stillWorlds 2 := ⟨cb_X4_stillWorlds, tb_in (tt_2 144 rfl) rfl, tb_in (tt_2 145 rfl) rfl, tb_in (tt_2 146 rfl) rfl⟩
theorem ca_X4_82 : CS RX4 82 mJ6_bitCount_0f7a4 1 := ⟨cb_J6_bitCount_0f7a4, tb_in (tt_2 148 rfl) rfl, tb_in (tt_2 149 rfl) rfl⟩
theorem ca_X6_146 : CS RX6 146 mJ13_bitCount_95d88 1 := ⟨cb_J13_bitCount_95d88, tb_in (tt_2 154 rfl) rfl, tb_in (tt_2 155 rfl) rfl⟩
theorem ca_X6_152 : CS RX6 152 mX6_lowestOf 1 := ⟨cb_X6_lowestOf, tb_in (tt_2 160 rfl) rfl, tb_in (tt_2 161 rfl) rfl⟩
theorem ca_L_61 : CV RL 61 mX6_makes 0 := ⟨cb_X6_makes, tb_in (tt_2 163 rfl) rfl, tb_in (tt_2 164 rfl) rfl, tb_in (tt_2 165 rfl) rfl⟩
theorem ca_X6_155 : CV RX6 155 mX6_wishOutcome 0 := ⟨cb_X6_wishOutcome, tb_in (tt_2 167 rfl) rfl, tb_in (tt_2 169 rfl) rfl, tb_in (tp_1 5 rfl) rfl⟩
theorem ca_X6_182 : CV RX6 182 mX3_ready 0 := ⟨cb_X3_ready, tb_in (tt_2 171 rfl) rfl, tb_in (tt_2 172 rfl) rfl, tb_in (tt_2 173 rfl) rfl⟩
theorem ca_X3_33 : CSn RX3 33 mX6_fillSums 4 := ⟨cb_X6_fillSums, ⟨_, List.mem_filter.mpr ⟨tt_2 175 rfl, rfl⟩⟩, tb_in (tt_2 176 rfl) rfl⟩
theorem ca_X6_337 : CS RX6 337 mJ6_bitCount_0f7a4 1 := ⟨cb_J6_bitCount_0f7a4, tb_in (tt_2 178 rfl) rfl, tb_in (tt_2 149 rfl) rfl⟩
theorem ca_X6_310 : CV RX6 310 mX3_outcome 2 := ⟨cb_X3_outcome, tb_in (tt_2 182 rfl) rfl, tb_in (tt_2 183 rfl) rfl, tb_in (tt_2 184 rfl) rfl⟩
theorem ca_X3_49 : CSn RX3 49 mX6_leastOf 4 := ⟨cb_X6_leastOf, ⟨_, List.mem_filter.mpr ⟨tt_2 186 rfl, rfl⟩⟩, tb_in (tt_2 187 rfl) rfl⟩
theorem ca_L_65 : CV RL 65 mX6_extreme 3 := ⟨cb_X6_extreme, tb_in (tt_2 189 rfl) rfl, tb_in (tt_2 190 rfl) rfl, tb_in (tt_2 191 rfl) rfl⟩
theorem ca_X6_158 : CS RX6 158 mX6_isBit 1 := ⟨cb_X6_isBit, tb_in (tt_2 193 rfl) rfl, tb_in (tt_2 194 rfl) rfl⟩
theorem ca_X6_161 : CV RX6 161 mX6_refusalOf 2 := ⟨cb_X6_refusalOf, tb_in (tt_2 196 rfl) rfl, tb_in (tt_2 198 rfl) rfl, tb_in (tp_1 6 rfl) rfl⟩
theorem ca_X6_165 : CS RX6 165 mX6_fillSums 4 := ⟨cb_X6_fillSums, tb_in (tt_2 200 rfl) rfl, tb_in (tt_2 176 rfl) rfl⟩
theorem ca_X6_169 : CS RX6 169 mX6_leastOf 4 := ⟨cb_X6_leastOf, tb_in (tt_2 201 rfl) rfl, tb_in (tt_2 187 rfl) rfl⟩
theorem ca_L_69 : CV RL 69 mX6_harmed 0 := ⟨cb_X6_harmed, tb_in (tt_2 202 rfl) rfl, tb_in (tt_2 203 rfl) rfl, tb_in (tt_2 204 rfl) rfl⟩
theorem ca_X6_173 : CV RX6 173 mX6_gainOf 2 := ⟨cb_X6_gainOf, tb_in (tt_2 206 rfl) rfl, tb_in (tt_2 208 rfl) rfl, tb_in (tp_1 7 rfl) rfl⟩
theorem ca_L_73 : CV RL 73 mX6_grant 0 := ⟨cb_X6_grant, tb_in (tt_2 210 rfl) rfl, tb_in (tt_2 211 rfl) rfl, tb_in (tt_2 212 rfl) rfl⟩
theorem ca_X6_176 : CV RX6 176 mX4_remember 1 := ⟨cb_X4_remember, tb_in (tt_2 214 rfl) rfl, tb_in (tt_2 215 rfl) rfl, tb_in (tt_2 216 rfl) rfl⟩
theorem ca_L_77 : CV RL 77 mX6_undo 0 := ⟨cb_X6_undo, tb_in (tt_2 219 rfl) rfl, tb_in (tt_2 220 rfl) rfl, tb_in (tt_2 221 rfl) rfl⟩
theorem ca_L_81 : CV RL 81 mX6_comma 1 := ⟨cb_X6_comma, tb_in (tt_2 223 rfl) rfl, tb_in (tt_2 224 rfl) rfl, tb_in (tt_2 225 rfl) rfl⟩
theorem ca_X6_185 : CV RX6 185 mX0_clear 0 := ⟨cb_X0_clear, tb_in (tt_2 227 rfl) rfl, tb_in (tt_2 228 rfl) rfl, tb_in (tt_2 229 rfl) rfl⟩
theorem ca_X6_194 : CV RX6 194 mX6_tryPlace 2 := ⟨cb_X6_tryPlace, tb_in (tt_2 231 rfl) rfl, tb_in (tt_2 233 rfl) rfl, tb_in (tp_1 8 rfl) rfl⟩
theorem ca_X6_317 : CV RX6 317 mX6_tryChange 3 := ⟨cb_X6_tryChange, tb_in (tt_2 235 rfl) rfl, tb_in (tt_2 237 rfl) rfl, tb_in (tp_1 9 rfl) rfl⟩
theorem ca_X6_205 : CV RX6 205 mX6_signPut 2 := ⟨cb_X6_signPut, tb_in (tt_2 239 rfl) rfl, tb_in (tt_3 1 rfl) rfl, tb_in (tp_1 10 rfl) rfl⟩
theorem ca_X6_327 : CV RX6 327 mX1_copyChanged 3 := ⟨cb_X1_copyChanged, tb_in (tt_3 3 rfl) rfl, tb_in (tt_3 4 rfl) rfl, tb_in (tt_3 5 rfl) rfl⟩
theorem ca_X1_23 : CV RX1 23 mX1_write 1 := ⟨cb_X1_write, tb_in (tt_3 7 rfl) rfl, tb_in (tt_2 83 rfl) rfl, tb_in (tt_2 84 rfl) rfl⟩
theorem ca_X6_219 : CV RX6 219 mX0_offer 2 := ⟨cb_X0_offer, tb_in (tt_3 8 rfl) rfl, tb_in (tt_3 9 rfl) rfl, tb_in (tt_3 10 rfl) rfl⟩
theorem ca_X6_321 : CS RX6 321 mX6_orderOf 1 := ⟨cb_X6_orderOf, tb_in (tt_3 12 rfl) rfl, tb_in (tt_2 103 rfl) rfl⟩
theorem ca_L_85 : CV RL 85 mX6_term 1 := ⟨cb_X6_term, tb_in (tt_3 13 rfl) rfl, tb_in (tt_3 14 rfl) rfl, tb_in (tt_3 15 rfl) rfl⟩
theorem ca_X6_212 : CV RX6 212 mX3_ofTerm 2 := ⟨cb_X3_ofTerm, tb_in (tt_3 17 rfl) rfl, tb_in (tt_3 18 rfl) rfl, tb_in (tt_3 19 rfl) rfl⟩
theorem ca_X3_53 : CV RX3 53 mX3_termWorlds 2 := ⟨cb_X3_termWorlds, tb_in (tt_3 21 rfl) rfl, tb_in (tt_3 23 rfl) rfl, tb_in (tp_1 11 rfl) rfl⟩
theorem ca_X3_93 : CS RX3 93 mJ6_bitCount_0f7a4 1 := ⟨cb_J6_bitCount_0f7a4, tb_in (tt_3 25 rfl) rfl, tb_in (tt_2 149 rfl) rfl⟩
theorem ca_X3_105 : CS RX3 105 mX3_movedBy 2 := ⟨cb_X3_movedBy, tb_in (tt_3 28 rfl) rfl, tb_in (tt_3 29 rfl) rfl⟩
theorem ca_X3_57 : CV RX3 57 mX3_outcome 2 := ⟨cb_X3_outcome, tb_in (tt_3 33 rfl) rfl, tb_in (tt_2 183 rfl) rfl, tb_in (tt_2 184 rfl) rfl⟩
theorem ca_L_89 : CV RL 89 mX6_wording 2 := ⟨cb_X6_wording, tb_in (tt_3 34 rfl) rfl, tb_in (tt_3 35 rfl) rfl, tb_in (tt_3 36 rfl) rfl⟩
theorem ca_X6_216 : CV RX6 216 mX5_rankOf 1 := ⟨cb_X5_rankOf, tb_in (tt_3 38 rfl) rfl, tb_in (tt_3 39 rfl) rfl, tb_in (tt_3 40 rfl) rfl⟩
theorem ca_X5_43 : CV RX5 43 mX5_wordsOf 1 := ⟨cb_X5_wordsOf, tb_in (tt_3 42 rfl) rfl, tb_in (tt_3 43 rfl) rfl, tb_in (tt_3 44 rfl) rfl⟩
theorem ca_X5_37 : CS RX5 37 mJ6_bitCount_0f7a4 1 := ⟨cb_J6_bitCount_0f7a4, tb_in (tt_3 46 rfl) rfl, tb_in (tt_2 149 rfl) rfl⟩
theorem ca_L_93 : CV RL 93 mX6_most 2 := ⟨cb_X6_most, tb_in (tt_3 47 rfl) rfl, tb_in (tt_3 48 rfl) rfl, tb_in (tt_3 49 rfl) rfl⟩
theorem ca_X6_223 : CS RX6 223 mX6_isWords 1 := ⟨cb_X6_isWords, tb_in (tt_3 51 rfl) rfl, tb_in (tt_3 52 rfl) rfl⟩
theorem ca_X6_226 : CV RX6 226 mX5_wordsOf 1 := ⟨cb_X5_wordsOf, tb_in (tt_3 54 rfl) rfl, tb_in (tt_3 43 rfl) rfl, tb_in (tt_3 44 rfl) rfl⟩
theorem ca_L_97 : CV RL 97 mX6_row 3 := ⟨cb_X6_row, tb_in (tt_3 55 rfl) rfl, tb_in (tt_3 56 rfl) rfl, tb_in (tt_3 57 rfl) rfl⟩
theorem ca_X6_229 : CV RX6 229 mX2_drawUp 3 := ⟨cb_X2_drawUp, tb_in (tt_3 59 rfl) rfl, tb_in (tt_3 60 rfl) rfl, tb_in (tt_3 61 rfl) rfl⟩
theorem ca_X2_35 : CV RX2 35 mX4_worldCount 0 := ⟨cb_X4_worldCount, tb_in (tt_3 63 rfl) rfl, tb_in (tt_1 231 rfl) rfl, tb_in (tt_1 232 rfl) rfl⟩
theorem ca_X2_41 : CS RX2 41 mJ6_bitCount_0f7a4 1 := ⟨cb_J6_bitCount_0f7a4, tb_in (tt_3 64 rfl) rfl, tb_in (tt_2 149 rfl) rfl⟩
theorem ca_X2_47 : CV RX2 47 mX2_listStirs 1 := ⟨cb_X2_listStirs, tb_in (tt_3 65 rfl) rfl, tb_in (tt_3 67 rfl) rfl, tb_in (tp_1 12 rfl) rfl⟩
theorem ca_X2_51 : CV RX2 51 mX2_drawUpSaying 3 := ⟨cb_X2_drawUpSaying, tb_in (tt_3 69 rfl) rfl, tb_in (tt_3 71 rfl) rfl, tb_in (tp_1 13 rfl) rfl⟩
theorem ca_X2_66 : CV RX2 66 mX2_worstNear 2 := ⟨cb_X2_worstNear, tb_in (tt_3 73 rfl) rfl, tb_in (tt_3 75 rfl) rfl, tb_in (tp_1 14 rfl) rfl⟩
theorem ca_X2_70 : CV RX2 70 mX5_rankFor 2 := ⟨cb_X5_rankFor, tb_in (tt_3 77 rfl) rfl, tb_in (tt_3 78 rfl) rfl, tb_in (tt_3 79 rfl) rfl⟩
theorem ca_X2_76 : CS RX2 76 mX2_isBetter 4 := ⟨cb_X2_isBetter, tb_in (tt_3 81 rfl) rfl, tb_in (tt_3 82 rfl) rfl⟩
theorem ca_X2_55 : CV RX2 55 mX2_takePart 3 := ⟨cb_X2_takePart, tb_in (tt_3 84 rfl) rfl, tb_in (tt_3 86 rfl) rfl, tb_in (tp_1 15 rfl) rfl⟩
theorem ca_X6_239 : CV RX6 239 mX6_follow 1 := ⟨cb_X6_follow, tb_in (tt_3 89 rfl) rfl, tb_in (tt_3 91 rfl) rfl, tb_in (tp_2 0 rfl) rfl⟩
theorem ca_X6_243 : CV RX6 243 mX6_firstOfRow 2 := ⟨cb_X6_firstOfRow, tb_in (tt_3 93 rfl) rfl, tb_in (tt_3 95 rfl) rfl, tb_in (tp_2 1 rfl) rfl⟩
theorem ca_L_101 : CV RL 101 mX6_lamps 3 := ⟨cb_X6_lamps, tb_in (tt_3 97 rfl) rfl, tb_in (tt_3 98 rfl) rfl, tb_in (tt_3 99 rfl) rfl⟩
theorem ca_L_105 : CV RL 105 mX6_sixths 4 := ⟨cb_X6_sixths, tb_in (tt_3 101 rfl) rfl, tb_in (tt_3 102 rfl) rfl, tb_in (tt_3 103 rfl) rfl⟩
theorem ca_X6_246 : CS RX6 246 mX6_isShare 1 := ⟨cb_X6_isShare, tb_in (tt_3 105 rfl) rfl, tb_in (tt_3 106 rfl) rfl⟩
theorem ca_L_110 : CV RL 110 mX6_votes 0 := ⟨cb_X6_votes, tb_in (tt_3 108 rfl) rfl, tb_in (tt_3 109 rfl) rfl, tb_in (tt_3 110 rfl) rfl⟩
theorem ca_X6_252 : CV RX6 252 mX6_votesFor 1 := ⟨cb_X6_votesFor, tb_in (tt_3 112 rfl) rfl, tb_in (tt_3 114 rfl) rfl, tb_in (tp_2 2 rfl) rfl⟩
theorem ca_L_114 : CV RL 114 mX6_agreed 1 := ⟨cb_X6_agreed, tb_in (tt_3 116 rfl) rfl, tb_in (tt_3 117 rfl) rfl, tb_in (tt_3 118 rfl) rfl⟩
theorem ca_X6_255 : CV RX6 255 mX6_fillMerits 0 := ⟨cb_X6_fillMerits, tb_in (tt_3 120 rfl) rfl, tb_in (tt_3 122 rfl) rfl, tb_in (tp_2 3 rfl) rfl⟩
theorem ca_L_118 : CV RL 118 mX6_paid 0 := ⟨cb_X6_paid, tb_in (tt_3 124 rfl) rfl, tb_in (tt_3 125 rfl) rfl, tb_in (tt_3 126 rfl) rfl⟩
theorem ca_L_122 : CV RL 122 mX6_picked 1 := ⟨cb_X6_picked, tb_in (tt_3 128 rfl) rfl, tb_in (tt_3 129 rfl) rfl, tb_in (tt_3 130 rfl) rfl⟩
theorem ca_X6_261 : CV RX6 261 mX4_canFit 1 := ⟨cb_X4_canFit, tb_in (tt_3 132 rfl) rfl, tb_in (tt_3 133 rfl) rfl, tb_in (tt_3 134 rfl) rfl⟩
theorem ca_X6_264 : CV RX6 264 mX5_tasteTakes 3 := ⟨cb_X5_tasteTakes, tb_in (tt_3 136 rfl) rfl, tb_in (tt_3 137 rfl) rfl, tb_in (tt_3 138 rfl) rfl⟩
theorem ca_X5_46 : CS RX5 46 mJ13_bitCount_95d88 1 := ⟨cb_J13_bitCount_95d88, tb_in (tt_3 140 rfl) rfl, tb_in (tt_2 155 rfl) rfl⟩
theorem ca_X5_51 : CSn RX5 51 mX6_lowestOf 1 := ⟨cb_X6_lowestOf, ⟨_, List.mem_filter.mpr ⟨tt_3 141 rfl, rfl⟩⟩, tb_in (tt_2 161 rfl) rfl⟩
theorem ca_X6_268 : CV RX6 268 mX4_ruleOut 1 := ⟨cb_X4_ruleOut, tb_in (tt_3 142 rfl) rfl, tb_in (tt_3 143 rfl) rfl, tb_in (tt_3 144 rfl) rfl⟩
theorem ca_L_126 : CV RL 126 mX6_fit 1 := ⟨cb_X6_fit, tb_in (tt_3 146 rfl) rfl, tb_in (tt_3 147 rfl) rfl, tb_in (tt_3 148 rfl) rfl⟩
theorem ca_X6_271 : CV RX6 271 mX5_digitOf 2 := ⟨cb_X5_digitOf, tb_in (tt_3 150 rfl) rfl, tb_in (tt_3 151 rfl) rfl, tb_in (tt_3 152 rfl) rfl⟩
theorem ca_L_130 : CV RL 130 mX6_came 2 := ⟨cb_X6_came, tb_in (tt_3 154 rfl) rfl, tb_in (tt_3 155 rfl) rfl, tb_in (tt_3 156 rfl) rfl⟩
theorem ca_L_134 : CV RL 134 mX6_letters 1 := ⟨cb_X6_letters, tb_in (tt_3 158 rfl) rfl, tb_in (tt_3 159 rfl) rfl, tb_in (tt_3 160 rfl) rfl⟩
theorem ca_X6_283 : CV RX6 283 mX3_didAll 1 := ⟨cb_X3_didAll, tb_in (tt_3 162 rfl) rfl, tb_in (tt_3 163 rfl) rfl, tb_in (tt_3 164 rfl) rfl⟩
theorem ca_X3_67 : CV RX3 67 mX3_ofTerm 2 := ⟨cb_X3_ofTerm, tb_in (tt_3 166 rfl) rfl, tb_in (tt_3 18 rfl) rfl, tb_in (tt_3 19 rfl) rfl⟩
theorem ca_L_138 : CV RL 138 mX6_forget 0 := ⟨cb_X6_forget, tb_in (tt_3 167 rfl) rfl, tb_in (tt_3 168 rfl) rfl, tb_in (tt_3 169 rfl) rfl⟩
theorem ca_X6_286 : CV RX6 286 mX4_forgetSights 0 := ⟨cb_X4_forgetSights, tb_in (tt_3 171 rfl) rfl, tb_in (tt_1 235 rfl) rfl, tb_in (tt_1 236 rfl) rfl⟩
theorem ca_L_142 : CV RL 142 mX6_drunk 2 := ⟨cb_X6_drunk, tb_in (tt_3 172 rfl) rfl, tb_in (tt_3 173 rfl) rfl, tb_in (tt_3 174 rfl) rfl⟩
theorem ca_X6_295 : CS RX6 295 mX6_partOf 3 := ⟨cb_X6_partOf, tb_in (tt_3 178 rfl) rfl, tb_in (tt_3 179 rfl) rfl⟩
theorem ca_L_147 : CV RL 147 mX6_mean 2 := ⟨cb_X6_mean, tb_in (tt_3 181 rfl) rfl, tb_in (tt_3 182 rfl) rfl, tb_in (tt_3 183 rfl) rfl⟩
theorem ca_L_151 : CV RL 151 mX6_year 3 := ⟨cb_X6_year, tb_in (tt_3 185 rfl) rfl, tb_in (tt_3 186 rfl) rfl, tb_in (tt_3 187 rfl) rfl⟩
theorem ca_L_155 : CV RL 155 mX6_image 1 := ⟨cb_X6_image, tb_in (tt_3 190 rfl) rfl, tb_in (tt_3 191 rfl) rfl, tb_in (tt_3 192 rfl) rfl⟩
theorem ca_X6_300 : CV RX6 300 mX4_copyFrom 1 := ⟨cb_X4_copyFrom, tb_in (tt_3 194 rfl) rfl, tb_in (tt_3 195 rfl) rfl, tb_in (tt_3 196 rfl) rfl⟩
theorem ca_L_159 : CV RL 159 mX6_restore 1 := ⟨cb_X6_restore, tb_in (tt_3 198 rfl) rfl, tb_in (tt_3 199 rfl) rfl, tb_in (tt_3 200 rfl) rfl⟩
theorem ca_L_163 : CV RL 163 mX6_told 1 := ⟨cb_X6_told, tb_in (tt_3 202 rfl) rfl, tb_in (tt_3 203 rfl) rfl, tb_in (tt_3 204 rfl) rfl⟩
theorem ca_X6_304 : CV RX6 304 mX6_toldPlain 1 := ⟨cb_X6_toldPlain, tb_in (tt_3 206 rfl) rfl, tb_in (tt_3 208 rfl) rfl, tb_in (tp_2 4 rfl) rfl⟩
theorem ca_L_12 : CN RL 12 mX7_init 0 := ⟨cb_X7_init, tb_in (tt_3 212 rfl) rfl, tb_in (tt_3 213 rfl) rfl, rfl, rfl⟩
theorem ca_X7_61 : CV RX7 61 mX7_plain 0 := ⟨cb_X7_plain, tb_in (tt_3 216 rfl) rfl, tb_in (tt_3 218 rfl) rfl, tb_in (tp_2 5 rfl) rfl⟩
theorem ca_X7_76 : CV RX7 76 mX7_all 0 := ⟨cb_X7_all, tb_in (tt_3 220 rfl) rfl, tb_in (tt_3 222 rfl) rfl, tb_in (tp_2 6 rfl) rfl⟩
theorem ca_X7_95 : CV RX7 95 mX7_worlds 0 := ⟨cb_X7_worlds, tb_in (tt_3 225 rfl) rfl, tb_in (tt_3 227 rfl) rfl, tb_in (tp_2 7 rfl) rfl⟩
theorem ca_L_17 : CV RL 17 mX7_things 1 := ⟨cb_X7_things, tb_in (tt_4 78 rfl) rfl, tb_in (tt_4 79 rfl) rfl, tb_in (tt_4 80 rfl) rfl⟩
theorem ca_X7_99 : CS RX7 99 mX7_in 3 := ⟨cb_X7_in, tb_in (tt_4 82 rfl) rfl, tb_in (tt_4 83 rfl) rfl⟩
theorem ca_L_22 : CV RL 22 mX7_worth 3 := ⟨cb_X7_worth, tb_in (tt_4 85 rfl) rfl, tb_in (tt_4 86 rfl) rfl, tb_in (tt_4 87 rfl) rfl⟩
theorem ca_X7_103 : CS RX7 103 mX7_isCousin 1 := ⟨cb_X7_isCousin, tb_in (tt_4 89 rfl) rfl, tb_in (tt_4 90 rfl) rfl⟩
theorem ca_X7_107 : CV RX7 107 mX7_isThing 1 := ⟨cb_X7_isThing, tb_in (tt_4 92 rfl) rfl, tb_in (tt_4 94 rfl) rfl, tb_in (tp_2 8 rfl) rfl⟩
theorem ca_L_27 : CV RL 27 mX7_taste 2 := ⟨cb_X7_taste, tb_in (tt_4 96 rfl) rfl, tb_in (tt_4 97 rfl) rfl, tb_in (tt_4 98 rfl) rfl⟩
theorem ca_L_31 : CV RL 31 mX7_set 2 := ⟨cb_X7_set, tb_in (tt_4 100 rfl) rfl, tb_in (tt_4 101 rfl) rfl, tb_in (tt_4 102 rfl) rfl⟩
theorem ca_L_35 : CV RL 35 mX7_now 1 := ⟨cb_X7_now, tb_in (tt_4 104 rfl) rfl, tb_in (tt_4 105 rfl) rfl, tb_in (tt_4 106 rfl) rfl⟩
theorem ca_X7_110 : CV RX7 110 mX7_isWorld 1 := ⟨cb_X7_isWorld, tb_in (tt_4 108 rfl) rfl, tb_in (tt_4 110 rfl) rfl, tb_in (tp_2 9 rfl) rfl⟩
theorem ca_L_39 : CV RL 39 mX7_worthOf 2 := ⟨cb_X7_worthOf, tb_in (tt_4 112 rfl) rfl, tb_in (tt_4 113 rfl) rfl, tb_in (tt_4 114 rfl) rfl⟩
theorem ca_X7_117 : CV RX7 117 mX7_worthTo 2 := ⟨cb_X7_worthTo, tb_in (tt_4 116 rfl) rfl, tb_in (tt_4 118 rfl) rfl, tb_in (tp_2 10 rfl) rfl⟩
theorem ca_X7_113 : CS RX7 113 mX7_has 2 := ⟨cb_X7_has, tb_in (tt_4 120 rfl) rfl, tb_in (tt_4 121 rfl) rfl⟩
theorem ca_L_43 : CV RL 43 mX7_say 1 := ⟨cb_X7_say, tb_in (tt_4 123 rfl) rfl, tb_in (tt_4 124 rfl) rfl, tb_in (tt_4 125 rfl) rfl⟩
theorem ca_L_48 : CV RL 48 mX7_wipe 0 := ⟨cb_X7_wipe, tb_in (tt_4 127 rfl) rfl, tb_in (tt_4 128 rfl) rfl, tb_in (tt_4 129 rfl) rfl⟩
theorem ca_L_52 : CV RL 52 mX7_fault 0 := ⟨cb_X7_fault, tb_in (tt_4 131 rfl) rfl, tb_in (tt_4 132 rfl) rfl, tb_in (tt_4 133 rfl) rfl⟩
theorem ca_X7_130 : CV RX7 130 mX7_faultOf 0 := ⟨cb_X7_faultOf, tb_in (tt_4 135 rfl) rfl, tb_in (tt_4 137 rfl) rfl, tb_in (tp_2 11 rfl) rfl⟩
theorem ca_X7_124 : CV RX7 124 mX7_isLetter 1 := ⟨cb_X7_isLetter, tb_in (tt_4 139 rfl) rfl, tb_in (tt_4 141 rfl) rfl, tb_in (tp_2 12 rfl) rfl⟩
theorem ca_X7_127 : CS RX7 127 mX7_isPair 1 := ⟨cb_X7_isPair, tb_in (tt_4 143 rfl) rfl, tb_in (tt_4 144 rfl) rfl⟩
theorem ca_L_56 : CV RL 56 mX7_enact 0 := ⟨cb_X7_enact, tb_in (tt_4 146 rfl) rfl, tb_in (tt_4 147 rfl) rfl, tb_in (tt_4 148 rfl) rfl⟩
theorem ca_X7_154 : CV RX7 154 mX7_layPad 0 := ⟨cb_X7_layPad, tb_in (tt_4 150 rfl) rfl, tb_in (tt_4 152 rfl) rfl, tb_in (tp_2 13 rfl) rfl⟩
theorem ca_X7_151 : CV RX7 151 mX7_isSo 2 := ⟨cb_X7_isSo, tb_in (tt_4 154 rfl) rfl, tb_in (tt_4 156 rfl) rfl, tb_in (tp_2 14 rfl) rfl⟩
theorem ca_X7_136 : CV RX7 136 mX7_pairOf 3 := ⟨cb_X7_pairOf, tb_in (tt_4 158 rfl) rfl, tb_in (tt_4 160 rfl) rfl, tb_in (tp_2 15 rfl) rfl⟩
theorem ca_L_60 : CV RL 60 mX7_kept 1 := ⟨cb_X7_kept, tb_in (tt_4 162 rfl) rfl, tb_in (tt_4 163 rfl) rfl, tb_in (tt_4 164 rfl) rfl⟩
theorem ca_X7_157 : CV RX7 157 mX7_keeping 1 := ⟨cb_X7_keeping, tb_in (tt_4 166 rfl) rfl, tb_in (tt_4 168 rfl) rfl, tb_in (tp_3 0 rfl) rfl⟩
theorem ca_X7_140 : CV RX7 140 mX7_saidOf 0 := ⟨cb_X7_saidOf, tb_in (tt_4 170 rfl) rfl, tb_in (tt_4 172 rfl) rfl, tb_in (tp_3 1 rfl) rfl⟩
theorem ca_X7_143 : CS RX7 143 mX7_holds 2 := ⟨cb_X7_holds, tb_in (tt_4 174 rfl) rfl, tb_in (tt_4 175 rfl) rfl⟩
theorem ca_X7_147 : CS RX7 147 mX7_bits 1 := ⟨cb_X7_bits, tb_in (tt_4 177 rfl) rfl, tb_in (tt_4 178 rfl) rfl⟩
theorem ca_X7_161 : CV RX7 161 mX7_count 1 := ⟨cb_X7_count, tb_in (tt_4 180 rfl) rfl, tb_in (tt_4 182 rfl) rfl, tb_in (tp_3 2 rfl) rfl⟩
theorem ca_L_64 : CV RL 64 mX7_makes 0 := ⟨cb_X7_makes, tb_in (tt_4 184 rfl) rfl, tb_in (tt_4 185 rfl) rfl, tb_in (tt_4 186 rfl) rfl⟩
theorem ca_X7_175 : CV RX7 175 mX7_made 0 := ⟨cb_X7_made, tb_in (tt_4 188 rfl) rfl, tb_in (tt_4 190 rfl) rfl, tb_in (tp_3 3 rfl) rfl⟩
theorem ca_X7_171 : CV RX7 171 mX7_madeOf 2 := ⟨cb_X7_madeOf, tb_in (tt_4 192 rfl) rfl, tb_in (tt_4 194 rfl) rfl, tb_in (tp_3 4 rfl) rfl⟩
theorem ca_X7_168 : CV RX7 168 mX7_likes 2 := ⟨cb_X7_likes, tb_in (tt_4 196 rfl) rfl, tb_in (tt_4 198 rfl) rfl, tb_in (tp_3 5 rfl) rfl⟩
theorem ca_X7_165 : CV RX7 165 mX7_tasteOf 1 := ⟨cb_X7_tasteOf, tb_in (tt_4 200 rfl) rfl, tb_in (tt_4 202 rfl) rfl, tb_in (tp_3 6 rfl) rfl⟩
theorem ca_L_68 : CV RL 68 mX7_extreme 3 := ⟨cb_X7_extreme, tb_in (tt_4 204 rfl) rfl, tb_in (tt_4 205 rfl) rfl, tb_in (tt_4 206 rfl) rfl⟩
theorem ca_L_72 : CV RL 72 mX7_harmed 0 := ⟨cb_X7_harmed, tb_in (tt_4 208 rfl) rfl, tb_in (tt_4 209 rfl) rfl, tb_in (tt_4 210 rfl) rfl⟩
theorem ca_L_76 : CV RL 76 mX7_grant 0 := ⟨cb_X7_grant, tb_in (tt_4 212 rfl) rfl, tb_in (tt_4 213 rfl) rfl, tb_in (tt_4 214 rfl) rfl⟩
theorem ca_L_80 : CV RL 80 mX7_undo 0 := ⟨cb_X7_undo, tb_in (tt_4 216 rfl) rfl, tb_in (tt_4 217 rfl) rfl, tb_in (tt_4 218 rfl) rfl⟩
theorem ca_L_84 : CV RL 84 mX7_comma 1 := ⟨cb_X7_comma, tb_in (tt_4 220 rfl) rfl, tb_in (tt_4 221 rfl) rfl, tb_in (tt_4 222 rfl) rfl⟩
theorem ca_X7_178 : CS RX7 178 mX7_pairSign 1 := ⟨cb_X7_pairSign, tb_in (tt_4 224 rfl) rfl, tb_in (tt_4 225 rfl) rfl⟩
theorem ca_L_88 : CV RL 88 mX7_term 1 := ⟨cb_X7_term, tb_in (tt_4 227 rfl) rfl, tb_in (tt_4 228 rfl) rfl, tb_in (tt_4 229 rfl) rfl⟩
theorem ca_X7_201 : CV RX7 201 mX7_terms 0 := ⟨cb_X7_terms, tb_in (tt_4 231 rfl) rfl, tb_in (tt_4 233 rfl) rfl, tb_in (tp_3 7 rfl) rfl⟩
theorem ca_X7_204 : CV RX7 204 mX7_madeOfTerm 2 := ⟨cb_X7_madeOfTerm, tb_in (tt_4 235 rfl) rfl, tb_in (tt_4 237 rfl) rfl, tb_in (tp_3 8 rfl) rfl⟩
theorem ca_X7_197 : CV RX7 197 mX7_keepingTerm 2 := ⟨cb_X7_keepingTerm, tb_in (tt_4 239 rfl) rfl, tb_in (tt_5 1 rfl) rfl, tb_in (tp_3 9 rfl) rfl⟩
theorem ca_X7_190 : CV RX7 190 mX7_layTerm 1 := ⟨cb_X7_layTerm, tb_in (tt_5 3 rfl) rfl, tb_in (tt_5 5 rfl) rfl, tb_in (tp_3 10 rfl) rfl⟩
theorem ca_X7_194 : CV RX7 194 mX7_keepsTerm 2 := ⟨cb_X7_keepsTerm, tb_in (tt_5 7 rfl) rfl, tb_in (tt_5 9 rfl) rfl, tb_in (tp_3 11 rfl) rfl⟩
theorem ca_L_92 : CV RL 92 mX7_wording 2 := ⟨cb_X7_wording, tb_in (tt_5 11 rfl) rfl, tb_in (tt_5 12 rfl) rfl, tb_in (tt_5 13 rfl) rfl⟩
theorem ca_X7_207 : CV RX7 207 mX7_words 1 := ⟨cb_X7_words, tb_in (tt_5 15 rfl) rfl, tb_in (tt_5 17 rfl) rfl, tb_in (tp_3 12 rfl) rfl⟩
theorem ca_X7_181 : CV RX7 181 mX7_digitOf 2 := ⟨cb_X7_digitOf, tb_in (tt_5 19 rfl) rfl, tb_in (tt_5 21 rfl) rfl, tb_in (tp_3 13 rfl) rfl⟩
theorem ca_L_96 : CV RL 96 mX7_most 2 := ⟨cb_X7_most, tb_in (tt_5 23 rfl) rfl, tb_in (tt_5 24 rfl) rfl, tb_in (tt_5 25 rfl) rfl⟩
theorem ca_L_100 : CV RL 100 mX7_row 3 := ⟨cb_X7_row, tb_in (tt_5 27 rfl) rfl, tb_in (tt_5 28 rfl) rfl, tb_in (tt_5 29 rfl) rfl⟩
theorem ca_X7_214 : CV RX7 214 mX7_layAhead 1 := ⟨cb_X7_layAhead, tb_in (tt_5 31 rfl) rfl, tb_in (tt_5 33 rfl) rfl, tb_in (tp_3 14 rfl) rfl⟩
theorem ca_X7_217 : CV RX7 217 mX7_bestFrom 2 := ⟨cb_X7_bestFrom, tb_in (tt_5 35 rfl) rfl, tb_in (tt_5 37 rfl) rfl, tb_in (tp_3 15 rfl) rfl⟩
theorem ca_L_104 : CV RL 104 mX7_lamps 3 := ⟨cb_X7_lamps, tb_in (tt_5 40 rfl) rfl, tb_in (tt_5 41 rfl) rfl, tb_in (tt_5 42 rfl) rfl⟩
theorem ca_L_109 : CV RL 109 mX7_sixths 4 := ⟨cb_X7_sixths, tb_in (tt_5 44 rfl) rfl, tb_in (tt_5 45 rfl) rfl, tb_in (tt_5 46 rfl) rfl⟩
theorem ca_L_113 : CV RL 113 mX7_votes 0 := ⟨cb_X7_votes, tb_in (tt_5 48 rfl) rfl, tb_in (tt_5 49 rfl) rfl, tb_in (tt_5 50 rfl) rfl⟩
theorem ca_X7_220 : CV RX7 220 mX7_votesFor 1 := ⟨cb_X7_votesFor, tb_in (tt_5 52 rfl) rfl, tb_in (tt_5 54 rfl) rfl, tb_in (tp_4 0 rfl) rfl⟩
theorem ca_L_117 : CV RL 117 mX7_agreed 1 := ⟨cb_X7_agreed, tb_in (tt_5 56 rfl) rfl, tb_in (tt_5 57 rfl) rfl, tb_in (tt_5 58 rfl) rfl⟩
theorem ca_X7_224 : CV RX7 224 mX7_worthToAll 1 := ⟨cb_X7_worthToAll, tb_in (tt_5 61 rfl) rfl, tb_in (tt_5 63 rfl) rfl, tb_in (tp_4 1 rfl) rfl⟩
theorem ca_L_121 : CV RL 121 mX7_paid 0 := ⟨cb_X7_paid, tb_in (tt_5 65 rfl) rfl, tb_in (tt_5 66 rfl) rfl, tb_in (tt_5 67 rfl) rfl⟩
theorem ca_L_125 : CV RL 125 mX7_picked 1 := ⟨cb_X7_picked, tb_in (tt_5 69 rfl) rfl, tb_in (tt_5 70 rfl) rfl, tb_in (tt_5 71 rfl) rfl⟩
theorem ca_L_129 : CV RL 129 mX7_fit 1 := ⟨cb_X7_fit, tb_in (tt_5 73 rfl) rfl, tb_in (tt_5 74 rfl) rfl, tb_in (tt_5 75 rfl) rfl⟩
theorem ca_X7_230 : CV RX7 230 mX7_isTaste 1 := ⟨cb_X7_isTaste, tb_in (tt_5 77 rfl) rfl, tb_in (tt_5 79 rfl) rfl, tb_in (tp_4 2 rfl) rfl⟩
theorem ca_X7_227 : CV RX7 227 mX7_tasteBy 2 := ⟨cb_X7_tasteBy, tb_in (tt_5 81 rfl) rfl, tb_in (tt_5 83 rfl) rfl, tb_in (tp_4 3 rfl) rfl⟩
theorem ca_L_133 : CV RL 133 mX7_came 2 := ⟨cb_X7_came, tb_in (tt_5 85 rfl) rfl, tb_in (tt_5 86 rfl) rfl, tb_in (tt_5 87 rfl) rfl⟩
theorem ca_L_137 : CV RL 137 mX7_letters 1 := ⟨cb_X7_letters, tb_in (tt_5 89 rfl) rfl, tb_in (tt_5 90 rfl) rfl, tb_in (tt_5 91 rfl) rfl⟩
theorem ca_L_141 : CV RL 141 mX7_forget 0 := ⟨cb_X7_forget, tb_in (tt_5 93 rfl) rfl, tb_in (tt_5 94 rfl) rfl, tb_in (tt_5 95 rfl) rfl⟩
theorem ca_L_146 : CV RL 146 mX7_drunk 2 := ⟨cb_X7_drunk, tb_in (tt_5 97 rfl) rfl, tb_in (tt_5 98 rfl) rfl, tb_in (tt_5 99 rfl) rfl⟩
theorem ca_X7_239 : CS RX7 239 mX7_least 3 := ⟨cb_X7_least, tb_in (tt_5 104 rfl) rfl, tb_in (tt_5 105 rfl) rfl⟩
theorem ca_L_150 : CV RL 150 mX7_mean 2 := ⟨cb_X7_mean, tb_in (tt_5 107 rfl) rfl, tb_in (tt_5 108 rfl) rfl, tb_in (tt_5 109 rfl) rfl⟩
theorem ca_L_154 : CV RL 154 mX7_year 3 := ⟨cb_X7_year, tb_in (tt_5 111 rfl) rfl, tb_in (tt_5 112 rfl) rfl, tb_in (tt_5 113 rfl) rfl⟩
theorem ca_L_158 : CV RL 158 mX7_image 1 := ⟨cb_X7_image, tb_in (tt_5 116 rfl) rfl, tb_in (tt_5 117 rfl) rfl, tb_in (tt_5 118 rfl) rfl⟩
theorem ca_L_162 : CV RL 162 mX7_restore 1 := ⟨cb_X7_restore, tb_in (tt_5 120 rfl) rfl, tb_in (tt_5 121 rfl) rfl, tb_in (tt_5 122 rfl) rfl⟩
theorem ca_L_166 : CV RL 166 mX7_told 1 := ⟨cb_X7_told, tb_in (tt_5 124 rfl) rfl, tb_in (tt_5 125 rfl) rfl, tb_in (tt_5 126 rfl) rfl⟩
theorem co_X4_70 : Cond.constantLong RX4 70 (-1) ∈ TB := tb_in (tt_1 229 rfl) rfl
theorem co_X5_32 : Cond.constantLong RX5 32 (-1) ∈ TB := tb_in (tt_2 4 rfl) rfl
theorem co_X1_39 : Cond.constantLong RX1 39 (-1) ∈ TB := tb_in (tt_2 122 rfl) rfl
theorem co_J6_265 : Cond.constant RJ6 265 (1431655765) ∈ TB := tb_in (tt_2 151 rfl) rfl
theorem co_J6_266 : Cond.constant RJ6 266 (858993459) ∈ TB := tb_in (tt_2 152 rfl) rfl
theorem co_J6_267 : Cond.constant RJ6 267 (252645135) ∈ TB := tb_in (tt_2 153 rfl) rfl
theorem co_J13_314 : Cond.constantLong RJ13 314 (6148914691236517205) ∈ TB := tb_in (tt_2 157 rfl) rfl
theorem co_J13_316 : Cond.constantLong RJ13 316 (3689348814741910323) ∈ TB := tb_in (tt_2 158 rfl) rfl
theorem co_J13_318 : Cond.constantLong RJ13 318 (1085102592571150095) ∈ TB := tb_in (tt_2 159 rfl) rfl
theorem co_X3_112 : Cond.constantLong RX3 112 (-1) ∈ TB := tb_in (tt_3 32 rfl) rfl
theorem co_X6_289 : Cond.constantLong RX6 289 (-1000000000000000000) ∈ TB := tb_in (tt_3 176 rfl) rfl
theorem co_X6_299 : Cond.constant RX6 299 (65537) ∈ TB := tb_in (tt_3 189 rfl) rfl
theorem co_X7_93 : Cond.constantLong RX7 93 (-1) ∈ TB := tb_in (tt_3 224 rfl) rfl
theorem co_X7_213 : Cond.constant RX7 213 (1000000) ∈ TB := tb_in (tt_5 39 rfl) rfl
theorem co_X7_223 : Cond.constant RX7 223 (100000) ∈ TB := tb_in (tt_5 60 rfl) rfl
theorem co_X7_233 : Cond.constantLong RX7 233 (-1000000000000000001) ∈ TB := tb_in (tt_5 101 rfl) rfl
theorem co_X7_235 : Cond.constantLong RX7 235 (-1000000000000000002) ∈ TB := tb_in (tt_5 102 rfl) rfl
theorem co_X7_237 : Cond.constantLong RX7 237 (-1000000000000000000) ∈ TB := tb_in (tt_5 103 rfl) rfl
theorem co_X7_243 : Cond.constant RX7 243 (65537) ∈ TB := tb_in (tt_5 115 rfl) rfl
end
section
/-! THE SECOND LEVEL: a pure heap (places, cells), and 'Ev': from this pure state the method returns with Q. Rows below: one an instruction, without machine words. -/
abbrev PC : Type := (Nat × vp_A) ⊕ (Nat × List Value)
def mv (ad : Nat → Nat) : Value → Value
  | .ref q => .ref (ad q)
  | v => v
def mcell (cA : Nat → ClassId) (ad : Nat → Nat) : PC → va_E
  | .inl (k, n, .inr (.inr (.inr (.inr f)))) => .inl (cA k, n, .inr (.inr (.inr (.inr (fun j => (f j).map ad)))))
  | .inl (k, x) => .inl (cA k, x)
  | .inr (ci, fs) => .inr (ci, fs.map (mv ad))
def wsOf (cA : Nat → ClassId) (ad : Nat → Nat) (n : Nat) (h : Nat → PC) : va_W := (List.range n).map (fun p => (ad p, mcell cA ad (h p)))
def okv (n : Nat) : Value → Prop
  | .ref q => q < n ∨ 1000 ≤ q
  | _ => True
def okl (n : Nat) (l : List Value) : Prop := ∀ v ∈ l, okv n v
def okL (n : Nat) (l : List (Option Value)) : Prop := ∀ v, some v ∈ l → okv n v
def okc (n : Nat) : PC → Prop
  | .inl (_, _, .inr (.inr (.inr (.inr f)))) => ∀ j q, f j = some q → q < n
  | .inl _ => True
  | .inr (_, fs) => okl n fs
def hup (h : Nat → PC) (k : Nat) (c : PC) : Nat → PC := fun j => if j = k then c else h j
theorem okv_mono {n m : Nat} (h : n ≤ m) {v : Value} (o : okv n v) : okv m v := by
  cases v <;> first | exact trivial | (rcases o with o | o; exact Or.inl (Nat.lt_of_lt_of_le o h); exact Or.inr o)
theorem okl_mono {n m : Nat} (h : n ≤ m) {l : List Value} (o : okl n l) : okl m l := fun v hv => okv_mono h (o v hv)
theorem okL_mono {n m : Nat} (h : n ≤ m) {l : List (Option Value)} (o : okL n l) : okL m l := fun v hv => okv_mono h (o v hv)
theorem okc_mono {n m : Nat} (h : n ≤ m) {c : PC} (o : okc n c) : okc m c := by
  rcases c with ⟨k, x, f | f | f | f | f⟩ | ⟨ci, fs⟩
  · exact trivial
  · exact trivial
  · exact trivial
  · exact trivial
  · exact fun j q hq => Nat.lt_of_lt_of_le (o j q hq) h
  · exact okl_mono h o
theorem mv_eq {n : Nat} {ad ad' : Nat → Nat} (h : ∀ q, (q < n ∨ 1000 ≤ q) → ad' q = ad q) {v : Value} (o : okv n v) : mv ad' v = mv ad v := by
  cases v <;> first | rfl | (show Value.ref _ = Value.ref _; rw [h _ o])
theorem mvl_eq {n : Nat} {ad ad' : Nat → Nat} (h : ∀ q, (q < n ∨ 1000 ≤ q) → ad' q = ad q) {l : List Value} (o : okl n l) : l.map (mv ad') = l.map (mv ad) := List.map_congr_left (fun v hv => mv_eq h (o v hv))
theorem mcell_eq {n : Nat} {cA : Nat → ClassId} {ad ad' : Nat → Nat} (h : ∀ q, (q < n ∨ 1000 ≤ q) → ad' q = ad q) {c : PC} (o : okc n c) : mcell cA ad' c = mcell cA ad c := by
  rcases c with ⟨k, x, f | f | f | f | f⟩ | ⟨ci, fs⟩
  · rfl
  · rfl
  · rfl
  · rfl
  · have e : (fun j => (f j).map ad') = (fun j => (f j).map ad) := by
      funext j
      cases hj : f j with
      | none => rfl
      | some q => show some (ad' q) = some (ad q); rw [h q (Or.inl (o j q hj))]
    show (Sum.inl (cA k, x, .inr (.inr (.inr (.inr (fun j => (f j).map ad'))))) : va_E) = _
    rw [e]
    rfl
  · show (Sum.inr (ci, fs.map (mv ad')) : va_E) = Sum.inr (ci, fs.map (mv ad))
    rw [mvl_eq h o]
theorem wsOf_at {cA : Nat → ClassId} {ad : Nat → Nat} {n : Nat} {h : Nat → PC} {k : Nat} (hk : k < n) : (wsOf cA ad n h)[k]? = some (ad k, mcell cA ad (h k)) := by
  simp [wsOf, hk]
theorem wsOf_len {cA : Nat → ClassId} {ad : Nat → Nat} {n : Nat} {h : Nat → PC} : (wsOf cA ad n h).length = n := by simp [wsOf]
theorem wsOf_set {cA : Nat → ClassId} {ad : Nat → Nat} {n : Nat} {h : Nat → PC} {k : Nat} (c : PC) : (wsOf cA ad n h).set k (ad k, mcell cA ad c) = wsOf cA ad n (hup h k c) := by
  apply List.ext_getElem?
  intro j
  rw [List.getElem?_set]
  by_cases hj : j < n
  · rw [wsOf_at hj, wsOf_at hj, wsOf_len]
    by_cases hkj : k = j
    · subst hkj
      simp [hup, hj]
    · have : j ≠ k := fun e => hkj e.symm
      simp [hup, hkj, this]
  · have e1 : (wsOf cA ad n h)[j]? = none := List.getElem?_eq_none (by rw [wsOf_len]; omega)
    have e2 : (wsOf cA ad n (hup h k c))[j]? = none := List.getElem?_eq_none (by rw [wsOf_len]; omega)
    rw [e1, e2, wsOf_len]
    by_cases hkj : k = j
    · subst hkj
      simp [hj]
    · simp [hkj]
theorem wsOf_push {cA : Nat → ClassId} {ad : Nat → Nat} {n : Nat} {h : Nat → PC} {q : Nat} {c : PC} {e : va_E} (hn : n < 1000) (ho : ∀ k, k < n → okc n (h k)) (he : mcell cA (va_up ad n q) c = e) : wsOf cA ad n h ++ [(q, e)] = wsOf cA (va_up ad n q) (n + 1) (hup h n c) := by
  subst he
  have hag : ∀ x, (x < n ∨ 1000 ≤ x) → va_up ad n q x = ad x := fun x hx => by
    have : x ≠ n := by omega
    simp [va_up, this]
  apply List.ext_getElem?
  intro j
  by_cases hj : j < n
  · rw [List.getElem?_append_left (by rw [wsOf_len]; exact hj), wsOf_at hj, wsOf_at (by omega)]
    have : j ≠ n := by omega
    rw [hag j (Or.inl hj)]
    simp only [hup, this, if_false]
    rw [mcell_eq hag (ho j hj)]
  · by_cases hjn : j = n
    · subst hjn
      rw [List.getElem?_append_right (by rw [wsOf_len]; omega), wsOf_at (by omega), wsOf_len]
      simp [hup, va_up]
    · rw [List.getElem?_eq_none (by simp [wsOf_len]; omega), List.getElem?_eq_none (by rw [wsOf_len]; omega)]
-- frozen arrays: the class's static ones, and the script
abbrev fzE : Type := String × String × FieldType × Nat × (Nat → Value)
def powV : Nat → Value := fun j => .int (([1, 3, 9, 27, 81, 243, 729] : List Int32).getD j 0)
def joiV : Nat → Value := fun j => .int (([38, 124, 62, 61, 94] : List Int32).getD j 0)
def soL : List Int64 := [-6148914691236517206, -3689348814741910324, -1085102592571150096, -71777214294589696, -281470681808896, -4294967296]
def soV : Nat → Value := fun j => .long (soL.getD j 0)
def fewL : List Int64 := [1, 4295033111, 282583131232127, 78603213217791999, 1693262453404827647, 9223372036854775807, -1]
def fewV : Nat → Value := fun j => .long (fewL.getD j 0)
def fzT : List fzE := [("POWERS", "[I", .int, 7, powV), ("JOINTS", "[I", .int, 5, joiV), ("SO", "[J", .long, 6, soV), ("FEW", "[J", .long, 7, fewV)]
def Fz (sz : Nat) (zd : Nat → Nat) (xl : Nat) (xs : Nat → Int32) (U : State) (H : Heap) : Prop := (∀ (k : Nat) (q : fzE), fzT[k]? = some q → va_Z "WishLamp" q.1 q.2.1 (.ref (zd k)) (fun q => sz ≤ q) U H ∧ va_T q.2.2.1 (zd k) q.2.2.2.1 q.2.2.2.2 (fun q => sz ≤ q) U H) ∧ va_T .int (zd 4) xl (fun j => .int (xs j)) (fun q => sz ≤ q) U H
theorem Fz.moved {sz : Nat} {zd : Nat → Nat} {xl : Nat} {xs : Nat → Int32} {u U : State} {H : Heap} (hvm : u.vm.Alike U.vm) (h : Fz sz zd xl xs u H) : Fz sz zd xl xs U H := ⟨fun k q hq => ⟨(h.1 k q hq).1.moved hvm, (h.1 k q hq).2.moved hvm⟩, h.2.moved hvm⟩
theorem Fz.kept {sz : Nat} {zd : Nat → Nat} {xl : Nat} {xs : Nat → Int32} {U : State} {H H1 : Heap} (h : Fz sz zd xl xs U H) (hq : ∀ a : Nat, a < H.size → ¬ (sz ≤ a) → H1[a]? = H[a]?) : Fz sz zd xl xs U H1 := ⟨fun k q hk => ⟨(h.1 k q hk).1.kept hq, (h.1 k q hk).2.kept hq⟩, h.2.kept hq⟩
def tyL (cA : Nat → ClassId) : List (ClassId × FieldType) := [(cA 0, .int), (cA 1, .long), (cA 2, .boolean), (cA 3, .object "WishLamp$State")]
/-- the heap holds the pure heap -/
def Hs (D : va_G) (cA : Nat → ClassId) (sz : Nat) (zd ad : Nat → Nat) (n : Nat) (h : Nat → PC) (H : Heap) : Prop := n ≤ 1000 ∧ (∀ k, k < n → okc n (h k)) ∧ va_P D vwCl (wsOf cA ad n h) H ∧ va_D (fun q => sz ≤ q) (wsOf cA ad n h) ∧ ∀ k, 1000 ≤ k → ad k = zd (k - 1000)
def Ext (n0 : Nat) (ad0 : Nat → Nat) (n : Nat) (ad : Nat → Nat) : Prop := n0 ≤ n ∧ ∀ q, (q < n0 ∨ 1000 ≤ q) → ad q = ad0 q
/-- the locals, by their places -/
def LH (ls : Array Slot) (nL : Nat) (ad : Nat → Nat) (lv : List (Option Value)) : Prop := (ls.size = nL ∧ lv_wf ls) ∧ lv.length ≤ nL ∧ ∀ (i : Nat) (v : Value), lv[i]? = some (some v) → ls[i]? = some (.val (mv ad v))
def retd (M : Mt) (pc : Nat) : Option Value → Prop
  | none => decode M.2.1 pc = .ok (.return_, 1) ∧ M.2.2.2 = none
  | some (.int v) => decode M.2.1 pc = .ok (.ireturn, 1) ∧ ∃ ty, M.2.2.2 = some ty ∧ narrow ty (.int v) = .int v
  | some (.long _) => decode M.2.1 pc = .ok (.lreturn, 1) ∧ M.2.2.2 = some .long
  | _ => False
abbrev QT : Type := Option Value → Nat → (Nat → PC) → Prop
def Rt (M : Mt) (Q : QT) (p : Program) (l : Launch) (e : Env) (R : Room) (s : State) (m : MethodId) (args : Array Value) (below : List Frame) (meth : Method) (c : Code) (Z : State → Prop) (D : va_G) (cA : Nat → ClassId) (sz : Nat) (zd : Nat → Nat) (n0 : Nat) (ad0 : Nat → Nat) (CM SM : Nat) : Prop :=
  ∀ (ad : Nat → Nat) (H : Heap) (locs : List Loc) (cells slots : Nat) (ls : Array Slot) (n : Nat) (h : Nat → PC) (r : Option Value) (pc : Nat), Hs D cA sz zd ad n h H → Ext n0 ad0 n ad → va_S (fun q => sz ≤ q) s.heap H locs → cells ≤ CM → slots ≤ SM → retd M pc r → Q r n h → W p l e R s m args below meth c H locs cells slots Z (F0 m pc ls (r.toList.map (mv ad)))
def Cx (F L : Nat) (M : Mt) (Q : QT) (p : Program) (l : Launch) (e : Env) (R : Room) (s : State) (m : MethodId) (args : Array Value) (below : List Frame) (meth : Method) (c : Code) (Z : State → Prop) (D : va_G) (cA : Nat → ClassId) (sz : Nat) (zd : Nat → Nat) (xl : Nat) (xs : Nat → Int32) (n0 : Nat) (ad0 : Nat → Nat) (CM SM : Nat) : Prop :=
  p.tables.exec = Jvm.exec ∧ c.code = M.2.1 ∧ c.maxLocals = M.2.2.1 ∧ s.vm.findClass M.1.cls = some m.cls ∧ (∀ w ∈ TB, w.before args s = true) ∧ (∀ w ∈ NT, va_Nw w s) ∧ va_K D vwCl (tyL cA) s ∧ Fz sz zd xl xs s s.heap ∧ va_AO "WishLamp$State" s ∧ meth.name = M.1.name ∧ sz ≤ s.heap.size ∧ (F ≤ R.frames ∧ L ≤ R.locals ∧ CM ≤ R.cells ∧ SM ≤ R.slots) ∧ Rt M Q p l e R s m args below meth c Z D cA sz zd n0 ad0 CM SM
def Ev (xl : Nat) (xs : Nat → Int32) (F L B1 B2 : Nat) (M : Mt) (pc : Nat) (lv : List (Option Value)) (st : List Value) (n : Nat) (h : Nat → PC) (Q : QT) : Prop :=
  ∀ (p : Program) (l : Launch) (e : Env) (R : Room) (s : State) (m : MethodId) (args : Array Value) (below : List Frame) (meth : Method) (c : Code) (Z : State → Prop) (D : va_G) (cA : Nat → ClassId) (sz : Nat) (zd : Nat → Nat) (n0 : Nat) (ad0 : Nat → Nat) (CM SM : Nat),
    Cx F L M Q p l e R s m args below meth c Z D cA sz zd xl xs n0 ad0 CM SM →
    ∀ (ad : Nat → Nat) (H : Heap) (locs : List Loc) (cells slots : Nat) (ls : Array Slot), Hs D cA sz zd ad n h H → Ext n0 ad0 n ad → va_S (fun q => sz ≤ q) s.heap H locs → cells + B1 ≤ CM → slots + B2 ≤ SM → LH ls M.2.2.1 ad lv → okL n lv → okl n st →
      W p l e R s m args below meth c H locs cells slots Z (F0 m pc ls (st.map (mv ad)))
/-- the locals with which a method begins -/
def entA : List Value → List (Option Value)
  | [] => []
  | v :: vs => if v.category = 2 then some v :: none :: entA vs else some v :: entA vs
def ent (vs : List Value) (n : Nat) : List (Option Value) := entA vs ++ List.replicate (n - (entA vs).length) none
/-- a method's run, as it comes out -/
def Rn (xl : Nat) (xs : Nat → Int32) (F L b1 b2 : Nat) (M : Mt) (vs : List Value) (n : Nat) (h : Nat → PC) (r : Option Value) (n' : Nat) (h' : Nat → PC) : Prop := ∀ Q : QT, Q r n' h' → Ev xl xs F L b1 b2 M 0 (ent vs M.2.2.1) [] n h Q
section EV
variable {xl : Nat} {xs : Nat → Int32} {F L B1 B2 : Nat} {M : Mt} {pc : Nat} {lv : List (Option Value)} {st : List Value} {n : Nat} {h : Nat → PC} {Q : QT}
/-- an instruction on the stack alone -/
theorem ev_pure {pc2 : Nat} {st2 : List Value} (ok : ∀ n, okl n st → okl n st2)
    (step : ∀ (p : Program) (l : Launch) (e : Env) (R : Room) (s : State) (m : MethodId) (args : Array Value) (below : List Frame) (meth : Method) (c : Code) (H : Heap) (locs : List Loc) (cells slots : Nat) (Z : State → Prop) (ls : Array Slot) (ad : Nat → Nat), p.tables.exec = Jvm.exec → c.code = M.2.1 → s.vm.findClass M.1.cls = some m.cls → (∀ w ∈ TB, w.before args s = true) → W p l e R s m args below meth c H locs cells slots Z (F0 m pc2 ls (st2.map (mv ad))) → W p l e R s m args below meth c H locs cells slots Z (F0 m pc ls (st.map (mv ad))))
    (k : Ev xl xs F L B1 B2 M pc2 lv st2 n h Q) : Ev xl xs F L B1 B2 M pc lv st n h Q := by
  intro p l e R s m args below meth c Z D cA sz zd n0 ad0 CM SM C ad H locs cells slots ls hH hE hS hc hs hl o1 o2
  exact step _ _ _ _ _ _ _ _ _ _ _ _ _ _ _ _ _ C.1 C.2.1 C.2.2.2.1 C.2.2.2.2.1 (k _ _ _ _ _ _ _ _ _ _ _ _ _ _ _ _ _ _ _ C ad H locs cells slots ls hH hE hS hc hs hl o1 (ok n o2))
theorem okl_i {n : Nat} {l : List Value} {x : Int32} (h : okl n l) : okl n (.int x :: l) := fun v hv => by
  rcases List.mem_cons.mp hv with e | e
  · subst e; exact trivial
  · exact h v e
theorem okl_l {n : Nat} {l : List Value} {x : Int64} (h : okl n l) : okl n (.long x :: l) := fun v hv => by
  rcases List.mem_cons.mp hv with e | e
  · subst e; exact trivial
  · exact h v e
theorem okl_t {n : Nat} {l : List Value} {v : Value} (h : okl n (v :: l)) : okl n l := fun w hw => h w (List.mem_cons_of_mem _ hw)
theorem okl_h {n : Nat} {l : List Value} {v : Value} (h : okl n (v :: l)) : okv n v := h v List.mem_cons_self
theorem okl_c {n : Nat} {l : List Value} {v : Value} (h1 : okv n v) (h : okl n l) : okl n (v :: l) := fun w hw => by
  rcases List.mem_cons.mp hw with e | e
  · subst e; exact h1
  · exact h w e
end EV
end
section
section ROWS
variable {xl : Nat} {xs : Nat → Int32} {F L B1 B2 : Nat} {M : Mt} {pc : Nat} {lv : List (Option Value)} {st : List Value} {n : Nat} {h : Nat → PC} {Q : QT}
theorem ev_iadd {q : Nat} {x y : Int32} (d : decode M.2.1 pc = .ok (.iadd, 1)) (hq : pc + 1 = q) (k : Ev xl xs F L B1 B2 M q lv (.int (x + y) :: st) n h Q) : Ev xl xs F L B1 B2 M pc lv (.int y :: .int x :: st) n h Q := by
  subst hq
  exact ev_pure (fun n o => okl_i (okl_t (okl_t o))) (fun p l e R s m args below meth c H locs cells slots Z ls ad hx hb ho ht kk => lv_iadd hx hb d kk) k
theorem ev_isub {q : Nat} {x y : Int32} (d : decode M.2.1 pc = .ok (.isub, 1)) (hq : pc + 1 = q) (k : Ev xl xs F L B1 B2 M q lv (.int (x - y) :: st) n h Q) : Ev xl xs F L B1 B2 M pc lv (.int y :: .int x :: st) n h Q := by
  subst hq
  exact ev_pure (fun n o => okl_i (okl_t (okl_t o))) (fun p l e R s m args below meth c H locs cells slots Z ls ad hx hb ho ht kk => lv_isub hx hb d kk) k
theorem ev_imul {q : Nat} {x y : Int32} (d : decode M.2.1 pc = .ok (.imul, 1)) (hq : pc + 1 = q) (k : Ev xl xs F L B1 B2 M q lv (.int (x * y) :: st) n h Q) : Ev xl xs F L B1 B2 M pc lv (.int y :: .int x :: st) n h Q := by
  subst hq
  exact ev_pure (fun n o => okl_i (okl_t (okl_t o))) (fun p l e R s m args below meth c H locs cells slots Z ls ad hx hb ho ht kk => lv_imul hx hb d kk) k
theorem ev_iand {q : Nat} {x y : Int32} (d : decode M.2.1 pc = .ok (.iand, 1)) (hq : pc + 1 = q) (k : Ev xl xs F L B1 B2 M q lv (.int (x &&& y) :: st) n h Q) : Ev xl xs F L B1 B2 M pc lv (.int y :: .int x :: st) n h Q := by
  subst hq
  exact ev_pure (fun n o => okl_i (okl_t (okl_t o))) (fun p l e R s m args below meth c H locs cells slots Z ls ad hx hb ho ht kk => lv_iand hx hb d kk) k
theorem ev_ior {q : Nat} {x y : Int32} (d : decode M.2.1 pc = .ok (.ior, 1)) (hq : pc + 1 = q) (k : Ev xl xs F L B1 B2 M q lv (.int (x ||| y) :: st) n h Q) : Ev xl xs F L B1 B2 M pc lv (.int y :: .int x :: st) n h Q := by
  subst hq
  exact ev_pure (fun n o => okl_i (okl_t (okl_t o))) (fun p l e R s m args below meth c H locs cells slots Z ls ad hx hb ho ht kk => lv_ior hx hb d kk) k
theorem ev_ixor {q : Nat} {x y : Int32} (d : decode M.2.1 pc = .ok (.ixor, 1)) (hq : pc + 1 = q) (k : Ev xl xs F L B1 B2 M q lv (.int (x ^^^ y) :: st) n h Q) : Ev xl xs F L B1 B2 M pc lv (.int y :: .int x :: st) n h Q := by
  subst hq
  exact ev_pure (fun n o => okl_i (okl_t (okl_t o))) (fun p l e R s m args below meth c H locs cells slots Z ls ad hx hb ho ht kk => lv_ixor hx hb d kk) k
theorem ev_ishl {q : Nat} {x y : Int32} (d : decode M.2.1 pc = .ok (.ishl, 1)) (hq : pc + 1 = q) (k : Ev xl xs F L B1 B2 M q lv (.int (x <<< (y &&& 31)) :: st) n h Q) : Ev xl xs F L B1 B2 M pc lv (.int y :: .int x :: st) n h Q := by
  subst hq
  exact ev_pure (fun n o => okl_i (okl_t (okl_t o))) (fun p l e R s m args below meth c H locs cells slots Z ls ad hx hb ho ht kk => lv_ishl hx hb d kk) k
theorem ev_ishr {q : Nat} {x y : Int32} (d : decode M.2.1 pc = .ok (.ishr, 1)) (hq : pc + 1 = q) (k : Ev xl xs F L B1 B2 M q lv (.int (x >>> (y &&& 31)) :: st) n h Q) : Ev xl xs F L B1 B2 M pc lv (.int y :: .int x :: st) n h Q := by
  subst hq
  exact ev_pure (fun n o => okl_i (okl_t (okl_t o))) (fun p l e R s m args below meth c H locs cells slots Z ls ad hx hb ho ht kk => lv_ishr hx hb d kk) k
theorem ev_idiv {q : Nat} {x y : Int32} (hne : ¬ y = 0) (d : decode M.2.1 pc = .ok (.idiv, 1)) (hq : pc + 1 = q) (k : Ev xl xs F L B1 B2 M q lv (.int (x / y) :: st) n h Q) : Ev xl xs F L B1 B2 M pc lv (.int y :: .int x :: st) n h Q := by
  subst hq
  exact ev_pure (fun n o => okl_i (okl_t (okl_t o))) (fun p l e R s m args below meth c H locs cells slots Z ls ad hx hb ho ht kk => lv_idiv hx hb d hne kk) k
theorem ev_irem {q : Nat} {x y : Int32} (hne : ¬ y = 0) (d : decode M.2.1 pc = .ok (.irem, 1)) (hq : pc + 1 = q) (k : Ev xl xs F L B1 B2 M q lv (.int (x - x / y * y) :: st) n h Q) : Ev xl xs F L B1 B2 M pc lv (.int y :: .int x :: st) n h Q := by
  subst hq
  exact ev_pure (fun n o => okl_i (okl_t (okl_t o))) (fun p l e R s m args below meth c H locs cells slots Z ls ad hx hb ho ht kk => lv_irem hx hb d hne kk) k
theorem ev_iushr {q : Nat} {x y : Int32} (d : decode M.2.1 pc = .ok (.iushr, 1)) (hq : pc + 1 = q) (k : Ev xl xs F L B1 B2 M q lv (.int ((x.toUInt32 >>> (y.toUInt32 &&& Int32.toUInt32 31)).toInt32) :: st) n h Q) : Ev xl xs F L B1 B2 M pc lv (.int y :: .int x :: st) n h Q := by
  subst hq
  exact ev_pure (fun n o => okl_i (okl_t (okl_t o))) (fun p l e R s m args below meth c H locs cells slots Z ls ad hx hb ho ht kk => lv_iushr hx hb d rfl kk) k
theorem ev_ineg {q : Nat} {x : Int32} (d : decode M.2.1 pc = .ok (.ineg, 1)) (hq : pc + 1 = q) (k : Ev xl xs F L B1 B2 M q lv (.int (-x) :: st) n h Q) : Ev xl xs F L B1 B2 M pc lv (.int x :: st) n h Q := by
  subst hq
  exact ev_pure (fun n o => okl_i (okl_t o)) (fun p l e R s m args below meth c H locs cells slots Z ls ad hx hb ho ht kk => lv_ineg hx hb d kk) k
theorem ev_lneg {q : Nat} {x : Int64} (d : decode M.2.1 pc = .ok (.lneg, 1)) (hq : pc + 1 = q) (k : Ev xl xs F L B1 B2 M q lv (.long (-x) :: st) n h Q) : Ev xl xs F L B1 B2 M pc lv (.long x :: st) n h Q := by
  subst hq
  exact ev_pure (fun n o => okl_l (okl_t o)) (fun p l e R s m args below meth c H locs cells slots Z ls ad hx hb ho ht kk => lv_lneg hx hb d kk) k
theorem ev_ladd {q : Nat} {x y : Int64} (d : decode M.2.1 pc = .ok (.ladd, 1)) (hq : pc + 1 = q) (k : Ev xl xs F L B1 B2 M q lv (.long (x + y) :: st) n h Q) : Ev xl xs F L B1 B2 M pc lv (.long y :: .long x :: st) n h Q := by
  subst hq
  exact ev_pure (fun n o => okl_l (okl_t (okl_t o))) (fun p l e R s m args below meth c H locs cells slots Z ls ad hx hb ho ht kk => lv_ladd hx hb d kk) k
theorem ev_lsub {q : Nat} {x y : Int64} (d : decode M.2.1 pc = .ok (.lsub, 1)) (hq : pc + 1 = q) (k : Ev xl xs F L B1 B2 M q lv (.long (x - y) :: st) n h Q) : Ev xl xs F L B1 B2 M pc lv (.long y :: .long x :: st) n h Q := by
  subst hq
  exact ev_pure (fun n o => okl_l (okl_t (okl_t o))) (fun p l e R s m args below meth c H locs cells slots Z ls ad hx hb ho ht kk => lv_lsub hx hb d kk) k
theorem ev_land {q : Nat} {x y : Int64} (d : decode M.2.1 pc = .ok (.land, 1)) (hq : pc + 1 = q) (k : Ev xl xs F L B1 B2 M q lv (.long (x &&& y) :: st) n h Q) : Ev xl xs F L B1 B2 M pc lv (.long y :: .long x :: st) n h Q := by
  subst hq
  exact ev_pure (fun n o => okl_l (okl_t (okl_t o))) (fun p l e R s m args below meth c H locs cells slots Z ls ad hx hb ho ht kk => lv_land hx hb d kk) k
theorem ev_lor {q : Nat} {x y : Int64} (d : decode M.2.1 pc = .ok (.lor, 1)) (hq : pc + 1 = q) (k : Ev xl xs F L B1 B2 M q lv (.long (x ||| y) :: st) n h Q) : Ev xl xs F L B1 B2 M pc lv (.long y :: .long x :: st) n h Q := by
  subst hq
  exact ev_pure (fun n o => okl_l (okl_t (okl_t o))) (fun p l e R s m args below meth c H locs cells slots Z ls ad hx hb ho ht kk => lv_lor hx hb d kk) k
theorem ev_lxor {q : Nat} {x y : Int64} (d : decode M.2.1 pc = .ok (.lxor, 1)) (hq : pc + 1 = q) (k : Ev xl xs F L B1 B2 M q lv (.long (x ^^^ y) :: st) n h Q) : Ev xl xs F L B1 B2 M pc lv (.long y :: .long x :: st) n h Q := by
  subst hq
  exact ev_pure (fun n o => okl_l (okl_t (okl_t o))) (fun p l e R s m args below meth c H locs cells slots Z ls ad hx hb ho ht kk => lv_lxor hx hb d kk) k
theorem ev_ldiv {q : Nat} {x y : Int64} (hne : ¬ y = 0) (d : decode M.2.1 pc = .ok (.ldiv, 1)) (hq : pc + 1 = q) (k : Ev xl xs F L B1 B2 M q lv (.long (x / y) :: st) n h Q) : Ev xl xs F L B1 B2 M pc lv (.long y :: .long x :: st) n h Q := by
  subst hq
  exact ev_pure (fun n o => okl_l (okl_t (okl_t o))) (fun p l e R s m args below meth c H locs cells slots Z ls ad hx hb ho ht kk => lv_ldiv hx hb d hne kk) k
theorem ev_lrem {q : Nat} {x y : Int64} (hne : ¬ y = 0) (d : decode M.2.1 pc = .ok (.lrem, 1)) (hq : pc + 1 = q) (k : Ev xl xs F L B1 B2 M q lv (.long (x - x / y * y) :: st) n h Q) : Ev xl xs F L B1 B2 M pc lv (.long y :: .long x :: st) n h Q := by
  subst hq
  exact ev_pure (fun n o => okl_l (okl_t (okl_t o))) (fun p l e R s m args below meth c H locs cells slots Z ls ad hx hb ho ht kk => lv_lrem hx hb d hne kk) k
theorem ev_lshl {q : Nat} {x : Int64} {y : Int32} (d : decode M.2.1 pc = .ok (.lshl, 1)) (hq : pc + 1 = q) (k : Ev xl xs F L B1 B2 M q lv (.long (x <<< (y.toInt64 &&& 63)) :: st) n h Q) : Ev xl xs F L B1 B2 M pc lv (.int y :: .long x :: st) n h Q := by
  subst hq
  exact ev_pure (fun n o => okl_l (okl_t (okl_t o))) (fun p l e R s m args below meth c H locs cells slots Z ls ad hx hb ho ht kk => lv_lshl hx hb d rfl kk) k
theorem ev_lushr {q : Nat} {x : Int64} {y : Int32} (d : decode M.2.1 pc = .ok (.lushr, 1)) (hq : pc + 1 = q) (k : Ev xl xs F L B1 B2 M q lv (.long ((x.toUInt64 >>> (y.toInt64.toUInt64 &&& Int64.toUInt64 63)).toInt64) :: st) n h Q) : Ev xl xs F L B1 B2 M pc lv (.int y :: .long x :: st) n h Q := by
  subst hq
  exact ev_pure (fun n o => okl_l (okl_t (okl_t o))) (fun p l e R s m args below meth c H locs cells slots Z ls ad hx hb ho ht kk => lv_lushr hx hb d rfl kk) k
theorem ev_lcmp {q : Nat} {x y : Int64} (d : decode M.2.1 pc = .ok (.lcmp, 1)) (hq : pc + 1 = q) (k : Ev xl xs F L B1 B2 M q lv (.int (lg_cmp x y) :: st) n h Q) : Ev xl xs F L B1 B2 M pc lv (.long y :: .long x :: st) n h Q := by
  subst hq
  exact ev_pure (fun n o => okl_i (okl_t (okl_t o))) (fun p l e R s m args below meth c H locs cells slots Z ls ad hx hb ho ht kk => W.lcmp hx hb d kk) k
theorem ev_i2l {q : Nat} {x : Int32} (d : decode M.2.1 pc = .ok (.i2l, 1)) (hq : pc + 1 = q) (k : Ev xl xs F L B1 B2 M q lv (.long x.toInt64 :: st) n h Q) : Ev xl xs F L B1 B2 M pc lv (.int x :: st) n h Q := by
  subst hq
  exact ev_pure (fun n o => okl_l (okl_t o)) (fun p l e R s m args below meth c H locs cells slots Z ls ad hx hb ho ht kk => lv_i2l hx hb d rfl kk) k
theorem ev_l2i {q : Nat} {x : Int64} (d : decode M.2.1 pc = .ok (.l2i, 1)) (hq : pc + 1 = q) (k : Ev xl xs F L B1 B2 M q lv (.int x.toInt32 :: st) n h Q) : Ev xl xs F L B1 B2 M pc lv (.long x :: st) n h Q := by
  subst hq
  exact ev_pure (fun n o => okl_i (okl_t o)) (fun p l e R s m args below meth c H locs cells slots Z ls ad hx hb ho ht kk => lv_l2i hx hb d rfl kk) k
theorem ev_iconst {q : Nat} {i : Int} (v : Int32) (d : decode M.2.1 pc = .ok (.iconst i, 1)) (hv : Int32.ofInt i = v) (hq : pc + 1 = q) (k : Ev xl xs F L B1 B2 M q lv (.int v :: st) n h Q) : Ev xl xs F L B1 B2 M pc lv st n h Q := by
  subst hq
  exact ev_pure (fun n o => okl_i o) (fun p l e R s m args below meth c H locs cells slots Z ls ad hx hb ho ht kk => lv_iconst hx hb d hv kk) k
theorem ev_bipush {q : Nat} {i : Int} (v : Int32) (d : decode M.2.1 pc = .ok (.bipush i, 2)) (hv : (Int8.ofInt i).toInt32 = v) (hq : pc + 2 = q) (k : Ev xl xs F L B1 B2 M q lv (.int v :: st) n h Q) : Ev xl xs F L B1 B2 M pc lv st n h Q := by
  subst hq
  exact ev_pure (fun n o => okl_i o) (fun p l e R s m args below meth c H locs cells slots Z ls ad hx hb ho ht kk => lv_bipush hx hb d hv kk) k
theorem ev_sipush {q : Nat} {i : Int} (v : Int32) (d : decode M.2.1 pc = .ok (.sipush i, 3)) (hv : (Int16.ofInt i).toInt32 = v) (hq : pc + 3 = q) (k : Ev xl xs F L B1 B2 M q lv (.int v :: st) n h Q) : Ev xl xs F L B1 B2 M pc lv st n h Q := by
  subst hq
  exact ev_pure (fun n o => okl_i o) (fun p l e R s m args below meth c H locs cells slots Z ls ad hx hb ho ht kk => lv_sipush hx hb d hv kk) k
theorem ev_lconst {q : Nat} {i : Fin 2} (v : Int64) (d : decode M.2.1 pc = .ok (.lconst i, 1)) (hv : Int64.ofNat (i : Nat) = v) (hq : pc + 1 = q) (k : Ev xl xs F L B1 B2 M q lv (.long v :: st) n h Q) : Ev xl xs F L B1 B2 M pc lv st n h Q := by
  subst hq
  exact ev_pure (fun n o => okl_l o) (fun p l e R s m args below meth c H locs cells slots Z ls ad hx hb ho ht kk => lv_lconst hx hb d hv kk) k
theorem ev_ldc {q : Nat} {i : Nat} {v : Int32} (hw : Cond.constant M.1.cls i v ∈ TB) (d : decode M.2.1 pc = .ok (.ldc i, 2)) (hq : pc + 2 = q) (k : Ev xl xs F L B1 B2 M q lv (.int v :: st) n h Q) : Ev xl xs F L B1 B2 M pc lv st n h Q := by
  subst hq
  exact ev_pure (fun n o => okl_i o) (fun p l e R s m args below meth c H locs cells slots Z ls ad hx hb ho ht kk => lv_ldc hx hb ho (ht _ hw) d kk) k
theorem ev_ldc2 {q : Nat} {i : Nat} {v : Int64} (hw : Cond.constantLong M.1.cls i v ∈ TB) (d : decode M.2.1 pc = .ok (.ldc2_w i, 3)) (hq : pc + 3 = q) (k : Ev xl xs F L B1 B2 M q lv (.long v :: st) n h Q) : Ev xl xs F L B1 B2 M pc lv st n h Q := by
  subst hq
  exact ev_pure (fun n o => okl_l o) (fun p l e R s m args below meth c H locs cells slots Z ls ad hx hb ho ht kk => lv_ldc2 hx hb ho (ht _ hw) d kk) k
theorem ev_pop {q : Nat} {v : Value} (hv : ∀ ad, (mv ad v).category = 1) (d : decode M.2.1 pc = .ok (.pop, 1)) (hq : pc + 1 = q) (k : Ev xl xs F L B1 B2 M q lv st n h Q) : Ev xl xs F L B1 B2 M pc lv (v :: st) n h Q := by
  subst hq
  exact ev_pure (fun n o => okl_t o) (fun p l e R s m args below meth c H locs cells slots Z ls ad hx hb ho ht kk => lv_pop hx hb d (hv ad) kk) k
theorem ev_dup {q : Nat} {v : Value} (hv : ∀ ad, (mv ad v).category = 1) (d : decode M.2.1 pc = .ok (.dup, 1)) (hq : pc + 1 = q) (k : Ev xl xs F L B1 B2 M q lv (v :: v :: st) n h Q) : Ev xl xs F L B1 B2 M pc lv (v :: st) n h Q := by
  subst hq
  exact ev_pure (fun n o => okl_c (okl_h o) o) (fun p l e R s m args below meth c H locs cells slots Z ls ad hx hb ho ht kk => lv_dup hx hb d (hv ad) kk) k
theorem ev_dup2 {q : Nat} {v w : Value} (hv : ∀ ad, (mv ad v).category = 1) (hw : ∀ ad, (mv ad w).category = 1) (d : decode M.2.1 pc = .ok (.dup2, 1)) (hq : pc + 1 = q) (k : Ev xl xs F L B1 B2 M q lv (v :: w :: v :: w :: st) n h Q) : Ev xl xs F L B1 B2 M pc lv (v :: w :: st) n h Q := by
  subst hq
  exact ev_pure (fun n o => okl_c (okl_h o) (okl_c (okl_h (okl_t o)) o)) (fun p l e R s m args below meth c H locs cells slots Z ls ad hx hb ho ht kk => lv_dup2_11 hx hb d (hv ad) (hw ad) kk) k
theorem ev_goto {off : Int} (t : Nat) (d : decode M.2.1 pc = .ok (.goto off, 3)) (ht : (pc : Int) + off = (t : Int)) (k : Ev xl xs F L B1 B2 M t lv st n h Q) : Ev xl xs F L B1 B2 M pc lv st n h Q := ev_pure (fun n o => o) (fun p l e R s m args below meth c H locs cells slots Z ls ad hx hb ho hts kk => lv_goto hx hb d ht kk) k
theorem ev_if_eq {x : Int32} {off : Int} {q : Nat} (t : Nat) (d : decode M.2.1 pc = .ok (.ifCond .eq off, 3)) (ht : (pc : Int) + off = (t : Int)) (hq : pc + 3 = q) (kt : (x = 0) → Ev xl xs F L B1 B2 M t lv st n h Q) (kf : ¬ (x = 0) → Ev xl xs F L B1 B2 M q lv st n h Q) : Ev xl xs F L B1 B2 M pc lv (.int x :: st) n h Q := by
  subst hq
  intro p l e R s m args below meth cc Z D cA sz zd n0 ad0 CM SM C ad H locs cells slots ls hH hE hS hc hs hl o1 o2
  exact lv_if_eq C.1 C.2.1 d ht (fun hc0 => kt hc0 _ _ _ _ _ _ _ _ _ _ _ _ _ _ _ _ _ _ _ C ad H locs cells slots ls hH hE hS hc hs hl o1 (okl_t o2)) (fun hc0 => kf hc0 _ _ _ _ _ _ _ _ _ _ _ _ _ _ _ _ _ _ _ C ad H locs cells slots ls hH hE hS hc hs hl o1 (okl_t o2))
theorem ev_if_ne {x : Int32} {off : Int} {q : Nat} (t : Nat) (d : decode M.2.1 pc = .ok (.ifCond .ne off, 3)) (ht : (pc : Int) + off = (t : Int)) (hq : pc + 3 = q) (kt : (x ≠ 0) → Ev xl xs F L B1 B2 M t lv st n h Q) (kf : (x = 0) → Ev xl xs F L B1 B2 M q lv st n h Q) : Ev xl xs F L B1 B2 M pc lv (.int x :: st) n h Q := by
  subst hq
  intro p l e R s m args below meth cc Z D cA sz zd n0 ad0 CM SM C ad H locs cells slots ls hH hE hS hc hs hl o1 o2
  exact lv_if_ne C.1 C.2.1 d ht (fun hc0 => kt hc0 _ _ _ _ _ _ _ _ _ _ _ _ _ _ _ _ _ _ _ C ad H locs cells slots ls hH hE hS hc hs hl o1 (okl_t o2)) (fun hc0 => kf hc0 _ _ _ _ _ _ _ _ _ _ _ _ _ _ _ _ _ _ _ C ad H locs cells slots ls hH hE hS hc hs hl o1 (okl_t o2))
theorem ev_if_lt {x : Int32} {off : Int} {q : Nat} (t : Nat) (d : decode M.2.1 pc = .ok (.ifCond .lt off, 3)) (ht : (pc : Int) + off = (t : Int)) (hq : pc + 3 = q) (kt : (x < 0) → Ev xl xs F L B1 B2 M t lv st n h Q) (kf : ¬ (x < 0) → Ev xl xs F L B1 B2 M q lv st n h Q) : Ev xl xs F L B1 B2 M pc lv (.int x :: st) n h Q := by
  subst hq
  intro p l e R s m args below meth cc Z D cA sz zd n0 ad0 CM SM C ad H locs cells slots ls hH hE hS hc hs hl o1 o2
  exact lv_if_lt C.1 C.2.1 d ht (fun hc0 => kt hc0 _ _ _ _ _ _ _ _ _ _ _ _ _ _ _ _ _ _ _ C ad H locs cells slots ls hH hE hS hc hs hl o1 (okl_t o2)) (fun hc0 => kf hc0 _ _ _ _ _ _ _ _ _ _ _ _ _ _ _ _ _ _ _ C ad H locs cells slots ls hH hE hS hc hs hl o1 (okl_t o2))
theorem ev_if_ge {x : Int32} {off : Int} {q : Nat} (t : Nat) (d : decode M.2.1 pc = .ok (.ifCond .ge off, 3)) (ht : (pc : Int) + off = (t : Int)) (hq : pc + 3 = q) (kt : (0 ≤ x) → Ev xl xs F L B1 B2 M t lv st n h Q) (kf : ¬ (0 ≤ x) → Ev xl xs F L B1 B2 M q lv st n h Q) : Ev xl xs F L B1 B2 M pc lv (.int x :: st) n h Q := by
  subst hq
  intro p l e R s m args below meth cc Z D cA sz zd n0 ad0 CM SM C ad H locs cells slots ls hH hE hS hc hs hl o1 o2
  exact lv_if_ge C.1 C.2.1 d ht (fun hc0 => kt hc0 _ _ _ _ _ _ _ _ _ _ _ _ _ _ _ _ _ _ _ C ad H locs cells slots ls hH hE hS hc hs hl o1 (okl_t o2)) (fun hc0 => kf hc0 _ _ _ _ _ _ _ _ _ _ _ _ _ _ _ _ _ _ _ C ad H locs cells slots ls hH hE hS hc hs hl o1 (okl_t o2))
theorem ev_if_gt {x : Int32} {off : Int} {q : Nat} (t : Nat) (d : decode M.2.1 pc = .ok (.ifCond .gt off, 3)) (ht : (pc : Int) + off = (t : Int)) (hq : pc + 3 = q) (kt : (0 < x) → Ev xl xs F L B1 B2 M t lv st n h Q) (kf : ¬ (0 < x) → Ev xl xs F L B1 B2 M q lv st n h Q) : Ev xl xs F L B1 B2 M pc lv (.int x :: st) n h Q := by
  subst hq
  intro p l e R s m args below meth cc Z D cA sz zd n0 ad0 CM SM C ad H locs cells slots ls hH hE hS hc hs hl o1 o2
  exact lv_if_gt C.1 C.2.1 d ht (fun hc0 => kt hc0 _ _ _ _ _ _ _ _ _ _ _ _ _ _ _ _ _ _ _ C ad H locs cells slots ls hH hE hS hc hs hl o1 (okl_t o2)) (fun hc0 => kf hc0 _ _ _ _ _ _ _ _ _ _ _ _ _ _ _ _ _ _ _ C ad H locs cells slots ls hH hE hS hc hs hl o1 (okl_t o2))
theorem ev_if_le {x : Int32} {off : Int} {q : Nat} (t : Nat) (d : decode M.2.1 pc = .ok (.ifCond .le off, 3)) (ht : (pc : Int) + off = (t : Int)) (hq : pc + 3 = q) (kt : (x ≤ 0) → Ev xl xs F L B1 B2 M t lv st n h Q) (kf : ¬ (x ≤ 0) → Ev xl xs F L B1 B2 M q lv st n h Q) : Ev xl xs F L B1 B2 M pc lv (.int x :: st) n h Q := by
  subst hq
  intro p l e R s m args below meth cc Z D cA sz zd n0 ad0 CM SM C ad H locs cells slots ls hH hE hS hc hs hl o1 o2
  exact lv_if_le C.1 C.2.1 d ht (fun hc0 => kt hc0 _ _ _ _ _ _ _ _ _ _ _ _ _ _ _ _ _ _ _ C ad H locs cells slots ls hH hE hS hc hs hl o1 (okl_t o2)) (fun hc0 => kf hc0 _ _ _ _ _ _ _ _ _ _ _ _ _ _ _ _ _ _ _ C ad H locs cells slots ls hH hE hS hc hs hl o1 (okl_t o2))
theorem ev_icmp_eq {x y : Int32} {off : Int} {q : Nat} (t : Nat) (d : decode M.2.1 pc = .ok (.if_icmp .eq off, 3)) (ht : (pc : Int) + off = (t : Int)) (hq : pc + 3 = q) (kt : (x = y) → Ev xl xs F L B1 B2 M t lv st n h Q) (kf : ¬ (x = y) → Ev xl xs F L B1 B2 M q lv st n h Q) : Ev xl xs F L B1 B2 M pc lv (.int y :: .int x :: st) n h Q := by
  subst hq
  intro p l e R s m args below meth cc Z D cA sz zd n0 ad0 CM SM C ad H locs cells slots ls hH hE hS hc hs hl o1 o2
  exact lv_icmp_eq C.1 C.2.1 d ht (fun hc0 => kt hc0 _ _ _ _ _ _ _ _ _ _ _ _ _ _ _ _ _ _ _ C ad H locs cells slots ls hH hE hS hc hs hl o1 (okl_t (okl_t o2))) (fun hc0 => kf hc0 _ _ _ _ _ _ _ _ _ _ _ _ _ _ _ _ _ _ _ C ad H locs cells slots ls hH hE hS hc hs hl o1 (okl_t (okl_t o2)))
theorem ev_icmp_ne {x y : Int32} {off : Int} {q : Nat} (t : Nat) (d : decode M.2.1 pc = .ok (.if_icmp .ne off, 3)) (ht : (pc : Int) + off = (t : Int)) (hq : pc + 3 = q) (kt : (x ≠ y) → Ev xl xs F L B1 B2 M t lv st n h Q) (kf : (x = y) → Ev xl xs F L B1 B2 M q lv st n h Q) : Ev xl xs F L B1 B2 M pc lv (.int y :: .int x :: st) n h Q := by
  subst hq
  intro p l e R s m args below meth cc Z D cA sz zd n0 ad0 CM SM C ad H locs cells slots ls hH hE hS hc hs hl o1 o2
  exact lv_icmp_ne C.1 C.2.1 d ht (fun hc0 => kt hc0 _ _ _ _ _ _ _ _ _ _ _ _ _ _ _ _ _ _ _ C ad H locs cells slots ls hH hE hS hc hs hl o1 (okl_t (okl_t o2))) (fun hc0 => kf hc0 _ _ _ _ _ _ _ _ _ _ _ _ _ _ _ _ _ _ _ C ad H locs cells slots ls hH hE hS hc hs hl o1 (okl_t (okl_t o2)))
theorem ev_icmp_lt {x y : Int32} {off : Int} {q : Nat} (t : Nat) (d : decode M.2.1 pc = .ok (.if_icmp .lt off, 3)) (ht : (pc : Int) + off = (t : Int)) (hq : pc + 3 = q) (kt : (x < y) → Ev xl xs F L B1 B2 M t lv st n h Q) (kf : ¬ (x < y) → Ev xl xs F L B1 B2 M q lv st n h Q) : Ev xl xs F L B1 B2 M pc lv (.int y :: .int x :: st) n h Q := by
  subst hq
  intro p l e R s m args below meth cc Z D cA sz zd n0 ad0 CM SM C ad H locs cells slots ls hH hE hS hc hs hl o1 o2
  exact lv_icmp_lt C.1 C.2.1 d ht (fun hc0 => kt hc0 _ _ _ _ _ _ _ _ _ _ _ _ _ _ _ _ _ _ _ C ad H locs cells slots ls hH hE hS hc hs hl o1 (okl_t (okl_t o2))) (fun hc0 => kf hc0 _ _ _ _ _ _ _ _ _ _ _ _ _ _ _ _ _ _ _ C ad H locs cells slots ls hH hE hS hc hs hl o1 (okl_t (okl_t o2)))
theorem ev_icmp_ge {x y : Int32} {off : Int} {q : Nat} (t : Nat) (d : decode M.2.1 pc = .ok (.if_icmp .ge off, 3)) (ht : (pc : Int) + off = (t : Int)) (hq : pc + 3 = q) (kt : (y ≤ x) → Ev xl xs F L B1 B2 M t lv st n h Q) (kf : ¬ (y ≤ x) → Ev xl xs F L B1 B2 M q lv st n h Q) : Ev xl xs F L B1 B2 M pc lv (.int y :: .int x :: st) n h Q := by
  subst hq
  intro p l e R s m args below meth cc Z D cA sz zd n0 ad0 CM SM C ad H locs cells slots ls hH hE hS hc hs hl o1 o2
  exact lv_icmp_ge C.1 C.2.1 d ht (fun hc0 => kt hc0 _ _ _ _ _ _ _ _ _ _ _ _ _ _ _ _ _ _ _ C ad H locs cells slots ls hH hE hS hc hs hl o1 (okl_t (okl_t o2))) (fun hc0 => kf hc0 _ _ _ _ _ _ _ _ _ _ _ _ _ _ _ _ _ _ _ C ad H locs cells slots ls hH hE hS hc hs hl o1 (okl_t (okl_t o2)))
theorem ev_icmp_gt {x y : Int32} {off : Int} {q : Nat} (t : Nat) (d : decode M.2.1 pc = .ok (.if_icmp .gt off, 3)) (ht : (pc : Int) + off = (t : Int)) (hq : pc + 3 = q) (kt : (y < x) → Ev xl xs F L B1 B2 M t lv st n h Q) (kf : ¬ (y < x) → Ev xl xs F L B1 B2 M q lv st n h Q) : Ev xl xs F L B1 B2 M pc lv (.int y :: .int x :: st) n h Q := by
  subst hq
  intro p l e R s m args below meth cc Z D cA sz zd n0 ad0 CM SM C ad H locs cells slots ls hH hE hS hc hs hl o1 o2
  exact lv_icmp_gt C.1 C.2.1 d ht (fun hc0 => kt hc0 _ _ _ _ _ _ _ _ _ _ _ _ _ _ _ _ _ _ _ C ad H locs cells slots ls hH hE hS hc hs hl o1 (okl_t (okl_t o2))) (fun hc0 => kf hc0 _ _ _ _ _ _ _ _ _ _ _ _ _ _ _ _ _ _ _ C ad H locs cells slots ls hH hE hS hc hs hl o1 (okl_t (okl_t o2)))
theorem ev_icmp_le {x y : Int32} {off : Int} {q : Nat} (t : Nat) (d : decode M.2.1 pc = .ok (.if_icmp .le off, 3)) (ht : (pc : Int) + off = (t : Int)) (hq : pc + 3 = q) (kt : (x ≤ y) → Ev xl xs F L B1 B2 M t lv st n h Q) (kf : ¬ (x ≤ y) → Ev xl xs F L B1 B2 M q lv st n h Q) : Ev xl xs F L B1 B2 M pc lv (.int y :: .int x :: st) n h Q := by
  subst hq
  intro p l e R s m args below meth cc Z D cA sz zd n0 ad0 CM SM C ad H locs cells slots ls hH hE hS hc hs hl o1 o2
  exact lv_icmp_le C.1 C.2.1 d ht (fun hc0 => kt hc0 _ _ _ _ _ _ _ _ _ _ _ _ _ _ _ _ _ _ _ C ad H locs cells slots ls hH hE hS hc hs hl o1 (okl_t (okl_t o2))) (fun hc0 => kf hc0 _ _ _ _ _ _ _ _ _ _ _ _ _ _ _ _ _ _ _ C ad H locs cells slots ls hH hE hS hc hs hl o1 (okl_t (okl_t o2)))
theorem ev_nonnull {off : Int} {x : Nat} (t : Nat) (d : decode M.2.1 pc = .ok (.ifnonnull off, 3)) (ht : (pc : Int) + off = (t : Int)) (k : Ev xl xs F L B1 B2 M t lv st n h Q) : Ev xl xs F L B1 B2 M pc lv (.ref x :: st) n h Q := ev_pure (fun n o => okl_t o) (fun p l e R s m args below meth c H locs cells slots Z ls ad hx hb ho hts kk => lv_ifnonnull hx hb d ht kk) k
theorem ev_nonnullN {off : Int} {q : Nat} (d : decode M.2.1 pc = .ok (.ifnonnull off, 3)) (hq : pc + 3 = q) (k : Ev xl xs F L B1 B2 M q lv st n h Q) : Ev xl xs F L B1 B2 M pc lv (.null :: st) n h Q := by
  subst hq
  exact ev_pure (fun n o => okl_t o) (fun p l e R s m args below meth c H locs cells slots Z ls ad hx hb ho ht kk => lv_ifnonnullN hx hb d kk) k
theorem ev_tabIn {dflt lo hi off : Int} {offs : Array Int} {ln : Nat} {x : Int32} (t : Nat) (d : decode M.2.1 pc = .ok (.tableswitch dflt lo hi offs, ln)) (h1 : ¬ x.toInt < lo) (h2 : ¬ hi < x.toInt) (ho : offs[(x.toInt - lo).toNat]? = some off) (ht : (pc : Int) + off = (t : Int)) (k : Ev xl xs F L B1 B2 M t lv st n h Q) : Ev xl xs F L B1 B2 M pc lv (.int x :: st) n h Q := ev_pure (fun n o => okl_t o) (fun p l e R s m args below meth c H locs cells slots Z ls ad hx hb hoo hts kk => lv_tableIn hx hb d h1 h2 ho ht kk) k
theorem ev_tabOut {dflt lo hi : Int} {offs : Array Int} {ln : Nat} {x : Int32} (t : Nat) (d : decode M.2.1 pc = .ok (.tableswitch dflt lo hi offs, ln)) (h1 : x.toInt < lo ∨ hi < x.toInt) (ht : (pc : Int) + dflt = (t : Int)) (k : Ev xl xs F L B1 B2 M t lv st n h Q) : Ev xl xs F L B1 B2 M pc lv (.int x :: st) n h Q := ev_pure (fun n o => okl_t o) (fun p l e R s m args below meth c H locs cells slots Z ls ad hx hb hoo hts kk => lv_tableOut hx hb d h1 ht kk) k
theorem ev_look {dflt off : Int} {ps : Array (Int × Int)} {ln : Nat} {x : Int32} (t : Nat) (d : decode M.2.1 pc = .ok (.lookupswitch dflt ps, ln)) (hp : (ps.toList.zip (ps.toList.drop 1)).all (fun (a, next) => a.1 < next.1) = true) (ho : Op.lookupswitch.offset ps.toList dflt x.toInt = off) (ht : (pc : Int) + off = (t : Int)) (k : Ev xl xs F L B1 B2 M t lv st n h Q) : Ev xl xs F L B1 B2 M pc lv (.int x :: st) n h Q := ev_pure (fun n o => okl_t o) (fun p l e R s m args below meth c H locs cells slots Z ls ad hx hb hoo hts kk => lv_lookup hx hb d hp ho ht kk) k
theorem ev_iload_n {i : Fin 4} {q : Nat} {x : Int32} (d : decode M.2.1 pc = .ok (.iload_n i, 1)) (hl : lv[(i : Nat)]? = some (some (.int x))) (hq : pc + 1 = q) (k : Ev xl xs F L B1 B2 M q lv (.int x :: st) n h Q) : Ev xl xs F L B1 B2 M pc lv st n h Q := by
  subst hq
  intro p l e R s m args below meth cc Z D cA sz zd n0 ad0 CM SM C ad H locs cells slots ls hH hE hS hc hs hll o1 o2
  exact lv_iload_n C.1 C.2.1 d rfl (hll.2.2 _ _ hl) (k _ _ _ _ _ _ _ _ _ _ _ _ _ _ _ _ _ _ _ C ad H locs cells slots ls hH hE hS hc hs hll o1 (okl_c (o1 _ (List.mem_of_getElem? hl)) o2))
theorem ev_iload {i : Nat} {q : Nat} {x : Int32} (d : decode M.2.1 pc = .ok (.iload i, 2)) (hl : lv[i]? = some (some (.int x))) (hq : pc + 2 = q) (k : Ev xl xs F L B1 B2 M q lv (.int x :: st) n h Q) : Ev xl xs F L B1 B2 M pc lv st n h Q := by
  subst hq
  intro p l e R s m args below meth cc Z D cA sz zd n0 ad0 CM SM C ad H locs cells slots ls hH hE hS hc hs hll o1 o2
  exact lv_iload C.1 C.2.1 d (hll.2.2 _ _ hl) (k _ _ _ _ _ _ _ _ _ _ _ _ _ _ _ _ _ _ _ C ad H locs cells slots ls hH hE hS hc hs hll o1 (okl_c (o1 _ (List.mem_of_getElem? hl)) o2))
theorem ev_lload_n {i : Fin 4} {q : Nat} {x : Int64} (d : decode M.2.1 pc = .ok (.lload_n i, 1)) (hl : lv[(i : Nat)]? = some (some (.long x))) (hq : pc + 1 = q) (k : Ev xl xs F L B1 B2 M q lv (.long x :: st) n h Q) : Ev xl xs F L B1 B2 M pc lv st n h Q := by
  subst hq
  intro p l e R s m args below meth cc Z D cA sz zd n0 ad0 CM SM C ad H locs cells slots ls hH hE hS hc hs hll o1 o2
  exact lv_lload_n C.1 C.2.1 d rfl (hll.2.2 _ _ hl) (k _ _ _ _ _ _ _ _ _ _ _ _ _ _ _ _ _ _ _ C ad H locs cells slots ls hH hE hS hc hs hll o1 (okl_c (o1 _ (List.mem_of_getElem? hl)) o2))
theorem ev_lload {i : Nat} {q : Nat} {x : Int64} (d : decode M.2.1 pc = .ok (.lload i, 2)) (hl : lv[i]? = some (some (.long x))) (hq : pc + 2 = q) (k : Ev xl xs F L B1 B2 M q lv (.long x :: st) n h Q) : Ev xl xs F L B1 B2 M pc lv st n h Q := by
  subst hq
  intro p l e R s m args below meth cc Z D cA sz zd n0 ad0 CM SM C ad H locs cells slots ls hH hE hS hc hs hll o1 o2
  exact lv_lload C.1 C.2.1 d (hll.2.2 _ _ hl) (k _ _ _ _ _ _ _ _ _ _ _ _ _ _ _ _ _ _ _ C ad H locs cells slots ls hH hE hS hc hs hll o1 (okl_c (o1 _ (List.mem_of_getElem? hl)) o2))
theorem ev_aload_n {i : Fin 4} {q : Nat} {x : Nat} (d : decode M.2.1 pc = .ok (.aload_n i, 1)) (hl : lv[(i : Nat)]? = some (some (.ref x))) (hq : pc + 1 = q) (k : Ev xl xs F L B1 B2 M q lv (.ref x :: st) n h Q) : Ev xl xs F L B1 B2 M pc lv st n h Q := by
  subst hq
  intro p l e R s m args below meth cc Z D cA sz zd n0 ad0 CM SM C ad H locs cells slots ls hH hE hS hc hs hll o1 o2
  exact lv_aload_n C.1 C.2.1 d rfl (hll.2.2 _ _ hl) (k _ _ _ _ _ _ _ _ _ _ _ _ _ _ _ _ _ _ _ C ad H locs cells slots ls hH hE hS hc hs hll o1 (okl_c (o1 _ (List.mem_of_getElem? hl)) o2))
theorem ev_aload {i : Nat} {q : Nat} {x : Nat} (d : decode M.2.1 pc = .ok (.aload i, 2)) (hl : lv[i]? = some (some (.ref x))) (hq : pc + 2 = q) (k : Ev xl xs F L B1 B2 M q lv (.ref x :: st) n h Q) : Ev xl xs F L B1 B2 M pc lv st n h Q := by
  subst hq
  intro p l e R s m args below meth cc Z D cA sz zd n0 ad0 CM SM C ad H locs cells slots ls hH hE hS hc hs hll o1 o2
  exact lv_aload C.1 C.2.1 d (hll.2.2 _ _ hl) (k _ _ _ _ _ _ _ _ _ _ _ _ _ _ _ _ _ _ _ C ad H locs cells slots ls hH hE hS hc hs hll o1 (okl_c (o1 _ (List.mem_of_getElem? hl)) o2))
end ROWS
end
section
section CXA
variable {F L : Nat} {M : Mt} {Q : QT} {p : Program} {l : Launch} {e : Env} {R : Room} {s : State} {m : MethodId} {args : Array Value} {below : List Frame} {meth : Method} {c : Code} {Z : State → Prop} {D : va_G} {cA : Nat → ClassId} {sz : Nat} {zd : Nat → Nat} {xl : Nat} {xs : Nat → Int32} {n0 : Nat} {ad0 : Nat → Nat} {CM SM : Nat}
theorem Cx.hx (C : Cx F L M Q p l e R s m args below meth c Z D cA sz zd xl xs n0 ad0 CM SM) : p.tables.exec = Jvm.exec := C.1
theorem Cx.hb (C : Cx F L M Q p l e R s m args below meth c Z D cA sz zd xl xs n0 ad0 CM SM) : c.code = M.2.1 := C.2.1
theorem Cx.hml (C : Cx F L M Q p l e R s m args below meth c Z D cA sz zd xl xs n0 ad0 CM SM) : c.maxLocals = M.2.2.1 := C.2.2.1
theorem Cx.own (C : Cx F L M Q p l e R s m args below meth c Z D cA sz zd xl xs n0 ad0 CM SM) : s.vm.findClass M.1.cls = some m.cls := C.2.2.2.1
theorem Cx.ts (C : Cx F L M Q p l e R s m args below meth c Z D cA sz zd xl xs n0 ad0 CM SM) : ∀ w ∈ TB, w.before args s = true := C.2.2.2.2.1
theorem Cx.nw (C : Cx F L M Q p l e R s m args below meth c Z D cA sz zd xl xs n0 ad0 CM SM) : ∀ w ∈ NT, va_Nw w s := C.2.2.2.2.2.1
theorem Cx.hK (C : Cx F L M Q p l e R s m args below meth c Z D cA sz zd xl xs n0 ad0 CM SM) : va_K D vwCl (tyL cA) s := C.2.2.2.2.2.2.1
theorem Cx.hF (C : Cx F L M Q p l e R s m args below meth c Z D cA sz zd xl xs n0 ad0 CM SM) : Fz sz zd xl xs s s.heap := C.2.2.2.2.2.2.2.1
theorem Cx.ao (C : Cx F L M Q p l e R s m args below meth c Z D cA sz zd xl xs n0 ad0 CM SM) : va_AO "WishLamp$State" s := C.2.2.2.2.2.2.2.2.1
theorem Cx.nm (C : Cx F L M Q p l e R s m args below meth c Z D cA sz zd xl xs n0 ad0 CM SM) : meth.name = M.1.name := C.2.2.2.2.2.2.2.2.2.1
theorem Cx.hsz (C : Cx F L M Q p l e R s m args below meth c Z D cA sz zd xl xs n0 ad0 CM SM) : sz ≤ s.heap.size := C.2.2.2.2.2.2.2.2.2.2.1
theorem Cx.hR (C : Cx F L M Q p l e R s m args below meth c Z D cA sz zd xl xs n0 ad0 CM SM) : F ≤ R.frames ∧ L ≤ R.locals ∧ CM ≤ R.cells ∧ SM ≤ R.slots := C.2.2.2.2.2.2.2.2.2.2.2.1
theorem Cx.rt (C : Cx F L M Q p l e R s m args below meth c Z D cA sz zd xl xs n0 ad0 CM SM) : Rt M Q p l e R s m args below meth c Z D cA sz zd n0 ad0 CM SM := C.2.2.2.2.2.2.2.2.2.2.2.2
theorem Cx.hA (C : Cx F L M Q p l e R s m args below meth c Z D cA sz zd xl xs n0 ad0 CM SM) : ∀ q, s.heap.size ≤ q → (fun q => sz ≤ q) q := fun _ h => Nat.le_trans C.hsz h
end CXA
-- locals
def prs (ad : Nat → Nat) (lv : List (Option Value)) : List (Nat × Value) := (List.range lv.length).filterMap (fun i => match lv[i]? with
  | some (some v) => some (i, mv ad v)
  | _ => none)
theorem prs_mem {ad : Nat → Nat} {lv : List (Option Value)} {q : Nat × Value} : q ∈ prs ad lv ↔ ∃ v, lv[q.1]? = some (some v) ∧ q.2 = mv ad v := by
  constructor
  · intro hq
    obtain ⟨i, -, hi⟩ := List.mem_filterMap.mp hq
    cases h1 : lv[i]? with
    | none => rw [h1] at hi; cases hi
    | some o =>
      rw [h1] at hi
      cases o with
      | none => cases hi
      | some v => cases hi; exact ⟨v, h1, rfl⟩
  · intro ⟨v, h1, h2⟩
    refine List.mem_filterMap.mpr ⟨q.1, List.mem_range.mpr (List.getElem?_eq_some_iff.mp h1).1, ?_⟩
    rw [h1]
    show some (q.1, mv ad v) = some q
    rw [← h2]
theorem lh_has {ls : Array Slot} {nL : Nat} {ad : Nat → Nat} {lv : List (Option Value)} (hl : LH ls nL ad lv) : lv_has ls nL (prs ad lv) := ⟨hl.1.1, hl.1.2, fun q hq => by
  obtain ⟨v, h1, h2⟩ := prs_mem.mp hq
  rw [h2]
  exact hl.2.2 _ _ h1⟩
theorem mv_cat (ad : Nat → Nat) (v : Value) : (mv ad v).category = v.category := by cases v <;> rfl
theorem lh_st1 {ls' : Array Slot} {nL : Nat} {ad : Nat → Nat} {lv lv' : List (Option Value)} {i : Nat} {x : Value} (hlen : lv'.length ≤ nL) (hp : ∀ j w, lv'[j]? = some (some w) → (j = i ∧ w = x) ∨ (j ≠ i ∧ ¬ (j + 1 = i ∧ w.category = 2) ∧ lv[j]? = some (some w)))
    (h : lv_has ls' nL ((i, mv ad x) :: (prs ad lv).filter (fun q => !(q.1 == i) && !(q.1 + 1 == i && q.2.category == 2)))) : LH ls' nL ad lv' := by
  refine ⟨⟨h.1, h.2.1⟩, hlen, fun j w hj => ?_⟩
  rcases hp j w hj with ⟨rfl, rfl⟩ | ⟨h1, h2, h3⟩
  · exact h.2.2 (j, mv ad w) List.mem_cons_self
  · refine h.2.2 (j, mv ad w) (List.mem_cons_of_mem _ (List.mem_filter.mpr ⟨prs_mem.mpr ⟨w, h3, rfl⟩, ?_⟩))
    have e2 : (mv ad w).category = w.category := mv_cat ad w
    simp only [Bool.and_eq_true, Bool.not_eq_true', beq_eq_false_iff_ne, ne_eq, Bool.and_eq_false_iff, e2]
    refine ⟨h1, ?_⟩
    by_cases hj1 : j + 1 = i
    · exact Or.inr (fun h => h2 ⟨hj1, h⟩)
    · exact Or.inl hj1
theorem lh_st2 {ls' : Array Slot} {nL : Nat} {ad : Nat → Nat} {lv lv' : List (Option Value)} {i : Nat} {x : Value} (hlen : lv'.length ≤ nL) (hp : ∀ j w, lv'[j]? = some (some w) → (j = i ∧ w = x) ∨ (j ≠ i ∧ j ≠ i + 1 ∧ ¬ (j + 1 = i ∧ w.category = 2) ∧ lv[j]? = some (some w)))
    (h : lv_has ls' nL ((i, mv ad x) :: (prs ad lv).filter (fun q => !(q.1 == i) && (!(q.1 == i + 1) && !(q.1 + 1 == i && q.2.category == 2))))) : LH ls' nL ad lv' := by
  refine ⟨⟨h.1, h.2.1⟩, hlen, fun j w hj => ?_⟩
  rcases hp j w hj with ⟨rfl, rfl⟩ | ⟨h1, h1', h2, h3⟩
  · exact h.2.2 (j, mv ad w) List.mem_cons_self
  · refine h.2.2 (j, mv ad w) (List.mem_cons_of_mem _ (List.mem_filter.mpr ⟨prs_mem.mpr ⟨w, h3, rfl⟩, ?_⟩))
    have e2 : (mv ad w).category = w.category := mv_cat ad w
    simp only [Bool.and_eq_true, Bool.not_eq_true', beq_eq_false_iff_ne, ne_eq, Bool.and_eq_false_iff, e2]
    refine ⟨h1, h1', ?_⟩
    by_cases hj1 : j + 1 = i
    · exact Or.inr (fun h => h2 ⟨hj1, h⟩)
    · exact Or.inl hj1
def kl : Option Value → Option Value
  | some v => if v.category = 2 then none else some v
  | none => none
def st1 : List (Option Value) → Nat → Value → List (Option Value)
  | [], _, _ => []
  | _ :: t, 0, v => some v :: t
  | a :: t, 1, v => kl a :: st1 t 0 v
  | a :: t, i + 2, v => a :: st1 t (i + 1) v
def st2 : List (Option Value) → Nat → Value → List (Option Value)
  | [], _, _ => []
  | [_], 0, v => [some v]
  | _ :: _ :: t, 0, v => some v :: none :: t
  | a :: t, 1, v => kl a :: st2 t 0 v
  | a :: t, i + 2, v => a :: st2 t (i + 1) v
theorem kl_some {a : Option Value} {w : Value} (h : kl a = some w) : a = some w ∧ ¬ w.category = 2 := by
  cases a with
  | none => cases h
  | some v =>
    by_cases hc : v.category = 2
    · simp [kl, hc] at h
    · simp only [kl, hc, if_false] at h
      cases h
      exact ⟨rfl, hc⟩
theorem st1_len : ∀ (l : List (Option Value)) (i : Nat) (v : Value), (st1 l i v).length = l.length
  | [], _, _ => rfl
  | _ :: t, 0, v => rfl
  | a :: t, 1, v => by simp [st1, st1_len t 0 v]
  | a :: t, i + 2, v => by simp [st1, st1_len t (i + 1) v]
theorem st2_len : ∀ (l : List (Option Value)) (i : Nat) (v : Value), (st2 l i v).length = l.length
  | [], _, _ => rfl
  | [_], 0, v => rfl
  | _ :: _ :: t, 0, v => rfl
  | a :: t, 1, v => by simp [st2, st2_len t 0 v]
  | a :: t, i + 2, v => by simp [st2, st2_len t (i + 1) v]
theorem st1_at : ∀ (l : List (Option Value)) (i : Nat) (v : Value) (j : Nat) (w : Value), (st1 l i v)[j]? = some (some w) → (j = i ∧ w = v) ∨ (j ≠ i ∧ ¬ (j + 1 = i ∧ w.category = 2) ∧ l[j]? = some (some w))
  | [], _, _, j, w, h => by simp [st1] at h
  | _ :: t, 0, v, 0, w, h => by
    simp [st1] at h
    exact Or.inl ⟨rfl, h.symm⟩
  | _ :: t, 0, v, j + 1, w, h => Or.inr ⟨by omega, by omega, by simpa [st1] using h⟩
  | a :: t, 1, v, 0, w, h => by
    have h1 : kl a = some w := by simpa [st1] using h
    obtain ⟨h2, h3⟩ := kl_some h1
    exact Or.inr ⟨by omega, fun h => h3 h.2, by simp [h2]⟩
  | a :: t, 1, v, j + 1, w, h => by
    have h1 : (st1 t 0 v)[j]? = some (some w) := by simpa [st1] using h
    rcases st1_at t 0 v j w h1 with ⟨e1, e2⟩ | ⟨e1, e2, e3⟩
    · exact Or.inl ⟨by omega, e2⟩
    · exact Or.inr ⟨by omega, by omega, by simpa using e3⟩
  | a :: t, i + 2, v, 0, w, h => Or.inr ⟨by omega, by omega, by simpa [st1] using h⟩
  | a :: t, i + 2, v, j + 1, w, h => by
    have h1 : (st1 t (i + 1) v)[j]? = some (some w) := by simpa [st1] using h
    rcases st1_at t (i + 1) v j w h1 with ⟨e1, e2⟩ | ⟨e1, e2, e3⟩
    · exact Or.inl ⟨by omega, e2⟩
    · exact Or.inr ⟨by omega, fun h => e2 ⟨by omega, h.2⟩, by simpa using e3⟩
theorem st2_at : ∀ (l : List (Option Value)) (i : Nat) (v : Value) (j : Nat) (w : Value), (st2 l i v)[j]? = some (some w) → (j = i ∧ w = v) ∨ (j ≠ i ∧ j ≠ i + 1 ∧ ¬ (j + 1 = i ∧ w.category = 2) ∧ l[j]? = some (some w))
  | [], _, _, j, w, h => by simp [st2] at h
  | [_], 0, v, 0, w, h => by
    simp [st2] at h
    exact Or.inl ⟨rfl, h.symm⟩
  | [_], 0, v, j + 1, w, h => by simp [st2] at h
  | _ :: _ :: t, 0, v, 0, w, h => by
    simp [st2] at h
    exact Or.inl ⟨rfl, h.symm⟩
  | _ :: _ :: t, 0, v, 1, w, h => by simp [st2] at h
  | _ :: _ :: t, 0, v, j + 2, w, h => Or.inr ⟨by omega, by omega, by omega, by simpa [st2] using h⟩
  | a :: t, 1, v, 0, w, h => by
    have h1 : kl a = some w := by simpa [st2] using h
    obtain ⟨h2, h3⟩ := kl_some h1
    exact Or.inr ⟨by omega, by omega, fun h => h3 h.2, by simp [h2]⟩
  | a :: t, 1, v, j + 1, w, h => by
    have h1 : (st2 t 0 v)[j]? = some (some w) := by simpa [st2] using h
    rcases st2_at t 0 v j w h1 with ⟨e1, e2⟩ | ⟨e1, e1', e2, e3⟩
    · exact Or.inl ⟨by omega, e2⟩
    · exact Or.inr ⟨by omega, by omega, by omega, by simpa using e3⟩
  | a :: t, i + 2, v, 0, w, h => Or.inr ⟨by omega, by omega, by omega, by simpa [st2] using h⟩
  | a :: t, i + 2, v, j + 1, w, h => by
    have h1 : (st2 t (i + 1) v)[j]? = some (some w) := by simpa [st2] using h
    rcases st2_at t (i + 1) v j w h1 with ⟨e1, e2⟩ | ⟨e1, e1', e2, e3⟩
    · exact Or.inl ⟨by omega, e2⟩
    · exact Or.inr ⟨by omega, by omega, fun h => e2 ⟨by omega, h.2⟩, by simpa using e3⟩
theorem okL_st1 {n : Nat} {l : List (Option Value)} {i : Nat} {v : Value} (h : okL n l) (hv : okv n v) : okL n (st1 l i v) := fun w hw => by
  obtain ⟨j, hj⟩ := List.getElem?_of_mem hw
  rcases st1_at l i v j w hj with ⟨-, rfl⟩ | ⟨-, -, e⟩
  · exact hv
  · exact h w (List.mem_of_getElem? e)
theorem okL_st2 {n : Nat} {l : List (Option Value)} {i : Nat} {v : Value} (h : okL n l) (hv : okv n v) : okL n (st2 l i v) := fun w hw => by
  obtain ⟨j, hj⟩ := List.getElem?_of_mem hw
  rcases st2_at l i v j w hj with ⟨-, rfl⟩ | ⟨-, -, -, e⟩
  · exact hv
  · exact h w (List.mem_of_getElem? e)
section STO
variable {xl : Nat} {xs : Nat → Int32} {F L B1 B2 : Nat} {M : Mt} {pc : Nat} {lv lv' : List (Option Value)} {st : List Value} {n : Nat} {h : Nat → PC} {Q : QT} {q : Nat}
theorem ev_istore_n {i : Fin 4} {x : Int32} (d : decode M.2.1 pc = .ok (.istore_n i, 1)) (hi : (i : Nat) < lv.length) (he : st1 lv i (.int x) = lv') (hq : pc + 1 = q) (k : Ev xl xs F L B1 B2 M q lv' st n h Q) : Ev xl xs F L B1 B2 M pc lv (.int x :: st) n h Q := by
  subst hq; subst he
  intro p l e R s m args below meth cc Z D cA sz zd n0 ad0 CM SM C ad H locs cells slots ls hH hE hS hc hs hl o1 o2
  exact lv_istore_n C.hx C.hb d rfl (lh_has hl) (Nat.lt_of_lt_of_le hi hl.2.1) rfl (fun ls' hl' => k _ _ _ _ _ _ _ _ _ _ _ _ _ _ _ _ _ _ _ C ad H locs cells slots ls' hH hE hS hc hs (lh_st1 (x := .int x) (by rw [st1_len]; exact hl.2.1) (st1_at _ _ _) hl') (okL_st1 o1 trivial) (okl_t o2))
theorem ev_istore {i : Nat} {x : Int32} (d : decode M.2.1 pc = .ok (.istore i, 2)) (hi : i < lv.length) (he : st1 lv i (.int x) = lv') (hq : pc + 2 = q) (k : Ev xl xs F L B1 B2 M q lv' st n h Q) : Ev xl xs F L B1 B2 M pc lv (.int x :: st) n h Q := by
  subst hq; subst he
  intro p l e R s m args below meth cc Z D cA sz zd n0 ad0 CM SM C ad H locs cells slots ls hH hE hS hc hs hl o1 o2
  exact lv_istore C.hx C.hb d (lh_has hl) (Nat.lt_of_lt_of_le hi hl.2.1) rfl (fun ls' hl' => k _ _ _ _ _ _ _ _ _ _ _ _ _ _ _ _ _ _ _ C ad H locs cells slots ls' hH hE hS hc hs (lh_st1 (x := .int x) (by rw [st1_len]; exact hl.2.1) (st1_at _ _ _) hl') (okL_st1 o1 trivial) (okl_t o2))
theorem ev_astore_n {i : Fin 4} {x : Nat} (d : decode M.2.1 pc = .ok (.astore_n i, 1)) (hi : (i : Nat) < lv.length) (he : st1 lv i (.ref x) = lv') (hq : pc + 1 = q) (k : Ev xl xs F L B1 B2 M q lv' st n h Q) : Ev xl xs F L B1 B2 M pc lv (.ref x :: st) n h Q := by
  subst hq; subst he
  intro p l e R s m args below meth cc Z D cA sz zd n0 ad0 CM SM C ad H locs cells slots ls hH hE hS hc hs hl o1 o2
  exact lv_astore_n C.hx C.hb d rfl (lh_has hl) (Nat.lt_of_lt_of_le hi hl.2.1) rfl (fun ls' hl' => k _ _ _ _ _ _ _ _ _ _ _ _ _ _ _ _ _ _ _ C ad H locs cells slots ls' hH hE hS hc hs (lh_st1 (x := .ref x) (by rw [st1_len]; exact hl.2.1) (st1_at _ _ _) hl') (okL_st1 o1 (okl_h o2)) (okl_t o2))
theorem ev_lstore_n {i : Fin 4} {x : Int64} (d : decode M.2.1 pc = .ok (.lstore_n i, 1)) (hi : (i : Nat) + 1 < lv.length) (he : st2 lv i (.long x) = lv') (hq : pc + 1 = q) (k : Ev xl xs F L B1 B2 M q lv' st n h Q) : Ev xl xs F L B1 B2 M pc lv (.long x :: st) n h Q := by
  subst hq; subst he
  intro p l e R s m args below meth cc Z D cA sz zd n0 ad0 CM SM C ad H locs cells slots ls hH hE hS hc hs hl o1 o2
  exact lv_lstore_n C.hx C.hb d rfl (lh_has hl) (Nat.lt_of_lt_of_le hi hl.2.1) rfl (fun ls' hl' => k _ _ _ _ _ _ _ _ _ _ _ _ _ _ _ _ _ _ _ C ad H locs cells slots ls' hH hE hS hc hs (lh_st2 (x := .long x) (by rw [st2_len]; exact hl.2.1) (st2_at _ _ _) hl') (okL_st2 o1 trivial) (okl_t o2))
theorem ev_lstore {i : Nat} {x : Int64} (d : decode M.2.1 pc = .ok (.lstore i, 2)) (hi : i + 1 < lv.length) (he : st2 lv i (.long x) = lv') (hq : pc + 2 = q) (k : Ev xl xs F L B1 B2 M q lv' st n h Q) : Ev xl xs F L B1 B2 M pc lv (.long x :: st) n h Q := by
  subst hq; subst he
  intro p l e R s m args below meth cc Z D cA sz zd n0 ad0 CM SM C ad H locs cells slots ls hH hE hS hc hs hl o1 o2
  exact lv_lstore C.hx C.hb d (lh_has hl) (Nat.lt_of_lt_of_le hi hl.2.1) rfl (fun ls' hl' => k _ _ _ _ _ _ _ _ _ _ _ _ _ _ _ _ _ _ _ C ad H locs cells slots ls' hH hE hS hc hs (lh_st2 (x := .long x) (by rw [st2_len]; exact hl.2.1) (st2_at _ _ _) hl') (okL_st2 o1 trivial) (okl_t o2))
theorem ev_iinc {i : Nat} {z : Int} {x : Int32} (v : Int32) (d : decode M.2.1 pc = .ok (.iinc i z, 3)) (hi : lv[i]? = some (some (.int x))) (hv : x + Int32.ofInt z = v) (he : st1 lv i (.int v) = lv') (hq : pc + 3 = q) (k : Ev xl xs F L B1 B2 M q lv' st n h Q) : Ev xl xs F L B1 B2 M pc lv st n h Q := by
  subst hq; subst he
  intro p l e R s m args below meth cc Z D cA sz zd n0 ad0 CM SM C ad H locs cells slots ls hH hE hS hc hs hl o1 o2
  have hi' : i < lv.length := (List.getElem?_eq_some_iff.mp hi).1
  have hm : (i, Value.int x) ∈ prs ad lv := prs_mem.mpr ⟨_, hi, rfl⟩
  obtain ⟨k0, hk0⟩ := List.getElem?_of_mem hm
  exact lv_iinc (x := x) (v := v) C.hx C.hb d (lh_has hl) hk0 hv (Nat.lt_of_lt_of_le hi' hl.2.1) rfl (fun ls' hl' => k _ _ _ _ _ _ _ _ _ _ _ _ _ _ _ _ _ _ _ C ad H locs cells slots ls' hH hE hS hc hs (lh_st1 (x := .int v) (by rw [st1_len]; exact hl.2.1) (st1_at _ _ _) hl') (okL_st1 o1 trivial) o2)
end STO
end
section
section MEM
variable {xl : Nat} {xs : Nat → Int32} {F L B1 B2 : Nat} {M : Mt} {pc : Nat} {lv lv' : List (Option Value)} {st : List Value} {n : Nat} {h : Nat → PC} {Q : QT} {q : Nat}
theorem hs_at {D : va_G} {cA : Nat → ClassId} {sz : Nat} {zd ad : Nat → Nat} {n : Nat} {h : Nat → PC} {H : Heap} {a : Nat} {c : PC} (_ : Hs D cA sz zd ad n h H) (ha : a < n) (hc : h a = c) : (wsOf cA ad n h)[a]? = some (ad a, mcell cA ad c) := by rw [wsOf_at ha, hc]
theorem hs_up {D : va_G} {cA : Nat → ClassId} {sz : Nat} {zd ad : Nat → Nat} {n : Nat} {h : Nat → PC} {H H1 : Heap} {a : Nat} {c : PC} {e : va_E} (hH : Hs D cA sz zd ad n h H) (ho : okc n c) (he : mcell cA ad c = e) (hP : va_P D vwCl ((wsOf cA ad n h).set a (ad a, e)) H1) (hD : va_D (fun q => sz ≤ q) ((wsOf cA ad n h).set a (ad a, e))) : Hs D cA sz zd ad n (hup h a c) H1 := by
  subst he
  rw [wsOf_set] at hP hD
  refine ⟨hH.1, fun k hk => ?_, hP, hD, hH.2.2.2.2⟩
  unfold hup
  split
  · exact ho
  · exact hH.2.1 k hk
theorem ev_get {idx ci j a : Nat} {fs : List Value} {v : Value} (d : decode M.2.1 pc = .ok (.getfield idx, 3)) (fa : FA0 M.1.cls idx ci j) (hc : h a = .inr (ci, fs)) (ha : a < n) (hv : fs[j]? = some v) (hq : pc + 3 = q) (k : Ev xl xs F L B1 B2 M q lv (v :: st) n h Q) : Ev xl xs F L B1 B2 M pc lv (.ref a :: st) n h Q := by
  subst hq
  obtain ⟨C0, T, N, tf, ⟨c1, c2, c3, c4⟩, hj, hlink⟩ := fa
  intro p l e R s m args below meth cc Z D cA sz zd n0 ad0 CM SM C ad H locs cells slots ls hH hE hS h1 h2 hl o1 o2
  have hok : okl n fs := by have := hH.2.1 a ha; rw [hc] at this; exact this
  exact va_get (D := D) (ci := ci) (v := mv ad v) (C := C0) (T := T) (N := N) C.hx C.hb C.ts c2 C.own C.hK hH.2.2.1 a (hs_at hH ha hc) c1 j hj (C.ts _ hlink) (fun _ h9 => h9) (by rw [List.getElem?_map, hv]; rfl) d
    (k _ _ _ _ _ _ _ _ _ _ _ _ _ _ _ _ _ _ _ C ad H locs cells slots ls hH hE hS h1 h2 hl o1 (okl_c (hok v (List.mem_of_getElem? hv)) (okl_t o2)))
theorem ev_put {idx ci j a : Nat} {fs : List Value} {v : Value} {ty : FieldType} (d : decode M.2.1 pc = .ok (.putfield idx, 3)) (fa : FA M.1.cls idx ci j ty false) (hc : h a = .inr (ci, fs)) (ha : a < n) (hj : j < fs.length) (hv : ∀ ad, narrow ty (mv ad v) = mv ad v ∧ fits ty (mv ad v) = true) (hq : pc + 3 = q) (k : Ev xl xs F L B1 B2 M q lv st n (hup h a (.inr (ci, fs.set j v))) Q) : Ev xl xs F L B1 B2 M pc lv (v :: .ref a :: st) n h Q := by
  subst hq
  obtain ⟨C0, T, N, tf, ⟨c1, c2, c3, c4⟩, hjn, hlink, e1, e2, -⟩ := fa
  intro p l e R s m args below meth cc Z D cA sz zd n0 ad0 CM SM C ad H locs cells slots ls hH hE hS h1 h2 hl o1 o2
  have hok : okl n fs := by have := hH.2.1 a ha; rw [hc] at this; exact this
  refine va_put (D := D) (ci := ci) (v := mv ad v) (ty := ty) (C := C0) (T := T) (N := N) C.hx C.hb C.ts c2 tf c3 c4 C.own C.hK hH.2.2.1 hH.2.2.2.1 hS a (hs_at hH ha hc) c1 j hjn (C.ts _ hlink) (fun _ h9 => h9) e2 (by rw [c3 j hjn, e1]) (hv ad).1 (hv ad).2 (by rw [List.length_map]; exact hj) d (fun H1 locs1 hP hD hS1 => ?_)
  refine k _ _ _ _ _ _ _ _ _ _ _ _ _ _ _ _ _ _ _ C ad H1 locs1 cells slots ls (hs_up hH (c := .inr (ci, fs.set j v)) ?_ ?_ hP hD) hE hS1 h1 h2 hl o1 (okl_t (okl_t o2))
  · intro w hw
    rcases List.mem_or_eq_of_mem_set hw with h9 | h9
    · exact hok w h9
    · rw [h9]; exact okl_h o2
  · show (Sum.inr (ci, (fs.set j v).map (mv ad)) : va_E) = _
    rw [List.map_set]
theorem ev_putF {idx ci j a : Nat} {fs : List Value} {v : Value} {ty : FieldType} (d : decode M.2.1 pc = .ok (.putfield idx, 3)) (fa : FA M.1.cls idx ci j ty true) (hin : M.1.name = "<init>") (hc : h a = .inr (ci, fs)) (ha : a < n) (hj : j < fs.length) (hv : ∀ ad, narrow ty (mv ad v) = mv ad v ∧ fits ty (mv ad v) = true) (hq : pc + 3 = q) (k : Ev xl xs F L B1 B2 M q lv st n (hup h a (.inr (ci, fs.set j v))) Q) : Ev xl xs F L B1 B2 M pc lv (v :: .ref a :: st) n h Q := by
  subst hq
  obtain ⟨C0, T, N, tf, ⟨c1, c2, c3, c4⟩, hjn, hlink, e1, e2, e3⟩ := fa
  intro p l e R s m args below meth cc Z D cA sz zd n0 ad0 CM SM C ad H locs cells slots ls hH hE hS h1 h2 hl o1 o2
  have hok : okl n fs := by have := hH.2.1 a ha; rw [hc] at this; exact this
  refine va_putF (D := D) (ci := ci) (v := mv ad v) (ty := ty) (C := C0) (T := T) (N := N) C.hx C.hb C.ts c2 tf c3 c4 C.own C.hK hH.2.2.1 hH.2.2.2.1 hS a (hs_at hH ha hc) c1 j hjn (C.ts _ hlink) (fun _ h9 => h9) e2 (C.nm.trans hin) (e3 rfl) (by rw [c3 j hjn, e1]) (hv ad).1 (hv ad).2 (by rw [List.length_map]; exact hj) d (fun H1 locs1 hP hD hS1 => ?_)
  refine k _ _ _ _ _ _ _ _ _ _ _ _ _ _ _ _ _ _ _ C ad H1 locs1 cells slots ls (hs_up hH (c := .inr (ci, fs.set j v)) ?_ ?_ hP hD) hE hS1 h1 h2 hl o1 (okl_t (okl_t o2))
  · intro w hw
    rcases List.mem_or_eq_of_mem_set hw with h9 | h9
    · exact hok w h9
    · rw [h9]; exact okl_h o2
  · show (Sum.inr (ci, (fs.set j v).map (mv ad)) : va_E) = _
    rw [List.map_set]
theorem ev_iald {a len : Nat} {f : Nat → Int32} {i : Int32} (d : decode M.2.1 pc = .ok (.iaload, 1)) (hc : h a = .inl (0, len, .inl f)) (ha : a < n) (hin : vp_in i len) (hq : pc + 1 = q) (k : Ev xl xs F L B1 B2 M q lv (.int (f i.toNatClampNeg) :: st) n h Q) : Ev xl xs F L B1 B2 M pc lv (.int i :: .ref a :: st) n h Q := by
  subst hq
  intro p l e R s m args below meth cc Z D cA sz zd n0 ad0 CM SM C ad H locs cells slots ls hH hE hS h1 h2 hl o1 o2
  exact va_iald (D := D) C.hx C.hb C.hK hH.2.2.1 a 0 (hs_at hH ha hc) rfl hin d (k _ _ _ _ _ _ _ _ _ _ _ _ _ _ _ _ _ _ _ C ad H locs cells slots ls hH hE hS h1 h2 hl o1 (okl_i (okl_t (okl_t o2))))
theorem ev_zald {a len : Nat} {f : Nat → Int32} {i : Int32} (d : decode M.2.1 pc = .ok (.baload, 1)) (hc : h a = .inl (2, len, .inl f)) (ha : a < n) (hin : vp_in i len) (hq : pc + 1 = q) (k : Ev xl xs F L B1 B2 M q lv (.int (f i.toNatClampNeg) :: st) n h Q) : Ev xl xs F L B1 B2 M pc lv (.int i :: .ref a :: st) n h Q := by
  subst hq
  intro p l e R s m args below meth cc Z D cA sz zd n0 ad0 CM SM C ad H locs cells slots ls hH hE hS h1 h2 hl o1 o2
  exact va_zald (D := D) C.hx C.hb C.hK hH.2.2.1 a 2 (hs_at hH ha hc) rfl hin d (k _ _ _ _ _ _ _ _ _ _ _ _ _ _ _ _ _ _ _ C ad H locs cells slots ls hH hE hS h1 h2 hl o1 (okl_i (okl_t (okl_t o2))))
theorem ev_lald {a len : Nat} {f : Nat → Int64} {i : Int32} (d : decode M.2.1 pc = .ok (.laload, 1)) (hc : h a = .inl (1, len, .inr (.inl f))) (ha : a < n) (hin : vp_in i len) (hq : pc + 1 = q) (k : Ev xl xs F L B1 B2 M q lv (.long (f i.toNatClampNeg) :: st) n h Q) : Ev xl xs F L B1 B2 M pc lv (.int i :: .ref a :: st) n h Q := by
  subst hq
  intro p l e R s m args below meth cc Z D cA sz zd n0 ad0 CM SM C ad H locs cells slots ls hH hE hS h1 h2 hl o1 o2
  exact va_lald (D := D) C.hx C.hb C.hK hH.2.2.1 a 1 (hs_at hH ha hc) rfl hin d (k _ _ _ _ _ _ _ _ _ _ _ _ _ _ _ _ _ _ _ C ad H locs cells slots ls hH hE hS h1 h2 hl o1 (okl_l (okl_t (okl_t o2))))
theorem ev_iast {a len : Nat} {f : Nat → Int32} {i x : Int32} (d : decode M.2.1 pc = .ok (.iastore, 1)) (hc : h a = .inl (0, len, .inl f)) (ha : a < n) (hin : vp_in i len) (hq : pc + 1 = q) (k : Ev xl xs F L B1 B2 M q lv st n (hup h a (.inl (0, len, .inl (upd f i.toNatClampNeg x)))) Q) : Ev xl xs F L B1 B2 M pc lv (.int x :: .int i :: .ref a :: st) n h Q := by
  subst hq
  intro p l e R s m args below meth cc Z D cA sz zd n0 ad0 CM SM C ad H locs cells slots ls hH hE hS h1 h2 hl o1 o2
  exact va_iast (D := D) C.hx C.hb C.hK hH.2.2.1 hH.2.2.2.1 hS a 0 (hs_at hH ha hc) rfl hin d (fun H1 locs1 hP hD hS1 => k _ _ _ _ _ _ _ _ _ _ _ _ _ _ _ _ _ _ _ C ad H1 locs1 cells slots ls (hs_up hH (c := .inl (0, len, .inl (upd f i.toNatClampNeg x))) trivial rfl hP hD) hE hS1 h1 h2 hl o1 (okl_t (okl_t (okl_t o2))))
theorem ev_zast {a len : Nat} {f : Nat → Int32} {i x : Int32} (d : decode M.2.1 pc = .ok (.bastore, 1)) (hc : h a = .inl (2, len, .inl f)) (ha : a < n) (hin : vp_in i len) (hq : pc + 1 = q) (k : Ev xl xs F L B1 B2 M q lv st n (hup h a (.inl (2, len, .inl (upd f i.toNatClampNeg (vp_nar .boolean x))))) Q) : Ev xl xs F L B1 B2 M pc lv (.int x :: .int i :: .ref a :: st) n h Q := by
  subst hq
  intro p l e R s m args below meth cc Z D cA sz zd n0 ad0 CM SM C ad H locs cells slots ls hH hE hS h1 h2 hl o1 o2
  exact va_zast (D := D) C.hx C.hb C.hK hH.2.2.1 hH.2.2.2.1 hS a 2 (hs_at hH ha hc) rfl hin d (fun H1 locs1 hP hD hS1 => k _ _ _ _ _ _ _ _ _ _ _ _ _ _ _ _ _ _ _ C ad H1 locs1 cells slots ls (hs_up hH (c := .inl (2, len, .inl (upd f i.toNatClampNeg (vp_nar .boolean x)))) trivial rfl hP hD) hE hS1 h1 h2 hl o1 (okl_t (okl_t (okl_t o2))))
theorem ev_last {a len : Nat} {f : Nat → Int64} {i : Int32} {x : Int64} (d : decode M.2.1 pc = .ok (.lastore, 1)) (hc : h a = .inl (1, len, .inr (.inl f))) (ha : a < n) (hin : vp_in i len) (hq : pc + 1 = q) (k : Ev xl xs F L B1 B2 M q lv st n (hup h a (.inl (1, len, .inr (.inl (vp_updL f i.toNatClampNeg x))))) Q) : Ev xl xs F L B1 B2 M pc lv (.long x :: .int i :: .ref a :: st) n h Q := by
  subst hq
  intro p l e R s m args below meth cc Z D cA sz zd n0 ad0 CM SM C ad H locs cells slots ls hH hE hS h1 h2 hl o1 o2
  exact va_last (D := D) C.hx C.hb C.hK hH.2.2.1 hH.2.2.2.1 hS a 1 (hs_at hH ha hc) rfl hin d (fun H1 locs1 hP hD hS1 => k _ _ _ _ _ _ _ _ _ _ _ _ _ _ _ _ _ _ _ C ad H1 locs1 cells slots ls (hs_up hH (c := .inl (1, len, .inr (.inl (vp_updL f i.toNatClampNeg x)))) trivial rfl hP hD) hE hS1 h1 h2 hl o1 (okl_t (okl_t (okl_t o2))))
theorem ev_aald {a len : Nat} {f : Nat → Option Nat} {i : Int32} (d : decode M.2.1 pc = .ok (.aaload, 1)) (hc : h a = .inl (3, len, .inr (.inr (.inr (.inr f))))) (ha : a < n) (hin : vp_in i len) (hq : pc + 1 = q) (k : Ev xl xs F L B1 B2 M q lv (va_rf (f i.toNatClampNeg) :: st) n h Q) : Ev xl xs F L B1 B2 M pc lv (.int i :: .ref a :: st) n h Q := by
  subst hq
  intro p l e R s m args below meth cc Z D cA sz zd n0 ad0 CM SM C ad H locs cells slots ls hH hE hS h1 h2 hl o1 o2
  have hok : ∀ j q, f j = some q → q < n := by have := hH.2.1 a ha; rw [hc] at this; exact this
  have e9 : va_rf ((f i.toNatClampNeg).map ad) = mv ad (va_rf (f i.toNatClampNeg)) := by cases f i.toNatClampNeg <;> rfl
  have o9 : okv n (va_rf (f i.toNatClampNeg)) := by
    cases h9 : f i.toNatClampNeg with
    | none => exact trivial
    | some b => exact Or.inl (hok _ b h9)
  have kk := k _ _ _ _ _ _ _ _ _ _ _ _ _ _ _ _ _ _ _ C ad H locs cells slots ls hH hE hS h1 h2 hl o1 (okl_c o9 (okl_t (okl_t o2)))
  rw [List.map_cons, ← e9] at kk
  exact va_aldq (D := D) (C := "WishLamp$State") C.hx C.hb C.hK hH.2.2.1 a 3 (hs_at hH ha hc) rfl hin d kk
theorem ev_aast {a len b : Nat} {f : Nat → Option Nat} {i : Int32} {fs : List Value} (d : decode M.2.1 pc = .ok (.aastore, 1)) (hc : h a = .inl (3, len, .inr (.inr (.inr (.inr f))))) (ha : a < n) (hb : h b = .inr (4, fs)) (hbn : b < n) (hin : vp_in i len) (hq : pc + 1 = q) (k : Ev xl xs F L B1 B2 M q lv st n (hup h a (.inl (3, len, .inr (.inr (.inr (.inr (va_up f i.toNatClampNeg (some b)))))))) Q) : Ev xl xs F L B1 B2 M pc lv (.ref b :: .int i :: .ref a :: st) n h Q := by
  subst hq
  intro p l e R s m args below meth cc Z D cA sz zd n0 ad0 CM SM C ad H locs cells slots ls hH hE hS h1 h2 hl o1 o2
  have hok : ∀ j q, f j = some q → q < n := by have := hH.2.1 a ha; rw [hc] at this; exact this
  refine va_astq (D := D) (r := (RX4, TX4, 16)) C.hx C.hb C.hK hH.2.2.1 hH.2.2.2.1 hS a 3 b 4 (hs_at hH ha hc) rfl (hs_at hH hbn hb) rfl hin d (fun H1 locs1 hP hD hS1 => k _ _ _ _ _ _ _ _ _ _ _ _ _ _ _ _ _ _ _ C ad H1 locs1 cells slots ls (hs_up hH (c := .inl (3, len, .inr (.inr (.inr (.inr (va_up f i.toNatClampNeg (some b))))))) ?_ ?_ hP hD) hE hS1 h1 h2 hl o1 (okl_t (okl_t (okl_t o2))))
  · intro j q hj
    unfold va_up at hj
    split at hj
    · cases hj; exact hbn
    · exact hok j q hj
  · show (Sum.inl (cA 3, len, .inr (.inr (.inr (.inr (fun j => (va_up f i.toNatClampNeg (some b) j).map ad))))) : va_E) = _
    congr 7
    funext j
    unfold va_up
    split <;> rfl
theorem ev_alen {a kd len : Nat} {f : (Nat → Int32) ⊕ (Nat → Int64) ⊕ (Nat → UInt32) ⊕ (Nat → UInt64) ⊕ (Nat → Option Nat)} (v : Int32) (d : decode M.2.1 pc = .ok (.arraylength, 1)) (hc : h a = .inl (kd, len, f)) (hkd : kd < 4) (ha : a < n) (hv : Int32.ofNat len = v) (hq : pc + 1 = q) (k : Ev xl xs F L B1 B2 M q lv (.int v :: st) n h Q) : Ev xl xs F L B1 B2 M pc lv (.ref a :: st) n h Q := by
  subst hq
  intro p l e R s m args below meth cc Z D cA sz zd n0 ad0 CM SM C ad H locs cells slots ls hH hE hS h1 h2 hl o1 o2
  have kk := k _ _ _ _ _ _ _ _ _ _ _ _ _ _ _ _ _ _ _ C ad H locs cells slots ls hH hE hS h1 h2 hl o1 (okl_i (okl_t o2))
  have ht : ∃ ty, (tyL cA)[kd]? = some (cA kd, ty) := by
    match kd, hkd with
    | 0, _ => exact ⟨_, rfl⟩
    | 1, _ => exact ⟨_, rfl⟩
    | 2, _ => exact ⟨_, rfl⟩
    | 3, _ => exact ⟨_, rfl⟩
  obtain ⟨ty, ht⟩ := ht
  rcases f with f | f | f | f | f
  · exact va_alen (D := D) (x := (len, .inl f)) C.hx C.hb C.hK hH.2.2.1 a kd (hs_at hH ha hc) ht hv d kk
  · exact va_alen (D := D) (x := (len, .inr (.inl f))) C.hx C.hb C.hK hH.2.2.1 a kd (hs_at hH ha hc) ht hv d kk
  · exact va_alen (D := D) (x := (len, .inr (.inr (.inl f)))) C.hx C.hb C.hK hH.2.2.1 a kd (hs_at hH ha hc) ht hv d kk
  · exact va_alen (D := D) (x := (len, .inr (.inr (.inr (.inl f))))) C.hx C.hb C.hK hH.2.2.1 a kd (hs_at hH ha hc) ht hv d kk
  · exact va_alen (D := D) (x := (len, .inr (.inr (.inr (.inr (fun j => (f j).map ad)))))) C.hx C.hb C.hK hH.2.2.1 a kd (hs_at hH ha hc) ht hv d kk
-- frozen arrays
theorem ad_fz {D : va_G} {cA : Nat → ClassId} {sz : Nat} {zd ad : Nat → Nat} {n : Nat} {h : Nat → PC} {H : Heap} (hH : Hs D cA sz zd ad n h H) (k : Nat) : ad (1000 + k) = zd k := by rw [hH.2.2.2.2 _ (Nat.le_add_right 1000 k), Nat.add_sub_cancel_left]
theorem ev_gets {idx k : Nat} {e : fzE} (d : decode M.2.1 pc = .ok (.getstatic idx, 3)) (hk : fzT[k]? = some e) (hw : Cond.fieldLink M.1.cls idx "WishLamp" e.1 e.2.1 ∈ TB) (hq : pc + 3 = q) (kk : Ev xl xs F L B1 B2 M q lv (.ref (1000 + k) :: st) n h Q) : Ev xl xs F L B1 B2 M pc lv st n h Q := by
  subst hq
  intro p l e R s m args below meth cc Z D cA sz zd n0 ad0 CM SM C ad H locs cells slots ls hH hE hS h1 h2 hl o1 o2
  have k9 := kk _ _ _ _ _ _ _ _ _ _ _ _ _ _ _ _ _ _ _ C ad H locs cells slots ls hH hE hS h1 h2 hl o1 (okl_c (show okv n (.ref (1000 + k)) from Or.inr (Nat.le_add_right 1000 k)) o2)
  have k9 : W p l e R s m args below meth cc H locs cells slots Z (F0 m (pc + 3) ls (Value.ref (ad (1000 + k)) :: st.map (mv ad))) := k9
  rw [ad_fz hH] at k9
  exact va_gets C.hx C.hb (C.hF.1 k _ hk).1 hS C.own (C.ts _ hw) (fun _ h9 => h9) d k9
theorem ev_getsN {idx k : Nat} {e : fzE} {host : String} (d : decode M.2.1 pc = .ok (.getstatic idx, 3)) (hk : fzT[k]? = some e) (hw : Cond.fieldLinkNest M.1.cls idx "WishLamp" e.1 e.2.1 host ∈ NT) (hq : pc + 3 = q) (kk : Ev xl xs F L B1 B2 M q lv (.ref (1000 + k) :: st) n h Q) : Ev xl xs F L B1 B2 M pc lv st n h Q := by
  subst hq
  intro p l e R s m args below meth cc Z D cA sz zd n0 ad0 CM SM C ad H locs cells slots ls hH hE hS h1 h2 hl o1 o2
  have k9 := kk _ _ _ _ _ _ _ _ _ _ _ _ _ _ _ _ _ _ _ C ad H locs cells slots ls hH hE hS h1 h2 hl o1 (okl_c (show okv n (.ref (1000 + k)) from Or.inr (Nat.le_add_right 1000 k)) o2)
  have k9 : W p l e R s m args below meth cc H locs cells slots Z (F0 m (pc + 3) ls (Value.ref (ad (1000 + k)) :: st.map (mv ad))) := k9
  rw [ad_fz hH] at k9
  exact va_getsN C.hx C.hb (C.hF.1 k _ hk).1 hS C.own (va_Nw.use rfl (C.nw _ hw)) (fun _ h9 => h9) d k9
theorem ev_fiald {k N : Nat} {nm ds : String} {f : Nat → Value} {i v : Int32} (d : decode M.2.1 pc = .ok (.iaload, 1)) (hk : fzT[k]? = some (nm, ds, .int, N, f)) (hin : vp_in i N) (hv : f i.toNatClampNeg = .int v) (hq : pc + 1 = q) (kk : Ev xl xs F L B1 B2 M q lv (.int v :: st) n h Q) : Ev xl xs F L B1 B2 M pc lv (.int i :: .ref (1000 + k) :: st) n h Q := by
  subst hq
  intro p l e R s m args below meth cc Z D cA sz zd n0 ad0 CM SM C ad H locs cells slots ls hH hE hS h1 h2 hl o1 o2
  have k9 := kk _ _ _ _ _ _ _ _ _ _ _ _ _ _ _ _ _ _ _ C ad H locs cells slots ls hH hE hS h1 h2 hl o1 (okl_i (okl_t (okl_t o2)))
  show W p l e R s m args below meth cc H locs cells slots Z (F0 m pc ls (.int i :: Value.ref (ad (1000 + k)) :: st.map (mv ad)))
  rw [ad_fz hH]
  exact va_ti C.hx C.hb (C.hF.1 k _ hk).2 hS hin hv d k9
theorem ev_flald {k N : Nat} {nm ds : String} {f : Nat → Value} {i : Int32} {v : Int64} (d : decode M.2.1 pc = .ok (.laload, 1)) (hk : fzT[k]? = some (nm, ds, .long, N, f)) (hin : vp_in i N) (hv : f i.toNatClampNeg = .long v) (hq : pc + 1 = q) (kk : Ev xl xs F L B1 B2 M q lv (.long v :: st) n h Q) : Ev xl xs F L B1 B2 M pc lv (.int i :: .ref (1000 + k) :: st) n h Q := by
  subst hq
  intro p l e R s m args below meth cc Z D cA sz zd n0 ad0 CM SM C ad H locs cells slots ls hH hE hS h1 h2 hl o1 o2
  have k9 := kk _ _ _ _ _ _ _ _ _ _ _ _ _ _ _ _ _ _ _ C ad H locs cells slots ls hH hE hS h1 h2 hl o1 (okl_l (okl_t (okl_t o2)))
  show W p l e R s m args below meth cc H locs cells slots Z (F0 m pc ls (.int i :: Value.ref (ad (1000 + k)) :: st.map (mv ad)))
  rw [ad_fz hH]
  exact va_tl C.hx C.hb (C.hF.1 k _ hk).2 hS hin hv d k9
theorem ev_flen {k N : Nat} {nm ds : String} {ty : FieldType} {f : Nat → Value} (v : Int32) (d : decode M.2.1 pc = .ok (.arraylength, 1)) (hk : fzT[k]? = some (nm, ds, ty, N, f)) (hv : Int32.ofNat N = v) (hq : pc + 1 = q) (kk : Ev xl xs F L B1 B2 M q lv (.int v :: st) n h Q) : Ev xl xs F L B1 B2 M pc lv (.ref (1000 + k) :: st) n h Q := by
  subst hq
  intro p l e R s m args below meth cc Z D cA sz zd n0 ad0 CM SM C ad H locs cells slots ls hH hE hS h1 h2 hl o1 o2
  have k9 := kk _ _ _ _ _ _ _ _ _ _ _ _ _ _ _ _ _ _ _ C ad H locs cells slots ls hH hE hS h1 h2 hl o1 (okl_i (okl_t o2))
  show W p l e R s m args below meth cc H locs cells slots Z (F0 m pc ls (Value.ref (ad (1000 + k)) :: st.map (mv ad)))
  rw [ad_fz hH]
  exact va_tlen C.hx C.hb (C.hF.1 k _ hk).2 hS hv d k9
theorem ev_sald {i : Int32} (d : decode M.2.1 pc = .ok (.iaload, 1)) (hin : vp_in i xl) (hq : pc + 1 = q) (kk : Ev xl xs F L B1 B2 M q lv (.int (xs i.toNatClampNeg) :: st) n h Q) : Ev xl xs F L B1 B2 M pc lv (.int i :: .ref 1004 :: st) n h Q := by
  subst hq
  intro p l e R s m args below meth cc Z D cA sz zd n0 ad0 CM SM C ad H locs cells slots ls hH hE hS h1 h2 hl o1 o2
  have k9 := kk _ _ _ _ _ _ _ _ _ _ _ _ _ _ _ _ _ _ _ C ad H locs cells slots ls hH hE hS h1 h2 hl o1 (okl_i (okl_t (okl_t o2)))
  show W p l e R s m args below meth cc H locs cells slots Z (F0 m pc ls (.int i :: Value.ref (ad (1000 + 4)) :: st.map (mv ad)))
  rw [ad_fz hH]
  exact va_ti C.hx C.hb C.hF.2 hS hin rfl d k9
theorem ev_slen (d : decode M.2.1 pc = .ok (.arraylength, 1)) (hq : pc + 1 = q) (kk : Ev xl xs F L B1 B2 M q lv (.int (Int32.ofNat xl) :: st) n h Q) : Ev xl xs F L B1 B2 M pc lv (.ref 1004 :: st) n h Q := by
  subst hq
  intro p l e R s m args below meth cc Z D cA sz zd n0 ad0 CM SM C ad H locs cells slots ls hH hE hS h1 h2 hl o1 o2
  have k9 := kk _ _ _ _ _ _ _ _ _ _ _ _ _ _ _ _ _ _ _ C ad H locs cells slots ls hH hE hS h1 h2 hl o1 (okl_i (okl_t o2))
  show W p l e R s m args below meth cc H locs cells slots Z (F0 m pc ls (Value.ref (ad (1000 + 4)) :: st.map (mv ad)))
  rw [ad_fz hH]
  exact va_tlen C.hx C.hb C.hF.2 hS rfl d k9
-- the ends
theorem ev_ret (d : decode M.2.1 pc = .ok (.return_, 1)) (hr : M.2.2.2 = none) (hQ : Q none n h) : Ev xl xs F L B1 B2 M pc lv [] n h Q := by
  intro p l e R s m args below meth cc Z D cA sz zd n0 ad0 CM SM C ad H locs cells slots ls hH hE hS h1 h2 hl o1 o2
  exact C.rt ad H locs cells slots ls n h none pc hH hE hS (by omega) (by omega) ⟨d, hr⟩ hQ
theorem ev_iret {v : Int32} {ty : FieldType} (d : decode M.2.1 pc = .ok (.ireturn, 1)) (hr : M.2.2.2 = some ty) (hn : narrow ty (.int v) = .int v) (hQ : Q (some (.int v)) n h) : Ev xl xs F L B1 B2 M pc lv [.int v] n h Q := by
  intro p l e R s m args below meth cc Z D cA sz zd n0 ad0 CM SM C ad H locs cells slots ls hH hE hS h1 h2 hl o1 o2
  exact C.rt ad H locs cells slots ls n h (some (.int v)) pc hH hE hS (by omega) (by omega) ⟨d, ty, hr, hn⟩ hQ
theorem ev_lret {v : Int64} (d : decode M.2.1 pc = .ok (.lreturn, 1)) (hr : M.2.2.2 = some .long) (hQ : Q (some (.long v)) n h) : Ev xl xs F L B1 B2 M pc lv [.long v] n h Q := by
  intro p l e R s m args below meth cc Z D cA sz zd n0 ad0 CM SM C ad H locs cells slots ls hH hE hS h1 h2 hl o1 o2
  exact C.rt ad H locs cells slots ls n h (some (.long v)) pc hH hE hS (by omega) (by omega) ⟨d, hr⟩ hQ
end MEM
end
section
section CALLS
variable {xl : Nat} {xs : Nat → Int32} {F L B1 B2 : Nat} {M : Mt} {pc : Nat} {lv lv' : List (Option Value)} {st : List Value} {n : Nat} {h : Nat → PC} {Q : QT} {q : Nat}
/-- what a callee is given, and what it gives back -/
def PcE (D : va_G) (cA : Nat → ClassId) (sz : Nat) (zd : Nat → Nat) (xl : Nat) (xs : Nat → Int32) (ad : Nat → Nat) (n : Nat) (h : Nat → PC) (av : List Value) : Array Value → State → Prop := fun v U => v = av.toArray ∧ Hs D cA sz zd ad n h U.heap ∧ (∀ w ∈ NT, va_Nw w U) ∧ va_K D vwCl (tyL cA) U ∧ Fz sz zd xl xs U U.heap ∧ va_AO "WishLamp$State" U ∧ sz ≤ U.heap.size
def QcE (D : va_G) (cA : Nat → ClassId) (sz : Nat) (zd : Nat → Nat) (ad : Nat → Nat) (n : Nat) (Q : QT) : Array Value → State → Outcome → State → Prop := fun _ s o t => ∃ (r : Option Value) (n' : Nat) (h' : Nat → PC) (ad' : Nat → Nat), o = .returned (r.map (mv ad')) ∧ Q r n' h' ∧ (∀ v, r = some v → okv 0 v) ∧ Hs D cA sz zd ad' n' h' t.heap ∧ Ext n ad n' ad' ∧ va_F (fun q => sz ≤ q) s t
def wsM (M : Mt) : List Cond := Cond.code M.1 M.2.1 M.2.2.1 M.2.2.2 :: TB
theorem wsM_good {M : Mt} {na : Nat} (hb : CB M na) : GoodIn TB (wsM M) := fun w hw => by
  rcases List.mem_cons.mp hw with e | e
  · rw [e]; exact tb_good _ hb.1
  · exact tb_good _ e
theorem entA_eq (ad : Nat → Nat) : ∀ vs : List Value, (lg_sl (vs.map (mv ad))).length = (entA vs).length
  | [] => rfl
  | v :: vs => by
    have ih := entA_eq ad vs
    unfold lg_sl at ih ⊢
    rw [List.map_cons, List.flatMap_cons, List.length_append, ih, mv_cat]
    by_cases hc : v.category = 2
    · simp [entA, hc]; omega
    · simp [entA, hc]; omega
theorem ent_at (ad : Nat → Nat) : ∀ (vs : List Value) (b i : Nat) (v : Value), (entA vs)[i]? = some (some v) → (b + i, mv ad v) ∈ lv_args b (vs.map (mv ad))
  | [], b, i, v, h => by simp [entA] at h
  | w :: vs, b, i, v, h => by
    rw [List.map_cons]
    unfold lv_args
    rw [mv_cat]
    by_cases hc : w.category = 2
    · simp only [entA, hc, if_true] at h
      match i, h with
      | 0, h =>
        simp at h
        rw [h]; exact List.mem_cons_self
      | 1, h => simp at h
      | i + 2, h =>
        have h1 : (entA vs)[i]? = some (some v) := by simpa using h
        have := ent_at ad vs (b + 2) i v h1
        rw [show b + 2 + i = b + (i + 2) by omega] at this
        simp only [hc, if_true]
        exact List.mem_cons_of_mem _ this
    · simp only [entA, hc, if_false] at h
      match i, h with
      | 0, h =>
        simp at h
        rw [h]; exact List.mem_cons_self
      | i + 1, h =>
        have h1 : (entA vs)[i]? = some (some v) := by simpa using h
        have := ent_at ad vs (b + 1) i v h1
        rw [show b + 1 + i = b + (i + 1) by omega] at this
        simp only [hc, if_false]
        exact List.mem_cons_of_mem _ this
theorem ent_LH (ad : Nat → Nat) (vs : List Value) {nL : Nat} (hl : (entA vs).length ≤ nL) : LH ((lg_sl (vs.map (mv ad)) ++ List.replicate (nL - (lg_sl (vs.map (mv ad))).length) Slot.unset).toArray) nL ad (ent vs nL) := by
  have h0 := lv_entry (vs.map (mv ad)) (n := nL) (by rw [entA_eq]; exact hl)
  refine ⟨⟨h0.1, h0.2.1⟩, by simp [ent]; omega, fun i v hi => ?_⟩
  unfold ent at hi
  by_cases h1 : i < (entA vs).length
  · rw [List.getElem?_append_left h1] at hi
    have := ent_at ad vs 0 i v hi
    rw [Nat.zero_add] at this
    exact h0.2.2 _ this
  · rw [List.getElem?_append_right (by omega), List.getElem?_replicate] at hi
    split at hi <;> cases hi
theorem okL_ent {n : Nat} {vs : List Value} {nL : Nat} (hv : okl n vs) : okL n (ent vs nL) := by
  have key : ∀ vs : List Value, okl n vs → ∀ v, some v ∈ entA vs → okv n v := by
    intro vs
    induction vs with
    | nil => intro _ v h; simp [entA] at h
    | cons w vs ih =>
      intro ho v hm
      unfold entA at hm
      split at hm
      · rcases List.mem_cons.mp hm with e | e
        · cases e; exact okl_h ho
        · rcases List.mem_cons.mp e with e | e
          · cases e
          · exact ih (okl_t ho) v e
      · rcases List.mem_cons.mp hm with e | e
        · cases e; exact okl_h ho
        · exact ih (okl_t ho) v e
  intro v hm
  unfold ent at hm
  rcases List.mem_append.mp hm with e | e
  · exact key vs hv v e
  · have := (List.mem_replicate.mp e).2
    cases this
theorem Ext.rf {n : Nat} {ad : Nat → Nat} : Ext n ad n ad := ⟨Nat.le_refl _, fun _ _ => rfl⟩
theorem Ext.tr {n0 n1 n2 : Nat} {a0 a1 a2 : Nat → Nat} (h1 : Ext n0 a0 n1 a1) (h2 : Ext n1 a1 n2 a2) : Ext n0 a0 n2 a2 := ⟨Nat.le_trans h1.1 h2.1, fun q hq => (h2.2 q (by have := h1.1; omega)).trans (h1.2 q hq)⟩
/-- a pure run gives a contract of the machine -/
theorem ev_met {M' : Mt} {na F' L' b1 b2 : Nat} {vs : List Value} {Q' : QT} (l : Launch) (D : va_G) (cA : Nat → ClassId) (sz : Nat) (zd ad : Nat → Nat) (hb : CB M' na) (hlen : (entA vs).length ≤ M'.2.2.1) (hok : okl n vs) (k : Ev xl xs F' L' b1 b2 M' 0 (ent vs M'.2.2.1) [] n h Q') :
    Met l M'.1 (wsM M') { frames := F', cells := b1, slots := b2, locals := L' } (PcE D cA sz zd xl xs ad n h (vs.map (mv ad))) (QcE D cA sz zd ad n Q') b1 b2 (fun q => sz ≤ q) := by
  refine Met.ofW (cc := M'.2.1) (maxL := M'.2.2.1) (ret := M'.2.2.2) hb.2.2.2 rfl ?_
  intro p e s m args below meth c s₁ B hml hv
  obtain ⟨rfl, hH, hnw, hK, hF, hao, hsz⟩ := hv
  have hts := atoms_spec (ws := wsM M') B.pre
  rw [lg_entry_eq]
  refine k p l e _ s m _ below meth c _ D cA sz zd n ad b1 b2 ⟨B.exec, B.bytes, hml, findClass_of_methodNamed B.named, fun w hw => hts w (List.mem_cons_of_mem _ hw), hnw, hK, hF, hao, (name_of_methodNamed B.named B.method).1, hsz, ⟨Nat.le_refl _, Nat.le_refl _, Nat.le_refl _, Nat.le_refl _⟩, ?_⟩ ad s.heap [] 0 0 _ hH Ext.rf va_S.rf (by omega) (by omega) (ent_LH ad vs hlen) (okL_ent hok) (fun v hv => by cases hv)
  intro ad1 H locs cells slots ls n1 h1 r pc hH1 hE1 hS1 hc1 hs1 hrd hQ1
  refine W.widen hc1 hs1 ?_
  have hlocks := B.notSynchronized
  have hret := B.returns
  match r, hrd, hQ1 with
  | none, hrd, hQ1 =>
    exact W.vret B.exec B.bytes (hret.trans hrd.2) (fun t ht hW => ⟨none, n1, h1, ad1, rfl, hQ1, (fun v h => (by cases h)), by rw [ht]; exact hH1, hE1, hS1.F ht⟩) hS1.2.2 hrd.1
  | some (.int v), hrd, hQ1 =>
    obtain ⟨hd, ty, hty, hn⟩ := hrd
    exact W.zret B.exec B.bytes (hret.trans hty) hn (fun t ht hW => ⟨some (.int v), n1, h1, ad1, rfl, hQ1, (fun v h => (by cases h; exact trivial)), by rw [ht]; exact hH1, hE1, hS1.F ht⟩) hS1.2.2 hd
  | some (.long v), hrd, hQ1 =>
    exact W.lret B.exec B.bytes (hret.trans hrd.2) (fun t ht hW => ⟨some (.long v), n1, h1, ad1, rfl, hQ1, (fun v h => (by cases h; exact trivial)), by rw [ht]; exact hH1, hE1, hS1.F ht⟩) hS1.2.2 hrd.1
  | some (.ref _), hrd, _ => exact absurd hrd (fun h => h)
  | some .null, hrd, _ => exact absurd hrd (fun h => h)
  | some (.float _), hrd, _ => exact absurd hrd (fun h => h)
  | some (.double _), hrd, _ => exact absurd hrd (fun h => h)
theorem nt_warm {s U : State} (hW : s.WarmedH U.vm) (hz : ∀ w ∈ NT, va_Nw w s) : ∀ w ∈ NT, va_Nw w U := by
  intro w hw
  have h1 := (List.mem_filter.mp hw).2
  cases w <;> first | (simp [isNest] at h1; done) | exact va_Nw.warmF hW (hz _ hw) | exact va_Nw.warmM hW (hz _ hw)
theorem pcE_blind {D : va_G} {cA : Nat → ClassId} {sz : Nat} {zd ad : Nat → Nat} {av : List Value} : FrameBlind (PcE D cA sz zd xl xs ad n h av) := by
  intro a U g mk hq
  obtain ⟨h0, h1, h2, h3, h4, h5, h6⟩ := hq
  exact ⟨h0, h1, fun w hw => by
    have hwt := (List.mem_filter.mp hw).2
    exact va_Nw.same (u := U) (U := U.calling g mk a) (by cases w <;> first | rfl | (simp [isNest] at hwt)) rfl (h2 w hw), va_K.moved (u := U) (U := U.calling g mk a) (Vm.Alike.refl U.vm) h3, Fz.moved (u := U) (U := U.calling g mk a) (Vm.Alike.refl U.vm) h4, va_AO.moved (u := U) (U := U.calling g mk a) (Vm.Alike.refl U.vm) h5, h6⟩
end CALLS
section CALL2
variable {xl : Nat} {xs : Nat → Int32} {F L B1 B2 : Nat} {M : Mt} {pc : Nat} {lv lv' : List (Option Value)} {st : List Value} {n : Nat} {h : Nat → PC} {Q : QT} {q : Nat}
variable {p : Program} {l : Launch} {e : Env} {R : Room} {s : State} {m : MethodId} {args : Array Value} {below : List Frame} {meth : Method} {c : Code} {Z : State → Prop} {D : va_G} {cA : Nat → ClassId} {sz : Nat} {zd : Nat → Nat} {n0 : Nat} {ad0 : Nat → Nat} {CM SM : Nat}
theorem pcE_at {ad : Nat → Nat} {H : Heap} {locs : List Loc} {av : List Value} (C : Cx F L M Q p l e R s m args below meth c Z D cA sz zd xl xs n0 ad0 CM SM) (hH : Hs D cA sz zd ad n h H) (hS : va_S (fun q => sz ≤ q) s.heap H locs) : ∀ U : State, U.heap = H → s.WarmedH U.vm → PcE D cA sz zd xl xs ad n h av av.toArray U := by
  intro U hU hW
  subst hU
  exact ⟨rfl, hH, nt_warm hW C.nw, va_K.moved hW.alike C.hK, (C.hF.kept (fun a h1 h2 => hS.2.1 a h1 h2)).moved hW.alike, va_AO.moved hW.alike C.ao, Nat.le_trans C.hsz hS.1⟩
/-- behind the call -/
theorem ev_back {ad : Nat → Nat} {H : Heap} {locs : List Loc} {cells slots b1 b2 : Nat} {ls : Array Slot} {a : Array Value} {Q' : QT} {rest st0 : List Value} (C : Cx F L M Q p l e R s m args below meth c Z D cA sz zd xl xs n0 ad0 CM SM) (hE : Ext n0 ad0 n ad) (hS : va_S (fun q => sz ≤ q) s.heap H locs) (h1 : cells + B1 ≤ CM) (h2 : slots + B2 ≤ SM) (hb1 : b1 ≤ B1) (hb2 : b2 ≤ B2) (hl : LH ls M.2.2.1 ad lv) (o1 : okL n lv) (o2 : okl n rest)
    (hr : va_Run p l e R s m args below meth c H locs cells slots b1 b2 (F0 m pc ls st0) (rest.map (mv ad)) (QcE D cA sz zd ad n Q' a) (fun q => sz ≤ q))
    (kk : ∀ r n' h', Q' r n' h' → Ev xl xs F L (B1 - b1) (B2 - b2) M (pc + 3) lv (r.toList ++ rest) n' h' Q) : W p l e R s m args below meth c H locs cells slots Z (F0 m pc ls st0) := by
  intro T hT X
  obtain ⟨v, st₀, t, T', Lc, e0, X', hL, e1, e2, ⟨r, n', h', ad', hv, hQ', hrv, hH', hE', hF⟩, stp⟩ := hr T hT X
  have hS' : va_S (fun q => sz ≤ q) s.heap T'.heap (locs ++ Lc) := ⟨Nat.le_trans hS.1 (by rw [e1, ← e0]; exact hF.1), fun x g1 g2 => by
      rw [e1, hF.2 x (by rw [e0]; exact Nat.lt_of_lt_of_le g1 hS.1) g2, e0]
      exact hS.2.1 x g1 g2, fun x hx => by
      rcases List.mem_append.mp hx with h | h
      · exact hS.2.2 x h
      · exact hL x h⟩
  have hag : ∀ x, (x < n ∨ 1000 ≤ x) → ad' x = ad x := hE'.2
  have hl' : LH ls M.2.2.1 ad' lv := ⟨hl.1, hl.2.1, fun i w hi => by
    rw [mv_eq hag (o1 w (List.mem_of_getElem? hi))]
    exact hl.2.2 i w hi⟩
  have o3 : okl n' (r.toList ++ rest) := fun w hw => by
    rcases List.mem_append.mp hw with h | h
    · cases r with
      | none => cases h
      | some z =>
        rw [Option.toList_some, List.mem_singleton] at h
        rw [h]
        exact okv_mono (Nat.zero_le _) (hrv z rfl)
    · exact okv_mono hE'.1 (o2 w h)
  have w := kk r n' h' hQ' p l e R s m args below meth c Z D cA sz zd n0 ad0 CM SM C ad' T'.heap (locs ++ Lc) (cells + b1) (slots + b2) ls (by rw [e1]; exact hH') (hE.tr hE') hS' (by omega) (by omega) hl' (okL_mono hE'.1 o1) o3
  obtain ⟨t2, a1, c1⟩ := w T' rfl X'
  refine ⟨t2, stp t2 ?_, c1⟩
  have hvr : v = r.map (mv ad') := by
    have := hv
    injection this
  have e9 : v.toList ++ rest.map (mv ad) = (r.toList ++ rest).map (mv ad') := by
    rw [List.map_append, mvl_eq hag o2, hvr]
    cases r <;> rfl
  rw [e9]
  exact a1
end CALL2
section CALL3
variable {xl : Nat} {xs : Nat → Int32} {F L B1 B2 : Nat} {M : Mt} {pc : Nat} {lv lv' : List (Option Value)} {n : Nat} {h : Nat → PC} {Q : QT} {q : Nat}
theorem cats_map (ad : Nat → Nat) (l : List Value) : ((l.map (mv ad)).map fun v => v.category).sum = (l.map fun v => v.category).sum := by
  rw [List.map_map]
  congr 1
  exact List.map_congr_left (fun v _ => mv_cat ad v)
theorem hR_of {F L F' L' k CM SM : Nat} {R : Room} (h : F ≤ R.frames ∧ L ≤ R.locals ∧ CM ≤ R.cells ∧ SM ≤ R.slots) (h1 : F' + 1 ≤ F) (h2 : 19 + k + L' ≤ L) : F' + 1 ≤ R.frames ∧ 8 + (k + 11) + L' ≤ R.locals := ⟨Nat.le_trans h1 h.1, by omega⟩
theorem ev_callV {idx na b b1 b2 F' L' ci : Nat} {M' : Mt} {As rest : List Value} {fs : List Value} {r : Option Value} {n' : Nat} {h' : Nat → PC} {cr : vw_C} (d : decode M.2.1 pc = .ok (.invokevirtual idx, 3)) (ca : CV M.1.cls idx M' na) (hn : As.length = na) (hc : h b = .inr (ci, fs)) (hbn : b < n) (hcr : vwCl[ci]? = some cr) (hcl : cr.1 = M'.1.cls) (hlen : (entA (.ref b :: As)).length ≤ M'.2.2.1) (hw : (rest.map fun v => v.category).sum ≤ 8) (hF : F' + 1 ≤ F) (hL : 19 + M'.2.2.1 + L' ≤ L) (hb1 : b1 ≤ B1) (hb2 : b2 ≤ B2)
    (hR : Rn xl xs F' L' b1 b2 M' (.ref b :: As) n h r n' h') (hq : pc + 3 = q) (k : Ev xl xs F L (B1 - b1) (B2 - b2) M q lv (r.toList ++ rest) n' h' Q) : Ev xl xs F L B1 B2 M pc lv (As.reverse ++ .ref b :: rest) n h Q := by
  subst hq
  intro p l e R s m args below meth cc Z D cA sz zd n0 ad0 CM SM C ad H locs cells slots ls hH hE hS h1 h2 hl o1 o2
  have oA : okl n (.ref b :: As) := fun v hv => o2 v (by
    rcases List.mem_cons.mp hv with e | e
    · rw [e]; simp
    · simp [e])
  have oR : okl n rest := fun v hv => o2 v (by simp [hv])
  have hM := ev_met l D cA sz zd ad ca.1 hlen oA (hR (fun r2 n2 h2 => r2 = r ∧ n2 = n' ∧ h2 = h') ⟨rfl, rfl, rfl⟩)
  have hR' := C.hR
  rw [List.map_append, List.map_reverse, List.map_cons]
  refine ev_back C hE hS h1 h2 hb1 hb2 hl o1 oR (va_runV (As := As.map (mv ad)) (rest := rest.map (mv ad)) (Ts := TB) (own := M.1.cls) (C := M'.1.cls) (n := na) (b := ad b) ⟨C.hx, C.hb, C.hml, C.own, C.ts⟩ hM (cwV na C.ts (fun w hw => ?_) rfl rfl rfl ⟨rfl, ca.1.2.2.1⟩ (hR_of hR' hF hL)) ⟨pcE_blind, ?_, pcE_at C hH hS⟩ rfl (by rw [List.length_map]; exact hn) hl.1.1 rfl (lv_room (by rw [cats_map]; exact hw)) d ⟨by omega, by omega⟩) (fun r2 n2 h2 hz => by obtain ⟨rfl, rfl, rfl⟩ := hz; exact k)
  · unfold wsV at hw
    rcases List.mem_append.mp hw with hw | hw
    · refine tb_good w ?_
      simp only [List.mem_cons, List.not_mem_nil, or_false] at hw
      rcases hw with rfl | rfl | rfl | rfl
      · exact ca.2.1
      · exact ca.2.2.1
      · exact ca.2.2.2
      · exact ca.1.2.1
    · exact wsM_good ca.1 w hw
  · have := va_recv C.hK hH.2.2.1 hcr (hs_at hH hbn hc)
    rw [hcl] at this
    exact this
theorem ev_callS {idx na b1 b2 F' L' : Nat} {M' : Mt} {As rest : List Value} {r : Option Value} {n' : Nat} {h' : Nat → PC} (d : decode M.2.1 pc = .ok (.invokestatic idx, 3)) (ca : CS M.1.cls idx M' na) (hn : As.length = na) (hlen : (entA As).length ≤ M'.2.2.1) (hw : (rest.map fun v => v.category).sum ≤ 8) (hF : F' + 1 ≤ F) (hL : 19 + M'.2.2.1 + L' ≤ L) (hb1 : b1 ≤ B1) (hb2 : b2 ≤ B2)
    (hR : Rn xl xs F' L' b1 b2 M' As n h r n' h') (hq : pc + 3 = q) (k : Ev xl xs F L (B1 - b1) (B2 - b2) M q lv (r.toList ++ rest) n' h' Q) : Ev xl xs F L B1 B2 M pc lv (As.reverse ++ rest) n h Q := by
  subst hq
  intro p l e R s m args below meth cc Z D cA sz zd n0 ad0 CM SM C ad H locs cells slots ls hH hE hS h1 h2 hl o1 o2
  have oA : okl n As := fun v hv => o2 v (by simp [hv])
  have oR : okl n rest := fun v hv => o2 v (by simp [hv])
  have hM := ev_met l D cA sz zd ad ca.1 hlen oA (hR (fun r2 n2 h2 => r2 = r ∧ n2 = n' ∧ h2 = h') ⟨rfl, rfl, rfl⟩)
  have hR' := C.hR
  rw [List.map_append, List.map_reverse]
  refine ev_back C hE hS h1 h2 hb1 hb2 hl o1 oR (va_runS (As := As.map (mv ad)) (rest := rest.map (mv ad)) (Ts := TB) (own := M.1.cls) (n := na) ⟨C.hx, C.hb, C.hml, C.own, C.ts⟩ hM ⟨callB_of na C.ts (wsM_good ca.1) rfl rfl rfl (C.ts _ ca.1.2.1) (C.ts _ ca.2.1) ca.1.2.2.1 (hR_of hR' hF hL), C.ts _ ca.2.2⟩ ⟨pcE_blind, pcE_at C hH hS⟩ rfl (by rw [List.length_map]; exact hn) hl.1.1 rfl (lv_room (by rw [cats_map]; exact hw)) d ⟨by omega, by omega⟩) (fun r2 n2 h2 hz => by obtain ⟨rfl, rfl, rfl⟩ := hz; exact k)
theorem ev_callSn {idx na b1 b2 F' L' : Nat} {M' : Mt} {As rest : List Value} {r : Option Value} {n' : Nat} {h' : Nat → PC} (d : decode M.2.1 pc = .ok (.invokestatic idx, 3)) (ca : CSn M.1.cls idx M' na) (hn : As.length = na) (hlen : (entA As).length ≤ M'.2.2.1) (hw : (rest.map fun v => v.category).sum ≤ 8) (hF : F' + 1 ≤ F) (hL : 19 + M'.2.2.1 + L' ≤ L) (hb1 : b1 ≤ B1) (hb2 : b2 ≤ B2)
    (hR : Rn xl xs F' L' b1 b2 M' As n h r n' h') (hq : pc + 3 = q) (k : Ev xl xs F L (B1 - b1) (B2 - b2) M q lv (r.toList ++ rest) n' h' Q) : Ev xl xs F L B1 B2 M pc lv (As.reverse ++ rest) n h Q := by
  subst hq
  intro p l e R s m args below meth cc Z D cA sz zd n0 ad0 CM SM C ad H locs cells slots ls hH hE hS h1 h2 hl o1 o2
  have oA : okl n As := fun v hv => o2 v (by simp [hv])
  have oR : okl n rest := fun v hv => o2 v (by simp [hv])
  have hM := ev_met l D cA sz zd ad ca.1 hlen oA (hR (fun r2 n2 h2 => r2 = r ∧ n2 = n' ∧ h2 = h') ⟨rfl, rfl, rfl⟩)
  have hR' := C.hR
  obtain ⟨cb, ⟨host, hlk⟩, hst⟩ := ca
  rw [List.map_append, List.map_reverse]
  refine ev_back C hE hS h1 h2 hb1 hb2 hl o1 oR (va_runSN (As := As.map (mv ad)) (rest := rest.map (mv ad)) (Ts := TB) (own := M.1.cls) (host := host) (n := na) ⟨C.hx, C.hb, C.hml, C.own, C.ts⟩ hM ⟨va_cnB na C.ts (wsM_good cb) rfl rfl rfl (C.nw _ hlk) (C.ts _ cb.2.1) cb.2.2.1 (hR_of hR' hF hL), C.ts _ hst, trivial⟩ ⟨pcE_blind, pcE_at C hH hS⟩ rfl (by rw [List.length_map]; exact hn) hl.1.1 rfl (lv_room (by rw [cats_map]; exact hw)) d ⟨by omega, by omega⟩) (fun r2 n2 h2 hz => by obtain ⟨rfl, rfl, rfl⟩ := hz; exact k)
theorem ev_callI {idx na b b1 b2 F' L' : Nat} {M' : Mt} {As rest : List Value} {r : Option Value} {n' : Nat} {h' : Nat → PC} (d : decode M.2.1 pc = .ok (.invokespecial idx, 3)) (ca : CN M.1.cls idx M' na) (hn : As.length = na) (hlen : (entA (.ref b :: As)).length ≤ M'.2.2.1) (hw : (rest.map fun v => v.category).sum ≤ 8) (hF : F' + 1 ≤ F) (hL : 19 + M'.2.2.1 + L' ≤ L) (hb1 : b1 ≤ B1) (hb2 : b2 ≤ B2)
    (hR : Rn xl xs F' L' b1 b2 M' (.ref b :: As) n h r n' h') (hq : pc + 3 = q) (k : Ev xl xs F L (B1 - b1) (B2 - b2) M q lv (r.toList ++ rest) n' h' Q) : Ev xl xs F L B1 B2 M pc lv (As.reverse ++ .ref b :: rest) n h Q := by
  subst hq
  intro p l e R s m args below meth cc Z D cA sz zd n0 ad0 CM SM C ad H locs cells slots ls hH hE hS h1 h2 hl o1 o2
  have oA : okl n (.ref b :: As) := fun v hv => o2 v (by
    rcases List.mem_cons.mp hv with e | e
    · rw [e]; simp
    · simp [e])
  have oR : okl n rest := fun v hv => o2 v (by simp [hv])
  have hM := ev_met l D cA sz zd ad ca.1 hlen oA (hR (fun r2 n2 h2 => r2 = r ∧ n2 = n' ∧ h2 = h') ⟨rfl, rfl, rfl⟩)
  have hR' := C.hR
  obtain ⟨cb, hlk, hin, hnm, hre⟩ := ca
  rw [List.map_append, List.map_reverse, List.map_cons]
  refine ev_back C hE hS h1 h2 hb1 hb2 hl o1 oR (va_runI (As := As.map (mv ad)) (rest := rest.map (mv ad)) (Ts := TB) (own := M.1.cls) (n := na) (b := ad b) ⟨C.hx, C.hb, C.hml, C.own, C.ts⟩ hM ⟨callB_of na C.ts (wsM_good cb) (by unfold wsM; rw [hre]) rfl rfl (C.ts _ cb.2.1) (C.ts _ hlk) cb.2.2.1 (hR_of hR' hF hL), hnm, C.ts _ hin⟩ ⟨pcE_blind, pcE_at C hH hS⟩ rfl (by rw [List.length_map]; exact hn) hl.1.1 rfl (lv_room (by rw [cats_map]; exact hw)) d ⟨by omega, by omega⟩) (fun r2 n2 h2 hz => by obtain ⟨rfl, rfl, rfl⟩ := hz; exact k)
theorem ev_callIn {idx na b b1 b2 F' L' : Nat} {M' : Mt} {As rest : List Value} {r : Option Value} {n' : Nat} {h' : Nat → PC} (d : decode M.2.1 pc = .ok (.invokespecial idx, 3)) (ca : CNn M.1.cls idx M' na) (hn : As.length = na) (hlen : (entA (.ref b :: As)).length ≤ M'.2.2.1) (hw : (rest.map fun v => v.category).sum ≤ 8) (hF : F' + 1 ≤ F) (hL : 19 + M'.2.2.1 + L' ≤ L) (hb1 : b1 ≤ B1) (hb2 : b2 ≤ B2)
    (hR : Rn xl xs F' L' b1 b2 M' (.ref b :: As) n h r n' h') (hq : pc + 3 = q) (k : Ev xl xs F L (B1 - b1) (B2 - b2) M q lv (r.toList ++ rest) n' h' Q) : Ev xl xs F L B1 B2 M pc lv (As.reverse ++ .ref b :: rest) n h Q := by
  subst hq
  intro p l e R s m args below meth cc Z D cA sz zd n0 ad0 CM SM C ad H locs cells slots ls hH hE hS h1 h2 hl o1 o2
  have oA : okl n (.ref b :: As) := fun v hv => o2 v (by
    rcases List.mem_cons.mp hv with e | e
    · rw [e]; simp
    · simp [e])
  have oR : okl n rest := fun v hv => o2 v (by simp [hv])
  have hM := ev_met l D cA sz zd ad ca.1 hlen oA (hR (fun r2 n2 h2 => r2 = r ∧ n2 = n' ∧ h2 = h') ⟨rfl, rfl, rfl⟩)
  have hR' := C.hR
  obtain ⟨cb, ⟨host, hlk⟩, hin, hnm, hre⟩ := ca
  rw [List.map_append, List.map_reverse, List.map_cons]
  refine ev_back C hE hS h1 h2 hb1 hb2 hl o1 oR (va_runIN (As := As.map (mv ad)) (rest := rest.map (mv ad)) (Ts := TB) (own := M.1.cls) (host := host) (n := na) (b := ad b) ⟨C.hx, C.hb, C.hml, C.own, C.ts⟩ hM ⟨va_cnB na C.ts (wsM_good cb) (by unfold wsM; rw [hre]) rfl rfl (C.nw _ hlk) (C.ts _ cb.2.1) cb.2.2.1 (hR_of hR' hF hL), hnm, C.ts _ hin⟩ ⟨pcE_blind, pcE_at C hH hS⟩ rfl (by rw [List.length_map]; exact hn) hl.1.1 rfl (lv_room (by rw [cats_map]; exact hw)) d ⟨by omega, by omega⟩) (fun r2 n2 h2 hz => by obtain ⟨rfl, rfl, rfl⟩ := hz; exact k)
end CALL3
end
section
section MAKE
variable {xl : Nat} {xs : Nat → Int32} {F L B1 B2 : Nat} {M : Mt} {pc : Nat} {lv lv' : List (Option Value)} {st : List Value} {n : Nat} {h : Nat → PC} {Q : QT} {q : Nat}
def NC (own : String) (idx ci N : Nat) (fs : List Value) : Prop := ∃ (C : String) (T : u_T) (tf : Nat → FieldType), CI ci C T N tf ∧ Cond.classLink own idx C ∈ TB ∧ Cond.instantiable C N ∈ TB ∧ Cond.initialized C ∈ TB ∧ (∀ j, j < N → defaultValue (tf j) = vp_V fs j) ∧ okl 0 fs ∧ ∀ ad, fs.map (mv ad) = fs
theorem hs_push {D : va_G} {cA : Nat → ClassId} {sz : Nat} {zd ad : Nat → Nat} {n : Nat} {h : Nat → PC} {H H1 : Heap} {a : Nat} {c : PC} {e : va_E} (hn : n < 1000) (hH : Hs D cA sz zd ad n h H) (ho : okc 0 c) (he : mcell cA (va_up ad n a) c = e) (hP : va_P D vwCl (wsOf cA ad n h ++ [(a, e)]) H1) (hD : va_D (fun q => sz ≤ q) (wsOf cA ad n h ++ [(a, e)])) : Hs D cA sz zd (va_up ad n a) (n + 1) (hup h n c) H1 := by
  rw [wsOf_push hn hH.2.1 he] at hP hD
  refine ⟨by omega, fun k hk => ?_, hP, hD, fun k hk => ?_⟩
  · unfold hup
    split
    · exact okc_mono (Nat.zero_le _) ho
    · exact okc_mono (Nat.le_succ _) (hH.2.1 k (by omega))
  · have : k ≠ n := by omega
    simp only [va_up, this, if_false]
    exact hH.2.2.2.2 k hk
theorem ext_push {n0 n : Nat} {ad0 ad : Nat → Nat} (hn : n < 1000) (a : Nat) (h : Ext n0 ad0 n ad) : Ext n0 ad0 (n + 1) (va_up ad n a) := h.tr ⟨by omega, fun q hq => by
  have : q ≠ n := by omega
  simp [va_up, this]⟩
theorem push_ag {n : Nat} {ad : Nat → Nat} (hn : n < 1000) (a : Nat) : ∀ x, (x < n ∨ 1000 ≤ x) → va_up ad n a x = ad x := fun x hx => by
  have : x ≠ n := by omega
  simp [va_up, this]
theorem lh_ag {ls : Array Slot} {nL n : Nat} {ad ad' : Nat → Nat} {lv : List (Option Value)} (hag : ∀ x, (x < n ∨ 1000 ≤ x) → ad' x = ad x) (o1 : okL n lv) (hl : LH ls nL ad lv) : LH ls nL ad' lv := ⟨hl.1, hl.2.1, fun i w hi => by
    rw [mv_eq hag (o1 w (List.mem_of_getElem? hi))]
    exact hl.2.2 i w hi⟩
theorem ev_new {idx ci N : Nat} {fs : List Value} (d : decode M.2.1 pc = .ok (.new idx, 3)) (nc : NC M.1.cls idx ci N fs) (hn : n < 1000) (hb1 : 1 ≤ B1) (hb2 : N ≤ B2) (hq : pc + 3 = q) (k : Ev xl xs F L (B1 - 1) (B2 - N) M q lv (.ref n :: st) (n + 1) (hup h n (.inr (ci, fs))) Q) : Ev xl xs F L B1 B2 M pc lv st n h Q := by
  subst hq
  obtain ⟨C0, T, tf, ⟨c1, c2, c3, c4⟩, w1, w2, w3, hfs, ho, hm⟩ := nc
  intro p l e R s m args below meth cc Z D cA sz zd n0 ad0 CM SM C ad H locs cells slots ls hH hE hS h1 h2 hl o1 o2
  have hR := C.hR
  refine va_new (D := D) (ci := ci) (fs := fs) (C := C0) (T := T) (N := N) C.hx C.hb C.ts c2 tf c3 C.own (C.ts _ w1) (C.ts _ w2) (C.ts _ w3) C.hK hH.2.2.1 hH.2.2.2.1 hS C.hA c1 hfs (by omega) (by omega) d (fun a H1 hP hD hS1 => ?_)
  have hag := push_ag (ad := ad) hn a
  have kk := k _ _ _ _ _ _ _ _ _ _ _ _ _ _ _ _ _ _ _ C (va_up ad n a) H1 locs (cells + 1) (slots + N) ls (hs_push hn hH (c := .inr (ci, fs)) ho (by show (Sum.inr (ci, fs.map (mv (va_up ad n a))) : va_E) = _; rw [hm]) hP hD) (ext_push hn a hE) hS1 (by omega) (by omega) (lh_ag hag o1 hl) (okL_mono (Nat.le_succ _) o1) (okl_c (show okv (n + 1) (.ref n) from Or.inl (Nat.lt_succ_self n)) (okl_mono (Nat.le_succ _) o2))
  rw [List.map_cons, mvl_eq hag o2] at kk
  have e9 : mv (va_up ad n a) (.ref n) = .ref a := by show Value.ref (va_up ad n a n) = _; simp [va_up]
  rw [e9] at kk
  exact kk
theorem ev_newI {i : Int32} {N' : Nat} (d : decode M.2.1 pc = .ok (.newarray .int, 2)) (hw : Cond.arrayClass .int ∈ TB) (hi : ¬ i < 0) (hN : i.toNatClampNeg = N') (hN2 : N' ≤ 1000) (hn : n < 1000) (hb1 : 1 ≤ B1) (hb2 : N' ≤ B2) (hq : pc + 2 = q) (k : Ev xl xs F L (B1 - 1) (B2 - N') M q lv (.ref n :: st) (n + 1) (hup h n (.inl (0, N', .inl (fun _ => 0)))) Q) : Ev xl xs F L B1 B2 M pc lv (.int i :: st) n h Q := by
  subst hq
  intro p l e R s m args below meth cc Z D cA sz zd n0 ad0 CM SM C ad H locs cells slots ls hH hE hS h1 h2 hl o1 o2
  have hR := C.hR
  refine va_newa (D := D) (atype := .int) (ty := .int) (a0 := (N', .inl (fun _ => 0))) C.hx C.hb (C.ts _ hw) rfl C.hK hH.2.2.1 hH.2.2.2.1 hS C.hA (fun _ => rfl) hi hN (Nat.le_trans (Nat.mul_le_mul hN2 (show componentBytes .int ≤ 8 by decide)) (by decide)) (by omega) (by omega) d (fun a cX H1 hK1 hP hD hS1 => ?_)
  have ecx : cX = cA 0 := by
    have r1 := (C.hK.2 0 _ rfl).2
    have r2 := (hK1.2 4 _ rfl).2
    exact Option.some.inj ((show s.vm.findClass _ = some cX from r2).symm.trans (show s.vm.findClass _ = some (cA 0) from r1))
  subst ecx
  have hag := push_ag (ad := ad) hn a
  have kk := k _ _ _ _ _ _ _ _ _ _ _ _ _ _ _ _ _ _ _ C (va_up ad n a) H1 locs (cells + 1) (slots + N') ls (hs_push hn hH (c := .inl (0, N', .inl (fun _ => 0))) trivial rfl hP hD) (ext_push hn a hE) hS1 (by omega) (by omega) (lh_ag hag o1 hl) (okL_mono (Nat.le_succ _) o1) (okl_c (show okv (n + 1) (.ref n) from Or.inl (Nat.lt_succ_self n)) (okl_mono (Nat.le_succ _) (okl_t o2)))
  rw [List.map_cons, mvl_eq hag (okl_t o2)] at kk
  have e9 : mv (va_up ad n a) (.ref n) = .ref a := by show Value.ref (va_up ad n a n) = _; simp [va_up]
  rw [e9] at kk
  exact kk
theorem ev_newZ {i : Int32} {N' : Nat} (d : decode M.2.1 pc = .ok (.newarray .boolean, 2)) (hw : Cond.arrayClass .boolean ∈ TB) (hi : ¬ i < 0) (hN : i.toNatClampNeg = N') (hN2 : N' ≤ 1000) (hn : n < 1000) (hb1 : 1 ≤ B1) (hb2 : N' ≤ B2) (hq : pc + 2 = q) (k : Ev xl xs F L (B1 - 1) (B2 - N') M q lv (.ref n :: st) (n + 1) (hup h n (.inl (2, N', .inl (fun _ => 0)))) Q) : Ev xl xs F L B1 B2 M pc lv (.int i :: st) n h Q := by
  subst hq
  intro p l e R s m args below meth cc Z D cA sz zd n0 ad0 CM SM C ad H locs cells slots ls hH hE hS h1 h2 hl o1 o2
  have hR := C.hR
  refine va_newa (D := D) (atype := .boolean) (ty := .boolean) (a0 := (N', .inl (fun _ => 0))) C.hx C.hb (C.ts _ hw) rfl C.hK hH.2.2.1 hH.2.2.2.1 hS C.hA (fun _ => rfl) hi hN (Nat.le_trans (Nat.mul_le_mul hN2 (show componentBytes .boolean ≤ 8 by decide)) (by decide)) (by omega) (by omega) d (fun a cX H1 hK1 hP hD hS1 => ?_)
  have ecx : cX = cA 2 := by
    have r1 := (C.hK.2 2 _ rfl).2
    have r2 := (hK1.2 4 _ rfl).2
    exact Option.some.inj ((show s.vm.findClass _ = some cX from r2).symm.trans (show s.vm.findClass _ = some (cA 2) from r1))
  subst ecx
  have hag := push_ag (ad := ad) hn a
  have kk := k _ _ _ _ _ _ _ _ _ _ _ _ _ _ _ _ _ _ _ C (va_up ad n a) H1 locs (cells + 1) (slots + N') ls (hs_push hn hH (c := .inl (2, N', .inl (fun _ => 0))) trivial rfl hP hD) (ext_push hn a hE) hS1 (by omega) (by omega) (lh_ag hag o1 hl) (okL_mono (Nat.le_succ _) o1) (okl_c (show okv (n + 1) (.ref n) from Or.inl (Nat.lt_succ_self n)) (okl_mono (Nat.le_succ _) (okl_t o2)))
  rw [List.map_cons, mvl_eq hag (okl_t o2)] at kk
  have e9 : mv (va_up ad n a) (.ref n) = .ref a := by show Value.ref (va_up ad n a n) = _; simp [va_up]
  rw [e9] at kk
  exact kk
theorem ev_newJ {i : Int32} {N' : Nat} (d : decode M.2.1 pc = .ok (.newarray .long, 2)) (hw : Cond.arrayClass .long ∈ TB) (hi : ¬ i < 0) (hN : i.toNatClampNeg = N') (hN2 : N' ≤ 1000) (hn : n < 1000) (hb1 : 1 ≤ B1) (hb2 : N' ≤ B2) (hq : pc + 2 = q) (k : Ev xl xs F L (B1 - 1) (B2 - N') M q lv (.ref n :: st) (n + 1) (hup h n (.inl (1, N', .inr (.inl (fun _ => 0))))) Q) : Ev xl xs F L B1 B2 M pc lv (.int i :: st) n h Q := by
  subst hq
  intro p l e R s m args below meth cc Z D cA sz zd n0 ad0 CM SM C ad H locs cells slots ls hH hE hS h1 h2 hl o1 o2
  have hR := C.hR
  refine va_newa (D := D) (atype := .long) (ty := .long) (a0 := (N', .inr (.inl (fun _ => 0)))) C.hx C.hb (C.ts _ hw) rfl C.hK hH.2.2.1 hH.2.2.2.1 hS C.hA (fun _ => rfl) hi hN (Nat.le_trans (Nat.mul_le_mul hN2 (show componentBytes .long ≤ 8 by decide)) (by decide)) (by omega) (by omega) d (fun a cX H1 hK1 hP hD hS1 => ?_)
  have ecx : cX = cA 1 := by
    have r1 := (C.hK.2 1 _ rfl).2
    have r2 := (hK1.2 4 _ rfl).2
    exact Option.some.inj ((show s.vm.findClass _ = some cX from r2).symm.trans (show s.vm.findClass _ = some (cA 1) from r1))
  subst ecx
  have hag := push_ag (ad := ad) hn a
  have kk := k _ _ _ _ _ _ _ _ _ _ _ _ _ _ _ _ _ _ _ C (va_up ad n a) H1 locs (cells + 1) (slots + N') ls (hs_push hn hH (c := .inl (1, N', .inr (.inl (fun _ => 0)))) trivial rfl hP hD) (ext_push hn a hE) hS1 (by omega) (by omega) (lh_ag hag o1 hl) (okL_mono (Nat.le_succ _) o1) (okl_c (show okv (n + 1) (.ref n) from Or.inl (Nat.lt_succ_self n)) (okl_mono (Nat.le_succ _) (okl_t o2)))
  rw [List.map_cons, mvl_eq hag (okl_t o2)] at kk
  have e9 : mv (va_up ad n a) (.ref n) = .ref a := by show Value.ref (va_up ad n a n) = _; simp [va_up]
  rw [e9] at kk
  exact kk
theorem ev_newA {idx : Nat} {i : Int32} {N' : Nat} (d : decode M.2.1 pc = .ok (.anewarray idx, 3)) (hw : Cond.classLink M.1.cls idx "WishLamp$State" ∈ TB) (hi : ¬ i < 0) (hN : i.toNatClampNeg = N') (hN2 : N' ≤ 1000) (hn : n < 1000) (hb1 : 1 ≤ B1) (hb2 : N' ≤ B2) (hq : pc + 3 = q) (k : Ev xl xs F L (B1 - 1) (B2 - N') M q lv (.ref n :: st) (n + 1) (hup h n (.inl (3, N', .inr (.inr (.inr (.inr (fun _ => none))))))) Q) : Ev xl xs F L B1 B2 M pc lv (.int i :: st) n h Q := by
  subst hq
  intro p l e R s m args below meth cc Z D cA sz zd n0 ad0 CM SM C ad H locs cells slots ls hH hE hS h1 h2 hl o1 o2
  have hR := C.hR
  refine va_newq (D := D) (C := "WishLamp$State") C.hx C.hb C.own (C.ts _ hw) C.ao C.hK hH.2.2.1 hH.2.2.2.1 hS C.hA hi hN (by omega) (by omega) (by omega) d (fun a cX H1 hK1 hP hD hS1 => ?_)
  have ecx : cX = cA 3 := by
    obtain ⟨_, _, _, _, _, r1⟩ := (C.hK.2 3 _ rfl).2
    obtain ⟨_, _, _, _, _, r2⟩ := (hK1.2 4 _ rfl).2
    exact Option.some.inj (r2.symm.trans r1)
  subst ecx
  have hag := push_ag (ad := ad) hn a
  have kk := k _ _ _ _ _ _ _ _ _ _ _ _ _ _ _ _ _ _ _ C (va_up ad n a) H1 locs (cells + 1) (slots + N') ls (hs_push hn hH (c := .inl (3, N', .inr (.inr (.inr (.inr (fun _ => none)))))) (fun j q hj => by cases hj) rfl hP hD) (ext_push hn a hE) hS1 (by omega) (by omega) (lh_ag hag o1 hl) (okL_mono (Nat.le_succ _) o1) (okl_c (show okv (n + 1) (.ref n) from Or.inl (Nat.lt_succ_self n)) (okl_mono (Nat.le_succ _) (okl_t o2)))
  rw [List.map_cons, mvl_eq hag (okl_t o2)] at kk
  have e9 : mv (va_up ad n a) (.ref n) = .ref a := by show Value.ref (va_up ad n a n) = _; simp [va_up]
  rw [e9] at kk
  exact kk
theorem ev_obj {idx a : Nat} (d : decode M.2.1 pc = .ok (.invokespecial idx, 3)) (w1 : Cond.methodLink M.1.cls idx objectInit ∈ TB) (w2 : Cond.instanceMethod objectInit ∈ TB) (w3 : Cond.code objectInit ⟨#[0xb1]⟩ 1 none ∈ TB) (hF : 1 ≤ F) (hL : (st.map fun v => v.category).sum + 12 ≤ L) (hq : pc + 3 = q) (k : Ev xl xs F L B1 B2 M q lv st n h Q) : Ev xl xs F L B1 B2 M pc lv (.ref a :: st) n h Q := by
  subst hq
  intro p l e R s m args below meth cc Z D cA sz zd n0 ad0 CM SM C ad H locs cells slots ls hH hE hS h1 h2 hl o1 o2
  have hR := C.hR
  refine W.objInit C.hx C.hb C.own (C.ts _ w1) (C.ts _ w2) (C.ts _ w3) (g := F0 m pc ls (Value.ref (ad a) :: st.map (mv ad))) rfl (hl.1.1.trans C.hml.symm) (a := ad a) (rest := st.map (mv ad)) rfl d (Nat.le_trans hF hR.1) ?_ (k _ _ _ _ _ _ _ _ _ _ _ _ _ _ _ _ _ _ _ C ad H locs cells slots ls hH hE hS h1 h2 hl o1 (okl_t o2))
  rw [cats_map]
  show 2 * 0 + _ + 12 ≤ _
  omega
def arrC : Prop := Cond.native arraycopyName ∈ TB ∧ Cond.static arraycopyName ∈ TB ∧ Cond.initialized "java/lang/System" ∈ TB
theorem ev_copyI {idx a b na nb : Nat} {f g : Nat → Int32} {sp dp len : Int32} (d : decode M.2.1 pc = .ok (.invokestatic idx, 3)) (w0 : Cond.methodLink M.1.cls idx arraycopyName ∈ TB) (w : arrC) (ha : h a = .inl (0, na, .inl f)) (han : a < n) (hb : h b = .inl (0, nb, .inl g)) (hbn : b < n) (h1 : ¬ sp < 0) (h2 : ¬ dp < 0) (h3 : ¬ len < 0) (h4 : sp.toNatClampNeg + len.toNatClampNeg ≤ na) (h5 : dp.toNatClampNeg + len.toNatClampNeg ≤ nb) (hF : 1 ≤ F) (hL : (st.map fun v => v.category).sum + (nativeFrameWords "java/lang/System" "arraycopy" 5 + 11) ≤ L) (hq : pc + 3 = q)
    (k : Ev xl xs F L B1 B2 M q lv st n (hup h b (.inl (0, nb, .inl (va_cpy f g sp.toNatClampNeg dp.toNatClampNeg len.toNatClampNeg)))) Q) : Ev xl xs F L B1 B2 M pc lv (.int len :: .int dp :: .ref b :: .int sp :: .ref a :: st) n h Q := by
  subst hq
  intro p l e R s m args below meth cc Z D cA sz zd n0 ad0 CM SM C ad H locs cells slots ls hH hE hS g1 g2 hl o1 o2
  have hR := C.hR
  exact va_copyi (D := D) C.hx C.hb (C.hml.trans hl.1.1.symm) C.own (C.ts _ w0) (C.ts _ w.1) (C.ts _ w.2.1) (C.ts _ w.2.2) C.hK hH.2.2.1 hH.2.2.2.1 hS a b 0 0 (hs_at hH han ha) (hs_at hH hbn hb) rfl rfl rfl h1 h2 h3 h4 h5 (fun _ _ => rfl) (Nat.le_trans hF hR.1) (by rw [cats_map]; exact Nat.le_trans hL hR.2.1) d (fun H1 locs1 hP hD hS1 => k _ _ _ _ _ _ _ _ _ _ _ _ _ _ _ _ _ _ _ C ad H1 locs1 cells slots ls (hs_up hH (c := .inl (0, nb, .inl (va_cpy f g sp.toNatClampNeg dp.toNatClampNeg len.toNatClampNeg))) trivial rfl hP hD) hE hS1 g1 g2 hl o1 (okl_t (okl_t (okl_t (okl_t (okl_t o2))))))
theorem ev_copyJ {idx a b na nb : Nat} {f g : Nat → Int64} {sp dp len : Int32} (d : decode M.2.1 pc = .ok (.invokestatic idx, 3)) (w0 : Cond.methodLink M.1.cls idx arraycopyName ∈ TB) (w : arrC) (ha : h a = .inl (1, na, .inr (.inl f))) (han : a < n) (hb : h b = .inl (1, nb, .inr (.inl g))) (hbn : b < n) (h1 : ¬ sp < 0) (h2 : ¬ dp < 0) (h3 : ¬ len < 0) (h4 : sp.toNatClampNeg + len.toNatClampNeg ≤ na) (h5 : dp.toNatClampNeg + len.toNatClampNeg ≤ nb) (hF : 1 ≤ F) (hL : (st.map fun v => v.category).sum + (nativeFrameWords "java/lang/System" "arraycopy" 5 + 11) ≤ L) (hq : pc + 3 = q)
    (k : Ev xl xs F L B1 B2 M q lv st n (hup h b (.inl (1, nb, .inr (.inl (va_cpy f g sp.toNatClampNeg dp.toNatClampNeg len.toNatClampNeg))))) Q) : Ev xl xs F L B1 B2 M pc lv (.int len :: .int dp :: .ref b :: .int sp :: .ref a :: st) n h Q := by
  subst hq
  intro p l e R s m args below meth cc Z D cA sz zd n0 ad0 CM SM C ad H locs cells slots ls hH hE hS g1 g2 hl o1 o2
  have hR := C.hR
  exact va_copyl (D := D) C.hx C.hb (C.hml.trans hl.1.1.symm) C.own (C.ts _ w0) (C.ts _ w.1) (C.ts _ w.2.1) (C.ts _ w.2.2) C.hK hH.2.2.1 hH.2.2.2.1 hS a b 1 1 (hs_at hH han ha) (hs_at hH hbn hb) rfl rfl rfl h1 h2 h3 h4 h5 (fun _ _ => rfl) (Nat.le_trans hF hR.1) (by rw [cats_map]; exact Nat.le_trans hL hR.2.1) d (fun H1 locs1 hP hD hS1 => k _ _ _ _ _ _ _ _ _ _ _ _ _ _ _ _ _ _ _ C ad H1 locs1 cells slots ls (hs_up hH (c := .inl (1, nb, .inr (.inl (va_cpy f g sp.toNatClampNeg dp.toNatClampNeg len.toNatClampNeg)))) trivial rfl hP hD) hE hS1 g1 g2 hl o1 (okl_t (okl_t (okl_t (okl_t (okl_t o2))))))
end MAKE
end
section
section ROWS2
variable {xl : Nat} {xs : Nat → Int32} {F L B1 B2 : Nat} {M : Mt} {pc : Nat} {st : List Value} {n : Nat} {h : Nat → PC} {Q : QT} {q : Nat}
theorem ev_ist_0 {a0 : Option Value} {t : List (Option Value)} {x : Int32} (d : decode M.2.1 pc = .ok (.istore_n 0, 1)) (hq : pc + 1 = q) (k : Ev xl xs F L B1 B2 M q (some (.int x) :: t) st n h Q) : Ev xl xs F L B1 B2 M pc (a0 :: t) (.int x :: st) n h Q := by
  subst hq
  exact ev_istore_n (lv' := (some (.int x) :: t)) d (by show 0 < _; simp only [List.length_cons]; omega) (rfl) rfl k
theorem ev_inc_0 {t : List (Option Value)} {x : Int32} {z : Int} (v : Int32) (d : decode M.2.1 pc = .ok (.iinc 0 z, 3)) (hv : x + Int32.ofInt z = v) (hq : pc + 3 = q) (k : Ev xl xs F L B1 B2 M q (some (.int v) :: t) st n h Q) : Ev xl xs F L B1 B2 M pc (some (.int x) :: t) st n h Q := by
  subst hq
  exact ev_iinc (x := x) (lv' := (some (.int v) :: t)) v d (by simp) hv (rfl) rfl k
theorem ev_lst_0 {a0 a1 : Option Value} {t : List (Option Value)} {x : Int64} (d : decode M.2.1 pc = .ok (.lstore_n 0, 1)) (hq : pc + 1 = q) (k : Ev xl xs F L B1 B2 M q (some (.long x) :: none :: t) st n h Q) : Ev xl xs F L B1 B2 M pc (a0 :: a1 :: t) (.long x :: st) n h Q := by
  subst hq
  exact ev_lstore_n (lv' := (some (.long x) :: none :: t)) d (by show 0 + 1 < _; simp only [List.length_cons]; omega) (rfl) rfl k
theorem ev_ast_0 {a0 : Option Value} {t : List (Option Value)} {x : Nat} (d : decode M.2.1 pc = .ok (.astore_n 0, 1)) (hq : pc + 1 = q) (k : Ev xl xs F L B1 B2 M q (some (.ref x) :: t) st n h Q) : Ev xl xs F L B1 B2 M pc (a0 :: t) (.ref x :: st) n h Q := by
  subst hq
  exact ev_astore_n (lv' := (some (.ref x) :: t)) d (by show 0 < _; simp only [List.length_cons]; omega) (rfl) rfl k
theorem ev_ist_1 {a0 a1 : Option Value} {t : List (Option Value)} {x : Int32} (d : decode M.2.1 pc = .ok (.istore_n 1, 1)) (hk : kl a0 = a0) (hq : pc + 1 = q) (k : Ev xl xs F L B1 B2 M q (a0 :: some (.int x) :: t) st n h Q) : Ev xl xs F L B1 B2 M pc (a0 :: a1 :: t) (.int x :: st) n h Q := by
  subst hq
  exact ev_istore_n (lv' := (a0 :: some (.int x) :: t)) d (by show 1 < _; simp only [List.length_cons]; omega) (by simp only [st1, hk]) rfl k
theorem ev_istk_1 {a1 : Option Value} {t : List (Option Value)} {x : Int32} {y : Int64} (d : decode M.2.1 pc = .ok (.istore_n 1, 1)) (hq : pc + 1 = q) (k : Ev xl xs F L B1 B2 M q (none :: some (.int x) :: t) st n h Q) : Ev xl xs F L B1 B2 M pc (some (.long y) :: a1 :: t) (.int x :: st) n h Q := by
  subst hq
  exact ev_istore_n (lv' := (none :: some (.int x) :: t)) d (by show 1 < _; simp only [List.length_cons]; omega) rfl rfl k
theorem ev_inc_1 {a0 : Option Value} {t : List (Option Value)} {x : Int32} {z : Int} (v : Int32) (d : decode M.2.1 pc = .ok (.iinc 1 z, 3)) (hv : x + Int32.ofInt z = v) (hk : kl a0 = a0) (hq : pc + 3 = q) (k : Ev xl xs F L B1 B2 M q (a0 :: some (.int v) :: t) st n h Q) : Ev xl xs F L B1 B2 M pc (a0 :: some (.int x) :: t) st n h Q := by
  subst hq
  exact ev_iinc (x := x) (lv' := (a0 :: some (.int v) :: t)) v d (by simp) hv (by simp only [st1, hk]) rfl k
theorem ev_lst_1 {a0 a1 a2 : Option Value} {t : List (Option Value)} {x : Int64} (d : decode M.2.1 pc = .ok (.lstore_n 1, 1)) (hk : kl a0 = a0) (hq : pc + 1 = q) (k : Ev xl xs F L B1 B2 M q (a0 :: some (.long x) :: none :: t) st n h Q) : Ev xl xs F L B1 B2 M pc (a0 :: a1 :: a2 :: t) (.long x :: st) n h Q := by
  subst hq
  exact ev_lstore_n (lv' := (a0 :: some (.long x) :: none :: t)) d (by show 1 + 1 < _; simp only [List.length_cons]; omega) (by simp only [st2, hk]) rfl k
theorem ev_ast_1 {a0 a1 : Option Value} {t : List (Option Value)} {x : Nat} (d : decode M.2.1 pc = .ok (.astore_n 1, 1)) (hk : kl a0 = a0) (hq : pc + 1 = q) (k : Ev xl xs F L B1 B2 M q (a0 :: some (.ref x) :: t) st n h Q) : Ev xl xs F L B1 B2 M pc (a0 :: a1 :: t) (.ref x :: st) n h Q := by
  subst hq
  exact ev_astore_n (lv' := (a0 :: some (.ref x) :: t)) d (by show 1 < _; simp only [List.length_cons]; omega) (by simp only [st1, hk]) rfl k
theorem ev_ist_2 {a0 a1 a2 : Option Value} {t : List (Option Value)} {x : Int32} (d : decode M.2.1 pc = .ok (.istore_n 2, 1)) (hk : kl a1 = a1) (hq : pc + 1 = q) (k : Ev xl xs F L B1 B2 M q (a0 :: a1 :: some (.int x) :: t) st n h Q) : Ev xl xs F L B1 B2 M pc (a0 :: a1 :: a2 :: t) (.int x :: st) n h Q := by
  subst hq
  exact ev_istore_n (lv' := (a0 :: a1 :: some (.int x) :: t)) d (by show 2 < _; simp only [List.length_cons]; omega) (by simp only [st1, hk]) rfl k
theorem ev_istk_2 {a0 a2 : Option Value} {t : List (Option Value)} {x : Int32} {y : Int64} (d : decode M.2.1 pc = .ok (.istore_n 2, 1)) (hq : pc + 1 = q) (k : Ev xl xs F L B1 B2 M q (a0 :: none :: some (.int x) :: t) st n h Q) : Ev xl xs F L B1 B2 M pc (a0 :: some (.long y) :: a2 :: t) (.int x :: st) n h Q := by
  subst hq
  exact ev_istore_n (lv' := (a0 :: none :: some (.int x) :: t)) d (by show 2 < _; simp only [List.length_cons]; omega) rfl rfl k
theorem ev_inc_2 {a0 a1 : Option Value} {t : List (Option Value)} {x : Int32} {z : Int} (v : Int32) (d : decode M.2.1 pc = .ok (.iinc 2 z, 3)) (hv : x + Int32.ofInt z = v) (hk : kl a1 = a1) (hq : pc + 3 = q) (k : Ev xl xs F L B1 B2 M q (a0 :: a1 :: some (.int v) :: t) st n h Q) : Ev xl xs F L B1 B2 M pc (a0 :: a1 :: some (.int x) :: t) st n h Q := by
  subst hq
  exact ev_iinc (x := x) (lv' := (a0 :: a1 :: some (.int v) :: t)) v d (by simp) hv (by simp only [st1, hk]) rfl k
theorem ev_lst_2 {a0 a1 a2 a3 : Option Value} {t : List (Option Value)} {x : Int64} (d : decode M.2.1 pc = .ok (.lstore_n 2, 1)) (hk : kl a1 = a1) (hq : pc + 1 = q) (k : Ev xl xs F L B1 B2 M q (a0 :: a1 :: some (.long x) :: none :: t) st n h Q) : Ev xl xs F L B1 B2 M pc (a0 :: a1 :: a2 :: a3 :: t) (.long x :: st) n h Q := by
  subst hq
  exact ev_lstore_n (lv' := (a0 :: a1 :: some (.long x) :: none :: t)) d (by show 2 + 1 < _; simp only [List.length_cons]; omega) (by simp only [st2, hk]) rfl k
theorem ev_ast_2 {a0 a1 a2 : Option Value} {t : List (Option Value)} {x : Nat} (d : decode M.2.1 pc = .ok (.astore_n 2, 1)) (hk : kl a1 = a1) (hq : pc + 1 = q) (k : Ev xl xs F L B1 B2 M q (a0 :: a1 :: some (.ref x) :: t) st n h Q) : Ev xl xs F L B1 B2 M pc (a0 :: a1 :: a2 :: t) (.ref x :: st) n h Q := by
  subst hq
  exact ev_astore_n (lv' := (a0 :: a1 :: some (.ref x) :: t)) d (by show 2 < _; simp only [List.length_cons]; omega) (by simp only [st1, hk]) rfl k
theorem ev_ist_3 {a0 a1 a2 a3 : Option Value} {t : List (Option Value)} {x : Int32} (d : decode M.2.1 pc = .ok (.istore_n 3, 1)) (hk : kl a2 = a2) (hq : pc + 1 = q) (k : Ev xl xs F L B1 B2 M q (a0 :: a1 :: a2 :: some (.int x) :: t) st n h Q) : Ev xl xs F L B1 B2 M pc (a0 :: a1 :: a2 :: a3 :: t) (.int x :: st) n h Q := by
  subst hq
  exact ev_istore_n (lv' := (a0 :: a1 :: a2 :: some (.int x) :: t)) d (by show 3 < _; simp only [List.length_cons]; omega) (by simp only [st1, hk]) rfl k
theorem ev_istk_3 {a0 a1 a3 : Option Value} {t : List (Option Value)} {x : Int32} {y : Int64} (d : decode M.2.1 pc = .ok (.istore_n 3, 1)) (hq : pc + 1 = q) (k : Ev xl xs F L B1 B2 M q (a0 :: a1 :: none :: some (.int x) :: t) st n h Q) : Ev xl xs F L B1 B2 M pc (a0 :: a1 :: some (.long y) :: a3 :: t) (.int x :: st) n h Q := by
  subst hq
  exact ev_istore_n (lv' := (a0 :: a1 :: none :: some (.int x) :: t)) d (by show 3 < _; simp only [List.length_cons]; omega) rfl rfl k
theorem ev_inc_3 {a0 a1 a2 : Option Value} {t : List (Option Value)} {x : Int32} {z : Int} (v : Int32) (d : decode M.2.1 pc = .ok (.iinc 3 z, 3)) (hv : x + Int32.ofInt z = v) (hk : kl a2 = a2) (hq : pc + 3 = q) (k : Ev xl xs F L B1 B2 M q (a0 :: a1 :: a2 :: some (.int v) :: t) st n h Q) : Ev xl xs F L B1 B2 M pc (a0 :: a1 :: a2 :: some (.int x) :: t) st n h Q := by
  subst hq
  exact ev_iinc (x := x) (lv' := (a0 :: a1 :: a2 :: some (.int v) :: t)) v d (by simp) hv (by simp only [st1, hk]) rfl k
theorem ev_lst_3 {a0 a1 a2 a3 a4 : Option Value} {t : List (Option Value)} {x : Int64} (d : decode M.2.1 pc = .ok (.lstore_n 3, 1)) (hk : kl a2 = a2) (hq : pc + 1 = q) (k : Ev xl xs F L B1 B2 M q (a0 :: a1 :: a2 :: some (.long x) :: none :: t) st n h Q) : Ev xl xs F L B1 B2 M pc (a0 :: a1 :: a2 :: a3 :: a4 :: t) (.long x :: st) n h Q := by
  subst hq
  exact ev_lstore_n (lv' := (a0 :: a1 :: a2 :: some (.long x) :: none :: t)) d (by show 3 + 1 < _; simp only [List.length_cons]; omega) (by simp only [st2, hk]) rfl k
theorem ev_ast_3 {a0 a1 a2 a3 : Option Value} {t : List (Option Value)} {x : Nat} (d : decode M.2.1 pc = .ok (.astore_n 3, 1)) (hk : kl a2 = a2) (hq : pc + 1 = q) (k : Ev xl xs F L B1 B2 M q (a0 :: a1 :: a2 :: some (.ref x) :: t) st n h Q) : Ev xl xs F L B1 B2 M pc (a0 :: a1 :: a2 :: a3 :: t) (.ref x :: st) n h Q := by
  subst hq
  exact ev_astore_n (lv' := (a0 :: a1 :: a2 :: some (.ref x) :: t)) d (by show 3 < _; simp only [List.length_cons]; omega) (by simp only [st1, hk]) rfl k
theorem ev_ist_4 {a0 a1 a2 a3 a4 : Option Value} {t : List (Option Value)} {x : Int32} (d : decode M.2.1 pc = .ok (.istore 4, 2)) (hk : kl a3 = a3) (hq : pc + 2 = q) (k : Ev xl xs F L B1 B2 M q (a0 :: a1 :: a2 :: a3 :: some (.int x) :: t) st n h Q) : Ev xl xs F L B1 B2 M pc (a0 :: a1 :: a2 :: a3 :: a4 :: t) (.int x :: st) n h Q := by
  subst hq
  exact ev_istore (lv' := (a0 :: a1 :: a2 :: a3 :: some (.int x) :: t)) d (by show 4 < _; simp only [List.length_cons]; omega) (by simp only [st1, hk]) rfl k
theorem ev_istk_4 {a0 a1 a2 a4 : Option Value} {t : List (Option Value)} {x : Int32} {y : Int64} (d : decode M.2.1 pc = .ok (.istore 4, 2)) (hq : pc + 2 = q) (k : Ev xl xs F L B1 B2 M q (a0 :: a1 :: a2 :: none :: some (.int x) :: t) st n h Q) : Ev xl xs F L B1 B2 M pc (a0 :: a1 :: a2 :: some (.long y) :: a4 :: t) (.int x :: st) n h Q := by
  subst hq
  exact ev_istore (lv' := (a0 :: a1 :: a2 :: none :: some (.int x) :: t)) d (by show 4 < _; simp only [List.length_cons]; omega) rfl rfl k
theorem ev_inc_4 {a0 a1 a2 a3 : Option Value} {t : List (Option Value)} {x : Int32} {z : Int} (v : Int32) (d : decode M.2.1 pc = .ok (.iinc 4 z, 3)) (hv : x + Int32.ofInt z = v) (hk : kl a3 = a3) (hq : pc + 3 = q) (k : Ev xl xs F L B1 B2 M q (a0 :: a1 :: a2 :: a3 :: some (.int v) :: t) st n h Q) : Ev xl xs F L B1 B2 M pc (a0 :: a1 :: a2 :: a3 :: some (.int x) :: t) st n h Q := by
  subst hq
  exact ev_iinc (x := x) (lv' := (a0 :: a1 :: a2 :: a3 :: some (.int v) :: t)) v d (by simp) hv (by simp only [st1, hk]) rfl k
theorem ev_lst_4 {a0 a1 a2 a3 a4 a5 : Option Value} {t : List (Option Value)} {x : Int64} (d : decode M.2.1 pc = .ok (.lstore 4, 2)) (hk : kl a3 = a3) (hq : pc + 2 = q) (k : Ev xl xs F L B1 B2 M q (a0 :: a1 :: a2 :: a3 :: some (.long x) :: none :: t) st n h Q) : Ev xl xs F L B1 B2 M pc (a0 :: a1 :: a2 :: a3 :: a4 :: a5 :: t) (.long x :: st) n h Q := by
  subst hq
  exact ev_lstore (lv' := (a0 :: a1 :: a2 :: a3 :: some (.long x) :: none :: t)) d (by show 4 + 1 < _; simp only [List.length_cons]; omega) (by simp only [st2, hk]) rfl k
theorem ev_ist_5 {a0 a1 a2 a3 a4 a5 : Option Value} {t : List (Option Value)} {x : Int32} (d : decode M.2.1 pc = .ok (.istore 5, 2)) (hk : kl a4 = a4) (hq : pc + 2 = q) (k : Ev xl xs F L B1 B2 M q (a0 :: a1 :: a2 :: a3 :: a4 :: some (.int x) :: t) st n h Q) : Ev xl xs F L B1 B2 M pc (a0 :: a1 :: a2 :: a3 :: a4 :: a5 :: t) (.int x :: st) n h Q := by
  subst hq
  exact ev_istore (lv' := (a0 :: a1 :: a2 :: a3 :: a4 :: some (.int x) :: t)) d (by show 5 < _; simp only [List.length_cons]; omega) (by simp only [st1, hk]) rfl k
theorem ev_istk_5 {a0 a1 a2 a3 a5 : Option Value} {t : List (Option Value)} {x : Int32} {y : Int64} (d : decode M.2.1 pc = .ok (.istore 5, 2)) (hq : pc + 2 = q) (k : Ev xl xs F L B1 B2 M q (a0 :: a1 :: a2 :: a3 :: none :: some (.int x) :: t) st n h Q) : Ev xl xs F L B1 B2 M pc (a0 :: a1 :: a2 :: a3 :: some (.long y) :: a5 :: t) (.int x :: st) n h Q := by
  subst hq
  exact ev_istore (lv' := (a0 :: a1 :: a2 :: a3 :: none :: some (.int x) :: t)) d (by show 5 < _; simp only [List.length_cons]; omega) rfl rfl k
theorem ev_inc_5 {a0 a1 a2 a3 a4 : Option Value} {t : List (Option Value)} {x : Int32} {z : Int} (v : Int32) (d : decode M.2.1 pc = .ok (.iinc 5 z, 3)) (hv : x + Int32.ofInt z = v) (hk : kl a4 = a4) (hq : pc + 3 = q) (k : Ev xl xs F L B1 B2 M q (a0 :: a1 :: a2 :: a3 :: a4 :: some (.int v) :: t) st n h Q) : Ev xl xs F L B1 B2 M pc (a0 :: a1 :: a2 :: a3 :: a4 :: some (.int x) :: t) st n h Q := by
  subst hq
  exact ev_iinc (x := x) (lv' := (a0 :: a1 :: a2 :: a3 :: a4 :: some (.int v) :: t)) v d (by simp) hv (by simp only [st1, hk]) rfl k
theorem ev_lst_5 {a0 a1 a2 a3 a4 a5 a6 : Option Value} {t : List (Option Value)} {x : Int64} (d : decode M.2.1 pc = .ok (.lstore 5, 2)) (hk : kl a4 = a4) (hq : pc + 2 = q) (k : Ev xl xs F L B1 B2 M q (a0 :: a1 :: a2 :: a3 :: a4 :: some (.long x) :: none :: t) st n h Q) : Ev xl xs F L B1 B2 M pc (a0 :: a1 :: a2 :: a3 :: a4 :: a5 :: a6 :: t) (.long x :: st) n h Q := by
  subst hq
  exact ev_lstore (lv' := (a0 :: a1 :: a2 :: a3 :: a4 :: some (.long x) :: none :: t)) d (by show 5 + 1 < _; simp only [List.length_cons]; omega) (by simp only [st2, hk]) rfl k
theorem ev_ist_6 {a0 a1 a2 a3 a4 a5 a6 : Option Value} {t : List (Option Value)} {x : Int32} (d : decode M.2.1 pc = .ok (.istore 6, 2)) (hk : kl a5 = a5) (hq : pc + 2 = q) (k : Ev xl xs F L B1 B2 M q (a0 :: a1 :: a2 :: a3 :: a4 :: a5 :: some (.int x) :: t) st n h Q) : Ev xl xs F L B1 B2 M pc (a0 :: a1 :: a2 :: a3 :: a4 :: a5 :: a6 :: t) (.int x :: st) n h Q := by
  subst hq
  exact ev_istore (lv' := (a0 :: a1 :: a2 :: a3 :: a4 :: a5 :: some (.int x) :: t)) d (by show 6 < _; simp only [List.length_cons]; omega) (by simp only [st1, hk]) rfl k
theorem ev_istk_6 {a0 a1 a2 a3 a4 a6 : Option Value} {t : List (Option Value)} {x : Int32} {y : Int64} (d : decode M.2.1 pc = .ok (.istore 6, 2)) (hq : pc + 2 = q) (k : Ev xl xs F L B1 B2 M q (a0 :: a1 :: a2 :: a3 :: a4 :: none :: some (.int x) :: t) st n h Q) : Ev xl xs F L B1 B2 M pc (a0 :: a1 :: a2 :: a3 :: a4 :: some (.long y) :: a6 :: t) (.int x :: st) n h Q := by
  subst hq
  exact ev_istore (lv' := (a0 :: a1 :: a2 :: a3 :: a4 :: none :: some (.int x) :: t)) d (by show 6 < _; simp only [List.length_cons]; omega) rfl rfl k
theorem ev_inc_6 {a0 a1 a2 a3 a4 a5 : Option Value} {t : List (Option Value)} {x : Int32} {z : Int} (v : Int32) (d : decode M.2.1 pc = .ok (.iinc 6 z, 3)) (hv : x + Int32.ofInt z = v) (hk : kl a5 = a5) (hq : pc + 3 = q) (k : Ev xl xs F L B1 B2 M q (a0 :: a1 :: a2 :: a3 :: a4 :: a5 :: some (.int v) :: t) st n h Q) : Ev xl xs F L B1 B2 M pc (a0 :: a1 :: a2 :: a3 :: a4 :: a5 :: some (.int x) :: t) st n h Q := by
  subst hq
  exact ev_iinc (x := x) (lv' := (a0 :: a1 :: a2 :: a3 :: a4 :: a5 :: some (.int v) :: t)) v d (by simp) hv (by simp only [st1, hk]) rfl k
theorem ev_lst_6 {a0 a1 a2 a3 a4 a5 a6 a7 : Option Value} {t : List (Option Value)} {x : Int64} (d : decode M.2.1 pc = .ok (.lstore 6, 2)) (hk : kl a5 = a5) (hq : pc + 2 = q) (k : Ev xl xs F L B1 B2 M q (a0 :: a1 :: a2 :: a3 :: a4 :: a5 :: some (.long x) :: none :: t) st n h Q) : Ev xl xs F L B1 B2 M pc (a0 :: a1 :: a2 :: a3 :: a4 :: a5 :: a6 :: a7 :: t) (.long x :: st) n h Q := by
  subst hq
  exact ev_lstore (lv' := (a0 :: a1 :: a2 :: a3 :: a4 :: a5 :: some (.long x) :: none :: t)) d (by show 6 + 1 < _; simp only [List.length_cons]; omega) (by simp only [st2, hk]) rfl k
theorem ev_ist_7 {a0 a1 a2 a3 a4 a5 a6 a7 : Option Value} {t : List (Option Value)} {x : Int32} (d : decode M.2.1 pc = .ok (.istore 7, 2)) (hk : kl a6 = a6) (hq : pc + 2 = q) (k : Ev xl xs F L B1 B2 M q (a0 :: a1 :: a2 :: a3 :: a4 :: a5 :: a6 :: some (.int x) :: t) st n h Q) : Ev xl xs F L B1 B2 M pc (a0 :: a1 :: a2 :: a3 :: a4 :: a5 :: a6 :: a7 :: t) (.int x :: st) n h Q := by
  subst hq
  exact ev_istore (lv' := (a0 :: a1 :: a2 :: a3 :: a4 :: a5 :: a6 :: some (.int x) :: t)) d (by show 7 < _; simp only [List.length_cons]; omega) (by simp only [st1, hk]) rfl k
theorem ev_istk_7 {a0 a1 a2 a3 a4 a5 a7 : Option Value} {t : List (Option Value)} {x : Int32} {y : Int64} (d : decode M.2.1 pc = .ok (.istore 7, 2)) (hq : pc + 2 = q) (k : Ev xl xs F L B1 B2 M q (a0 :: a1 :: a2 :: a3 :: a4 :: a5 :: none :: some (.int x) :: t) st n h Q) : Ev xl xs F L B1 B2 M pc (a0 :: a1 :: a2 :: a3 :: a4 :: a5 :: some (.long y) :: a7 :: t) (.int x :: st) n h Q := by
  subst hq
  exact ev_istore (lv' := (a0 :: a1 :: a2 :: a3 :: a4 :: a5 :: none :: some (.int x) :: t)) d (by show 7 < _; simp only [List.length_cons]; omega) rfl rfl k
theorem ev_inc_7 {a0 a1 a2 a3 a4 a5 a6 : Option Value} {t : List (Option Value)} {x : Int32} {z : Int} (v : Int32) (d : decode M.2.1 pc = .ok (.iinc 7 z, 3)) (hv : x + Int32.ofInt z = v) (hk : kl a6 = a6) (hq : pc + 3 = q) (k : Ev xl xs F L B1 B2 M q (a0 :: a1 :: a2 :: a3 :: a4 :: a5 :: a6 :: some (.int v) :: t) st n h Q) : Ev xl xs F L B1 B2 M pc (a0 :: a1 :: a2 :: a3 :: a4 :: a5 :: a6 :: some (.int x) :: t) st n h Q := by
  subst hq
  exact ev_iinc (x := x) (lv' := (a0 :: a1 :: a2 :: a3 :: a4 :: a5 :: a6 :: some (.int v) :: t)) v d (by simp) hv (by simp only [st1, hk]) rfl k
theorem ev_lst_7 {a0 a1 a2 a3 a4 a5 a6 a7 a8 : Option Value} {t : List (Option Value)} {x : Int64} (d : decode M.2.1 pc = .ok (.lstore 7, 2)) (hk : kl a6 = a6) (hq : pc + 2 = q) (k : Ev xl xs F L B1 B2 M q (a0 :: a1 :: a2 :: a3 :: a4 :: a5 :: a6 :: some (.long x) :: none :: t) st n h Q) : Ev xl xs F L B1 B2 M pc (a0 :: a1 :: a2 :: a3 :: a4 :: a5 :: a6 :: a7 :: a8 :: t) (.long x :: st) n h Q := by
  subst hq
  exact ev_lstore (lv' := (a0 :: a1 :: a2 :: a3 :: a4 :: a5 :: a6 :: some (.long x) :: none :: t)) d (by show 7 + 1 < _; simp only [List.length_cons]; omega) (by simp only [st2, hk]) rfl k
theorem ev_ist_8 {a0 a1 a2 a3 a4 a5 a6 a7 a8 : Option Value} {t : List (Option Value)} {x : Int32} (d : decode M.2.1 pc = .ok (.istore 8, 2)) (hk : kl a7 = a7) (hq : pc + 2 = q) (k : Ev xl xs F L B1 B2 M q (a0 :: a1 :: a2 :: a3 :: a4 :: a5 :: a6 :: a7 :: some (.int x) :: t) st n h Q) : Ev xl xs F L B1 B2 M pc (a0 :: a1 :: a2 :: a3 :: a4 :: a5 :: a6 :: a7 :: a8 :: t) (.int x :: st) n h Q := by
  subst hq
  exact ev_istore (lv' := (a0 :: a1 :: a2 :: a3 :: a4 :: a5 :: a6 :: a7 :: some (.int x) :: t)) d (by show 8 < _; simp only [List.length_cons]; omega) (by simp only [st1, hk]) rfl k
theorem ev_istk_8 {a0 a1 a2 a3 a4 a5 a6 a8 : Option Value} {t : List (Option Value)} {x : Int32} {y : Int64} (d : decode M.2.1 pc = .ok (.istore 8, 2)) (hq : pc + 2 = q) (k : Ev xl xs F L B1 B2 M q (a0 :: a1 :: a2 :: a3 :: a4 :: a5 :: a6 :: none :: some (.int x) :: t) st n h Q) : Ev xl xs F L B1 B2 M pc (a0 :: a1 :: a2 :: a3 :: a4 :: a5 :: a6 :: some (.long y) :: a8 :: t) (.int x :: st) n h Q := by
  subst hq
  exact ev_istore (lv' := (a0 :: a1 :: a2 :: a3 :: a4 :: a5 :: a6 :: none :: some (.int x) :: t)) d (by show 8 < _; simp only [List.length_cons]; omega) rfl rfl k
theorem ev_inc_8 {a0 a1 a2 a3 a4 a5 a6 a7 : Option Value} {t : List (Option Value)} {x : Int32} {z : Int} (v : Int32) (d : decode M.2.1 pc = .ok (.iinc 8 z, 3)) (hv : x + Int32.ofInt z = v) (hk : kl a7 = a7) (hq : pc + 3 = q) (k : Ev xl xs F L B1 B2 M q (a0 :: a1 :: a2 :: a3 :: a4 :: a5 :: a6 :: a7 :: some (.int v) :: t) st n h Q) : Ev xl xs F L B1 B2 M pc (a0 :: a1 :: a2 :: a3 :: a4 :: a5 :: a6 :: a7 :: some (.int x) :: t) st n h Q := by
  subst hq
  exact ev_iinc (x := x) (lv' := (a0 :: a1 :: a2 :: a3 :: a4 :: a5 :: a6 :: a7 :: some (.int v) :: t)) v d (by simp) hv (by simp only [st1, hk]) rfl k
theorem ev_lst_8 {a0 a1 a2 a3 a4 a5 a6 a7 a8 a9 : Option Value} {t : List (Option Value)} {x : Int64} (d : decode M.2.1 pc = .ok (.lstore 8, 2)) (hk : kl a7 = a7) (hq : pc + 2 = q) (k : Ev xl xs F L B1 B2 M q (a0 :: a1 :: a2 :: a3 :: a4 :: a5 :: a6 :: a7 :: some (.long x) :: none :: t) st n h Q) : Ev xl xs F L B1 B2 M pc (a0 :: a1 :: a2 :: a3 :: a4 :: a5 :: a6 :: a7 :: a8 :: a9 :: t) (.long x :: st) n h Q := by
  subst hq
  exact ev_lstore (lv' := (a0 :: a1 :: a2 :: a3 :: a4 :: a5 :: a6 :: a7 :: some (.long x) :: none :: t)) d (by show 8 + 1 < _; simp only [List.length_cons]; omega) (by simp only [st2, hk]) rfl k
theorem ev_ist_9 {a0 a1 a2 a3 a4 a5 a6 a7 a8 a9 : Option Value} {t : List (Option Value)} {x : Int32} (d : decode M.2.1 pc = .ok (.istore 9, 2)) (hk : kl a8 = a8) (hq : pc + 2 = q) (k : Ev xl xs F L B1 B2 M q (a0 :: a1 :: a2 :: a3 :: a4 :: a5 :: a6 :: a7 :: a8 :: some (.int x) :: t) st n h Q) : Ev xl xs F L B1 B2 M pc (a0 :: a1 :: a2 :: a3 :: a4 :: a5 :: a6 :: a7 :: a8 :: a9 :: t) (.int x :: st) n h Q := by
  subst hq
  exact ev_istore (lv' := (a0 :: a1 :: a2 :: a3 :: a4 :: a5 :: a6 :: a7 :: a8 :: some (.int x) :: t)) d (by show 9 < _; simp only [List.length_cons]; omega) (by simp only [st1, hk]) rfl k
theorem ev_istk_9 {a0 a1 a2 a3 a4 a5 a6 a7 a9 : Option Value} {t : List (Option Value)} {x : Int32} {y : Int64} (d : decode M.2.1 pc = .ok (.istore 9, 2)) (hq : pc + 2 = q) (k : Ev xl xs F L B1 B2 M q (a0 :: a1 :: a2 :: a3 :: a4 :: a5 :: a6 :: a7 :: none :: some (.int x) :: t) st n h Q) : Ev xl xs F L B1 B2 M pc (a0 :: a1 :: a2 :: a3 :: a4 :: a5 :: a6 :: a7 :: some (.long y) :: a9 :: t) (.int x :: st) n h Q := by
  subst hq
  exact ev_istore (lv' := (a0 :: a1 :: a2 :: a3 :: a4 :: a5 :: a6 :: a7 :: none :: some (.int x) :: t)) d (by show 9 < _; simp only [List.length_cons]; omega) rfl rfl k
theorem ev_inc_9 {a0 a1 a2 a3 a4 a5 a6 a7 a8 : Option Value} {t : List (Option Value)} {x : Int32} {z : Int} (v : Int32) (d : decode M.2.1 pc = .ok (.iinc 9 z, 3)) (hv : x + Int32.ofInt z = v) (hk : kl a8 = a8) (hq : pc + 3 = q) (k : Ev xl xs F L B1 B2 M q (a0 :: a1 :: a2 :: a3 :: a4 :: a5 :: a6 :: a7 :: a8 :: some (.int v) :: t) st n h Q) : Ev xl xs F L B1 B2 M pc (a0 :: a1 :: a2 :: a3 :: a4 :: a5 :: a6 :: a7 :: a8 :: some (.int x) :: t) st n h Q := by
  subst hq
  exact ev_iinc (x := x) (lv' := (a0 :: a1 :: a2 :: a3 :: a4 :: a5 :: a6 :: a7 :: a8 :: some (.int v) :: t)) v d (by simp) hv (by simp only [st1, hk]) rfl k
theorem ev_lst_9 {a0 a1 a2 a3 a4 a5 a6 a7 a8 a9 a10 : Option Value} {t : List (Option Value)} {x : Int64} (d : decode M.2.1 pc = .ok (.lstore 9, 2)) (hk : kl a8 = a8) (hq : pc + 2 = q) (k : Ev xl xs F L B1 B2 M q (a0 :: a1 :: a2 :: a3 :: a4 :: a5 :: a6 :: a7 :: a8 :: some (.long x) :: none :: t) st n h Q) : Ev xl xs F L B1 B2 M pc (a0 :: a1 :: a2 :: a3 :: a4 :: a5 :: a6 :: a7 :: a8 :: a9 :: a10 :: t) (.long x :: st) n h Q := by
  subst hq
  exact ev_lstore (lv' := (a0 :: a1 :: a2 :: a3 :: a4 :: a5 :: a6 :: a7 :: a8 :: some (.long x) :: none :: t)) d (by show 9 + 1 < _; simp only [List.length_cons]; omega) (by simp only [st2, hk]) rfl k
theorem ev_ist_10 {a0 a1 a2 a3 a4 a5 a6 a7 a8 a9 a10 : Option Value} {t : List (Option Value)} {x : Int32} (d : decode M.2.1 pc = .ok (.istore 10, 2)) (hk : kl a9 = a9) (hq : pc + 2 = q) (k : Ev xl xs F L B1 B2 M q (a0 :: a1 :: a2 :: a3 :: a4 :: a5 :: a6 :: a7 :: a8 :: a9 :: some (.int x) :: t) st n h Q) : Ev xl xs F L B1 B2 M pc (a0 :: a1 :: a2 :: a3 :: a4 :: a5 :: a6 :: a7 :: a8 :: a9 :: a10 :: t) (.int x :: st) n h Q := by
  subst hq
  exact ev_istore (lv' := (a0 :: a1 :: a2 :: a3 :: a4 :: a5 :: a6 :: a7 :: a8 :: a9 :: some (.int x) :: t)) d (by show 10 < _; simp only [List.length_cons]; omega) (by simp only [st1, hk]) rfl k
theorem ev_istk_10 {a0 a1 a2 a3 a4 a5 a6 a7 a8 a10 : Option Value} {t : List (Option Value)} {x : Int32} {y : Int64} (d : decode M.2.1 pc = .ok (.istore 10, 2)) (hq : pc + 2 = q) (k : Ev xl xs F L B1 B2 M q (a0 :: a1 :: a2 :: a3 :: a4 :: a5 :: a6 :: a7 :: a8 :: none :: some (.int x) :: t) st n h Q) : Ev xl xs F L B1 B2 M pc (a0 :: a1 :: a2 :: a3 :: a4 :: a5 :: a6 :: a7 :: a8 :: some (.long y) :: a10 :: t) (.int x :: st) n h Q := by
  subst hq
  exact ev_istore (lv' := (a0 :: a1 :: a2 :: a3 :: a4 :: a5 :: a6 :: a7 :: a8 :: none :: some (.int x) :: t)) d (by show 10 < _; simp only [List.length_cons]; omega) rfl rfl k
theorem ev_inc_10 {a0 a1 a2 a3 a4 a5 a6 a7 a8 a9 : Option Value} {t : List (Option Value)} {x : Int32} {z : Int} (v : Int32) (d : decode M.2.1 pc = .ok (.iinc 10 z, 3)) (hv : x + Int32.ofInt z = v) (hk : kl a9 = a9) (hq : pc + 3 = q) (k : Ev xl xs F L B1 B2 M q (a0 :: a1 :: a2 :: a3 :: a4 :: a5 :: a6 :: a7 :: a8 :: a9 :: some (.int v) :: t) st n h Q) : Ev xl xs F L B1 B2 M pc (a0 :: a1 :: a2 :: a3 :: a4 :: a5 :: a6 :: a7 :: a8 :: a9 :: some (.int x) :: t) st n h Q := by
  subst hq
  exact ev_iinc (x := x) (lv' := (a0 :: a1 :: a2 :: a3 :: a4 :: a5 :: a6 :: a7 :: a8 :: a9 :: some (.int v) :: t)) v d (by simp) hv (by simp only [st1, hk]) rfl k
theorem ev_lst_10 {a0 a1 a2 a3 a4 a5 a6 a7 a8 a9 a10 a11 : Option Value} {t : List (Option Value)} {x : Int64} (d : decode M.2.1 pc = .ok (.lstore 10, 2)) (hk : kl a9 = a9) (hq : pc + 2 = q) (k : Ev xl xs F L B1 B2 M q (a0 :: a1 :: a2 :: a3 :: a4 :: a5 :: a6 :: a7 :: a8 :: a9 :: some (.long x) :: none :: t) st n h Q) : Ev xl xs F L B1 B2 M pc (a0 :: a1 :: a2 :: a3 :: a4 :: a5 :: a6 :: a7 :: a8 :: a9 :: a10 :: a11 :: t) (.long x :: st) n h Q := by
  subst hq
  exact ev_lstore (lv' := (a0 :: a1 :: a2 :: a3 :: a4 :: a5 :: a6 :: a7 :: a8 :: a9 :: some (.long x) :: none :: t)) d (by show 10 + 1 < _; simp only [List.length_cons]; omega) (by simp only [st2, hk]) rfl k
theorem ev_ist_11 {a0 a1 a2 a3 a4 a5 a6 a7 a8 a9 a10 a11 : Option Value} {t : List (Option Value)} {x : Int32} (d : decode M.2.1 pc = .ok (.istore 11, 2)) (hk : kl a10 = a10) (hq : pc + 2 = q) (k : Ev xl xs F L B1 B2 M q (a0 :: a1 :: a2 :: a3 :: a4 :: a5 :: a6 :: a7 :: a8 :: a9 :: a10 :: some (.int x) :: t) st n h Q) : Ev xl xs F L B1 B2 M pc (a0 :: a1 :: a2 :: a3 :: a4 :: a5 :: a6 :: a7 :: a8 :: a9 :: a10 :: a11 :: t) (.int x :: st) n h Q := by
  subst hq
  exact ev_istore (lv' := (a0 :: a1 :: a2 :: a3 :: a4 :: a5 :: a6 :: a7 :: a8 :: a9 :: a10 :: some (.int x) :: t)) d (by show 11 < _; simp only [List.length_cons]; omega) (by simp only [st1, hk]) rfl k
theorem ev_istk_11 {a0 a1 a2 a3 a4 a5 a6 a7 a8 a9 a11 : Option Value} {t : List (Option Value)} {x : Int32} {y : Int64} (d : decode M.2.1 pc = .ok (.istore 11, 2)) (hq : pc + 2 = q) (k : Ev xl xs F L B1 B2 M q (a0 :: a1 :: a2 :: a3 :: a4 :: a5 :: a6 :: a7 :: a8 :: a9 :: none :: some (.int x) :: t) st n h Q) : Ev xl xs F L B1 B2 M pc (a0 :: a1 :: a2 :: a3 :: a4 :: a5 :: a6 :: a7 :: a8 :: a9 :: some (.long y) :: a11 :: t) (.int x :: st) n h Q := by
  subst hq
  exact ev_istore (lv' := (a0 :: a1 :: a2 :: a3 :: a4 :: a5 :: a6 :: a7 :: a8 :: a9 :: none :: some (.int x) :: t)) d (by show 11 < _; simp only [List.length_cons]; omega) rfl rfl k
theorem ev_inc_11 {a0 a1 a2 a3 a4 a5 a6 a7 a8 a9 a10 : Option Value} {t : List (Option Value)} {x : Int32} {z : Int} (v : Int32) (d : decode M.2.1 pc = .ok (.iinc 11 z, 3)) (hv : x + Int32.ofInt z = v) (hk : kl a10 = a10) (hq : pc + 3 = q) (k : Ev xl xs F L B1 B2 M q (a0 :: a1 :: a2 :: a3 :: a4 :: a5 :: a6 :: a7 :: a8 :: a9 :: a10 :: some (.int v) :: t) st n h Q) : Ev xl xs F L B1 B2 M pc (a0 :: a1 :: a2 :: a3 :: a4 :: a5 :: a6 :: a7 :: a8 :: a9 :: a10 :: some (.int x) :: t) st n h Q := by
  subst hq
  exact ev_iinc (x := x) (lv' := (a0 :: a1 :: a2 :: a3 :: a4 :: a5 :: a6 :: a7 :: a8 :: a9 :: a10 :: some (.int v) :: t)) v d (by simp) hv (by simp only [st1, hk]) rfl k
theorem ev_lst_11 {a0 a1 a2 a3 a4 a5 a6 a7 a8 a9 a10 a11 a12 : Option Value} {t : List (Option Value)} {x : Int64} (d : decode M.2.1 pc = .ok (.lstore 11, 2)) (hk : kl a10 = a10) (hq : pc + 2 = q) (k : Ev xl xs F L B1 B2 M q (a0 :: a1 :: a2 :: a3 :: a4 :: a5 :: a6 :: a7 :: a8 :: a9 :: a10 :: some (.long x) :: none :: t) st n h Q) : Ev xl xs F L B1 B2 M pc (a0 :: a1 :: a2 :: a3 :: a4 :: a5 :: a6 :: a7 :: a8 :: a9 :: a10 :: a11 :: a12 :: t) (.long x :: st) n h Q := by
  subst hq
  exact ev_lstore (lv' := (a0 :: a1 :: a2 :: a3 :: a4 :: a5 :: a6 :: a7 :: a8 :: a9 :: a10 :: some (.long x) :: none :: t)) d (by show 11 + 1 < _; simp only [List.length_cons]; omega) (by simp only [st2, hk]) rfl k
theorem ev_ist_12 {a0 a1 a2 a3 a4 a5 a6 a7 a8 a9 a10 a11 a12 : Option Value} {t : List (Option Value)} {x : Int32} (d : decode M.2.1 pc = .ok (.istore 12, 2)) (hk : kl a11 = a11) (hq : pc + 2 = q) (k : Ev xl xs F L B1 B2 M q (a0 :: a1 :: a2 :: a3 :: a4 :: a5 :: a6 :: a7 :: a8 :: a9 :: a10 :: a11 :: some (.int x) :: t) st n h Q) : Ev xl xs F L B1 B2 M pc (a0 :: a1 :: a2 :: a3 :: a4 :: a5 :: a6 :: a7 :: a8 :: a9 :: a10 :: a11 :: a12 :: t) (.int x :: st) n h Q := by
  subst hq
  exact ev_istore (lv' := (a0 :: a1 :: a2 :: a3 :: a4 :: a5 :: a6 :: a7 :: a8 :: a9 :: a10 :: a11 :: some (.int x) :: t)) d (by show 12 < _; simp only [List.length_cons]; omega) (by simp only [st1, hk]) rfl k
theorem ev_istk_12 {a0 a1 a2 a3 a4 a5 a6 a7 a8 a9 a10 a12 : Option Value} {t : List (Option Value)} {x : Int32} {y : Int64} (d : decode M.2.1 pc = .ok (.istore 12, 2)) (hq : pc + 2 = q) (k : Ev xl xs F L B1 B2 M q (a0 :: a1 :: a2 :: a3 :: a4 :: a5 :: a6 :: a7 :: a8 :: a9 :: a10 :: none :: some (.int x) :: t) st n h Q) : Ev xl xs F L B1 B2 M pc (a0 :: a1 :: a2 :: a3 :: a4 :: a5 :: a6 :: a7 :: a8 :: a9 :: a10 :: some (.long y) :: a12 :: t) (.int x :: st) n h Q := by
  subst hq
  exact ev_istore (lv' := (a0 :: a1 :: a2 :: a3 :: a4 :: a5 :: a6 :: a7 :: a8 :: a9 :: a10 :: none :: some (.int x) :: t)) d (by show 12 < _; simp only [List.length_cons]; omega) rfl rfl k
theorem ev_inc_12 {a0 a1 a2 a3 a4 a5 a6 a7 a8 a9 a10 a11 : Option Value} {t : List (Option Value)} {x : Int32} {z : Int} (v : Int32) (d : decode M.2.1 pc = .ok (.iinc 12 z, 3)) (hv : x + Int32.ofInt z = v) (hk : kl a11 = a11) (hq : pc + 3 = q) (k : Ev xl xs F L B1 B2 M q (a0 :: a1 :: a2 :: a3 :: a4 :: a5 :: a6 :: a7 :: a8 :: a9 :: a10 :: a11 :: some (.int v) :: t) st n h Q) : Ev xl xs F L B1 B2 M pc (a0 :: a1 :: a2 :: a3 :: a4 :: a5 :: a6 :: a7 :: a8 :: a9 :: a10 :: a11 :: some (.int x) :: t) st n h Q := by
  subst hq
  exact ev_iinc (x := x) (lv' := (a0 :: a1 :: a2 :: a3 :: a4 :: a5 :: a6 :: a7 :: a8 :: a9 :: a10 :: a11 :: some (.int v) :: t)) v d (by simp) hv (by simp only [st1, hk]) rfl k
theorem ev_lst_12 {a0 a1 a2 a3 a4 a5 a6 a7 a8 a9 a10 a11 a12 a13 : Option Value} {t : List (Option Value)} {x : Int64} (d : decode M.2.1 pc = .ok (.lstore 12, 2)) (hk : kl a11 = a11) (hq : pc + 2 = q) (k : Ev xl xs F L B1 B2 M q (a0 :: a1 :: a2 :: a3 :: a4 :: a5 :: a6 :: a7 :: a8 :: a9 :: a10 :: a11 :: some (.long x) :: none :: t) st n h Q) : Ev xl xs F L B1 B2 M pc (a0 :: a1 :: a2 :: a3 :: a4 :: a5 :: a6 :: a7 :: a8 :: a9 :: a10 :: a11 :: a12 :: a13 :: t) (.long x :: st) n h Q := by
  subst hq
  exact ev_lstore (lv' := (a0 :: a1 :: a2 :: a3 :: a4 :: a5 :: a6 :: a7 :: a8 :: a9 :: a10 :: a11 :: some (.long x) :: none :: t)) d (by show 12 + 1 < _; simp only [List.length_cons]; omega) (by simp only [st2, hk]) rfl k
theorem ev_callV0i {idx F' L' : Nat} {M' : Mt} {b ci : Nat} {fs : List Value} {cr : vw_C} {r : Int32} {n' : Nat} {h' : Nat → PC} {lv : List (Option Value)} (d : decode M.2.1 pc = .ok (.invokevirtual idx, 3)) (ca : CV M.1.cls idx M' 0) (hR : Rn xl xs F' L' 0 0 M' [.ref b] n h (some (.int r)) n' h') (hc : h b = .inr (ci, fs)) (hbn : b < n) (hcr : vwCl[ci]? = some cr) (hcl : cr.1 = M'.1.cls) (hlen : (entA [.ref b]).length ≤ M'.2.2.1) (hw : (st.map fun v => v.category).sum ≤ 8) (hF : F' + 1 ≤ F) (hL : 19 + M'.2.2.1 + L' ≤ L) (hq : pc + 3 = q) (k : Ev xl xs F L B1 B2 M q lv (.int r :: st) n' h' Q) : Ev xl xs F L B1 B2 M pc lv (.ref b :: st) n h Q :=
  ev_callV (As := []) (rest := st) (b1 := 0) (b2 := 0) d ca rfl hc hbn hcr hcl hlen hw hF hL (Nat.zero_le _) (Nat.zero_le _) hR hq k
theorem ev_callV0l {idx F' L' : Nat} {M' : Mt} {b ci : Nat} {fs : List Value} {cr : vw_C} {r : Int64} {n' : Nat} {h' : Nat → PC} {lv : List (Option Value)} (d : decode M.2.1 pc = .ok (.invokevirtual idx, 3)) (ca : CV M.1.cls idx M' 0) (hR : Rn xl xs F' L' 0 0 M' [.ref b] n h (some (.long r)) n' h') (hc : h b = .inr (ci, fs)) (hbn : b < n) (hcr : vwCl[ci]? = some cr) (hcl : cr.1 = M'.1.cls) (hlen : (entA [.ref b]).length ≤ M'.2.2.1) (hw : (st.map fun v => v.category).sum ≤ 8) (hF : F' + 1 ≤ F) (hL : 19 + M'.2.2.1 + L' ≤ L) (hq : pc + 3 = q) (k : Ev xl xs F L B1 B2 M q lv (.long r :: st) n' h' Q) : Ev xl xs F L B1 B2 M pc lv (.ref b :: st) n h Q :=
  ev_callV (As := []) (rest := st) (b1 := 0) (b2 := 0) d ca rfl hc hbn hcr hcl hlen hw hF hL (Nat.zero_le _) (Nat.zero_le _) hR hq k
theorem ev_callV0v {idx F' L' : Nat} {M' : Mt} {b ci : Nat} {fs : List Value} {cr : vw_C} {n' : Nat} {h' : Nat → PC} {lv : List (Option Value)} (d : decode M.2.1 pc = .ok (.invokevirtual idx, 3)) (ca : CV M.1.cls idx M' 0) (hR : Rn xl xs F' L' 0 0 M' [.ref b] n h none n' h') (hc : h b = .inr (ci, fs)) (hbn : b < n) (hcr : vwCl[ci]? = some cr) (hcl : cr.1 = M'.1.cls) (hlen : (entA [.ref b]).length ≤ M'.2.2.1) (hw : (st.map fun v => v.category).sum ≤ 8) (hF : F' + 1 ≤ F) (hL : 19 + M'.2.2.1 + L' ≤ L) (hq : pc + 3 = q) (k : Ev xl xs F L B1 B2 M q lv st n' h' Q) : Ev xl xs F L B1 B2 M pc lv (.ref b :: st) n h Q :=
  ev_callV (As := []) (rest := st) (b1 := 0) (b2 := 0) d ca rfl hc hbn hcr hcl hlen hw hF hL (Nat.zero_le _) (Nat.zero_le _) hR hq k
theorem ev_callV1i {idx F' L' : Nat} {M' : Mt} {v0 : Value} {b ci : Nat} {fs : List Value} {cr : vw_C} {r : Int32} {n' : Nat} {h' : Nat → PC} {lv : List (Option Value)} (d : decode M.2.1 pc = .ok (.invokevirtual idx, 3)) (ca : CV M.1.cls idx M' 1) (hR : Rn xl xs F' L' 0 0 M' [.ref b, v0] n h (some (.int r)) n' h') (hc : h b = .inr (ci, fs)) (hbn : b < n) (hcr : vwCl[ci]? = some cr) (hcl : cr.1 = M'.1.cls) (hlen : (entA [.ref b, v0]).length ≤ M'.2.2.1) (hw : (st.map fun v => v.category).sum ≤ 8) (hF : F' + 1 ≤ F) (hL : 19 + M'.2.2.1 + L' ≤ L) (hq : pc + 3 = q) (k : Ev xl xs F L B1 B2 M q lv (.int r :: st) n' h' Q) : Ev xl xs F L B1 B2 M pc lv (v0 :: .ref b :: st) n h Q :=
  ev_callV (As := [v0]) (rest := st) (b1 := 0) (b2 := 0) d ca rfl hc hbn hcr hcl hlen hw hF hL (Nat.zero_le _) (Nat.zero_le _) hR hq k
theorem ev_callV1l {idx F' L' : Nat} {M' : Mt} {v0 : Value} {b ci : Nat} {fs : List Value} {cr : vw_C} {r : Int64} {n' : Nat} {h' : Nat → PC} {lv : List (Option Value)} (d : decode M.2.1 pc = .ok (.invokevirtual idx, 3)) (ca : CV M.1.cls idx M' 1) (hR : Rn xl xs F' L' 0 0 M' [.ref b, v0] n h (some (.long r)) n' h') (hc : h b = .inr (ci, fs)) (hbn : b < n) (hcr : vwCl[ci]? = some cr) (hcl : cr.1 = M'.1.cls) (hlen : (entA [.ref b, v0]).length ≤ M'.2.2.1) (hw : (st.map fun v => v.category).sum ≤ 8) (hF : F' + 1 ≤ F) (hL : 19 + M'.2.2.1 + L' ≤ L) (hq : pc + 3 = q) (k : Ev xl xs F L B1 B2 M q lv (.long r :: st) n' h' Q) : Ev xl xs F L B1 B2 M pc lv (v0 :: .ref b :: st) n h Q :=
  ev_callV (As := [v0]) (rest := st) (b1 := 0) (b2 := 0) d ca rfl hc hbn hcr hcl hlen hw hF hL (Nat.zero_le _) (Nat.zero_le _) hR hq k
theorem ev_callV1v {idx F' L' : Nat} {M' : Mt} {v0 : Value} {b ci : Nat} {fs : List Value} {cr : vw_C} {n' : Nat} {h' : Nat → PC} {lv : List (Option Value)} (d : decode M.2.1 pc = .ok (.invokevirtual idx, 3)) (ca : CV M.1.cls idx M' 1) (hR : Rn xl xs F' L' 0 0 M' [.ref b, v0] n h none n' h') (hc : h b = .inr (ci, fs)) (hbn : b < n) (hcr : vwCl[ci]? = some cr) (hcl : cr.1 = M'.1.cls) (hlen : (entA [.ref b, v0]).length ≤ M'.2.2.1) (hw : (st.map fun v => v.category).sum ≤ 8) (hF : F' + 1 ≤ F) (hL : 19 + M'.2.2.1 + L' ≤ L) (hq : pc + 3 = q) (k : Ev xl xs F L B1 B2 M q lv st n' h' Q) : Ev xl xs F L B1 B2 M pc lv (v0 :: .ref b :: st) n h Q :=
  ev_callV (As := [v0]) (rest := st) (b1 := 0) (b2 := 0) d ca rfl hc hbn hcr hcl hlen hw hF hL (Nat.zero_le _) (Nat.zero_le _) hR hq k
theorem ev_callV2i {idx F' L' : Nat} {M' : Mt} {v0 v1 : Value} {b ci : Nat} {fs : List Value} {cr : vw_C} {r : Int32} {n' : Nat} {h' : Nat → PC} {lv : List (Option Value)} (d : decode M.2.1 pc = .ok (.invokevirtual idx, 3)) (ca : CV M.1.cls idx M' 2) (hR : Rn xl xs F' L' 0 0 M' [.ref b, v0, v1] n h (some (.int r)) n' h') (hc : h b = .inr (ci, fs)) (hbn : b < n) (hcr : vwCl[ci]? = some cr) (hcl : cr.1 = M'.1.cls) (hlen : (entA [.ref b, v0, v1]).length ≤ M'.2.2.1) (hw : (st.map fun v => v.category).sum ≤ 8) (hF : F' + 1 ≤ F) (hL : 19 + M'.2.2.1 + L' ≤ L) (hq : pc + 3 = q) (k : Ev xl xs F L B1 B2 M q lv (.int r :: st) n' h' Q) : Ev xl xs F L B1 B2 M pc lv (v1 :: v0 :: .ref b :: st) n h Q :=
  ev_callV (As := [v0, v1]) (rest := st) (b1 := 0) (b2 := 0) d ca rfl hc hbn hcr hcl hlen hw hF hL (Nat.zero_le _) (Nat.zero_le _) hR hq k
theorem ev_callV2l {idx F' L' : Nat} {M' : Mt} {v0 v1 : Value} {b ci : Nat} {fs : List Value} {cr : vw_C} {r : Int64} {n' : Nat} {h' : Nat → PC} {lv : List (Option Value)} (d : decode M.2.1 pc = .ok (.invokevirtual idx, 3)) (ca : CV M.1.cls idx M' 2) (hR : Rn xl xs F' L' 0 0 M' [.ref b, v0, v1] n h (some (.long r)) n' h') (hc : h b = .inr (ci, fs)) (hbn : b < n) (hcr : vwCl[ci]? = some cr) (hcl : cr.1 = M'.1.cls) (hlen : (entA [.ref b, v0, v1]).length ≤ M'.2.2.1) (hw : (st.map fun v => v.category).sum ≤ 8) (hF : F' + 1 ≤ F) (hL : 19 + M'.2.2.1 + L' ≤ L) (hq : pc + 3 = q) (k : Ev xl xs F L B1 B2 M q lv (.long r :: st) n' h' Q) : Ev xl xs F L B1 B2 M pc lv (v1 :: v0 :: .ref b :: st) n h Q :=
  ev_callV (As := [v0, v1]) (rest := st) (b1 := 0) (b2 := 0) d ca rfl hc hbn hcr hcl hlen hw hF hL (Nat.zero_le _) (Nat.zero_le _) hR hq k
theorem ev_callV2v {idx F' L' : Nat} {M' : Mt} {v0 v1 : Value} {b ci : Nat} {fs : List Value} {cr : vw_C} {n' : Nat} {h' : Nat → PC} {lv : List (Option Value)} (d : decode M.2.1 pc = .ok (.invokevirtual idx, 3)) (ca : CV M.1.cls idx M' 2) (hR : Rn xl xs F' L' 0 0 M' [.ref b, v0, v1] n h none n' h') (hc : h b = .inr (ci, fs)) (hbn : b < n) (hcr : vwCl[ci]? = some cr) (hcl : cr.1 = M'.1.cls) (hlen : (entA [.ref b, v0, v1]).length ≤ M'.2.2.1) (hw : (st.map fun v => v.category).sum ≤ 8) (hF : F' + 1 ≤ F) (hL : 19 + M'.2.2.1 + L' ≤ L) (hq : pc + 3 = q) (k : Ev xl xs F L B1 B2 M q lv st n' h' Q) : Ev xl xs F L B1 B2 M pc lv (v1 :: v0 :: .ref b :: st) n h Q :=
  ev_callV (As := [v0, v1]) (rest := st) (b1 := 0) (b2 := 0) d ca rfl hc hbn hcr hcl hlen hw hF hL (Nat.zero_le _) (Nat.zero_le _) hR hq k
theorem ev_callV3i {idx F' L' : Nat} {M' : Mt} {v0 v1 v2 : Value} {b ci : Nat} {fs : List Value} {cr : vw_C} {r : Int32} {n' : Nat} {h' : Nat → PC} {lv : List (Option Value)} (d : decode M.2.1 pc = .ok (.invokevirtual idx, 3)) (ca : CV M.1.cls idx M' 3) (hR : Rn xl xs F' L' 0 0 M' [.ref b, v0, v1, v2] n h (some (.int r)) n' h') (hc : h b = .inr (ci, fs)) (hbn : b < n) (hcr : vwCl[ci]? = some cr) (hcl : cr.1 = M'.1.cls) (hlen : (entA [.ref b, v0, v1, v2]).length ≤ M'.2.2.1) (hw : (st.map fun v => v.category).sum ≤ 8) (hF : F' + 1 ≤ F) (hL : 19 + M'.2.2.1 + L' ≤ L) (hq : pc + 3 = q) (k : Ev xl xs F L B1 B2 M q lv (.int r :: st) n' h' Q) : Ev xl xs F L B1 B2 M pc lv (v2 :: v1 :: v0 :: .ref b :: st) n h Q :=
  ev_callV (As := [v0, v1, v2]) (rest := st) (b1 := 0) (b2 := 0) d ca rfl hc hbn hcr hcl hlen hw hF hL (Nat.zero_le _) (Nat.zero_le _) hR hq k
theorem ev_callV3l {idx F' L' : Nat} {M' : Mt} {v0 v1 v2 : Value} {b ci : Nat} {fs : List Value} {cr : vw_C} {r : Int64} {n' : Nat} {h' : Nat → PC} {lv : List (Option Value)} (d : decode M.2.1 pc = .ok (.invokevirtual idx, 3)) (ca : CV M.1.cls idx M' 3) (hR : Rn xl xs F' L' 0 0 M' [.ref b, v0, v1, v2] n h (some (.long r)) n' h') (hc : h b = .inr (ci, fs)) (hbn : b < n) (hcr : vwCl[ci]? = some cr) (hcl : cr.1 = M'.1.cls) (hlen : (entA [.ref b, v0, v1, v2]).length ≤ M'.2.2.1) (hw : (st.map fun v => v.category).sum ≤ 8) (hF : F' + 1 ≤ F) (hL : 19 + M'.2.2.1 + L' ≤ L) (hq : pc + 3 = q) (k : Ev xl xs F L B1 B2 M q lv (.long r :: st) n' h' Q) : Ev xl xs F L B1 B2 M pc lv (v2 :: v1 :: v0 :: .ref b :: st) n h Q :=
  ev_callV (As := [v0, v1, v2]) (rest := st) (b1 := 0) (b2 := 0) d ca rfl hc hbn hcr hcl hlen hw hF hL (Nat.zero_le _) (Nat.zero_le _) hR hq k
theorem ev_callV3v {idx F' L' : Nat} {M' : Mt} {v0 v1 v2 : Value} {b ci : Nat} {fs : List Value} {cr : vw_C} {n' : Nat} {h' : Nat → PC} {lv : List (Option Value)} (d : decode M.2.1 pc = .ok (.invokevirtual idx, 3)) (ca : CV M.1.cls idx M' 3) (hR : Rn xl xs F' L' 0 0 M' [.ref b, v0, v1, v2] n h none n' h') (hc : h b = .inr (ci, fs)) (hbn : b < n) (hcr : vwCl[ci]? = some cr) (hcl : cr.1 = M'.1.cls) (hlen : (entA [.ref b, v0, v1, v2]).length ≤ M'.2.2.1) (hw : (st.map fun v => v.category).sum ≤ 8) (hF : F' + 1 ≤ F) (hL : 19 + M'.2.2.1 + L' ≤ L) (hq : pc + 3 = q) (k : Ev xl xs F L B1 B2 M q lv st n' h' Q) : Ev xl xs F L B1 B2 M pc lv (v2 :: v1 :: v0 :: .ref b :: st) n h Q :=
  ev_callV (As := [v0, v1, v2]) (rest := st) (b1 := 0) (b2 := 0) d ca rfl hc hbn hcr hcl hlen hw hF hL (Nat.zero_le _) (Nat.zero_le _) hR hq k
theorem ev_callV4i {idx F' L' : Nat} {M' : Mt} {v0 v1 v2 v3 : Value} {b ci : Nat} {fs : List Value} {cr : vw_C} {r : Int32} {n' : Nat} {h' : Nat → PC} {lv : List (Option Value)} (d : decode M.2.1 pc = .ok (.invokevirtual idx, 3)) (ca : CV M.1.cls idx M' 4) (hR : Rn xl xs F' L' 0 0 M' [.ref b, v0, v1, v2, v3] n h (some (.int r)) n' h') (hc : h b = .inr (ci, fs)) (hbn : b < n) (hcr : vwCl[ci]? = some cr) (hcl : cr.1 = M'.1.cls) (hlen : (entA [.ref b, v0, v1, v2, v3]).length ≤ M'.2.2.1) (hw : (st.map fun v => v.category).sum ≤ 8) (hF : F' + 1 ≤ F) (hL : 19 + M'.2.2.1 + L' ≤ L) (hq : pc + 3 = q) (k : Ev xl xs F L B1 B2 M q lv (.int r :: st) n' h' Q) : Ev xl xs F L B1 B2 M pc lv (v3 :: v2 :: v1 :: v0 :: .ref b :: st) n h Q :=
  ev_callV (As := [v0, v1, v2, v3]) (rest := st) (b1 := 0) (b2 := 0) d ca rfl hc hbn hcr hcl hlen hw hF hL (Nat.zero_le _) (Nat.zero_le _) hR hq k
theorem ev_callV4l {idx F' L' : Nat} {M' : Mt} {v0 v1 v2 v3 : Value} {b ci : Nat} {fs : List Value} {cr : vw_C} {r : Int64} {n' : Nat} {h' : Nat → PC} {lv : List (Option Value)} (d : decode M.2.1 pc = .ok (.invokevirtual idx, 3)) (ca : CV M.1.cls idx M' 4) (hR : Rn xl xs F' L' 0 0 M' [.ref b, v0, v1, v2, v3] n h (some (.long r)) n' h') (hc : h b = .inr (ci, fs)) (hbn : b < n) (hcr : vwCl[ci]? = some cr) (hcl : cr.1 = M'.1.cls) (hlen : (entA [.ref b, v0, v1, v2, v3]).length ≤ M'.2.2.1) (hw : (st.map fun v => v.category).sum ≤ 8) (hF : F' + 1 ≤ F) (hL : 19 + M'.2.2.1 + L' ≤ L) (hq : pc + 3 = q) (k : Ev xl xs F L B1 B2 M q lv (.long r :: st) n' h' Q) : Ev xl xs F L B1 B2 M pc lv (v3 :: v2 :: v1 :: v0 :: .ref b :: st) n h Q :=
  ev_callV (As := [v0, v1, v2, v3]) (rest := st) (b1 := 0) (b2 := 0) d ca rfl hc hbn hcr hcl hlen hw hF hL (Nat.zero_le _) (Nat.zero_le _) hR hq k
theorem ev_callV4v {idx F' L' : Nat} {M' : Mt} {v0 v1 v2 v3 : Value} {b ci : Nat} {fs : List Value} {cr : vw_C} {n' : Nat} {h' : Nat → PC} {lv : List (Option Value)} (d : decode M.2.1 pc = .ok (.invokevirtual idx, 3)) (ca : CV M.1.cls idx M' 4) (hR : Rn xl xs F' L' 0 0 M' [.ref b, v0, v1, v2, v3] n h none n' h') (hc : h b = .inr (ci, fs)) (hbn : b < n) (hcr : vwCl[ci]? = some cr) (hcl : cr.1 = M'.1.cls) (hlen : (entA [.ref b, v0, v1, v2, v3]).length ≤ M'.2.2.1) (hw : (st.map fun v => v.category).sum ≤ 8) (hF : F' + 1 ≤ F) (hL : 19 + M'.2.2.1 + L' ≤ L) (hq : pc + 3 = q) (k : Ev xl xs F L B1 B2 M q lv st n' h' Q) : Ev xl xs F L B1 B2 M pc lv (v3 :: v2 :: v1 :: v0 :: .ref b :: st) n h Q :=
  ev_callV (As := [v0, v1, v2, v3]) (rest := st) (b1 := 0) (b2 := 0) d ca rfl hc hbn hcr hcl hlen hw hF hL (Nat.zero_le _) (Nat.zero_le _) hR hq k
theorem ev_callV5i {idx F' L' : Nat} {M' : Mt} {v0 v1 v2 v3 v4 : Value} {b ci : Nat} {fs : List Value} {cr : vw_C} {r : Int32} {n' : Nat} {h' : Nat → PC} {lv : List (Option Value)} (d : decode M.2.1 pc = .ok (.invokevirtual idx, 3)) (ca : CV M.1.cls idx M' 5) (hR : Rn xl xs F' L' 0 0 M' [.ref b, v0, v1, v2, v3, v4] n h (some (.int r)) n' h') (hc : h b = .inr (ci, fs)) (hbn : b < n) (hcr : vwCl[ci]? = some cr) (hcl : cr.1 = M'.1.cls) (hlen : (entA [.ref b, v0, v1, v2, v3, v4]).length ≤ M'.2.2.1) (hw : (st.map fun v => v.category).sum ≤ 8) (hF : F' + 1 ≤ F) (hL : 19 + M'.2.2.1 + L' ≤ L) (hq : pc + 3 = q) (k : Ev xl xs F L B1 B2 M q lv (.int r :: st) n' h' Q) : Ev xl xs F L B1 B2 M pc lv (v4 :: v3 :: v2 :: v1 :: v0 :: .ref b :: st) n h Q :=
  ev_callV (As := [v0, v1, v2, v3, v4]) (rest := st) (b1 := 0) (b2 := 0) d ca rfl hc hbn hcr hcl hlen hw hF hL (Nat.zero_le _) (Nat.zero_le _) hR hq k
theorem ev_callV5l {idx F' L' : Nat} {M' : Mt} {v0 v1 v2 v3 v4 : Value} {b ci : Nat} {fs : List Value} {cr : vw_C} {r : Int64} {n' : Nat} {h' : Nat → PC} {lv : List (Option Value)} (d : decode M.2.1 pc = .ok (.invokevirtual idx, 3)) (ca : CV M.1.cls idx M' 5) (hR : Rn xl xs F' L' 0 0 M' [.ref b, v0, v1, v2, v3, v4] n h (some (.long r)) n' h') (hc : h b = .inr (ci, fs)) (hbn : b < n) (hcr : vwCl[ci]? = some cr) (hcl : cr.1 = M'.1.cls) (hlen : (entA [.ref b, v0, v1, v2, v3, v4]).length ≤ M'.2.2.1) (hw : (st.map fun v => v.category).sum ≤ 8) (hF : F' + 1 ≤ F) (hL : 19 + M'.2.2.1 + L' ≤ L) (hq : pc + 3 = q) (k : Ev xl xs F L B1 B2 M q lv (.long r :: st) n' h' Q) : Ev xl xs F L B1 B2 M pc lv (v4 :: v3 :: v2 :: v1 :: v0 :: .ref b :: st) n h Q :=
  ev_callV (As := [v0, v1, v2, v3, v4]) (rest := st) (b1 := 0) (b2 := 0) d ca rfl hc hbn hcr hcl hlen hw hF hL (Nat.zero_le _) (Nat.zero_le _) hR hq k
theorem ev_callV5v {idx F' L' : Nat} {M' : Mt} {v0 v1 v2 v3 v4 : Value} {b ci : Nat} {fs : List Value} {cr : vw_C} {n' : Nat} {h' : Nat → PC} {lv : List (Option Value)} (d : decode M.2.1 pc = .ok (.invokevirtual idx, 3)) (ca : CV M.1.cls idx M' 5) (hR : Rn xl xs F' L' 0 0 M' [.ref b, v0, v1, v2, v3, v4] n h none n' h') (hc : h b = .inr (ci, fs)) (hbn : b < n) (hcr : vwCl[ci]? = some cr) (hcl : cr.1 = M'.1.cls) (hlen : (entA [.ref b, v0, v1, v2, v3, v4]).length ≤ M'.2.2.1) (hw : (st.map fun v => v.category).sum ≤ 8) (hF : F' + 1 ≤ F) (hL : 19 + M'.2.2.1 + L' ≤ L) (hq : pc + 3 = q) (k : Ev xl xs F L B1 B2 M q lv st n' h' Q) : Ev xl xs F L B1 B2 M pc lv (v4 :: v3 :: v2 :: v1 :: v0 :: .ref b :: st) n h Q :=
  ev_callV (As := [v0, v1, v2, v3, v4]) (rest := st) (b1 := 0) (b2 := 0) d ca rfl hc hbn hcr hcl hlen hw hF hL (Nat.zero_le _) (Nat.zero_le _) hR hq k
theorem ev_callS0i {idx F' L' : Nat} {M' : Mt} {r : Int32} {n' : Nat} {h' : Nat → PC} {lv : List (Option Value)} (d : decode M.2.1 pc = .ok (.invokestatic idx, 3)) (ca : CS M.1.cls idx M' 0) (hR : Rn xl xs F' L' 0 0 M' [] n h (some (.int r)) n' h') (hlen : (entA []).length ≤ M'.2.2.1) (hw : (st.map fun v => v.category).sum ≤ 8) (hF : F' + 1 ≤ F) (hL : 19 + M'.2.2.1 + L' ≤ L) (hq : pc + 3 = q) (k : Ev xl xs F L B1 B2 M q lv (.int r :: st) n' h' Q) : Ev xl xs F L B1 B2 M pc lv st n h Q :=
  ev_callS (As := []) (rest := st) (b1 := 0) (b2 := 0) d ca rfl hlen hw hF hL (Nat.zero_le _) (Nat.zero_le _) hR hq k
theorem ev_callS0l {idx F' L' : Nat} {M' : Mt} {r : Int64} {n' : Nat} {h' : Nat → PC} {lv : List (Option Value)} (d : decode M.2.1 pc = .ok (.invokestatic idx, 3)) (ca : CS M.1.cls idx M' 0) (hR : Rn xl xs F' L' 0 0 M' [] n h (some (.long r)) n' h') (hlen : (entA []).length ≤ M'.2.2.1) (hw : (st.map fun v => v.category).sum ≤ 8) (hF : F' + 1 ≤ F) (hL : 19 + M'.2.2.1 + L' ≤ L) (hq : pc + 3 = q) (k : Ev xl xs F L B1 B2 M q lv (.long r :: st) n' h' Q) : Ev xl xs F L B1 B2 M pc lv st n h Q :=
  ev_callS (As := []) (rest := st) (b1 := 0) (b2 := 0) d ca rfl hlen hw hF hL (Nat.zero_le _) (Nat.zero_le _) hR hq k
theorem ev_callS0v {idx F' L' : Nat} {M' : Mt} {n' : Nat} {h' : Nat → PC} {lv : List (Option Value)} (d : decode M.2.1 pc = .ok (.invokestatic idx, 3)) (ca : CS M.1.cls idx M' 0) (hR : Rn xl xs F' L' 0 0 M' [] n h none n' h') (hlen : (entA []).length ≤ M'.2.2.1) (hw : (st.map fun v => v.category).sum ≤ 8) (hF : F' + 1 ≤ F) (hL : 19 + M'.2.2.1 + L' ≤ L) (hq : pc + 3 = q) (k : Ev xl xs F L B1 B2 M q lv st n' h' Q) : Ev xl xs F L B1 B2 M pc lv st n h Q :=
  ev_callS (As := []) (rest := st) (b1 := 0) (b2 := 0) d ca rfl hlen hw hF hL (Nat.zero_le _) (Nat.zero_le _) hR hq k
theorem ev_callS1i {idx F' L' : Nat} {M' : Mt} {v0 : Value} {r : Int32} {n' : Nat} {h' : Nat → PC} {lv : List (Option Value)} (d : decode M.2.1 pc = .ok (.invokestatic idx, 3)) (ca : CS M.1.cls idx M' 1) (hR : Rn xl xs F' L' 0 0 M' [v0] n h (some (.int r)) n' h') (hlen : (entA [v0]).length ≤ M'.2.2.1) (hw : (st.map fun v => v.category).sum ≤ 8) (hF : F' + 1 ≤ F) (hL : 19 + M'.2.2.1 + L' ≤ L) (hq : pc + 3 = q) (k : Ev xl xs F L B1 B2 M q lv (.int r :: st) n' h' Q) : Ev xl xs F L B1 B2 M pc lv (v0 :: st) n h Q :=
  ev_callS (As := [v0]) (rest := st) (b1 := 0) (b2 := 0) d ca rfl hlen hw hF hL (Nat.zero_le _) (Nat.zero_le _) hR hq k
theorem ev_callS1l {idx F' L' : Nat} {M' : Mt} {v0 : Value} {r : Int64} {n' : Nat} {h' : Nat → PC} {lv : List (Option Value)} (d : decode M.2.1 pc = .ok (.invokestatic idx, 3)) (ca : CS M.1.cls idx M' 1) (hR : Rn xl xs F' L' 0 0 M' [v0] n h (some (.long r)) n' h') (hlen : (entA [v0]).length ≤ M'.2.2.1) (hw : (st.map fun v => v.category).sum ≤ 8) (hF : F' + 1 ≤ F) (hL : 19 + M'.2.2.1 + L' ≤ L) (hq : pc + 3 = q) (k : Ev xl xs F L B1 B2 M q lv (.long r :: st) n' h' Q) : Ev xl xs F L B1 B2 M pc lv (v0 :: st) n h Q :=
  ev_callS (As := [v0]) (rest := st) (b1 := 0) (b2 := 0) d ca rfl hlen hw hF hL (Nat.zero_le _) (Nat.zero_le _) hR hq k
theorem ev_callS1v {idx F' L' : Nat} {M' : Mt} {v0 : Value} {n' : Nat} {h' : Nat → PC} {lv : List (Option Value)} (d : decode M.2.1 pc = .ok (.invokestatic idx, 3)) (ca : CS M.1.cls idx M' 1) (hR : Rn xl xs F' L' 0 0 M' [v0] n h none n' h') (hlen : (entA [v0]).length ≤ M'.2.2.1) (hw : (st.map fun v => v.category).sum ≤ 8) (hF : F' + 1 ≤ F) (hL : 19 + M'.2.2.1 + L' ≤ L) (hq : pc + 3 = q) (k : Ev xl xs F L B1 B2 M q lv st n' h' Q) : Ev xl xs F L B1 B2 M pc lv (v0 :: st) n h Q :=
  ev_callS (As := [v0]) (rest := st) (b1 := 0) (b2 := 0) d ca rfl hlen hw hF hL (Nat.zero_le _) (Nat.zero_le _) hR hq k
theorem ev_callS2i {idx F' L' : Nat} {M' : Mt} {v0 v1 : Value} {r : Int32} {n' : Nat} {h' : Nat → PC} {lv : List (Option Value)} (d : decode M.2.1 pc = .ok (.invokestatic idx, 3)) (ca : CS M.1.cls idx M' 2) (hR : Rn xl xs F' L' 0 0 M' [v0, v1] n h (some (.int r)) n' h') (hlen : (entA [v0, v1]).length ≤ M'.2.2.1) (hw : (st.map fun v => v.category).sum ≤ 8) (hF : F' + 1 ≤ F) (hL : 19 + M'.2.2.1 + L' ≤ L) (hq : pc + 3 = q) (k : Ev xl xs F L B1 B2 M q lv (.int r :: st) n' h' Q) : Ev xl xs F L B1 B2 M pc lv (v1 :: v0 :: st) n h Q :=
  ev_callS (As := [v0, v1]) (rest := st) (b1 := 0) (b2 := 0) d ca rfl hlen hw hF hL (Nat.zero_le _) (Nat.zero_le _) hR hq k
theorem ev_callS2l {idx F' L' : Nat} {M' : Mt} {v0 v1 : Value} {r : Int64} {n' : Nat} {h' : Nat → PC} {lv : List (Option Value)} (d : decode M.2.1 pc = .ok (.invokestatic idx, 3)) (ca : CS M.1.cls idx M' 2) (hR : Rn xl xs F' L' 0 0 M' [v0, v1] n h (some (.long r)) n' h') (hlen : (entA [v0, v1]).length ≤ M'.2.2.1) (hw : (st.map fun v => v.category).sum ≤ 8) (hF : F' + 1 ≤ F) (hL : 19 + M'.2.2.1 + L' ≤ L) (hq : pc + 3 = q) (k : Ev xl xs F L B1 B2 M q lv (.long r :: st) n' h' Q) : Ev xl xs F L B1 B2 M pc lv (v1 :: v0 :: st) n h Q :=
  ev_callS (As := [v0, v1]) (rest := st) (b1 := 0) (b2 := 0) d ca rfl hlen hw hF hL (Nat.zero_le _) (Nat.zero_le _) hR hq k
theorem ev_callS2v {idx F' L' : Nat} {M' : Mt} {v0 v1 : Value} {n' : Nat} {h' : Nat → PC} {lv : List (Option Value)} (d : decode M.2.1 pc = .ok (.invokestatic idx, 3)) (ca : CS M.1.cls idx M' 2) (hR : Rn xl xs F' L' 0 0 M' [v0, v1] n h none n' h') (hlen : (entA [v0, v1]).length ≤ M'.2.2.1) (hw : (st.map fun v => v.category).sum ≤ 8) (hF : F' + 1 ≤ F) (hL : 19 + M'.2.2.1 + L' ≤ L) (hq : pc + 3 = q) (k : Ev xl xs F L B1 B2 M q lv st n' h' Q) : Ev xl xs F L B1 B2 M pc lv (v1 :: v0 :: st) n h Q :=
  ev_callS (As := [v0, v1]) (rest := st) (b1 := 0) (b2 := 0) d ca rfl hlen hw hF hL (Nat.zero_le _) (Nat.zero_le _) hR hq k
theorem ev_callS3i {idx F' L' : Nat} {M' : Mt} {v0 v1 v2 : Value} {r : Int32} {n' : Nat} {h' : Nat → PC} {lv : List (Option Value)} (d : decode M.2.1 pc = .ok (.invokestatic idx, 3)) (ca : CS M.1.cls idx M' 3) (hR : Rn xl xs F' L' 0 0 M' [v0, v1, v2] n h (some (.int r)) n' h') (hlen : (entA [v0, v1, v2]).length ≤ M'.2.2.1) (hw : (st.map fun v => v.category).sum ≤ 8) (hF : F' + 1 ≤ F) (hL : 19 + M'.2.2.1 + L' ≤ L) (hq : pc + 3 = q) (k : Ev xl xs F L B1 B2 M q lv (.int r :: st) n' h' Q) : Ev xl xs F L B1 B2 M pc lv (v2 :: v1 :: v0 :: st) n h Q :=
  ev_callS (As := [v0, v1, v2]) (rest := st) (b1 := 0) (b2 := 0) d ca rfl hlen hw hF hL (Nat.zero_le _) (Nat.zero_le _) hR hq k
theorem ev_callS3l {idx F' L' : Nat} {M' : Mt} {v0 v1 v2 : Value} {r : Int64} {n' : Nat} {h' : Nat → PC} {lv : List (Option Value)} (d : decode M.2.1 pc = .ok (.invokestatic idx, 3)) (ca : CS M.1.cls idx M' 3) (hR : Rn xl xs F' L' 0 0 M' [v0, v1, v2] n h (some (.long r)) n' h') (hlen : (entA [v0, v1, v2]).length ≤ M'.2.2.1) (hw : (st.map fun v => v.category).sum ≤ 8) (hF : F' + 1 ≤ F) (hL : 19 + M'.2.2.1 + L' ≤ L) (hq : pc + 3 = q) (k : Ev xl xs F L B1 B2 M q lv (.long r :: st) n' h' Q) : Ev xl xs F L B1 B2 M pc lv (v2 :: v1 :: v0 :: st) n h Q :=
  ev_callS (As := [v0, v1, v2]) (rest := st) (b1 := 0) (b2 := 0) d ca rfl hlen hw hF hL (Nat.zero_le _) (Nat.zero_le _) hR hq k
theorem ev_callS3v {idx F' L' : Nat} {M' : Mt} {v0 v1 v2 : Value} {n' : Nat} {h' : Nat → PC} {lv : List (Option Value)} (d : decode M.2.1 pc = .ok (.invokestatic idx, 3)) (ca : CS M.1.cls idx M' 3) (hR : Rn xl xs F' L' 0 0 M' [v0, v1, v2] n h none n' h') (hlen : (entA [v0, v1, v2]).length ≤ M'.2.2.1) (hw : (st.map fun v => v.category).sum ≤ 8) (hF : F' + 1 ≤ F) (hL : 19 + M'.2.2.1 + L' ≤ L) (hq : pc + 3 = q) (k : Ev xl xs F L B1 B2 M q lv st n' h' Q) : Ev xl xs F L B1 B2 M pc lv (v2 :: v1 :: v0 :: st) n h Q :=
  ev_callS (As := [v0, v1, v2]) (rest := st) (b1 := 0) (b2 := 0) d ca rfl hlen hw hF hL (Nat.zero_le _) (Nat.zero_le _) hR hq k
theorem ev_callS4i {idx F' L' : Nat} {M' : Mt} {v0 v1 v2 v3 : Value} {r : Int32} {n' : Nat} {h' : Nat → PC} {lv : List (Option Value)} (d : decode M.2.1 pc = .ok (.invokestatic idx, 3)) (ca : CS M.1.cls idx M' 4) (hR : Rn xl xs F' L' 0 0 M' [v0, v1, v2, v3] n h (some (.int r)) n' h') (hlen : (entA [v0, v1, v2, v3]).length ≤ M'.2.2.1) (hw : (st.map fun v => v.category).sum ≤ 8) (hF : F' + 1 ≤ F) (hL : 19 + M'.2.2.1 + L' ≤ L) (hq : pc + 3 = q) (k : Ev xl xs F L B1 B2 M q lv (.int r :: st) n' h' Q) : Ev xl xs F L B1 B2 M pc lv (v3 :: v2 :: v1 :: v0 :: st) n h Q :=
  ev_callS (As := [v0, v1, v2, v3]) (rest := st) (b1 := 0) (b2 := 0) d ca rfl hlen hw hF hL (Nat.zero_le _) (Nat.zero_le _) hR hq k
theorem ev_callS4l {idx F' L' : Nat} {M' : Mt} {v0 v1 v2 v3 : Value} {r : Int64} {n' : Nat} {h' : Nat → PC} {lv : List (Option Value)} (d : decode M.2.1 pc = .ok (.invokestatic idx, 3)) (ca : CS M.1.cls idx M' 4) (hR : Rn xl xs F' L' 0 0 M' [v0, v1, v2, v3] n h (some (.long r)) n' h') (hlen : (entA [v0, v1, v2, v3]).length ≤ M'.2.2.1) (hw : (st.map fun v => v.category).sum ≤ 8) (hF : F' + 1 ≤ F) (hL : 19 + M'.2.2.1 + L' ≤ L) (hq : pc + 3 = q) (k : Ev xl xs F L B1 B2 M q lv (.long r :: st) n' h' Q) : Ev xl xs F L B1 B2 M pc lv (v3 :: v2 :: v1 :: v0 :: st) n h Q :=
  ev_callS (As := [v0, v1, v2, v3]) (rest := st) (b1 := 0) (b2 := 0) d ca rfl hlen hw hF hL (Nat.zero_le _) (Nat.zero_le _) hR hq k
theorem ev_callS4v {idx F' L' : Nat} {M' : Mt} {v0 v1 v2 v3 : Value} {n' : Nat} {h' : Nat → PC} {lv : List (Option Value)} (d : decode M.2.1 pc = .ok (.invokestatic idx, 3)) (ca : CS M.1.cls idx M' 4) (hR : Rn xl xs F' L' 0 0 M' [v0, v1, v2, v3] n h none n' h') (hlen : (entA [v0, v1, v2, v3]).length ≤ M'.2.2.1) (hw : (st.map fun v => v.category).sum ≤ 8) (hF : F' + 1 ≤ F) (hL : 19 + M'.2.2.1 + L' ≤ L) (hq : pc + 3 = q) (k : Ev xl xs F L B1 B2 M q lv st n' h' Q) : Ev xl xs F L B1 B2 M pc lv (v3 :: v2 :: v1 :: v0 :: st) n h Q :=
  ev_callS (As := [v0, v1, v2, v3]) (rest := st) (b1 := 0) (b2 := 0) d ca rfl hlen hw hF hL (Nat.zero_le _) (Nat.zero_le _) hR hq k
theorem ev_callS5i {idx F' L' : Nat} {M' : Mt} {v0 v1 v2 v3 v4 : Value} {r : Int32} {n' : Nat} {h' : Nat → PC} {lv : List (Option Value)} (d : decode M.2.1 pc = .ok (.invokestatic idx, 3)) (ca : CS M.1.cls idx M' 5) (hR : Rn xl xs F' L' 0 0 M' [v0, v1, v2, v3, v4] n h (some (.int r)) n' h') (hlen : (entA [v0, v1, v2, v3, v4]).length ≤ M'.2.2.1) (hw : (st.map fun v => v.category).sum ≤ 8) (hF : F' + 1 ≤ F) (hL : 19 + M'.2.2.1 + L' ≤ L) (hq : pc + 3 = q) (k : Ev xl xs F L B1 B2 M q lv (.int r :: st) n' h' Q) : Ev xl xs F L B1 B2 M pc lv (v4 :: v3 :: v2 :: v1 :: v0 :: st) n h Q :=
  ev_callS (As := [v0, v1, v2, v3, v4]) (rest := st) (b1 := 0) (b2 := 0) d ca rfl hlen hw hF hL (Nat.zero_le _) (Nat.zero_le _) hR hq k
theorem ev_callS5l {idx F' L' : Nat} {M' : Mt} {v0 v1 v2 v3 v4 : Value} {r : Int64} {n' : Nat} {h' : Nat → PC} {lv : List (Option Value)} (d : decode M.2.1 pc = .ok (.invokestatic idx, 3)) (ca : CS M.1.cls idx M' 5) (hR : Rn xl xs F' L' 0 0 M' [v0, v1, v2, v3, v4] n h (some (.long r)) n' h') (hlen : (entA [v0, v1, v2, v3, v4]).length ≤ M'.2.2.1) (hw : (st.map fun v => v.category).sum ≤ 8) (hF : F' + 1 ≤ F) (hL : 19 + M'.2.2.1 + L' ≤ L) (hq : pc + 3 = q) (k : Ev xl xs F L B1 B2 M q lv (.long r :: st) n' h' Q) : Ev xl xs F L B1 B2 M pc lv (v4 :: v3 :: v2 :: v1 :: v0 :: st) n h Q :=
  ev_callS (As := [v0, v1, v2, v3, v4]) (rest := st) (b1 := 0) (b2 := 0) d ca rfl hlen hw hF hL (Nat.zero_le _) (Nat.zero_le _) hR hq k
theorem ev_callS5v {idx F' L' : Nat} {M' : Mt} {v0 v1 v2 v3 v4 : Value} {n' : Nat} {h' : Nat → PC} {lv : List (Option Value)} (d : decode M.2.1 pc = .ok (.invokestatic idx, 3)) (ca : CS M.1.cls idx M' 5) (hR : Rn xl xs F' L' 0 0 M' [v0, v1, v2, v3, v4] n h none n' h') (hlen : (entA [v0, v1, v2, v3, v4]).length ≤ M'.2.2.1) (hw : (st.map fun v => v.category).sum ≤ 8) (hF : F' + 1 ≤ F) (hL : 19 + M'.2.2.1 + L' ≤ L) (hq : pc + 3 = q) (k : Ev xl xs F L B1 B2 M q lv st n' h' Q) : Ev xl xs F L B1 B2 M pc lv (v4 :: v3 :: v2 :: v1 :: v0 :: st) n h Q :=
  ev_callS (As := [v0, v1, v2, v3, v4]) (rest := st) (b1 := 0) (b2 := 0) d ca rfl hlen hw hF hL (Nat.zero_le _) (Nat.zero_le _) hR hq k
theorem ev_callSn0i {idx F' L' : Nat} {M' : Mt} {r : Int32} {n' : Nat} {h' : Nat → PC} {lv : List (Option Value)} (d : decode M.2.1 pc = .ok (.invokestatic idx, 3)) (ca : CSn M.1.cls idx M' 0) (hR : Rn xl xs F' L' 0 0 M' [] n h (some (.int r)) n' h') (hlen : (entA []).length ≤ M'.2.2.1) (hw : (st.map fun v => v.category).sum ≤ 8) (hF : F' + 1 ≤ F) (hL : 19 + M'.2.2.1 + L' ≤ L) (hq : pc + 3 = q) (k : Ev xl xs F L B1 B2 M q lv (.int r :: st) n' h' Q) : Ev xl xs F L B1 B2 M pc lv st n h Q :=
  ev_callSn (As := []) (rest := st) (b1 := 0) (b2 := 0) d ca rfl hlen hw hF hL (Nat.zero_le _) (Nat.zero_le _) hR hq k
theorem ev_callSn0l {idx F' L' : Nat} {M' : Mt} {r : Int64} {n' : Nat} {h' : Nat → PC} {lv : List (Option Value)} (d : decode M.2.1 pc = .ok (.invokestatic idx, 3)) (ca : CSn M.1.cls idx M' 0) (hR : Rn xl xs F' L' 0 0 M' [] n h (some (.long r)) n' h') (hlen : (entA []).length ≤ M'.2.2.1) (hw : (st.map fun v => v.category).sum ≤ 8) (hF : F' + 1 ≤ F) (hL : 19 + M'.2.2.1 + L' ≤ L) (hq : pc + 3 = q) (k : Ev xl xs F L B1 B2 M q lv (.long r :: st) n' h' Q) : Ev xl xs F L B1 B2 M pc lv st n h Q :=
  ev_callSn (As := []) (rest := st) (b1 := 0) (b2 := 0) d ca rfl hlen hw hF hL (Nat.zero_le _) (Nat.zero_le _) hR hq k
theorem ev_callSn0v {idx F' L' : Nat} {M' : Mt} {n' : Nat} {h' : Nat → PC} {lv : List (Option Value)} (d : decode M.2.1 pc = .ok (.invokestatic idx, 3)) (ca : CSn M.1.cls idx M' 0) (hR : Rn xl xs F' L' 0 0 M' [] n h none n' h') (hlen : (entA []).length ≤ M'.2.2.1) (hw : (st.map fun v => v.category).sum ≤ 8) (hF : F' + 1 ≤ F) (hL : 19 + M'.2.2.1 + L' ≤ L) (hq : pc + 3 = q) (k : Ev xl xs F L B1 B2 M q lv st n' h' Q) : Ev xl xs F L B1 B2 M pc lv st n h Q :=
  ev_callSn (As := []) (rest := st) (b1 := 0) (b2 := 0) d ca rfl hlen hw hF hL (Nat.zero_le _) (Nat.zero_le _) hR hq k
theorem ev_callSn1i {idx F' L' : Nat} {M' : Mt} {v0 : Value} {r : Int32} {n' : Nat} {h' : Nat → PC} {lv : List (Option Value)} (d : decode M.2.1 pc = .ok (.invokestatic idx, 3)) (ca : CSn M.1.cls idx M' 1) (hR : Rn xl xs F' L' 0 0 M' [v0] n h (some (.int r)) n' h') (hlen : (entA [v0]).length ≤ M'.2.2.1) (hw : (st.map fun v => v.category).sum ≤ 8) (hF : F' + 1 ≤ F) (hL : 19 + M'.2.2.1 + L' ≤ L) (hq : pc + 3 = q) (k : Ev xl xs F L B1 B2 M q lv (.int r :: st) n' h' Q) : Ev xl xs F L B1 B2 M pc lv (v0 :: st) n h Q :=
  ev_callSn (As := [v0]) (rest := st) (b1 := 0) (b2 := 0) d ca rfl hlen hw hF hL (Nat.zero_le _) (Nat.zero_le _) hR hq k
theorem ev_callSn1l {idx F' L' : Nat} {M' : Mt} {v0 : Value} {r : Int64} {n' : Nat} {h' : Nat → PC} {lv : List (Option Value)} (d : decode M.2.1 pc = .ok (.invokestatic idx, 3)) (ca : CSn M.1.cls idx M' 1) (hR : Rn xl xs F' L' 0 0 M' [v0] n h (some (.long r)) n' h') (hlen : (entA [v0]).length ≤ M'.2.2.1) (hw : (st.map fun v => v.category).sum ≤ 8) (hF : F' + 1 ≤ F) (hL : 19 + M'.2.2.1 + L' ≤ L) (hq : pc + 3 = q) (k : Ev xl xs F L B1 B2 M q lv (.long r :: st) n' h' Q) : Ev xl xs F L B1 B2 M pc lv (v0 :: st) n h Q :=
  ev_callSn (As := [v0]) (rest := st) (b1 := 0) (b2 := 0) d ca rfl hlen hw hF hL (Nat.zero_le _) (Nat.zero_le _) hR hq k
theorem ev_callSn1v {idx F' L' : Nat} {M' : Mt} {v0 : Value} {n' : Nat} {h' : Nat → PC} {lv : List (Option Value)} (d : decode M.2.1 pc = .ok (.invokestatic idx, 3)) (ca : CSn M.1.cls idx M' 1) (hR : Rn xl xs F' L' 0 0 M' [v0] n h none n' h') (hlen : (entA [v0]).length ≤ M'.2.2.1) (hw : (st.map fun v => v.category).sum ≤ 8) (hF : F' + 1 ≤ F) (hL : 19 + M'.2.2.1 + L' ≤ L) (hq : pc + 3 = q) (k : Ev xl xs F L B1 B2 M q lv st n' h' Q) : Ev xl xs F L B1 B2 M pc lv (v0 :: st) n h Q :=
  ev_callSn (As := [v0]) (rest := st) (b1 := 0) (b2 := 0) d ca rfl hlen hw hF hL (Nat.zero_le _) (Nat.zero_le _) hR hq k
theorem ev_callSn2i {idx F' L' : Nat} {M' : Mt} {v0 v1 : Value} {r : Int32} {n' : Nat} {h' : Nat → PC} {lv : List (Option Value)} (d : decode M.2.1 pc = .ok (.invokestatic idx, 3)) (ca : CSn M.1.cls idx M' 2) (hR : Rn xl xs F' L' 0 0 M' [v0, v1] n h (some (.int r)) n' h') (hlen : (entA [v0, v1]).length ≤ M'.2.2.1) (hw : (st.map fun v => v.category).sum ≤ 8) (hF : F' + 1 ≤ F) (hL : 19 + M'.2.2.1 + L' ≤ L) (hq : pc + 3 = q) (k : Ev xl xs F L B1 B2 M q lv (.int r :: st) n' h' Q) : Ev xl xs F L B1 B2 M pc lv (v1 :: v0 :: st) n h Q :=
  ev_callSn (As := [v0, v1]) (rest := st) (b1 := 0) (b2 := 0) d ca rfl hlen hw hF hL (Nat.zero_le _) (Nat.zero_le _) hR hq k
theorem ev_callSn2l {idx F' L' : Nat} {M' : Mt} {v0 v1 : Value} {r : Int64} {n' : Nat} {h' : Nat → PC} {lv : List (Option Value)} (d : decode M.2.1 pc = .ok (.invokestatic idx, 3)) (ca : CSn M.1.cls idx M' 2) (hR : Rn xl xs F' L' 0 0 M' [v0, v1] n h (some (.long r)) n' h') (hlen : (entA [v0, v1]).length ≤ M'.2.2.1) (hw : (st.map fun v => v.category).sum ≤ 8) (hF : F' + 1 ≤ F) (hL : 19 + M'.2.2.1 + L' ≤ L) (hq : pc + 3 = q) (k : Ev xl xs F L B1 B2 M q lv (.long r :: st) n' h' Q) : Ev xl xs F L B1 B2 M pc lv (v1 :: v0 :: st) n h Q :=
  ev_callSn (As := [v0, v1]) (rest := st) (b1 := 0) (b2 := 0) d ca rfl hlen hw hF hL (Nat.zero_le _) (Nat.zero_le _) hR hq k
theorem ev_callSn2v {idx F' L' : Nat} {M' : Mt} {v0 v1 : Value} {n' : Nat} {h' : Nat → PC} {lv : List (Option Value)} (d : decode M.2.1 pc = .ok (.invokestatic idx, 3)) (ca : CSn M.1.cls idx M' 2) (hR : Rn xl xs F' L' 0 0 M' [v0, v1] n h none n' h') (hlen : (entA [v0, v1]).length ≤ M'.2.2.1) (hw : (st.map fun v => v.category).sum ≤ 8) (hF : F' + 1 ≤ F) (hL : 19 + M'.2.2.1 + L' ≤ L) (hq : pc + 3 = q) (k : Ev xl xs F L B1 B2 M q lv st n' h' Q) : Ev xl xs F L B1 B2 M pc lv (v1 :: v0 :: st) n h Q :=
  ev_callSn (As := [v0, v1]) (rest := st) (b1 := 0) (b2 := 0) d ca rfl hlen hw hF hL (Nat.zero_le _) (Nat.zero_le _) hR hq k
theorem ev_callSn3i {idx F' L' : Nat} {M' : Mt} {v0 v1 v2 : Value} {r : Int32} {n' : Nat} {h' : Nat → PC} {lv : List (Option Value)} (d : decode M.2.1 pc = .ok (.invokestatic idx, 3)) (ca : CSn M.1.cls idx M' 3) (hR : Rn xl xs F' L' 0 0 M' [v0, v1, v2] n h (some (.int r)) n' h') (hlen : (entA [v0, v1, v2]).length ≤ M'.2.2.1) (hw : (st.map fun v => v.category).sum ≤ 8) (hF : F' + 1 ≤ F) (hL : 19 + M'.2.2.1 + L' ≤ L) (hq : pc + 3 = q) (k : Ev xl xs F L B1 B2 M q lv (.int r :: st) n' h' Q) : Ev xl xs F L B1 B2 M pc lv (v2 :: v1 :: v0 :: st) n h Q :=
  ev_callSn (As := [v0, v1, v2]) (rest := st) (b1 := 0) (b2 := 0) d ca rfl hlen hw hF hL (Nat.zero_le _) (Nat.zero_le _) hR hq k
theorem ev_callSn3l {idx F' L' : Nat} {M' : Mt} {v0 v1 v2 : Value} {r : Int64} {n' : Nat} {h' : Nat → PC} {lv : List (Option Value)} (d : decode M.2.1 pc = .ok (.invokestatic idx, 3)) (ca : CSn M.1.cls idx M' 3) (hR : Rn xl xs F' L' 0 0 M' [v0, v1, v2] n h (some (.long r)) n' h') (hlen : (entA [v0, v1, v2]).length ≤ M'.2.2.1) (hw : (st.map fun v => v.category).sum ≤ 8) (hF : F' + 1 ≤ F) (hL : 19 + M'.2.2.1 + L' ≤ L) (hq : pc + 3 = q) (k : Ev xl xs F L B1 B2 M q lv (.long r :: st) n' h' Q) : Ev xl xs F L B1 B2 M pc lv (v2 :: v1 :: v0 :: st) n h Q :=
  ev_callSn (As := [v0, v1, v2]) (rest := st) (b1 := 0) (b2 := 0) d ca rfl hlen hw hF hL (Nat.zero_le _) (Nat.zero_le _) hR hq k
theorem ev_callSn3v {idx F' L' : Nat} {M' : Mt} {v0 v1 v2 : Value} {n' : Nat} {h' : Nat → PC} {lv : List (Option Value)} (d : decode M.2.1 pc = .ok (.invokestatic idx, 3)) (ca : CSn M.1.cls idx M' 3) (hR : Rn xl xs F' L' 0 0 M' [v0, v1, v2] n h none n' h') (hlen : (entA [v0, v1, v2]).length ≤ M'.2.2.1) (hw : (st.map fun v => v.category).sum ≤ 8) (hF : F' + 1 ≤ F) (hL : 19 + M'.2.2.1 + L' ≤ L) (hq : pc + 3 = q) (k : Ev xl xs F L B1 B2 M q lv st n' h' Q) : Ev xl xs F L B1 B2 M pc lv (v2 :: v1 :: v0 :: st) n h Q :=
  ev_callSn (As := [v0, v1, v2]) (rest := st) (b1 := 0) (b2 := 0) d ca rfl hlen hw hF hL (Nat.zero_le _) (Nat.zero_le _) hR hq k
theorem ev_callSn4i {idx F' L' : Nat} {M' : Mt} {v0 v1 v2 v3 : Value} {r : Int32} {n' : Nat} {h' : Nat → PC} {lv : List (Option Value)} (d : decode M.2.1 pc = .ok (.invokestatic idx, 3)) (ca : CSn M.1.cls idx M' 4) (hR : Rn xl xs F' L' 0 0 M' [v0, v1, v2, v3] n h (some (.int r)) n' h') (hlen : (entA [v0, v1, v2, v3]).length ≤ M'.2.2.1) (hw : (st.map fun v => v.category).sum ≤ 8) (hF : F' + 1 ≤ F) (hL : 19 + M'.2.2.1 + L' ≤ L) (hq : pc + 3 = q) (k : Ev xl xs F L B1 B2 M q lv (.int r :: st) n' h' Q) : Ev xl xs F L B1 B2 M pc lv (v3 :: v2 :: v1 :: v0 :: st) n h Q :=
  ev_callSn (As := [v0, v1, v2, v3]) (rest := st) (b1 := 0) (b2 := 0) d ca rfl hlen hw hF hL (Nat.zero_le _) (Nat.zero_le _) hR hq k
theorem ev_callSn4l {idx F' L' : Nat} {M' : Mt} {v0 v1 v2 v3 : Value} {r : Int64} {n' : Nat} {h' : Nat → PC} {lv : List (Option Value)} (d : decode M.2.1 pc = .ok (.invokestatic idx, 3)) (ca : CSn M.1.cls idx M' 4) (hR : Rn xl xs F' L' 0 0 M' [v0, v1, v2, v3] n h (some (.long r)) n' h') (hlen : (entA [v0, v1, v2, v3]).length ≤ M'.2.2.1) (hw : (st.map fun v => v.category).sum ≤ 8) (hF : F' + 1 ≤ F) (hL : 19 + M'.2.2.1 + L' ≤ L) (hq : pc + 3 = q) (k : Ev xl xs F L B1 B2 M q lv (.long r :: st) n' h' Q) : Ev xl xs F L B1 B2 M pc lv (v3 :: v2 :: v1 :: v0 :: st) n h Q :=
  ev_callSn (As := [v0, v1, v2, v3]) (rest := st) (b1 := 0) (b2 := 0) d ca rfl hlen hw hF hL (Nat.zero_le _) (Nat.zero_le _) hR hq k
theorem ev_callSn4v {idx F' L' : Nat} {M' : Mt} {v0 v1 v2 v3 : Value} {n' : Nat} {h' : Nat → PC} {lv : List (Option Value)} (d : decode M.2.1 pc = .ok (.invokestatic idx, 3)) (ca : CSn M.1.cls idx M' 4) (hR : Rn xl xs F' L' 0 0 M' [v0, v1, v2, v3] n h none n' h') (hlen : (entA [v0, v1, v2, v3]).length ≤ M'.2.2.1) (hw : (st.map fun v => v.category).sum ≤ 8) (hF : F' + 1 ≤ F) (hL : 19 + M'.2.2.1 + L' ≤ L) (hq : pc + 3 = q) (k : Ev xl xs F L B1 B2 M q lv st n' h' Q) : Ev xl xs F L B1 B2 M pc lv (v3 :: v2 :: v1 :: v0 :: st) n h Q :=
  ev_callSn (As := [v0, v1, v2, v3]) (rest := st) (b1 := 0) (b2 := 0) d ca rfl hlen hw hF hL (Nat.zero_le _) (Nat.zero_le _) hR hq k
theorem ev_callSn5i {idx F' L' : Nat} {M' : Mt} {v0 v1 v2 v3 v4 : Value} {r : Int32} {n' : Nat} {h' : Nat → PC} {lv : List (Option Value)} (d : decode M.2.1 pc = .ok (.invokestatic idx, 3)) (ca : CSn M.1.cls idx M' 5) (hR : Rn xl xs F' L' 0 0 M' [v0, v1, v2, v3, v4] n h (some (.int r)) n' h') (hlen : (entA [v0, v1, v2, v3, v4]).length ≤ M'.2.2.1) (hw : (st.map fun v => v.category).sum ≤ 8) (hF : F' + 1 ≤ F) (hL : 19 + M'.2.2.1 + L' ≤ L) (hq : pc + 3 = q) (k : Ev xl xs F L B1 B2 M q lv (.int r :: st) n' h' Q) : Ev xl xs F L B1 B2 M pc lv (v4 :: v3 :: v2 :: v1 :: v0 :: st) n h Q :=
  ev_callSn (As := [v0, v1, v2, v3, v4]) (rest := st) (b1 := 0) (b2 := 0) d ca rfl hlen hw hF hL (Nat.zero_le _) (Nat.zero_le _) hR hq k
theorem ev_callSn5l {idx F' L' : Nat} {M' : Mt} {v0 v1 v2 v3 v4 : Value} {r : Int64} {n' : Nat} {h' : Nat → PC} {lv : List (Option Value)} (d : decode M.2.1 pc = .ok (.invokestatic idx, 3)) (ca : CSn M.1.cls idx M' 5) (hR : Rn xl xs F' L' 0 0 M' [v0, v1, v2, v3, v4] n h (some (.long r)) n' h') (hlen : (entA [v0, v1, v2, v3, v4]).length ≤ M'.2.2.1) (hw : (st.map fun v => v.category).sum ≤ 8) (hF : F' + 1 ≤ F) (hL : 19 + M'.2.2.1 + L' ≤ L) (hq : pc + 3 = q) (k : Ev xl xs F L B1 B2 M q lv (.long r :: st) n' h' Q) : Ev xl xs F L B1 B2 M pc lv (v4 :: v3 :: v2 :: v1 :: v0 :: st) n h Q :=
  ev_callSn (As := [v0, v1, v2, v3, v4]) (rest := st) (b1 := 0) (b2 := 0) d ca rfl hlen hw hF hL (Nat.zero_le _) (Nat.zero_le _) hR hq k
theorem ev_callSn5v {idx F' L' : Nat} {M' : Mt} {v0 v1 v2 v3 v4 : Value} {n' : Nat} {h' : Nat → PC} {lv : List (Option Value)} (d : decode M.2.1 pc = .ok (.invokestatic idx, 3)) (ca : CSn M.1.cls idx M' 5) (hR : Rn xl xs F' L' 0 0 M' [v0, v1, v2, v3, v4] n h none n' h') (hlen : (entA [v0, v1, v2, v3, v4]).length ≤ M'.2.2.1) (hw : (st.map fun v => v.category).sum ≤ 8) (hF : F' + 1 ≤ F) (hL : 19 + M'.2.2.1 + L' ≤ L) (hq : pc + 3 = q) (k : Ev xl xs F L B1 B2 M q lv st n' h' Q) : Ev xl xs F L B1 B2 M pc lv (v4 :: v3 :: v2 :: v1 :: v0 :: st) n h Q :=
  ev_callSn (As := [v0, v1, v2, v3, v4]) (rest := st) (b1 := 0) (b2 := 0) d ca rfl hlen hw hF hL (Nat.zero_le _) (Nat.zero_le _) hR hq k
theorem ev_callI0v {idx F' L' : Nat} {M' : Mt} {b : Nat} {n' : Nat} {h' : Nat → PC} {lv : List (Option Value)} (d : decode M.2.1 pc = .ok (.invokespecial idx, 3)) (ca : CN M.1.cls idx M' 0) (hR : Rn xl xs F' L' 0 0 M' [.ref b] n h none n' h') (hlen : (entA [.ref b]).length ≤ M'.2.2.1) (hw : (st.map fun v => v.category).sum ≤ 8) (hF : F' + 1 ≤ F) (hL : 19 + M'.2.2.1 + L' ≤ L) (hq : pc + 3 = q) (k : Ev xl xs F L B1 B2 M q lv st n' h' Q) : Ev xl xs F L B1 B2 M pc lv (.ref b :: st) n h Q :=
  ev_callI (As := []) (rest := st) (b1 := 0) (b2 := 0) d ca rfl hlen hw hF hL (Nat.zero_le _) (Nat.zero_le _) hR hq k
theorem ev_callI1v {idx F' L' : Nat} {M' : Mt} {v0 : Value} {b : Nat} {n' : Nat} {h' : Nat → PC} {lv : List (Option Value)} (d : decode M.2.1 pc = .ok (.invokespecial idx, 3)) (ca : CN M.1.cls idx M' 1) (hR : Rn xl xs F' L' 0 0 M' [.ref b, v0] n h none n' h') (hlen : (entA [.ref b, v0]).length ≤ M'.2.2.1) (hw : (st.map fun v => v.category).sum ≤ 8) (hF : F' + 1 ≤ F) (hL : 19 + M'.2.2.1 + L' ≤ L) (hq : pc + 3 = q) (k : Ev xl xs F L B1 B2 M q lv st n' h' Q) : Ev xl xs F L B1 B2 M pc lv (v0 :: .ref b :: st) n h Q :=
  ev_callI (As := [v0]) (rest := st) (b1 := 0) (b2 := 0) d ca rfl hlen hw hF hL (Nat.zero_le _) (Nat.zero_le _) hR hq k
theorem ev_callI2v {idx F' L' : Nat} {M' : Mt} {v0 v1 : Value} {b : Nat} {n' : Nat} {h' : Nat → PC} {lv : List (Option Value)} (d : decode M.2.1 pc = .ok (.invokespecial idx, 3)) (ca : CN M.1.cls idx M' 2) (hR : Rn xl xs F' L' 0 0 M' [.ref b, v0, v1] n h none n' h') (hlen : (entA [.ref b, v0, v1]).length ≤ M'.2.2.1) (hw : (st.map fun v => v.category).sum ≤ 8) (hF : F' + 1 ≤ F) (hL : 19 + M'.2.2.1 + L' ≤ L) (hq : pc + 3 = q) (k : Ev xl xs F L B1 B2 M q lv st n' h' Q) : Ev xl xs F L B1 B2 M pc lv (v1 :: v0 :: .ref b :: st) n h Q :=
  ev_callI (As := [v0, v1]) (rest := st) (b1 := 0) (b2 := 0) d ca rfl hlen hw hF hL (Nat.zero_le _) (Nat.zero_le _) hR hq k
theorem ev_callI3v {idx F' L' : Nat} {M' : Mt} {v0 v1 v2 : Value} {b : Nat} {n' : Nat} {h' : Nat → PC} {lv : List (Option Value)} (d : decode M.2.1 pc = .ok (.invokespecial idx, 3)) (ca : CN M.1.cls idx M' 3) (hR : Rn xl xs F' L' 0 0 M' [.ref b, v0, v1, v2] n h none n' h') (hlen : (entA [.ref b, v0, v1, v2]).length ≤ M'.2.2.1) (hw : (st.map fun v => v.category).sum ≤ 8) (hF : F' + 1 ≤ F) (hL : 19 + M'.2.2.1 + L' ≤ L) (hq : pc + 3 = q) (k : Ev xl xs F L B1 B2 M q lv st n' h' Q) : Ev xl xs F L B1 B2 M pc lv (v2 :: v1 :: v0 :: .ref b :: st) n h Q :=
  ev_callI (As := [v0, v1, v2]) (rest := st) (b1 := 0) (b2 := 0) d ca rfl hlen hw hF hL (Nat.zero_le _) (Nat.zero_le _) hR hq k
theorem ev_callI4v {idx F' L' : Nat} {M' : Mt} {v0 v1 v2 v3 : Value} {b : Nat} {n' : Nat} {h' : Nat → PC} {lv : List (Option Value)} (d : decode M.2.1 pc = .ok (.invokespecial idx, 3)) (ca : CN M.1.cls idx M' 4) (hR : Rn xl xs F' L' 0 0 M' [.ref b, v0, v1, v2, v3] n h none n' h') (hlen : (entA [.ref b, v0, v1, v2, v3]).length ≤ M'.2.2.1) (hw : (st.map fun v => v.category).sum ≤ 8) (hF : F' + 1 ≤ F) (hL : 19 + M'.2.2.1 + L' ≤ L) (hq : pc + 3 = q) (k : Ev xl xs F L B1 B2 M q lv st n' h' Q) : Ev xl xs F L B1 B2 M pc lv (v3 :: v2 :: v1 :: v0 :: .ref b :: st) n h Q :=
  ev_callI (As := [v0, v1, v2, v3]) (rest := st) (b1 := 0) (b2 := 0) d ca rfl hlen hw hF hL (Nat.zero_le _) (Nat.zero_le _) hR hq k
theorem ev_callI5v {idx F' L' : Nat} {M' : Mt} {v0 v1 v2 v3 v4 : Value} {b : Nat} {n' : Nat} {h' : Nat → PC} {lv : List (Option Value)} (d : decode M.2.1 pc = .ok (.invokespecial idx, 3)) (ca : CN M.1.cls idx M' 5) (hR : Rn xl xs F' L' 0 0 M' [.ref b, v0, v1, v2, v3, v4] n h none n' h') (hlen : (entA [.ref b, v0, v1, v2, v3, v4]).length ≤ M'.2.2.1) (hw : (st.map fun v => v.category).sum ≤ 8) (hF : F' + 1 ≤ F) (hL : 19 + M'.2.2.1 + L' ≤ L) (hq : pc + 3 = q) (k : Ev xl xs F L B1 B2 M q lv st n' h' Q) : Ev xl xs F L B1 B2 M pc lv (v4 :: v3 :: v2 :: v1 :: v0 :: .ref b :: st) n h Q :=
  ev_callI (As := [v0, v1, v2, v3, v4]) (rest := st) (b1 := 0) (b2 := 0) d ca rfl hlen hw hF hL (Nat.zero_le _) (Nat.zero_le _) hR hq k
theorem ev_callIn0v {idx F' L' : Nat} {M' : Mt} {b : Nat} {n' : Nat} {h' : Nat → PC} {lv : List (Option Value)} (d : decode M.2.1 pc = .ok (.invokespecial idx, 3)) (ca : CNn M.1.cls idx M' 0) (hR : Rn xl xs F' L' 0 0 M' [.ref b] n h none n' h') (hlen : (entA [.ref b]).length ≤ M'.2.2.1) (hw : (st.map fun v => v.category).sum ≤ 8) (hF : F' + 1 ≤ F) (hL : 19 + M'.2.2.1 + L' ≤ L) (hq : pc + 3 = q) (k : Ev xl xs F L B1 B2 M q lv st n' h' Q) : Ev xl xs F L B1 B2 M pc lv (.ref b :: st) n h Q :=
  ev_callIn (As := []) (rest := st) (b1 := 0) (b2 := 0) d ca rfl hlen hw hF hL (Nat.zero_le _) (Nat.zero_le _) hR hq k
theorem ev_callIn1v {idx F' L' : Nat} {M' : Mt} {v0 : Value} {b : Nat} {n' : Nat} {h' : Nat → PC} {lv : List (Option Value)} (d : decode M.2.1 pc = .ok (.invokespecial idx, 3)) (ca : CNn M.1.cls idx M' 1) (hR : Rn xl xs F' L' 0 0 M' [.ref b, v0] n h none n' h') (hlen : (entA [.ref b, v0]).length ≤ M'.2.2.1) (hw : (st.map fun v => v.category).sum ≤ 8) (hF : F' + 1 ≤ F) (hL : 19 + M'.2.2.1 + L' ≤ L) (hq : pc + 3 = q) (k : Ev xl xs F L B1 B2 M q lv st n' h' Q) : Ev xl xs F L B1 B2 M pc lv (v0 :: .ref b :: st) n h Q :=
  ev_callIn (As := [v0]) (rest := st) (b1 := 0) (b2 := 0) d ca rfl hlen hw hF hL (Nat.zero_le _) (Nat.zero_le _) hR hq k
theorem ev_callIn2v {idx F' L' : Nat} {M' : Mt} {v0 v1 : Value} {b : Nat} {n' : Nat} {h' : Nat → PC} {lv : List (Option Value)} (d : decode M.2.1 pc = .ok (.invokespecial idx, 3)) (ca : CNn M.1.cls idx M' 2) (hR : Rn xl xs F' L' 0 0 M' [.ref b, v0, v1] n h none n' h') (hlen : (entA [.ref b, v0, v1]).length ≤ M'.2.2.1) (hw : (st.map fun v => v.category).sum ≤ 8) (hF : F' + 1 ≤ F) (hL : 19 + M'.2.2.1 + L' ≤ L) (hq : pc + 3 = q) (k : Ev xl xs F L B1 B2 M q lv st n' h' Q) : Ev xl xs F L B1 B2 M pc lv (v1 :: v0 :: .ref b :: st) n h Q :=
  ev_callIn (As := [v0, v1]) (rest := st) (b1 := 0) (b2 := 0) d ca rfl hlen hw hF hL (Nat.zero_le _) (Nat.zero_le _) hR hq k
theorem ev_callIn3v {idx F' L' : Nat} {M' : Mt} {v0 v1 v2 : Value} {b : Nat} {n' : Nat} {h' : Nat → PC} {lv : List (Option Value)} (d : decode M.2.1 pc = .ok (.invokespecial idx, 3)) (ca : CNn M.1.cls idx M' 3) (hR : Rn xl xs F' L' 0 0 M' [.ref b, v0, v1, v2] n h none n' h') (hlen : (entA [.ref b, v0, v1, v2]).length ≤ M'.2.2.1) (hw : (st.map fun v => v.category).sum ≤ 8) (hF : F' + 1 ≤ F) (hL : 19 + M'.2.2.1 + L' ≤ L) (hq : pc + 3 = q) (k : Ev xl xs F L B1 B2 M q lv st n' h' Q) : Ev xl xs F L B1 B2 M pc lv (v2 :: v1 :: v0 :: .ref b :: st) n h Q :=
  ev_callIn (As := [v0, v1, v2]) (rest := st) (b1 := 0) (b2 := 0) d ca rfl hlen hw hF hL (Nat.zero_le _) (Nat.zero_le _) hR hq k
theorem ev_callIn4v {idx F' L' : Nat} {M' : Mt} {v0 v1 v2 v3 : Value} {b : Nat} {n' : Nat} {h' : Nat → PC} {lv : List (Option Value)} (d : decode M.2.1 pc = .ok (.invokespecial idx, 3)) (ca : CNn M.1.cls idx M' 4) (hR : Rn xl xs F' L' 0 0 M' [.ref b, v0, v1, v2, v3] n h none n' h') (hlen : (entA [.ref b, v0, v1, v2, v3]).length ≤ M'.2.2.1) (hw : (st.map fun v => v.category).sum ≤ 8) (hF : F' + 1 ≤ F) (hL : 19 + M'.2.2.1 + L' ≤ L) (hq : pc + 3 = q) (k : Ev xl xs F L B1 B2 M q lv st n' h' Q) : Ev xl xs F L B1 B2 M pc lv (v3 :: v2 :: v1 :: v0 :: .ref b :: st) n h Q :=
  ev_callIn (As := [v0, v1, v2, v3]) (rest := st) (b1 := 0) (b2 := 0) d ca rfl hlen hw hF hL (Nat.zero_le _) (Nat.zero_le _) hR hq k
theorem ev_callIn5v {idx F' L' : Nat} {M' : Mt} {v0 v1 v2 v3 v4 : Value} {b : Nat} {n' : Nat} {h' : Nat → PC} {lv : List (Option Value)} (d : decode M.2.1 pc = .ok (.invokespecial idx, 3)) (ca : CNn M.1.cls idx M' 5) (hR : Rn xl xs F' L' 0 0 M' [.ref b, v0, v1, v2, v3, v4] n h none n' h') (hlen : (entA [.ref b, v0, v1, v2, v3, v4]).length ≤ M'.2.2.1) (hw : (st.map fun v => v.category).sum ≤ 8) (hF : F' + 1 ≤ F) (hL : 19 + M'.2.2.1 + L' ≤ L) (hq : pc + 3 = q) (k : Ev xl xs F L B1 B2 M q lv st n' h' Q) : Ev xl xs F L B1 B2 M pc lv (v4 :: v3 :: v2 :: v1 :: v0 :: .ref b :: st) n h Q :=
  ev_callIn (As := [v0, v1, v2, v3, v4]) (rest := st) (b1 := 0) (b2 := 0) d ca rfl hlen hw hF hL (Nat.zero_le _) (Nat.zero_le _) hR hq k
variable {lv : List (Option Value)}
theorem ev_iretE {v w : Int32} {n2 : Nat} {h2 : Nat → PC} {ty : FieldType} (d : decode M.2.1 pc = .ok (.ireturn, 1)) (hr : M.2.2.2 = some ty) (hn : narrow ty (.int w) = .int w) (ev : v = w) (en : n = n2) (eh : h = h2) (hQ : Q (some (.int w)) n2 h2) : Ev xl xs F L B1 B2 M pc lv [.int v] n h Q := by
  subst ev; subst en; subst eh
  exact ev_iret d hr hn hQ
theorem ev_lretE {v w : Int64} {n2 : Nat} {h2 : Nat → PC} (d : decode M.2.1 pc = .ok (.lreturn, 1)) (hr : M.2.2.2 = some .long) (ev : v = w) (en : n = n2) (eh : h = h2) (hQ : Q (some (.long w)) n2 h2) : Ev xl xs F L B1 B2 M pc lv [.long v] n h Q := by
  subst ev; subst en; subst eh
  exact ev_lret d hr hQ
theorem ev_retE {n2 : Nat} {h2 : Nat → PC} (d : decode M.2.1 pc = .ok (.return_, 1)) (hr : M.2.2.2 = none) (en : n = n2) (eh : h = h2) (hQ : Q none n2 h2) : Ev xl xs F L B1 B2 M pc lv [] n h Q := by
  subst en; subst eh
  exact ev_ret d hr hQ
theorem lt_n {a m n : Nat} (h : m ≤ n) (h1 : a < m) : a < n := Nat.lt_of_lt_of_le h1 h
def b2i (b : Bool) : Int32 := if b then 1 else 0
theorem nar_b2i (b : Bool) : narrow .boolean (.int (b2i b)) = .int (b2i b) := by cases b <;> rfl
end ROWS2
end
section
/-! THE SYSTEM: its cells at fixed places, one function of typed stores I (ints), J (longs), X (the images' row) -/
def sysL (I : Nat → Nat → Int32) (J : Nat → Nat → Int64) (X : Nat → Option Nat) : List PC := [.inr (6, [.ref 1, .ref 9, .ref 10, .ref 13, .ref 16, .ref 21, .ref 24, .ref 30, .ref 31, .ref 32]),
  .inr (4, [.int (I 1 0), .int (I 1 1), .int (I 1 2), .int (I 1 3), .int (I 1 4), .long (J 1 5), .ref 2, .ref 3, .ref 4, .ref 5, .int (I 1 10), .ref 6, .int (I 1 12), .ref 7, .ref 8, .int (I 1 15)]),
  .inl (0, 24, .inl (I 2)),
  .inl (0, 6, .inl (I 3)),
  .inl (0, 4, .inl (I 4)),
  .inl (0, 16, .inl (I 5)),
  .inl (1, 12, .inr (.inl (J 6))),
  .inl (0, 6, .inl (I 7)),
  .inl (0, 6, .inl (I 8)),
  .inl (3, 2, .inr (.inr (.inr (.inr X)))),
  .inr (1, [.ref 11, .int (I 10 1), .ref 12]),
  .inl (0, 40, .inl (I 11)),
  .inl (1, 24, .inr (.inl (J 12))),
  .inr (1, [.ref 14, .int (I 13 1), .ref 15]),
  .inl (0, 40, .inl (I 14)),
  .inl (1, 24, .inr (.inl (J 15))),
  .inr (5, [.int (I 16 0), .ref 17, .ref 18, .ref 19, .ref 20]),
  .inl (0, 729, .inl (I 17)),
  .inl (0, 729, .inl (I 18)),
  .inl (1, 729, .inr (.inl (J 19))),
  .inl (0, 64, .inl (I 20)),
  .inr (3, [.ref 1, .ref 16, .ref 22, .ref 23]),
  .inl (0, 64, .inl (I 22)),
  .inl (0, 64, .inl (I 23)),
  .inr (2, [.ref 1, .ref 16, .ref 25, .ref 26, .ref 27, .ref 28, .ref 29, .int (I 24 7)]),
  .inl (0, 64, .inl (I 25)),
  .inl (0, 64, .inl (I 26)),
  .inl (0, 64, .inl (I 27)),
  .inl (0, 64, .inl (I 28)),
  .inl (0, 64, .inl (I 29)),
  .inr (0, [.int (I 30 0), .int (I 30 1), .int (I 30 2)]),
  .inl (0, 64, .inl (I 31)),
  .inl (0, 64, .inl (I 32)),
  .inr (7, [.int (I 33 0), .ref 34, .ref 35, .ref 36, .int (I 33 4), .int (I 33 5), .int (I 33 6), .int (I 33 7), .long (J 33 8), .int (I 33 9), .ref 37, .int (I 33 11), .ref 38, .ref 39, .int (I 33 14), .ref 40, .int (I 33 16), .ref 41, .int (I 33 18), .ref 42, .ref 43, .int (I 33 21), .int (I 33 22), .ref 44, .ref 45, .int (I 33 25), .ref 46, .ref 47, .ref 48]),
  .inl (0, 24, .inl (I 34)),
  .inl (0, 6, .inl (I 35)),
  .inl (0, 4, .inl (I 36)),
  .inl (0, 16, .inl (I 37)),
  .inl (1, 6, .inr (.inl (J 38))),
  .inl (0, 6, .inl (I 39)),
  .inl (0, 12, .inl (I 40)),
  .inl (0, 40, .inl (I 41)),
  .inl (0, 40, .inl (I 42)),
  .inl (2, 40, .inl (I 43)),
  .inl (0, 64, .inl (I 44)),
  .inl (0, 64, .inl (I 45)),
  .inl (0, 200, .inl (I 46)),
  .inl (1, 14, .inr (.inl (J 47))),
  .inl (2, 2, .inl (I 48)),
  .inr (4, [.int (I 49 0), .int (I 49 1), .int (I 49 2), .int (I 49 3), .int (I 49 4), .long (J 49 5), .ref 50, .ref 51, .ref 52, .ref 53, .int (I 49 10), .ref 54, .int (I 49 12), .ref 55, .ref 56, .int (I 49 15)]),
  .inl (0, 24, .inl (I 50)),
  .inl (0, 6, .inl (I 51)),
  .inl (0, 4, .inl (I 52)),
  .inl (0, 16, .inl (I 53)),
  .inl (1, 12, .inr (.inl (J 54))),
  .inl (0, 6, .inl (I 55)),
  .inl (0, 6, .inl (I 56)),
  .inr (4, [.int (I 57 0), .int (I 57 1), .int (I 57 2), .int (I 57 3), .int (I 57 4), .long (J 57 5), .ref 58, .ref 59, .ref 60, .ref 61, .int (I 57 10), .ref 62, .int (I 57 12), .ref 63, .ref 64, .int (I 57 15)]),
  .inl (0, 24, .inl (I 58)),
  .inl (0, 6, .inl (I 59)),
  .inl (0, 4, .inl (I 60)),
  .inl (0, 16, .inl (I 61)),
  .inl (1, 12, .inr (.inl (J 62))),
  .inl (0, 6, .inl (I 63)),
  .inl (0, 6, .inl (I 64))]
def sysH (I : Nat → Nat → Int32) (J : Nat → Nat → Int64) (X : Nat → Option Nat) : Nat → PC := fun p => (sysL I J X).getD p (.inl (0, 0, .inl (fun _ => 0)))
def setI (I : Nat → Nat → Int32) (p : Nat) (f : Nat → Int32) : Nat → Nat → Int32 := fun q => if q = p then f else I q
def setJ (J : Nat → Nat → Int64) (p : Nat) (f : Nat → Int64) : Nat → Nat → Int64 := fun q => if q = p then f else J q
theorem sys_up {I I2 : Nat → Nat → Int32} {J J2 : Nat → Nat → Int64} {X X2 : Nat → Option Nat} {p : Nat} {c : PC} (hp : p < 65) (e : (sysL I J X).set p c = sysL I2 J2 X2) : hup (sysH I J X) p c = sysH I2 J2 X2 := by
  funext q
  unfold sysH
  rw [← e]
  show (if q = p then c else (sysL I J X).getD q (.inl (0, 0, .inl (fun _ => 0)))) = _
  rw [List.getD_eq_getElem?_getD, List.getD_eq_getElem?_getD, List.getElem?_set]
  by_cases hq : q = p
  · subst hq
    simp [show (sysL I J X).length = 65 from rfl, hp]
  · have : p ≠ q := fun h => hq h.symm
    simp [hq, this]
def shI : Nat → Option Nat := fun p => ([none, none, some 24, some 6, some 4, some 16, none, some 6, some 6, none, none, some 40, none, none, some 40, none, none, some 729, some 729, none, some 64, none, some 64, some 64, none, some 64, some 64, some 64, some 64, some 64, none, some 64, some 64, none, some 24, some 6, some 4, some 16, none, some 6, some 12, some 40, some 40, none, some 64, some 64, some 200, none, none, none, some 24, some 6, some 4, some 16, none, some 6, some 6, none, some 24, some 6, some 4, some 16, none, some 6, some 6] : List (Option Nat)).getD p none
def shJ : Nat → Option Nat := fun p => ([none, none, none, none, none, none, some 12, none, none, none, none, none, some 24, none, none, some 24, none, none, none, some 729, none, none, none, none, none, none, none, none, none, none, none, none, none, none, none, none, none, none, some 6, none, none, none, none, none, none, none, none, some 14, none, none, none, none, none, none, some 12, none, none, none, none, none, none, none, some 12, none, none] : List (Option Nat)).getD p none
def shZ : Nat → Option Nat := fun p => ([none, none, none, none, none, none, none, none, none, none, none, none, none, none, none, none, none, none, none, none, none, none, none, none, none, none, none, none, none, none, none, none, none, none, none, none, none, none, none, none, none, none, none, some 40, none, none, none, none, some 2, none, none, none, none, none, none, none, none, none, none, none, none, none, none, none, none] : List (Option Nat)).getD p none
theorem shI_at {I : Nat → Nat → Int32} {J : Nat → Nat → Int64} {X : Nat → Option Nat} : ∀ {p len : Nat}, shI p = some len → sysH I J X p = .inl (0, len, .inl (I p))
  | 0, _, h => by cases h
  | 1, _, h => by cases h
  | 2, _, h => by cases h; rfl
  | 3, _, h => by cases h; rfl
  | 4, _, h => by cases h; rfl
  | 5, _, h => by cases h; rfl
  | 6, _, h => by cases h
  | 7, _, h => by cases h; rfl
  | 8, _, h => by cases h; rfl
  | 9, _, h => by cases h
  | 10, _, h => by cases h
  | 11, _, h => by cases h; rfl
  | 12, _, h => by cases h
  | 13, _, h => by cases h
  | 14, _, h => by cases h; rfl
  | 15, _, h => by cases h
  | 16, _, h => by cases h
  | 17, _, h => by cases h; rfl
  | 18, _, h => by cases h; rfl
  | 19, _, h => by cases h
  | 20, _, h => by cases h; rfl
  | 21, _, h => by cases h
  | 22, _, h => by cases h; rfl
  | 23, _, h => by cases h; rfl
  | 24, _, h => by cases h
  | 25, _, h => by cases h; rfl
  | 26, _, h => by cases h; rfl
  | 27, _, h => by cases h; rfl
  | 28, _, h => by cases h; rfl
  | 29, _, h => by cases h; rfl
  | 30, _, h => by cases h
  | 31, _, h => by cases h; rfl
  | 32, _, h => by cases h; rfl
  | 33, _, h => by cases h
  | 34, _, h => by cases h; rfl
  | 35, _, h => by cases h; rfl
  | 36, _, h => by cases h; rfl
  | 37, _, h => by cases h; rfl
  | 38, _, h => by cases h
  | 39, _, h => by cases h; rfl
  | 40, _, h => by cases h; rfl
  | 41, _, h => by cases h; rfl
  | 42, _, h => by cases h; rfl
  | 43, _, h => by cases h
  | 44, _, h => by cases h; rfl
  | 45, _, h => by cases h; rfl
  | 46, _, h => by cases h; rfl
  | 47, _, h => by cases h
  | 48, _, h => by cases h
  | 49, _, h => by cases h
  | 50, _, h => by cases h; rfl
  | 51, _, h => by cases h; rfl
  | 52, _, h => by cases h; rfl
  | 53, _, h => by cases h; rfl
  | 54, _, h => by cases h
  | 55, _, h => by cases h; rfl
  | 56, _, h => by cases h; rfl
  | 57, _, h => by cases h
  | 58, _, h => by cases h; rfl
  | 59, _, h => by cases h; rfl
  | 60, _, h => by cases h; rfl
  | 61, _, h => by cases h; rfl
  | 62, _, h => by cases h
  | 63, _, h => by cases h; rfl
  | 64, _, h => by cases h; rfl
  | p + 65, _, h => by cases (show none = some _ from h)
set_option maxHeartbeats 4000000 in
theorem shI_up {I : Nat → Nat → Int32} {J : Nat → Nat → Int64} {X : Nat → Option Nat} (f : Nat → Int32) : ∀ {p len : Nat}, shI p = some len → hup (sysH I J X) p (.inl (0, len, .inl f)) = sysH (setI I p f) J X
  | 0, _, h => by cases h
  | 1, _, h => by cases h
  | 2, _, h => by cases h; exact sys_up (by decide) rfl
  | 3, _, h => by cases h; exact sys_up (by decide) rfl
  | 4, _, h => by cases h; exact sys_up (by decide) rfl
  | 5, _, h => by cases h; exact sys_up (by decide) rfl
  | 6, _, h => by cases h
  | 7, _, h => by cases h; exact sys_up (by decide) rfl
  | 8, _, h => by cases h; exact sys_up (by decide) rfl
  | 9, _, h => by cases h
  | 10, _, h => by cases h
  | 11, _, h => by cases h; exact sys_up (by decide) rfl
  | 12, _, h => by cases h
  | 13, _, h => by cases h
  | 14, _, h => by cases h; exact sys_up (by decide) rfl
  | 15, _, h => by cases h
  | 16, _, h => by cases h
  | 17, _, h => by cases h; exact sys_up (by decide) rfl
  | 18, _, h => by cases h; exact sys_up (by decide) rfl
  | 19, _, h => by cases h
  | 20, _, h => by cases h; exact sys_up (by decide) rfl
  | 21, _, h => by cases h
  | 22, _, h => by cases h; exact sys_up (by decide) rfl
  | 23, _, h => by cases h; exact sys_up (by decide) rfl
  | 24, _, h => by cases h
  | 25, _, h => by cases h; exact sys_up (by decide) rfl
  | 26, _, h => by cases h; exact sys_up (by decide) rfl
  | 27, _, h => by cases h; exact sys_up (by decide) rfl
  | 28, _, h => by cases h; exact sys_up (by decide) rfl
  | 29, _, h => by cases h; exact sys_up (by decide) rfl
  | 30, _, h => by cases h
  | 31, _, h => by cases h; exact sys_up (by decide) rfl
  | 32, _, h => by cases h; exact sys_up (by decide) rfl
  | 33, _, h => by cases h
  | 34, _, h => by cases h; exact sys_up (by decide) rfl
  | 35, _, h => by cases h; exact sys_up (by decide) rfl
  | 36, _, h => by cases h; exact sys_up (by decide) rfl
  | 37, _, h => by cases h; exact sys_up (by decide) rfl
  | 38, _, h => by cases h
  | 39, _, h => by cases h; exact sys_up (by decide) rfl
  | 40, _, h => by cases h; exact sys_up (by decide) rfl
  | 41, _, h => by cases h; exact sys_up (by decide) rfl
  | 42, _, h => by cases h; exact sys_up (by decide) rfl
  | 43, _, h => by cases h
  | 44, _, h => by cases h; exact sys_up (by decide) rfl
  | 45, _, h => by cases h; exact sys_up (by decide) rfl
  | 46, _, h => by cases h; exact sys_up (by decide) rfl
  | 47, _, h => by cases h
  | 48, _, h => by cases h
  | 49, _, h => by cases h
  | 50, _, h => by cases h; exact sys_up (by decide) rfl
  | 51, _, h => by cases h; exact sys_up (by decide) rfl
  | 52, _, h => by cases h; exact sys_up (by decide) rfl
  | 53, _, h => by cases h; exact sys_up (by decide) rfl
  | 54, _, h => by cases h
  | 55, _, h => by cases h; exact sys_up (by decide) rfl
  | 56, _, h => by cases h; exact sys_up (by decide) rfl
  | 57, _, h => by cases h
  | 58, _, h => by cases h; exact sys_up (by decide) rfl
  | 59, _, h => by cases h; exact sys_up (by decide) rfl
  | 60, _, h => by cases h; exact sys_up (by decide) rfl
  | 61, _, h => by cases h; exact sys_up (by decide) rfl
  | 62, _, h => by cases h
  | 63, _, h => by cases h; exact sys_up (by decide) rfl
  | 64, _, h => by cases h; exact sys_up (by decide) rfl
  | p + 65, _, h => by cases (show none = some _ from h)
theorem shJ_at {I : Nat → Nat → Int32} {J : Nat → Nat → Int64} {X : Nat → Option Nat} : ∀ {p len : Nat}, shJ p = some len → sysH I J X p = .inl (1, len, .inr (.inl (J p)))
  | 0, _, h => by cases h
  | 1, _, h => by cases h
  | 2, _, h => by cases h
  | 3, _, h => by cases h
  | 4, _, h => by cases h
  | 5, _, h => by cases h
  | 6, _, h => by cases h; rfl
  | 7, _, h => by cases h
  | 8, _, h => by cases h
  | 9, _, h => by cases h
  | 10, _, h => by cases h
  | 11, _, h => by cases h
  | 12, _, h => by cases h; rfl
  | 13, _, h => by cases h
  | 14, _, h => by cases h
  | 15, _, h => by cases h; rfl
  | 16, _, h => by cases h
  | 17, _, h => by cases h
  | 18, _, h => by cases h
  | 19, _, h => by cases h; rfl
  | 20, _, h => by cases h
  | 21, _, h => by cases h
  | 22, _, h => by cases h
  | 23, _, h => by cases h
  | 24, _, h => by cases h
  | 25, _, h => by cases h
  | 26, _, h => by cases h
  | 27, _, h => by cases h
  | 28, _, h => by cases h
  | 29, _, h => by cases h
  | 30, _, h => by cases h
  | 31, _, h => by cases h
  | 32, _, h => by cases h
  | 33, _, h => by cases h
  | 34, _, h => by cases h
  | 35, _, h => by cases h
  | 36, _, h => by cases h
  | 37, _, h => by cases h
  | 38, _, h => by cases h; rfl
  | 39, _, h => by cases h
  | 40, _, h => by cases h
  | 41, _, h => by cases h
  | 42, _, h => by cases h
  | 43, _, h => by cases h
  | 44, _, h => by cases h
  | 45, _, h => by cases h
  | 46, _, h => by cases h
  | 47, _, h => by cases h; rfl
  | 48, _, h => by cases h
  | 49, _, h => by cases h
  | 50, _, h => by cases h
  | 51, _, h => by cases h
  | 52, _, h => by cases h
  | 53, _, h => by cases h
  | 54, _, h => by cases h; rfl
  | 55, _, h => by cases h
  | 56, _, h => by cases h
  | 57, _, h => by cases h
  | 58, _, h => by cases h
  | 59, _, h => by cases h
  | 60, _, h => by cases h
  | 61, _, h => by cases h
  | 62, _, h => by cases h; rfl
  | 63, _, h => by cases h
  | 64, _, h => by cases h
  | p + 65, _, h => by cases (show none = some _ from h)
set_option maxHeartbeats 4000000 in
theorem shJ_up {I : Nat → Nat → Int32} {J : Nat → Nat → Int64} {X : Nat → Option Nat} (f : Nat → Int64) : ∀ {p len : Nat}, shJ p = some len → hup (sysH I J X) p (.inl (1, len, .inr (.inl f))) = sysH I (setJ J p f) X
  | 0, _, h => by cases h
  | 1, _, h => by cases h
  | 2, _, h => by cases h
  | 3, _, h => by cases h
  | 4, _, h => by cases h
  | 5, _, h => by cases h
  | 6, _, h => by cases h; exact sys_up (by decide) rfl
  | 7, _, h => by cases h
  | 8, _, h => by cases h
  | 9, _, h => by cases h
  | 10, _, h => by cases h
  | 11, _, h => by cases h
  | 12, _, h => by cases h; exact sys_up (by decide) rfl
  | 13, _, h => by cases h
  | 14, _, h => by cases h
  | 15, _, h => by cases h; exact sys_up (by decide) rfl
  | 16, _, h => by cases h
  | 17, _, h => by cases h
  | 18, _, h => by cases h
  | 19, _, h => by cases h; exact sys_up (by decide) rfl
  | 20, _, h => by cases h
  | 21, _, h => by cases h
  | 22, _, h => by cases h
  | 23, _, h => by cases h
  | 24, _, h => by cases h
  | 25, _, h => by cases h
  | 26, _, h => by cases h
  | 27, _, h => by cases h
  | 28, _, h => by cases h
  | 29, _, h => by cases h
  | 30, _, h => by cases h
  | 31, _, h => by cases h
  | 32, _, h => by cases h
  | 33, _, h => by cases h
  | 34, _, h => by cases h
  | 35, _, h => by cases h
  | 36, _, h => by cases h
  | 37, _, h => by cases h
  | 38, _, h => by cases h; exact sys_up (by decide) rfl
  | 39, _, h => by cases h
  | 40, _, h => by cases h
  | 41, _, h => by cases h
  | 42, _, h => by cases h
  | 43, _, h => by cases h
  | 44, _, h => by cases h
  | 45, _, h => by cases h
  | 46, _, h => by cases h
  | 47, _, h => by cases h; exact sys_up (by decide) rfl
  | 48, _, h => by cases h
  | 49, _, h => by cases h
  | 50, _, h => by cases h
  | 51, _, h => by cases h
  | 52, _, h => by cases h
  | 53, _, h => by cases h
  | 54, _, h => by cases h; exact sys_up (by decide) rfl
  | 55, _, h => by cases h
  | 56, _, h => by cases h
  | 57, _, h => by cases h
  | 58, _, h => by cases h
  | 59, _, h => by cases h
  | 60, _, h => by cases h
  | 61, _, h => by cases h
  | 62, _, h => by cases h; exact sys_up (by decide) rfl
  | 63, _, h => by cases h
  | 64, _, h => by cases h
  | p + 65, _, h => by cases (show none = some _ from h)
theorem shZ_at {I : Nat → Nat → Int32} {J : Nat → Nat → Int64} {X : Nat → Option Nat} : ∀ {p len : Nat}, shZ p = some len → sysH I J X p = .inl (2, len, .inl (I p))
  | 0, _, h => by cases h
  | 1, _, h => by cases h
  | 2, _, h => by cases h
  | 3, _, h => by cases h
  | 4, _, h => by cases h
  | 5, _, h => by cases h
  | 6, _, h => by cases h
  | 7, _, h => by cases h
  | 8, _, h => by cases h
  | 9, _, h => by cases h
  | 10, _, h => by cases h
  | 11, _, h => by cases h
  | 12, _, h => by cases h
  | 13, _, h => by cases h
  | 14, _, h => by cases h
  | 15, _, h => by cases h
  | 16, _, h => by cases h
  | 17, _, h => by cases h
  | 18, _, h => by cases h
  | 19, _, h => by cases h
  | 20, _, h => by cases h
  | 21, _, h => by cases h
  | 22, _, h => by cases h
  | 23, _, h => by cases h
  | 24, _, h => by cases h
  | 25, _, h => by cases h
  | 26, _, h => by cases h
  | 27, _, h => by cases h
  | 28, _, h => by cases h
  | 29, _, h => by cases h
  | 30, _, h => by cases h
  | 31, _, h => by cases h
  | 32, _, h => by cases h
  | 33, _, h => by cases h
  | 34, _, h => by cases h
  | 35, _, h => by cases h
  | 36, _, h => by cases h
  | 37, _, h => by cases h
  | 38, _, h => by cases h
  | 39, _, h => by cases h
  | 40, _, h => by cases h
  | 41, _, h => by cases h
  | 42, _, h => by cases h
  | 43, _, h => by cases h; rfl
  | 44, _, h => by cases h
  | 45, _, h => by cases h
  | 46, _, h => by cases h
  | 47, _, h => by cases h
  | 48, _, h => by cases h; rfl
  | 49, _, h => by cases h
  | 50, _, h => by cases h
  | 51, _, h => by cases h
  | 52, _, h => by cases h
  | 53, _, h => by cases h
  | 54, _, h => by cases h
  | 55, _, h => by cases h
  | 56, _, h => by cases h
  | 57, _, h => by cases h
  | 58, _, h => by cases h
  | 59, _, h => by cases h
  | 60, _, h => by cases h
  | 61, _, h => by cases h
  | 62, _, h => by cases h
  | 63, _, h => by cases h
  | 64, _, h => by cases h
  | p + 65, _, h => by cases (show none = some _ from h)
set_option maxHeartbeats 4000000 in
theorem shZ_up {I : Nat → Nat → Int32} {J : Nat → Nat → Int64} {X : Nat → Option Nat} (f : Nat → Int32) : ∀ {p len : Nat}, shZ p = some len → hup (sysH I J X) p (.inl (2, len, .inl f)) = sysH (setI I p f) J X
  | 0, _, h => by cases h
  | 1, _, h => by cases h
  | 2, _, h => by cases h
  | 3, _, h => by cases h
  | 4, _, h => by cases h
  | 5, _, h => by cases h
  | 6, _, h => by cases h
  | 7, _, h => by cases h
  | 8, _, h => by cases h
  | 9, _, h => by cases h
  | 10, _, h => by cases h
  | 11, _, h => by cases h
  | 12, _, h => by cases h
  | 13, _, h => by cases h
  | 14, _, h => by cases h
  | 15, _, h => by cases h
  | 16, _, h => by cases h
  | 17, _, h => by cases h
  | 18, _, h => by cases h
  | 19, _, h => by cases h
  | 20, _, h => by cases h
  | 21, _, h => by cases h
  | 22, _, h => by cases h
  | 23, _, h => by cases h
  | 24, _, h => by cases h
  | 25, _, h => by cases h
  | 26, _, h => by cases h
  | 27, _, h => by cases h
  | 28, _, h => by cases h
  | 29, _, h => by cases h
  | 30, _, h => by cases h
  | 31, _, h => by cases h
  | 32, _, h => by cases h
  | 33, _, h => by cases h
  | 34, _, h => by cases h
  | 35, _, h => by cases h
  | 36, _, h => by cases h
  | 37, _, h => by cases h
  | 38, _, h => by cases h
  | 39, _, h => by cases h
  | 40, _, h => by cases h
  | 41, _, h => by cases h
  | 42, _, h => by cases h
  | 43, _, h => by cases h; exact sys_up (by decide) rfl
  | 44, _, h => by cases h
  | 45, _, h => by cases h
  | 46, _, h => by cases h
  | 47, _, h => by cases h
  | 48, _, h => by cases h; exact sys_up (by decide) rfl
  | 49, _, h => by cases h
  | 50, _, h => by cases h
  | 51, _, h => by cases h
  | 52, _, h => by cases h
  | 53, _, h => by cases h
  | 54, _, h => by cases h
  | 55, _, h => by cases h
  | 56, _, h => by cases h
  | 57, _, h => by cases h
  | 58, _, h => by cases h
  | 59, _, h => by cases h
  | 60, _, h => by cases h
  | 61, _, h => by cases h
  | 62, _, h => by cases h
  | 63, _, h => by cases h
  | 64, _, h => by cases h
  | p + 65, _, h => by cases (show none = some _ from h)
section SROWS
variable {xl : Nat} {xs : Nat → Int32} {F L B1 B2 : Nat} {M : Mt} {pc : Nat} {lv : List (Option Value)} {st : List Value} {n : Nat} {Q : QT} {q : Nat} {I : Nat → Nat → Int32} {J : Nat → Nat → Int64} {X : Nat → Option Nat}
theorem ev_heap {h h2 : Nat → PC} (e : h = h2) (k : Ev xl xs F L B1 B2 M pc lv st n h2 Q) : Ev xl xs F L B1 B2 M pc lv st n h Q := by subst e; exact k
theorem in_nI {i : Int32} {kx len : Nat} (hi : i = nI kx) (hk : kx < len) (hl : len ≤ 1000) : vp_in i len ∧ i.toNatClampNeg = kx := by
  subst hi
  exact ⟨vp_in_nI hk (by omega), nI_clamp (by omega)⟩
theorem shI_le {p len : Nat} (h : shI p = some len) : len ≤ 1000 := by
  have : ∀ p, p < 65 → ∀ len, shI p = some len → len ≤ 1000 := by decide
  by_cases hp : p < 65
  · exact this p hp len h
  · have e : shI p = none := by unfold shI; rw [List.getD_eq_getElem?_getD, List.getElem?_eq_none (by simpa using hp)]; rfl
    rw [e] at h; cases h
theorem shJ_le {p len : Nat} (h : shJ p = some len) : len ≤ 1000 := by
  have : ∀ p, p < 65 → ∀ len, shJ p = some len → len ≤ 1000 := by decide
  by_cases hp : p < 65
  · exact this p hp len h
  · have e : shJ p = none := by unfold shJ; rw [List.getD_eq_getElem?_getD, List.getElem?_eq_none (by simpa using hp)]; rfl
    rw [e] at h; cases h
theorem shZ_le {p len : Nat} (h : shZ p = some len) : len ≤ 1000 := by
  have : ∀ p, p < 65 → ∀ len, shZ p = some len → len ≤ 1000 := by decide
  by_cases hp : p < 65
  · exact this p hp len h
  · have e : shZ p = none := by unfold shZ; rw [List.getD_eq_getElem?_getD, List.getElem?_eq_none (by simpa using hp)]; rfl
    rw [e] at h; cases h
theorem ev_iaS {p len : Nat} {i : Int32} (kx : Nat) (d : decode M.2.1 pc = .ok (.iaload, 1)) (hi : i = nI kx) (hs : shI p = some len) (hk : kx < len) (hn : p < n) (hq : pc + 1 = q) (k : Ev xl xs F L B1 B2 M q lv (.int (I p kx) :: st) n (sysH I J X) Q) : Ev xl xs F L B1 B2 M pc lv (.int i :: .ref p :: st) n (sysH I J X) Q := by
  obtain ⟨h1, h2⟩ := in_nI hi hk (shI_le hs)
  refine ev_iald d (shI_at hs) hn h1 hq ?_
  rw [h2]; exact k
theorem ev_zaS {p len : Nat} {i : Int32} (kx : Nat) (d : decode M.2.1 pc = .ok (.baload, 1)) (hi : i = nI kx) (hs : shZ p = some len) (hk : kx < len) (hn : p < n) (hq : pc + 1 = q) (k : Ev xl xs F L B1 B2 M q lv (.int (I p kx) :: st) n (sysH I J X) Q) : Ev xl xs F L B1 B2 M pc lv (.int i :: .ref p :: st) n (sysH I J X) Q := by
  obtain ⟨h1, h2⟩ := in_nI hi hk (shZ_le hs)
  refine ev_zald d (shZ_at hs) hn h1 hq ?_
  rw [h2]; exact k
theorem ev_laS {p len : Nat} {i : Int32} (kx : Nat) (d : decode M.2.1 pc = .ok (.laload, 1)) (hi : i = nI kx) (hs : shJ p = some len) (hk : kx < len) (hn : p < n) (hq : pc + 1 = q) (k : Ev xl xs F L B1 B2 M q lv (.long (J p kx) :: st) n (sysH I J X) Q) : Ev xl xs F L B1 B2 M pc lv (.int i :: .ref p :: st) n (sysH I J X) Q := by
  obtain ⟨h1, h2⟩ := in_nI hi hk (shJ_le hs)
  refine ev_lald d (shJ_at hs) hn h1 hq ?_
  rw [h2]; exact k
theorem ev_isS {p len : Nat} {i x : Int32} (kx : Nat) (d : decode M.2.1 pc = .ok (.iastore, 1)) (hi : i = nI kx) (hs : shI p = some len) (hk : kx < len) (hn : p < n) (hq : pc + 1 = q) (k : Ev xl xs F L B1 B2 M q lv st n (sysH (setI I p (upd (I p) kx x)) J X) Q) : Ev xl xs F L B1 B2 M pc lv (.int x :: .int i :: .ref p :: st) n (sysH I J X) Q := by
  obtain ⟨h1, h2⟩ := in_nI hi hk (shI_le hs)
  refine ev_iast d (shI_at hs) hn h1 hq ?_
  rw [h2, shI_up _ hs]; exact k
theorem ev_zsS {p len : Nat} {i x : Int32} (kx : Nat) (d : decode M.2.1 pc = .ok (.bastore, 1)) (hi : i = nI kx) (hs : shZ p = some len) (hk : kx < len) (hn : p < n) (hx : vp_nar .boolean x = x) (hq : pc + 1 = q) (k : Ev xl xs F L B1 B2 M q lv st n (sysH (setI I p (upd (I p) kx x)) J X) Q) : Ev xl xs F L B1 B2 M pc lv (.int x :: .int i :: .ref p :: st) n (sysH I J X) Q := by
  obtain ⟨h1, h2⟩ := in_nI hi hk (shZ_le hs)
  refine ev_zast d (shZ_at hs) hn h1 hq ?_
  rw [h2, hx, shZ_up _ hs]; exact k
theorem ev_lsS {p len : Nat} {i : Int32} {x : Int64} (kx : Nat) (d : decode M.2.1 pc = .ok (.lastore, 1)) (hi : i = nI kx) (hs : shJ p = some len) (hk : kx < len) (hn : p < n) (hq : pc + 1 = q) (k : Ev xl xs F L B1 B2 M q lv st n (sysH I (setJ J p (vp_updL (J p) kx x)) X) Q) : Ev xl xs F L B1 B2 M pc lv (.long x :: .int i :: .ref p :: st) n (sysH I J X) Q := by
  obtain ⟨h1, h2⟩ := in_nI hi hk (shJ_le hs)
  refine ev_last d (shJ_at hs) hn h1 hq ?_
  rw [h2, shJ_up _ hs]; exact k
theorem ev_putI {idx ci j p : Nat} {fs : List Value} {x : Int32} {ty : FieldType} (d : decode M.2.1 pc = .ok (.putfield idx, 3)) (fa : FA M.1.cls idx ci j ty false) (hc : sysH I J X p = .inr (ci, fs)) (hp : p < 65) (hn : p < n) (hj : j < fs.length) (hv : narrow ty (.int x) = .int x ∧ fits ty (.int x) = true) (hf : (sysL I J X).set p (.inr (ci, fs.set j (.int x))) = sysL (setI I p (upd (I p) j x)) J X) (hq : pc + 3 = q) (k : Ev xl xs F L B1 B2 M q lv st n (sysH (setI I p (upd (I p) j x)) J X) Q) : Ev xl xs F L B1 B2 M pc lv (.int x :: .ref p :: st) n (sysH I J X) Q := by
  refine ev_put d fa hc hn hj (fun _ => hv) hq ?_
  rw [sys_up hp hf]; exact k
theorem ev_putJ {idx ci j p : Nat} {fs : List Value} {x : Int64} {ty : FieldType} (d : decode M.2.1 pc = .ok (.putfield idx, 3)) (fa : FA M.1.cls idx ci j ty false) (hc : sysH I J X p = .inr (ci, fs)) (hp : p < 65) (hn : p < n) (hj : j < fs.length) (hv : narrow ty (.long x) = .long x ∧ fits ty (.long x) = true) (hf : (sysL I J X).set p (.inr (ci, fs.set j (.long x))) = sysL I (setJ J p (vp_updL (J p) j x)) X) (hq : pc + 3 = q) (k : Ev xl xs F L B1 B2 M q lv st n (sysH I (setJ J p (vp_updL (J p) j x)) X) Q) : Ev xl xs F L B1 B2 M pc lv (.long x :: .ref p :: st) n (sysH I J X) Q := by
  refine ev_put d fa hc hn hj (fun _ => hv) hq ?_
  rw [sys_up hp hf]; exact k
end SROWS
end
section
theorem dX7_in_0 : decode cX7_in 0 = .ok (.iload_n 0, 1) := by decide +kernel
theorem dX7_in_1 : decode cX7_in 1 = .ok (.iload_n 1, 1) := by decide +kernel
theorem dX7_in_2 : decode cX7_in 2 = .ok (.if_icmp .lt 12, 3) := by decide +kernel
theorem dX7_in_5 : decode cX7_in 5 = .ok (.iload_n 0, 1) := by decide +kernel
theorem dX7_in_6 : decode cX7_in 6 = .ok (.iload_n 2, 1) := by decide +kernel
theorem dX7_in_7 : decode cX7_in 7 = .ok (.if_icmp .gt 7, 3) := by decide +kernel
theorem dX7_in_10 : decode cX7_in 10 = .ok (.iconst 1, 1) := by decide +kernel
theorem dX7_in_11 : decode cX7_in 11 = .ok (.goto 4, 3) := by decide +kernel
theorem dX7_in_14 : decode cX7_in 14 = .ok (.iconst 0, 1) := by decide +kernel
theorem dX7_in_15 : decode cX7_in 15 = .ok (.ireturn, 1) := by decide +kernel
theorem dX7_has_0 : decode cX7_has 0 = .ok (.iload_n 0, 1) := by decide +kernel
theorem dX7_has_1 : decode cX7_has 1 = .ok (.iload_n 1, 1) := by decide +kernel
theorem dX7_has_2 : decode cX7_has 2 = .ok (.ishr, 1) := by decide +kernel
theorem dX7_has_3 : decode cX7_has 3 = .ok (.iconst 1, 1) := by decide +kernel
theorem dX7_has_4 : decode cX7_has 4 = .ok (.iand, 1) := by decide +kernel
theorem dX7_has_5 : decode cX7_has 5 = .ok (.iconst 1, 1) := by decide +kernel
theorem dX7_has_6 : decode cX7_has 6 = .ok (.if_icmp .ne 7, 3) := by decide +kernel
theorem dX7_has_9 : decode cX7_has 9 = .ok (.iconst 1, 1) := by decide +kernel
theorem dX7_has_10 : decode cX7_has 10 = .ok (.goto 4, 3) := by decide +kernel
theorem dX7_has_13 : decode cX7_has 13 = .ok (.iconst 0, 1) := by decide +kernel
theorem dX7_has_14 : decode cX7_has 14 = .ok (.ireturn, 1) := by decide +kernel
theorem dX7_holds_0 : decode cX7_holds 0 = .ok (.lload_n 0, 1) := by decide +kernel
theorem dX7_holds_1 : decode cX7_holds 1 = .ok (.iload_n 2, 1) := by decide +kernel
theorem dX7_holds_2 : decode cX7_holds 2 = .ok (.lushr, 1) := by decide +kernel
theorem dX7_holds_3 : decode cX7_holds 3 = .ok (.lconst 1, 1) := by decide +kernel
theorem dX7_holds_4 : decode cX7_holds 4 = .ok (.land, 1) := by decide +kernel
theorem dX7_holds_5 : decode cX7_holds 5 = .ok (.lconst 1, 1) := by decide +kernel
theorem dX7_holds_6 : decode cX7_holds 6 = .ok (.lcmp, 1) := by decide +kernel
theorem dX7_holds_7 : decode cX7_holds 7 = .ok (.ifCond .ne 7, 3) := by decide +kernel
theorem dX7_holds_10 : decode cX7_holds 10 = .ok (.iconst 1, 1) := by decide +kernel
theorem dX7_holds_11 : decode cX7_holds 11 = .ok (.goto 4, 3) := by decide +kernel
theorem dX7_holds_14 : decode cX7_holds 14 = .ok (.iconst 0, 1) := by decide +kernel
theorem dX7_holds_15 : decode cX7_holds 15 = .ok (.ireturn, 1) := by decide +kernel
theorem dX7_bits_0 : decode cX7_bits 0 = .ok (.iconst 0, 1) := by decide +kernel
theorem dX7_bits_1 : decode cX7_bits 1 = .ok (.istore_n 1, 1) := by decide +kernel
theorem dX7_bits_2 : decode cX7_bits 2 = .ok (.iconst 0, 1) := by decide +kernel
theorem dX7_bits_3 : decode cX7_bits 3 = .ok (.istore_n 2, 1) := by decide +kernel
theorem dX7_bits_4 : decode cX7_bits 4 = .ok (.iload_n 2, 1) := by decide +kernel
theorem dX7_bits_5 : decode cX7_bits 5 = .ok (.bipush 6, 2) := by decide +kernel
theorem dX7_bits_7 : decode cX7_bits 7 = .ok (.if_icmp .ge 17, 3) := by decide +kernel
theorem dX7_bits_10 : decode cX7_bits 10 = .ok (.iload_n 1, 1) := by decide +kernel
theorem dX7_bits_11 : decode cX7_bits 11 = .ok (.iload_n 0, 1) := by decide +kernel
theorem dX7_bits_12 : decode cX7_bits 12 = .ok (.iload_n 2, 1) := by decide +kernel
theorem dX7_bits_13 : decode cX7_bits 13 = .ok (.ishr, 1) := by decide +kernel
theorem dX7_bits_14 : decode cX7_bits 14 = .ok (.iconst 1, 1) := by decide +kernel
theorem dX7_bits_15 : decode cX7_bits 15 = .ok (.iand, 1) := by decide +kernel
theorem dX7_bits_16 : decode cX7_bits 16 = .ok (.iadd, 1) := by decide +kernel
theorem dX7_bits_17 : decode cX7_bits 17 = .ok (.istore_n 1, 1) := by decide +kernel
theorem dX7_bits_18 : decode cX7_bits 18 = .ok (.iinc 2 1, 3) := by decide +kernel
theorem dX7_bits_21 : decode cX7_bits 21 = .ok (.goto (-17), 3) := by decide +kernel
theorem dX7_bits_24 : decode cX7_bits 24 = .ok (.iload_n 1, 1) := by decide +kernel
theorem dX7_bits_25 : decode cX7_bits 25 = .ok (.ireturn, 1) := by decide +kernel
theorem dX7_isCousin_0 : decode cX7_isCousin 0 = .ok (.iload_n 0, 1) := by decide +kernel
theorem dX7_isCousin_1 : decode cX7_isCousin 1 = .ok (.iconst 0, 1) := by decide +kernel
theorem dX7_isCousin_2 : decode cX7_isCousin 2 = .ok (.iconst 3, 1) := by decide +kernel
theorem dX7_isCousin_3 : decode cX7_isCousin 3 = .ok (.invokestatic 99, 3) := by decide +kernel
theorem dX7_isCousin_6 : decode cX7_isCousin 6 = .ok (.ireturn, 1) := by decide +kernel
theorem dX7_worlds_0 : decode cX7_worlds 0 = .ok (.iconst 1, 1) := by decide +kernel
theorem dX7_worlds_1 : decode cX7_worlds 1 = .ok (.aload_n 0, 1) := by decide +kernel
theorem dX7_worlds_2 : decode cX7_worlds 2 = .ok (.getfield 7, 3) := by decide +kernel
theorem dX7_worlds_5 : decode cX7_worlds 5 = .ok (.ishl, 1) := by decide +kernel
theorem dX7_worlds_6 : decode cX7_worlds 6 = .ok (.ireturn, 1) := by decide +kernel
theorem dX7_all_0 : decode cX7_all 0 = .ok (.aload_n 0, 1) := by decide +kernel
theorem dX7_all_1 : decode cX7_all 1 = .ok (.getfield 7, 3) := by decide +kernel
theorem dX7_all_4 : decode cX7_all 4 = .ok (.bipush 6, 2) := by decide +kernel
theorem dX7_all_6 : decode cX7_all 6 = .ok (.if_icmp .ne 9, 3) := by decide +kernel
theorem dX7_all_9 : decode cX7_all 9 = .ok (.ldc2_w 93, 3) := by decide +kernel
theorem dX7_all_12 : decode cX7_all 12 = .ok (.goto 11, 3) := by decide +kernel
theorem dX7_all_15 : decode cX7_all 15 = .ok (.lconst 1, 1) := by decide +kernel
theorem dX7_all_16 : decode cX7_all 16 = .ok (.aload_n 0, 1) := by decide +kernel
theorem dX7_all_17 : decode cX7_all 17 = .ok (.invokevirtual 95, 3) := by decide +kernel
theorem dX7_all_20 : decode cX7_all 20 = .ok (.lshl, 1) := by decide +kernel
theorem dX7_all_21 : decode cX7_all 21 = .ok (.lconst 1, 1) := by decide +kernel
theorem dX7_all_22 : decode cX7_all 22 = .ok (.lsub, 1) := by decide +kernel
theorem dX7_all_23 : decode cX7_all 23 = .ok (.lreturn, 1) := by decide +kernel
theorem dX7_isThing_0 : decode cX7_isThing 0 = .ok (.iload_n 1, 1) := by decide +kernel
theorem dX7_isThing_1 : decode cX7_isThing 1 = .ok (.iconst 0, 1) := by decide +kernel
theorem dX7_isThing_2 : decode cX7_isThing 2 = .ok (.aload_n 0, 1) := by decide +kernel
theorem dX7_isThing_3 : decode cX7_isThing 3 = .ok (.getfield 7, 3) := by decide +kernel
theorem dX7_isThing_6 : decode cX7_isThing 6 = .ok (.iconst 1, 1) := by decide +kernel
theorem dX7_isThing_7 : decode cX7_isThing 7 = .ok (.isub, 1) := by decide +kernel
theorem dX7_isThing_8 : decode cX7_isThing 8 = .ok (.invokestatic 99, 3) := by decide +kernel
theorem dX7_isThing_11 : decode cX7_isThing 11 = .ok (.ireturn, 1) := by decide +kernel
theorem dX7_isWorld_0 : decode cX7_isWorld 0 = .ok (.iload_n 1, 1) := by decide +kernel
theorem dX7_isWorld_1 : decode cX7_isWorld 1 = .ok (.iconst 0, 1) := by decide +kernel
theorem dX7_isWorld_2 : decode cX7_isWorld 2 = .ok (.aload_n 0, 1) := by decide +kernel
theorem dX7_isWorld_3 : decode cX7_isWorld 3 = .ok (.invokevirtual 95, 3) := by decide +kernel
theorem dX7_isWorld_6 : decode cX7_isWorld 6 = .ok (.iconst 1, 1) := by decide +kernel
theorem dX7_isWorld_7 : decode cX7_isWorld 7 = .ok (.isub, 1) := by decide +kernel
theorem dX7_isWorld_8 : decode cX7_isWorld 8 = .ok (.invokestatic 99, 3) := by decide +kernel
theorem dX7_isWorld_11 : decode cX7_isWorld 11 = .ok (.ireturn, 1) := by decide +kernel
theorem dX7_worthTo_0 : decode cX7_worthTo 0 = .ok (.iconst 0, 1) := by decide +kernel
theorem dX7_worthTo_1 : decode cX7_worthTo 1 = .ok (.istore_n 3, 1) := by decide +kernel
theorem dX7_worthTo_2 : decode cX7_worthTo 2 = .ok (.iconst 0, 1) := by decide +kernel
theorem dX7_worthTo_3 : decode cX7_worthTo 3 = .ok (.istore 4, 2) := by decide +kernel
theorem dX7_worthTo_5 : decode cX7_worthTo 5 = .ok (.iload 4, 2) := by decide +kernel
theorem dX7_worthTo_7 : decode cX7_worthTo 7 = .ok (.aload_n 0, 1) := by decide +kernel
theorem dX7_worthTo_8 : decode cX7_worthTo 8 = .ok (.getfield 7, 3) := by decide +kernel
theorem dX7_worthTo_11 : decode cX7_worthTo 11 = .ok (.if_icmp .ge 37, 3) := by decide +kernel
theorem dX7_worthTo_14 : decode cX7_worthTo 14 = .ok (.iload_n 3, 1) := by decide +kernel
theorem dX7_worthTo_15 : decode cX7_worthTo 15 = .ok (.iload_n 2, 1) := by decide +kernel
theorem dX7_worthTo_16 : decode cX7_worthTo 16 = .ok (.iload 4, 2) := by decide +kernel
theorem dX7_worthTo_18 : decode cX7_worthTo 18 = .ok (.invokestatic 113, 3) := by decide +kernel
theorem dX7_worthTo_21 : decode cX7_worthTo 21 = .ok (.ifCond .eq 18, 3) := by decide +kernel
theorem dX7_worthTo_24 : decode cX7_worthTo 24 = .ok (.aload_n 0, 1) := by decide +kernel
theorem dX7_worthTo_25 : decode cX7_worthTo 25 = .ok (.getfield 13, 3) := by decide +kernel
theorem dX7_worthTo_28 : decode cX7_worthTo 28 = .ok (.bipush 6, 2) := by decide +kernel
theorem dX7_worthTo_30 : decode cX7_worthTo 30 = .ok (.iload_n 1, 1) := by decide +kernel
theorem dX7_worthTo_31 : decode cX7_worthTo 31 = .ok (.imul, 1) := by decide +kernel
theorem dX7_worthTo_32 : decode cX7_worthTo 32 = .ok (.iload 4, 2) := by decide +kernel
theorem dX7_worthTo_34 : decode cX7_worthTo 34 = .ok (.iadd, 1) := by decide +kernel
theorem dX7_worthTo_35 : decode cX7_worthTo 35 = .ok (.iaload, 1) := by decide +kernel
theorem dX7_worthTo_36 : decode cX7_worthTo 36 = .ok (.goto 4, 3) := by decide +kernel
theorem dX7_worthTo_39 : decode cX7_worthTo 39 = .ok (.iconst 0, 1) := by decide +kernel
theorem dX7_worthTo_40 : decode cX7_worthTo 40 = .ok (.iadd, 1) := by decide +kernel
theorem dX7_worthTo_41 : decode cX7_worthTo 41 = .ok (.istore_n 3, 1) := by decide +kernel
theorem dX7_worthTo_42 : decode cX7_worthTo 42 = .ok (.iinc 4 1, 3) := by decide +kernel
theorem dX7_worthTo_45 : decode cX7_worthTo 45 = .ok (.goto (-40), 3) := by decide +kernel
theorem dX7_worthTo_48 : decode cX7_worthTo 48 = .ok (.iload_n 3, 1) := by decide +kernel
theorem dX7_worthTo_49 : decode cX7_worthTo 49 = .ok (.ireturn, 1) := by decide +kernel
theorem dX7_tasteOf_0 : decode cX7_tasteOf 0 = .ok (.iconst 0, 1) := by decide +kernel
theorem dX7_tasteOf_1 : decode cX7_tasteOf 1 = .ok (.istore_n 2, 1) := by decide +kernel
theorem dX7_tasteOf_2 : decode cX7_tasteOf 2 = .ok (.iconst 0, 1) := by decide +kernel
theorem dX7_tasteOf_3 : decode cX7_tasteOf 3 = .ok (.istore_n 3, 1) := by decide +kernel
theorem dX7_tasteOf_4 : decode cX7_tasteOf 4 = .ok (.iload_n 3, 1) := by decide +kernel
theorem dX7_tasteOf_5 : decode cX7_tasteOf 5 = .ok (.aload_n 0, 1) := by decide +kernel
theorem dX7_tasteOf_6 : decode cX7_tasteOf 6 = .ok (.getfield 7, 3) := by decide +kernel
theorem dX7_tasteOf_9 : decode cX7_tasteOf 9 = .ok (.if_icmp .ge 30, 3) := by decide +kernel
theorem dX7_tasteOf_12 : decode cX7_tasteOf 12 = .ok (.iload_n 2, 1) := by decide +kernel
theorem dX7_tasteOf_13 : decode cX7_tasteOf 13 = .ok (.iload_n 1, 1) := by decide +kernel
theorem dX7_tasteOf_14 : decode cX7_tasteOf 14 = .ok (.iload_n 3, 1) := by decide +kernel
theorem dX7_tasteOf_15 : decode cX7_tasteOf 15 = .ok (.invokestatic 113, 3) := by decide +kernel
theorem dX7_tasteOf_18 : decode cX7_tasteOf 18 = .ok (.ifCond .eq 12, 3) := by decide +kernel
theorem dX7_tasteOf_21 : decode cX7_tasteOf 21 = .ok (.aload_n 0, 1) := by decide +kernel
theorem dX7_tasteOf_22 : decode cX7_tasteOf 22 = .ok (.getfield 17, 3) := by decide +kernel
theorem dX7_tasteOf_25 : decode cX7_tasteOf 25 = .ok (.iload_n 3, 1) := by decide +kernel
theorem dX7_tasteOf_26 : decode cX7_tasteOf 26 = .ok (.iaload, 1) := by decide +kernel
theorem dX7_tasteOf_27 : decode cX7_tasteOf 27 = .ok (.goto 4, 3) := by decide +kernel
theorem dX7_tasteOf_30 : decode cX7_tasteOf 30 = .ok (.iconst 0, 1) := by decide +kernel
theorem dX7_tasteOf_31 : decode cX7_tasteOf 31 = .ok (.iadd, 1) := by decide +kernel
theorem dX7_tasteOf_32 : decode cX7_tasteOf 32 = .ok (.istore_n 2, 1) := by decide +kernel
theorem dX7_tasteOf_33 : decode cX7_tasteOf 33 = .ok (.iinc 3 1, 3) := by decide +kernel
theorem dX7_tasteOf_36 : decode cX7_tasteOf 36 = .ok (.goto (-32), 3) := by decide +kernel
theorem dX7_tasteOf_39 : decode cX7_tasteOf 39 = .ok (.iload_n 2, 1) := by decide +kernel
theorem dX7_tasteOf_40 : decode cX7_tasteOf 40 = .ok (.ireturn, 1) := by decide +kernel
def lt32 (a b : Int32) : Prop := a.toInt < b.toInt
theorem i_le (a b : Int32) : a ≤ b ↔ a.toInt ≤ b.toInt := Int32.le_iff_toInt_le
theorem i_lt (a b : Int32) : a < b ↔ a.toInt < b.toInt := Int32.lt_iff_toInt_lt
def inb (v lo hi : Int32) : Bool := decide (lo ≤ v) && decide (v ≤ hi)
theorem inb_t {v lo hi : Int32} (h1 : lo ≤ v) (h2 : v ≤ hi) : inb v lo hi = true := by simp [inb, h1, h2]
theorem inb_f {v lo hi : Int32} (h1 : ¬ lo ≤ v ∨ ¬ v ≤ hi) : inb v lo hi = false := by rcases h1 with h | h <;> simp [inb, h]
theorem b2i_t {b : Bool} (h : b = true) : b2i b = 1 := by rw [h]; rfl
theorem b2i_f {b : Bool} (h : b = false) : b2i b = 0 := by rw [h]; rfl
theorem b2i_0 {b : Bool} : b2i b = 0 ↔ b = false := by cases b <;> decide
theorem b2i_n0 {b : Bool} : ¬ b2i b = 0 ↔ b = true := by cases b <;> decide
theorem b2i_ne {b : Bool} : b2i b ≠ 0 ↔ b = true := b2i_n0
/-- a bit of an int, of a long -/
def wsum (f : Nat → Int32) : Nat → Nat → Int32
  | 0, _ => 0
  | k + 1, w => wsum f k w + if w.testBit k then f k else 0
def pop (k w : Nat) : Nat := match k with
  | 0 => 0
  | k + 1 => pop k w + if w.testBit k then 1 else 0
theorem pop_le : ∀ k w, pop k w ≤ k
  | 0, _ => Nat.le_refl _
  | k + 1, w => by unfold pop; have := pop_le k w; split <;> omega
theorem nI_bit {w k : Nat} (hw : w < 2 ^ 31) (hk : k < 31) : nI w >>> (nI k &&& 31) &&& 1 = nI (if w.testBit k then 1 else 0) := by
  have h1 : nI w >>> (nI k &&& 31) = nI (w / 2 ^ k) := pk_shrN hw _ k (by
    have : ∀ k, k < 31 → ((nI k &&& 31).toBitVec.smod 32).toNat = k := by decide +kernel
    exact this k hk)
  rw [h1, pk_andN (n := w / 2 ^ k) (Nat.lt_of_le_of_lt (Nat.div_le_self _ _) (by omega)) 1 (by decide)]
  congr 1
  rw [Nat.testBit_eq_decide_div_mod_eq]
  have : w / 2 ^ k % 2 < 2 := Nat.mod_lt _ (by decide)
  by_cases h : w / 2 ^ k % 2 = 1
  · simp [h]
  · simp [h]; omega
section MODEL1
variable {xl : Nat} {xs : Nat → Int32} {n : Nat} {h : Nat → PC} {I : Nat → Nat → Int32} {J : Nat → Nat → Int64} {X : Nat → Option Nat}
theorem c_X7_in (v lo hi : Int32) : Rn xl xs 0 0 0 0 mX7_in [.int v, .int lo, .int hi] n h (some (.int (b2i (inb v lo hi)))) n h := by
  intro Q hQ
  show Ev xl xs 0 0 0 0 mX7_in 0 [some (.int v), some (.int lo), some (.int hi)] [] n h Q
  refine ev_iload_n (q := 1) dX7_in_0 rfl rfl ?_
  refine ev_iload_n (q := 2) dX7_in_1 rfl rfl ?_
  refine ev_icmp_lt (q := 5) 14 dX7_in_2 (by decide) rfl (fun c_2 => ?_) (fun c_2 => ?_)
  · refine ev_iconst (q := 15) (0) dX7_in_14 (by decide) rfl ?_
    exact ev_iretE dX7_in_15 rfl (nar_b2i _) (by first | (rw [b2i_t (inb_t (by simp only [i_le, i_lt] at *; omega) (by simp only [i_le, i_lt] at *; omega))]; done) | (rw [b2i_f (inb_f (by simp only [i_le, i_lt] at *; omega))]; done)) rfl rfl hQ
  · refine ev_iload_n (q := 6) dX7_in_5 rfl rfl ?_
    refine ev_iload_n (q := 7) dX7_in_6 rfl rfl ?_
    refine ev_icmp_gt (q := 10) 14 dX7_in_7 (by decide) rfl (fun c_7 => ?_) (fun c_7 => ?_)
    · refine ev_iconst (q := 15) (0) dX7_in_14 (by decide) rfl ?_
      exact ev_iretE dX7_in_15 rfl (nar_b2i _) (by first | (rw [b2i_t (inb_t (by simp only [i_le, i_lt] at *; omega) (by simp only [i_le, i_lt] at *; omega))]; done) | (rw [b2i_f (inb_f (by simp only [i_le, i_lt] at *; omega))]; done)) rfl rfl hQ
    · refine ev_iconst (q := 11) (1) dX7_in_10 (by decide) rfl ?_
      refine ev_goto 15 dX7_in_11 (by decide) ?_
      exact ev_iretE dX7_in_15 rfl (nar_b2i _) (by first | (rw [b2i_t (inb_t (by simp only [i_le, i_lt] at *; omega) (by simp only [i_le, i_lt] at *; omega))]; done) | (rw [b2i_f (inb_f (by simp only [i_le, i_lt] at *; omega))]; done)) rfl rfl hQ
theorem c_X7_isCousin (v : Int32) : Rn xl xs 1 22 0 0 mX7_isCousin [.int v] n h (some (.int (b2i (inb v 0 3)))) n h := by
  intro Q hQ
  show Ev xl xs 1 22 0 0 mX7_isCousin 0 [some (.int v)] [] n h Q
  refine ev_iload_n (q := 1) dX7_isCousin_0 rfl rfl ?_
  refine ev_iconst (q := 2) (0) dX7_isCousin_1 (by decide) rfl ?_
  refine ev_iconst (q := 3) (3) dX7_isCousin_2 (by decide) rfl ?_
  refine ev_callS3i (q := 6) dX7_isCousin_3 ca_X7_99 (c_X7_in _ _ _) (Nat.le_of_ble_eq_true rfl) (Nat.le_of_ble_eq_true rfl) (by decide) (by decide) rfl ?_
  exact ev_iretE dX7_isCousin_6 rfl (nar_b2i _) rfl rfl rfl hQ
theorem c_X7_has {w k : Nat} (hw : w < 2 ^ 31) (hk : k < 31) : Rn xl xs 0 0 0 0 mX7_has [.int (nI w), .int (nI k)] n h (some (.int (b2i (w.testBit k)))) n h := by
  intro Q hQ
  show Ev xl xs 0 0 0 0 mX7_has 0 [some (.int (nI w)), some (.int (nI k))] [] n h Q
  have e := nI_bit hw hk
  refine ev_iload_n (q := 1) dX7_has_0 rfl rfl ?_
  refine ev_iload_n (q := 2) dX7_has_1 rfl rfl ?_
  refine ev_ishr (q := 3) dX7_has_2 rfl ?_
  refine ev_iconst (q := 4) (1) dX7_has_3 (by decide) rfl ?_
  refine ev_iand (q := 5) dX7_has_4 rfl ?_
  refine ev_iconst (q := 6) (1) dX7_has_5 (by decide) rfl ?_
  refine ev_icmp_ne (q := 9) 13 dX7_has_6 (by decide) rfl (fun c_6 => ?_) (fun c_6 => ?_)
  · refine ev_iconst (q := 14) (0) dX7_has_13 (by decide) rfl ?_
    exact ev_iretE dX7_has_14 rfl (nar_b2i _) (by rw [e] at c_6; cases hb : w.testBit k <;> first | rfl | (rw [hb] at c_6; exact absurd c_6 (by decide))) rfl rfl hQ
  · refine ev_iconst (q := 10) (1) dX7_has_9 (by decide) rfl ?_
    refine ev_goto 14 dX7_has_10 (by decide) ?_
    exact ev_iretE dX7_has_14 rfl (nar_b2i _) (by rw [e] at c_6; cases hb : w.testBit k <;> first | rfl | (rw [hb] at c_6; exact absurd c_6 (by decide))) rfl rfl hQ
theorem c_X7_worlds {t : Nat} (hn : 49 ≤ n) (ht : I 33 0 = nI t) (h6 : t ≤ 6) : Rn xl xs 0 0 0 0 mX7_worlds [.ref 33] n (sysH I J X) (some (.int (nI (2 ^ t)))) n (sysH I J X) := by
  intro Q hQ
  show Ev xl xs 0 0 0 0 mX7_worlds 0 [some (.ref 33)] [] n (sysH I J X) Q
  have e : (1 : Int32) <<< (nI t &&& 31) = nI (2 ^ t) := by
    have : ∀ t, t < 7 → (1 : Int32) <<< (nI t &&& 31) = nI (2 ^ t) := by decide +kernel
    exact this t (by omega)
  refine ev_iconst (q := 1) (1) dX7_worlds_0 (by decide) rfl ?_
  refine ev_aload_n (q := 2) dX7_worlds_1 rfl rfl ?_
  refine ev_get (q := 5) dX7_worlds_2 fr_X7_7 rfl (lt_n hn (by decide)) rfl rfl ?_
  refine ev_ishl (q := 6) dX7_worlds_5 rfl ?_
  exact ev_iretE dX7_worlds_6 rfl rfl (by rw [ht, e]) rfl rfl hQ
end MODEL1
end
section
theorem dX7_tasteBy_0 : decode cX7_tasteBy 0 = .ok (.iconst 0, 1) := by decide +kernel
theorem dX7_tasteBy_1 : decode cX7_tasteBy 1 = .ok (.istore_n 3, 1) := by decide +kernel
theorem dX7_tasteBy_2 : decode cX7_tasteBy 2 = .ok (.iconst 0, 1) := by decide +kernel
theorem dX7_tasteBy_3 : decode cX7_tasteBy 3 = .ok (.istore 4, 2) := by decide +kernel
theorem dX7_tasteBy_5 : decode cX7_tasteBy 5 = .ok (.iload 4, 2) := by decide +kernel
theorem dX7_tasteBy_7 : decode cX7_tasteBy 7 = .ok (.aload_n 0, 1) := by decide +kernel
theorem dX7_tasteBy_8 : decode cX7_tasteBy 8 = .ok (.getfield 7, 3) := by decide +kernel
theorem dX7_tasteBy_11 : decode cX7_tasteBy 11 = .ok (.if_icmp .ge 34, 3) := by decide +kernel
theorem dX7_tasteBy_14 : decode cX7_tasteBy 14 = .ok (.iload_n 3, 1) := by decide +kernel
theorem dX7_tasteBy_15 : decode cX7_tasteBy 15 = .ok (.iload_n 2, 1) := by decide +kernel
theorem dX7_tasteBy_16 : decode cX7_tasteBy 16 = .ok (.iload 4, 2) := by decide +kernel
theorem dX7_tasteBy_18 : decode cX7_tasteBy 18 = .ok (.invokestatic 113, 3) := by decide +kernel
theorem dX7_tasteBy_21 : decode cX7_tasteBy 21 = .ok (.ifCond .eq 15, 3) := by decide +kernel
theorem dX7_tasteBy_24 : decode cX7_tasteBy 24 = .ok (.aload_n 0, 1) := by decide +kernel
theorem dX7_tasteBy_25 : decode cX7_tasteBy 25 = .ok (.iload_n 1, 1) := by decide +kernel
theorem dX7_tasteBy_26 : decode cX7_tasteBy 26 = .ok (.iload 4, 2) := by decide +kernel
theorem dX7_tasteBy_28 : decode cX7_tasteBy 28 = .ok (.invokevirtual 181, 3) := by decide +kernel
theorem dX7_tasteBy_31 : decode cX7_tasteBy 31 = .ok (.iconst 1, 1) := by decide +kernel
theorem dX7_tasteBy_32 : decode cX7_tasteBy 32 = .ok (.isub, 1) := by decide +kernel
theorem dX7_tasteBy_33 : decode cX7_tasteBy 33 = .ok (.goto 4, 3) := by decide +kernel
theorem dX7_tasteBy_36 : decode cX7_tasteBy 36 = .ok (.iconst 0, 1) := by decide +kernel
theorem dX7_tasteBy_37 : decode cX7_tasteBy 37 = .ok (.iadd, 1) := by decide +kernel
theorem dX7_tasteBy_38 : decode cX7_tasteBy 38 = .ok (.istore_n 3, 1) := by decide +kernel
theorem dX7_tasteBy_39 : decode cX7_tasteBy 39 = .ok (.iinc 4 1, 3) := by decide +kernel
theorem dX7_tasteBy_42 : decode cX7_tasteBy 42 = .ok (.goto (-37), 3) := by decide +kernel
theorem dX7_tasteBy_45 : decode cX7_tasteBy 45 = .ok (.iload_n 3, 1) := by decide +kernel
theorem dX7_tasteBy_46 : decode cX7_tasteBy 46 = .ok (.ireturn, 1) := by decide +kernel
theorem dX7_digitOf_0 : decode cX7_digitOf 0 = .ok (.iload_n 1, 1) := by decide +kernel
theorem dX7_digitOf_1 : decode cX7_digitOf 1 = .ok (.istore_n 3, 1) := by decide +kernel
theorem dX7_digitOf_2 : decode cX7_digitOf 2 = .ok (.aload_n 0, 1) := by decide +kernel
theorem dX7_digitOf_3 : decode cX7_digitOf 3 = .ok (.getfield 7, 3) := by decide +kernel
theorem dX7_digitOf_6 : decode cX7_digitOf 6 = .ok (.iconst 1, 1) := by decide +kernel
theorem dX7_digitOf_7 : decode cX7_digitOf 7 = .ok (.isub, 1) := by decide +kernel
theorem dX7_digitOf_8 : decode cX7_digitOf 8 = .ok (.istore 4, 2) := by decide +kernel
theorem dX7_digitOf_10 : decode cX7_digitOf 10 = .ok (.iload 4, 2) := by decide +kernel
theorem dX7_digitOf_12 : decode cX7_digitOf 12 = .ok (.iload_n 2, 1) := by decide +kernel
theorem dX7_digitOf_13 : decode cX7_digitOf 13 = .ok (.if_icmp .le 13, 3) := by decide +kernel
theorem dX7_digitOf_16 : decode cX7_digitOf 16 = .ok (.iload_n 3, 1) := by decide +kernel
theorem dX7_digitOf_17 : decode cX7_digitOf 17 = .ok (.iconst 3, 1) := by decide +kernel
theorem dX7_digitOf_18 : decode cX7_digitOf 18 = .ok (.idiv, 1) := by decide +kernel
theorem dX7_digitOf_19 : decode cX7_digitOf 19 = .ok (.istore_n 3, 1) := by decide +kernel
theorem dX7_digitOf_20 : decode cX7_digitOf 20 = .ok (.iinc 4 (-1), 3) := by decide +kernel
theorem dX7_digitOf_23 : decode cX7_digitOf 23 = .ok (.goto (-13), 3) := by decide +kernel
theorem dX7_digitOf_26 : decode cX7_digitOf 26 = .ok (.iload_n 3, 1) := by decide +kernel
theorem dX7_digitOf_27 : decode cX7_digitOf 27 = .ok (.iconst 3, 1) := by decide +kernel
theorem dX7_digitOf_28 : decode cX7_digitOf 28 = .ok (.irem, 1) := by decide +kernel
theorem dX7_digitOf_29 : decode cX7_digitOf 29 = .ok (.ireturn, 1) := by decide +kernel
theorem dX7_terms_0 : decode cX7_terms 0 = .ok (.iconst 1, 1) := by decide +kernel
theorem dX7_terms_1 : decode cX7_terms 1 = .ok (.istore_n 1, 1) := by decide +kernel
theorem dX7_terms_2 : decode cX7_terms 2 = .ok (.iconst 0, 1) := by decide +kernel
theorem dX7_terms_3 : decode cX7_terms 3 = .ok (.istore_n 2, 1) := by decide +kernel
theorem dX7_terms_4 : decode cX7_terms 4 = .ok (.iload_n 2, 1) := by decide +kernel
theorem dX7_terms_5 : decode cX7_terms 5 = .ok (.aload_n 0, 1) := by decide +kernel
theorem dX7_terms_6 : decode cX7_terms 6 = .ok (.getfield 7, 3) := by decide +kernel
theorem dX7_terms_9 : decode cX7_terms 9 = .ok (.if_icmp .ge 13, 3) := by decide +kernel
theorem dX7_terms_12 : decode cX7_terms 12 = .ok (.iload_n 1, 1) := by decide +kernel
theorem dX7_terms_13 : decode cX7_terms 13 = .ok (.iconst 3, 1) := by decide +kernel
theorem dX7_terms_14 : decode cX7_terms 14 = .ok (.imul, 1) := by decide +kernel
theorem dX7_terms_15 : decode cX7_terms 15 = .ok (.istore_n 1, 1) := by decide +kernel
theorem dX7_terms_16 : decode cX7_terms 16 = .ok (.iinc 2 1, 3) := by decide +kernel
theorem dX7_terms_19 : decode cX7_terms 19 = .ok (.goto (-15), 3) := by decide +kernel
theorem dX7_terms_22 : decode cX7_terms 22 = .ok (.iload_n 1, 1) := by decide +kernel
theorem dX7_terms_23 : decode cX7_terms 23 = .ok (.ireturn, 1) := by decide +kernel
theorem dX7_words_0 : decode cX7_words 0 = .ok (.iconst 0, 1) := by decide +kernel
theorem dX7_words_1 : decode cX7_words 1 = .ok (.istore_n 2, 1) := by decide +kernel
theorem dX7_words_2 : decode cX7_words 2 = .ok (.iconst 0, 1) := by decide +kernel
theorem dX7_words_3 : decode cX7_words 3 = .ok (.istore_n 3, 1) := by decide +kernel
theorem dX7_words_4 : decode cX7_words 4 = .ok (.iload_n 3, 1) := by decide +kernel
theorem dX7_words_5 : decode cX7_words 5 = .ok (.aload_n 0, 1) := by decide +kernel
theorem dX7_words_6 : decode cX7_words 6 = .ok (.getfield 7, 3) := by decide +kernel
theorem dX7_words_9 : decode cX7_words 9 = .ok (.if_icmp .ge 26, 3) := by decide +kernel
theorem dX7_words_12 : decode cX7_words 12 = .ok (.iload_n 2, 1) := by decide +kernel
theorem dX7_words_13 : decode cX7_words 13 = .ok (.aload_n 0, 1) := by decide +kernel
theorem dX7_words_14 : decode cX7_words 14 = .ok (.iload_n 1, 1) := by decide +kernel
theorem dX7_words_15 : decode cX7_words 15 = .ok (.iload_n 3, 1) := by decide +kernel
theorem dX7_words_16 : decode cX7_words 16 = .ok (.invokevirtual 181, 3) := by decide +kernel
theorem dX7_words_19 : decode cX7_words 19 = .ok (.ifCond .le 7, 3) := by decide +kernel
theorem dX7_words_22 : decode cX7_words 22 = .ok (.iconst 1, 1) := by decide +kernel
theorem dX7_words_23 : decode cX7_words 23 = .ok (.goto 4, 3) := by decide +kernel
theorem dX7_words_26 : decode cX7_words 26 = .ok (.iconst 0, 1) := by decide +kernel
theorem dX7_words_27 : decode cX7_words 27 = .ok (.iadd, 1) := by decide +kernel
theorem dX7_words_28 : decode cX7_words 28 = .ok (.istore_n 2, 1) := by decide +kernel
theorem dX7_words_29 : decode cX7_words 29 = .ok (.iinc 3 1, 3) := by decide +kernel
theorem dX7_words_32 : decode cX7_words 32 = .ok (.goto (-28), 3) := by decide +kernel
theorem dX7_words_35 : decode cX7_words 35 = .ok (.iload_n 2, 1) := by decide +kernel
theorem dX7_words_36 : decode cX7_words 36 = .ok (.ireturn, 1) := by decide +kernel
theorem dX7_count_0 : decode cX7_count 0 = .ok (.iconst 0, 1) := by decide +kernel
theorem dX7_count_1 : decode cX7_count 1 = .ok (.istore_n 3, 1) := by decide +kernel
theorem dX7_count_2 : decode cX7_count 2 = .ok (.iconst 0, 1) := by decide +kernel
theorem dX7_count_3 : decode cX7_count 3 = .ok (.istore 4, 2) := by decide +kernel
theorem dX7_count_5 : decode cX7_count 5 = .ok (.iload 4, 2) := by decide +kernel
theorem dX7_count_7 : decode cX7_count 7 = .ok (.aload_n 0, 1) := by decide +kernel
theorem dX7_count_8 : decode cX7_count 8 = .ok (.invokevirtual 95, 3) := by decide +kernel
theorem dX7_count_11 : decode cX7_count 11 = .ok (.if_icmp .ge 26, 3) := by decide +kernel
theorem dX7_count_14 : decode cX7_count 14 = .ok (.iload_n 3, 1) := by decide +kernel
theorem dX7_count_15 : decode cX7_count 15 = .ok (.lload_n 1, 1) := by decide +kernel
theorem dX7_count_16 : decode cX7_count 16 = .ok (.iload 4, 2) := by decide +kernel
theorem dX7_count_18 : decode cX7_count 18 = .ok (.invokestatic 143, 3) := by decide +kernel
theorem dX7_count_21 : decode cX7_count 21 = .ok (.ifCond .eq 7, 3) := by decide +kernel
theorem dX7_count_24 : decode cX7_count 24 = .ok (.iconst 1, 1) := by decide +kernel
theorem dX7_count_25 : decode cX7_count 25 = .ok (.goto 4, 3) := by decide +kernel
theorem dX7_count_28 : decode cX7_count 28 = .ok (.iconst 0, 1) := by decide +kernel
theorem dX7_count_29 : decode cX7_count 29 = .ok (.iadd, 1) := by decide +kernel
theorem dX7_count_30 : decode cX7_count 30 = .ok (.istore_n 3, 1) := by decide +kernel
theorem dX7_count_31 : decode cX7_count 31 = .ok (.iinc 4 1, 3) := by decide +kernel
theorem dX7_count_34 : decode cX7_count 34 = .ok (.goto (-29), 3) := by decide +kernel
theorem dX7_count_37 : decode cX7_count 37 = .ok (.iload_n 3, 1) := by decide +kernel
theorem dX7_count_38 : decode cX7_count 38 = .ok (.ireturn, 1) := by decide +kernel
theorem dX7_likes_0 : decode cX7_likes 0 = .ok (.aload_n 0, 1) := by decide +kernel
theorem dX7_likes_1 : decode cX7_likes 1 = .ok (.getfield 64, 3) := by decide +kernel
theorem dX7_likes_4 : decode cX7_likes 4 = .ok (.iconst 1, 1) := by decide +kernel
theorem dX7_likes_5 : decode cX7_likes 5 = .ok (.if_icmp .ne 11, 3) := by decide +kernel
theorem dX7_likes_8 : decode cX7_likes 8 = .ok (.aload_n 0, 1) := by decide +kernel
theorem dX7_likes_9 : decode cX7_likes 9 = .ok (.iload_n 1, 1) := by decide +kernel
theorem dX7_likes_10 : decode cX7_likes 10 = .ok (.invokevirtual 165, 3) := by decide +kernel
theorem dX7_likes_13 : decode cX7_likes 13 = .ok (.goto 43, 3) := by decide +kernel
theorem dX7_likes_16 : decode cX7_likes 16 = .ok (.aload_n 0, 1) := by decide +kernel
theorem dX7_likes_17 : decode cX7_likes 17 = .ok (.getfield 64, 3) := by decide +kernel
theorem dX7_likes_20 : decode cX7_likes 20 = .ok (.ifCond .ne 16, 3) := by decide +kernel
theorem dX7_likes_23 : decode cX7_likes 23 = .ok (.aload_n 0, 1) := by decide +kernel
theorem dX7_likes_24 : decode cX7_likes 24 = .ok (.aload_n 0, 1) := by decide +kernel
theorem dX7_likes_25 : decode cX7_likes 25 = .ok (.getfield 67, 3) := by decide +kernel
theorem dX7_likes_28 : decode cX7_likes 28 = .ok (.iload_n 1, 1) := by decide +kernel
theorem dX7_likes_29 : decode cX7_likes 29 = .ok (.invokevirtual 117, 3) := by decide +kernel
theorem dX7_likes_32 : decode cX7_likes 32 = .ok (.ineg, 1) := by decide +kernel
theorem dX7_likes_33 : decode cX7_likes 33 = .ok (.goto 23, 3) := by decide +kernel
theorem dX7_likes_36 : decode cX7_likes 36 = .ok (.sipush (-1000), 3) := by decide +kernel
theorem dX7_likes_39 : decode cX7_likes 39 = .ok (.iload_n 1, 1) := by decide +kernel
theorem dX7_likes_40 : decode cX7_likes 40 = .ok (.iload_n 2, 1) := by decide +kernel
theorem dX7_likes_41 : decode cX7_likes 41 = .ok (.ixor, 1) := by decide +kernel
theorem dX7_likes_42 : decode cX7_likes 42 = .ok (.invokestatic 147, 3) := by decide +kernel
theorem dX7_likes_45 : decode cX7_likes 45 = .ok (.imul, 1) := by decide +kernel
theorem dX7_likes_46 : decode cX7_likes 46 = .ok (.aload_n 0, 1) := by decide +kernel
theorem dX7_likes_47 : decode cX7_likes 47 = .ok (.aload_n 0, 1) := by decide +kernel
theorem dX7_likes_48 : decode cX7_likes 48 = .ok (.getfield 67, 3) := by decide +kernel
theorem dX7_likes_51 : decode cX7_likes 51 = .ok (.iload_n 1, 1) := by decide +kernel
theorem dX7_likes_52 : decode cX7_likes 52 = .ok (.invokevirtual 117, 3) := by decide +kernel
theorem dX7_likes_55 : decode cX7_likes 55 = .ok (.isub, 1) := by decide +kernel
theorem dX7_likes_56 : decode cX7_likes 56 = .ok (.ireturn, 1) := by decide +kernel
theorem dX7_madeOf_0 : decode cX7_madeOf 0 = .ok (.bipush (-6), 2) := by decide +kernel
theorem dX7_madeOf_2 : decode cX7_madeOf 2 = .ok (.istore 4, 2) := by decide +kernel
theorem dX7_madeOf_4 : decode cX7_madeOf 4 = .ok (.iconst 0, 1) := by decide +kernel
theorem dX7_madeOf_5 : decode cX7_madeOf 5 = .ok (.istore 5, 2) := by decide +kernel
theorem dX7_madeOf_7 : decode cX7_madeOf 7 = .ok (.iload 5, 2) := by decide +kernel
theorem dX7_madeOf_9 : decode cX7_madeOf 9 = .ok (.aload_n 0, 1) := by decide +kernel
theorem dX7_madeOf_10 : decode cX7_madeOf 10 = .ok (.invokevirtual 95, 3) := by decide +kernel
theorem dX7_madeOf_13 : decode cX7_madeOf 13 = .ok (.if_icmp .ge 49, 3) := by decide +kernel
theorem dX7_madeOf_16 : decode cX7_madeOf 16 = .ok (.lload_n 1, 1) := by decide +kernel
theorem dX7_madeOf_17 : decode cX7_madeOf 17 = .ok (.iload 5, 2) := by decide +kernel
theorem dX7_madeOf_19 : decode cX7_madeOf 19 = .ok (.invokestatic 143, 3) := by decide +kernel
theorem dX7_madeOf_22 : decode cX7_madeOf 22 = .ok (.ifCond .eq 30, 3) := by decide +kernel
theorem dX7_madeOf_25 : decode cX7_madeOf 25 = .ok (.iload 4, 2) := by decide +kernel
theorem dX7_madeOf_27 : decode cX7_madeOf 27 = .ok (.ifCond .lt 20, 3) := by decide +kernel
theorem dX7_madeOf_30 : decode cX7_madeOf 30 = .ok (.aload_n 0, 1) := by decide +kernel
theorem dX7_madeOf_31 : decode cX7_madeOf 31 = .ok (.iload 5, 2) := by decide +kernel
theorem dX7_madeOf_33 : decode cX7_madeOf 33 = .ok (.iload_n 3, 1) := by decide +kernel
theorem dX7_madeOf_34 : decode cX7_madeOf 34 = .ok (.invokevirtual 168, 3) := by decide +kernel
theorem dX7_madeOf_37 : decode cX7_madeOf 37 = .ok (.aload_n 0, 1) := by decide +kernel
theorem dX7_madeOf_38 : decode cX7_madeOf 38 = .ok (.iload 4, 2) := by decide +kernel
theorem dX7_madeOf_40 : decode cX7_madeOf 40 = .ok (.iload_n 3, 1) := by decide +kernel
theorem dX7_madeOf_41 : decode cX7_madeOf 41 = .ok (.invokevirtual 168, 3) := by decide +kernel
theorem dX7_madeOf_44 : decode cX7_madeOf 44 = .ok (.if_icmp .le 8, 3) := by decide +kernel
theorem dX7_madeOf_47 : decode cX7_madeOf 47 = .ok (.iload 5, 2) := by decide +kernel
theorem dX7_madeOf_49 : decode cX7_madeOf 49 = .ok (.goto 5, 3) := by decide +kernel
theorem dX7_madeOf_52 : decode cX7_madeOf 52 = .ok (.iload 4, 2) := by decide +kernel
theorem dX7_madeOf_54 : decode cX7_madeOf 54 = .ok (.istore 4, 2) := by decide +kernel
theorem dX7_madeOf_56 : decode cX7_madeOf 56 = .ok (.iinc 5 1, 3) := by decide +kernel
theorem dX7_madeOf_59 : decode cX7_madeOf 59 = .ok (.goto (-52), 3) := by decide +kernel
theorem dX7_madeOf_62 : decode cX7_madeOf 62 = .ok (.iload 4, 2) := by decide +kernel
theorem dX7_madeOf_64 : decode cX7_madeOf 64 = .ok (.ireturn, 1) := by decide +kernel
theorem dX7_layTerm_0 : decode cX7_layTerm 0 = .ok (.aload_n 0, 1) := by decide +kernel
theorem dX7_layTerm_1 : decode cX7_layTerm 1 = .ok (.iconst 0, 1) := by decide +kernel
theorem dX7_layTerm_2 : decode cX7_layTerm 2 = .ok (.putfield 184, 3) := by decide +kernel
theorem dX7_layTerm_5 : decode cX7_layTerm 5 = .ok (.aload_n 0, 1) := by decide +kernel
theorem dX7_layTerm_6 : decode cX7_layTerm 6 = .ok (.iconst 0, 1) := by decide +kernel
theorem dX7_layTerm_7 : decode cX7_layTerm 7 = .ok (.putfield 187, 3) := by decide +kernel
theorem dX7_layTerm_10 : decode cX7_layTerm 10 = .ok (.iload_n 1, 1) := by decide +kernel
theorem dX7_layTerm_11 : decode cX7_layTerm 11 = .ok (.istore_n 2, 1) := by decide +kernel
theorem dX7_layTerm_12 : decode cX7_layTerm 12 = .ok (.aload_n 0, 1) := by decide +kernel
theorem dX7_layTerm_13 : decode cX7_layTerm 13 = .ok (.getfield 7, 3) := by decide +kernel
theorem dX7_layTerm_16 : decode cX7_layTerm 16 = .ok (.iconst 1, 1) := by decide +kernel
theorem dX7_layTerm_17 : decode cX7_layTerm 17 = .ok (.isub, 1) := by decide +kernel
theorem dX7_layTerm_18 : decode cX7_layTerm 18 = .ok (.istore_n 3, 1) := by decide +kernel
theorem dX7_layTerm_19 : decode cX7_layTerm 19 = .ok (.iload_n 3, 1) := by decide +kernel
theorem dX7_layTerm_20 : decode cX7_layTerm 20 = .ok (.ifCond .lt 59, 3) := by decide +kernel
theorem dX7_layTerm_23 : decode cX7_layTerm 23 = .ok (.aload_n 0, 1) := by decide +kernel
theorem dX7_layTerm_24 : decode cX7_layTerm 24 = .ok (.dup, 1) := by decide +kernel
theorem dX7_layTerm_25 : decode cX7_layTerm 25 = .ok (.getfield 184, 3) := by decide +kernel
theorem dX7_layTerm_28 : decode cX7_layTerm 28 = .ok (.iload_n 2, 1) := by decide +kernel
theorem dX7_layTerm_29 : decode cX7_layTerm 29 = .ok (.iconst 3, 1) := by decide +kernel
theorem dX7_layTerm_30 : decode cX7_layTerm 30 = .ok (.irem, 1) := by decide +kernel
theorem dX7_layTerm_31 : decode cX7_layTerm 31 = .ok (.iconst 1, 1) := by decide +kernel
theorem dX7_layTerm_32 : decode cX7_layTerm 32 = .ok (.if_icmp .ne 9, 3) := by decide +kernel
theorem dX7_layTerm_35 : decode cX7_layTerm 35 = .ok (.iconst 1, 1) := by decide +kernel
theorem dX7_layTerm_36 : decode cX7_layTerm 36 = .ok (.iload_n 3, 1) := by decide +kernel
theorem dX7_layTerm_37 : decode cX7_layTerm 37 = .ok (.ishl, 1) := by decide +kernel
theorem dX7_layTerm_38 : decode cX7_layTerm 38 = .ok (.goto 4, 3) := by decide +kernel
theorem dX7_layTerm_41 : decode cX7_layTerm 41 = .ok (.iconst 0, 1) := by decide +kernel
theorem dX7_layTerm_42 : decode cX7_layTerm 42 = .ok (.ior, 1) := by decide +kernel
theorem dX7_layTerm_43 : decode cX7_layTerm 43 = .ok (.putfield 184, 3) := by decide +kernel
theorem dX7_layTerm_46 : decode cX7_layTerm 46 = .ok (.aload_n 0, 1) := by decide +kernel
theorem dX7_layTerm_47 : decode cX7_layTerm 47 = .ok (.dup, 1) := by decide +kernel
theorem dX7_layTerm_48 : decode cX7_layTerm 48 = .ok (.getfield 187, 3) := by decide +kernel
theorem dX7_layTerm_51 : decode cX7_layTerm 51 = .ok (.iload_n 2, 1) := by decide +kernel
theorem dX7_layTerm_52 : decode cX7_layTerm 52 = .ok (.iconst 3, 1) := by decide +kernel
theorem dX7_layTerm_53 : decode cX7_layTerm 53 = .ok (.irem, 1) := by decide +kernel
theorem dX7_layTerm_54 : decode cX7_layTerm 54 = .ok (.iconst 2, 1) := by decide +kernel
theorem dX7_layTerm_55 : decode cX7_layTerm 55 = .ok (.if_icmp .ne 9, 3) := by decide +kernel
theorem dX7_layTerm_58 : decode cX7_layTerm 58 = .ok (.iconst 1, 1) := by decide +kernel
theorem dX7_layTerm_59 : decode cX7_layTerm 59 = .ok (.iload_n 3, 1) := by decide +kernel
theorem dX7_layTerm_60 : decode cX7_layTerm 60 = .ok (.ishl, 1) := by decide +kernel
theorem dX7_layTerm_61 : decode cX7_layTerm 61 = .ok (.goto 4, 3) := by decide +kernel
theorem dX7_layTerm_64 : decode cX7_layTerm 64 = .ok (.iconst 0, 1) := by decide +kernel
theorem dX7_layTerm_65 : decode cX7_layTerm 65 = .ok (.ior, 1) := by decide +kernel
theorem dX7_layTerm_66 : decode cX7_layTerm 66 = .ok (.putfield 187, 3) := by decide +kernel
theorem dX7_layTerm_69 : decode cX7_layTerm 69 = .ok (.iload_n 2, 1) := by decide +kernel
theorem dX7_layTerm_70 : decode cX7_layTerm 70 = .ok (.iconst 3, 1) := by decide +kernel
theorem dX7_layTerm_71 : decode cX7_layTerm 71 = .ok (.idiv, 1) := by decide +kernel
theorem dX7_layTerm_72 : decode cX7_layTerm 72 = .ok (.istore_n 2, 1) := by decide +kernel
theorem dX7_layTerm_73 : decode cX7_layTerm 73 = .ok (.iinc 3 (-1), 3) := by decide +kernel
theorem dX7_layTerm_76 : decode cX7_layTerm 76 = .ok (.goto (-57), 3) := by decide +kernel
theorem dX7_layTerm_79 : decode cX7_layTerm 79 = .ok (.return_, 1) := by decide +kernel
def lbit (S : Int64) (w : Nat) : Bool := S.toBitVec.getLsbD w
theorem lb_sh {S : Int64} {w : Nat} (hw : w < 64) : (S.toUInt64 >>> ((nI w).toInt64.toUInt64 &&& Int64.toUInt64 63)).toInt64 &&& 1 = if lbit S w then 1 else 0 := by
  have hs : ∀ w, w < 64 → (((nI w).toInt64.toUInt64 &&& Int64.toUInt64 63).toBitVec % 64).toNat = w := by decide +kernel
  apply Int64.toBitVec_inj.mp
  apply BitVec.eq_of_getLsbD_eq
  intro i hi
  have e1 : ((S.toUInt64 >>> ((nI w).toInt64.toUInt64 &&& Int64.toUInt64 63)).toInt64).toBitVec = S.toBitVec >>> w := by
    show (S.toUInt64 >>> ((nI w).toInt64.toUInt64 &&& Int64.toUInt64 63)).toBitVec = _
    rw [UInt64.toBitVec_shiftRight]
    show S.toBitVec >>> (((nI w).toInt64.toUInt64 &&& Int64.toUInt64 63).toBitVec % 64) = _
    rw [BitVec.ushiftRight_eq', hs w hw]
  rw [Int64.toBitVec_and, e1, BitVec.getLsbD_and, BitVec.getLsbD_ushiftRight]
  unfold lbit
  by_cases h0 : i = 0
  · subst h0
    cases hb : S.toBitVec.getLsbD w <;> simp [hb]
  · have : (1 : Int64).toBitVec.getLsbD i = false := by
      have : ∀ i, i < 64 → i ≠ 0 → (1 : Int64).toBitVec.getLsbD i = false := by decide +kernel
      exact this i hi h0
    rw [this, Bool.and_false]
    cases hb : S.toBitVec.getLsbD w
    · simp
    · simp [this, h0]
section MODEL2
variable {xl : Nat} {xs : Nat → Int32} {n : Nat} {h : Nat → PC} {I : Nat → Nat → Int32} {J : Nat → Nat → Int64} {X : Nat → Option Nat}
theorem c_X7_holds {S : Int64} {w : Nat} (hw : w < 64) : Rn xl xs 0 0 0 0 mX7_holds [.long S, .int (nI w)] n h (some (.int (b2i (lbit S w)))) n h := by
  intro Q hQ
  show Ev xl xs 0 0 0 0 mX7_holds 0 [some (.long S), none, some (.int (nI w))] [] n h Q
  have e := lb_sh (S := S) hw
  refine ev_lload_n (q := 1) dX7_holds_0 rfl rfl ?_
  refine ev_iload_n (q := 2) dX7_holds_1 rfl rfl ?_
  refine ev_lushr (q := 3) dX7_holds_2 rfl ?_
  refine ev_lconst (q := 4) (1) dX7_holds_3 (by decide) rfl ?_
  refine ev_land (q := 5) dX7_holds_4 rfl ?_
  refine ev_lconst (q := 6) (1) dX7_holds_5 (by decide) rfl ?_
  refine ev_lcmp (q := 7) dX7_holds_6 rfl ?_
  refine ev_if_ne (q := 10) 14 dX7_holds_7 (by decide) rfl (fun c_7 => ?_) (fun c_7 => ?_)
  · have c_7 : lbit S w = false := by rw [e] at c_7; cases hb : lbit S w <;> first | rfl | (rw [hb] at c_7; exact absurd rfl c_7)
    refine ev_iconst (q := 15) (0) dX7_holds_14 (by decide) rfl ?_
    exact ev_iretE dX7_holds_15 rfl (nar_b2i _) (by rw [c_7]; rfl) rfl rfl hQ
  · have c_7 : lbit S w = true := by rw [e] at c_7; cases hb : lbit S w <;> first | rfl | (rw [hb] at c_7; exact absurd c_7 (by decide))
    refine ev_iconst (q := 11) (1) dX7_holds_10 (by decide) rfl ?_
    refine ev_goto 15 dX7_holds_11 (by decide) ?_
    exact ev_iretE dX7_holds_15 rfl (nar_b2i _) (by rw [c_7]; rfl) rfl rfl hQ
theorem c_X7_bits {w : Nat} (hw : w < 2 ^ 31) : Rn xl xs 0 0 0 0 mX7_bits [.int (nI w)] n h (some (.int (nI (pop 6 w)))) n h := by
  intro Q hQ
  show Ev xl xs 0 0 0 0 mX7_bits 0 [some (.int (nI w)), none, none] [] n h Q
  have lp : ∀ j k, k + j = 6 → Ev xl xs 0 0 0 0 mX7_bits 4 [some (.int (nI w)), some (.int (nI (pop k w))), some (.int (nI k))] [] n h Q := by
    intro j
    induction j using Nat.strongRecOn with
    | _ j ih =>
      intro k hk
      refine ev_iload_n (q := 5) dX7_bits_4 rfl rfl ?_
      refine ev_bipush (q := 7) (6) dX7_bits_5 (by decide) rfl ?_
      refine ev_icmp_ge (q := 10) 24 dX7_bits_7 (by decide) rfl (fun c_7 => ?_) (fun c_7 => ?_)
      · have c_7 : 6 ≤ k := (nI_leI (a := 6) (by omega) (by omega)).mp c_7
        refine ev_iload_n (q := 25) dX7_bits_24 rfl rfl ?_
        exact ev_iretE dX7_bits_25 rfl rfl (by rw [show k = 6 by omega]) rfl rfl hQ
      · have c_7 : ¬ 6 ≤ k := fun h => c_7 ((nI_leI (a := 6) (by omega) (by omega)).mpr h)
        refine ev_iload_n (q := 11) dX7_bits_10 rfl rfl ?_
        refine ev_iload_n (q := 12) dX7_bits_11 rfl rfl ?_
        refine ev_iload_n (q := 13) dX7_bits_12 rfl rfl ?_
        refine ev_ishr (q := 14) dX7_bits_13 rfl ?_
        refine ev_iconst (q := 15) (1) dX7_bits_14 (by decide) rfl ?_
        refine ev_iand (q := 16) dX7_bits_15 rfl ?_
        refine ev_iadd (q := 17) dX7_bits_16 rfl ?_
        refine ev_ist_1 (q := 18) dX7_bits_17 rfl rfl ?_
        refine ev_inc_2 (q := 21) (nI (k + 1)) dX7_bits_18 (nI_1 k) rfl rfl ?_
        refine ev_goto 4 dX7_bits_21 (by decide) ?_
        have e : nI (pop k w) + (nI w >>> (nI k &&& 31) &&& 1) = nI (pop (k + 1) w) := by rw [nI_bit hw (by omega), nI_add]; rfl
        rw [e]
        exact ih (j - 1) (by omega) (k + 1) (by omega)
  refine ev_iconst (q := 1) (0) dX7_bits_0 (by decide) rfl ?_
  refine ev_ist_1 (q := 2) dX7_bits_1 rfl rfl ?_
  refine ev_iconst (q := 3) (0) dX7_bits_2 (by decide) rfl ?_
  refine ev_ist_2 (q := 4) dX7_bits_3 rfl rfl ?_
  exact lp 6 0 rfl
theorem c_X7_worthTo {t c w : Nat} (hn : 49 ≤ n) (ht : I 33 0 = nI t) (h6 : t ≤ 6) (hc : c < 4) (hw : w < 2 ^ 31) : Rn xl xs 1 21 0 0 mX7_worthTo [.ref 33, .int (nI c), .int (nI w)] n (sysH I J X) (some (.int (wsum (fun k => I 34 (6 * c + k)) t w))) n (sysH I J X) := by
  intro Q hQ
  show Ev xl xs 1 21 0 0 mX7_worthTo 0 [some (.ref 33), some (.int (nI c)), some (.int (nI w)), none, none] [] n (sysH I J X) Q
  have lp : ∀ j k, k + j = t → Ev xl xs 1 21 0 0 mX7_worthTo 5 [some (.ref 33), some (.int (nI c)), some (.int (nI w)), some (.int (wsum (fun k => I 34 (6 * c + k)) k w)), some (.int (nI k))] [] n (sysH I J X) Q := by
    intro j
    induction j using Nat.strongRecOn with
    | _ j ih =>
      intro k hk
      refine ev_iload (q := 7) dX7_worthTo_5 rfl rfl ?_
      refine ev_aload_n (q := 8) dX7_worthTo_7 rfl rfl ?_
      refine ev_get (q := 11) dX7_worthTo_8 fr_X7_7 rfl (lt_n hn (by decide)) rfl rfl ?_
      rw [ht]
      refine ev_icmp_ge (q := 14) 48 dX7_worthTo_11 (by decide) rfl (fun c_11 => ?_) (fun c_11 => ?_)
      · have c_11 : t ≤ k := (nI_leI (by omega) (by omega)).mp c_11
        refine ev_iload_n (q := 49) dX7_worthTo_48 rfl rfl ?_
        exact ev_iretE dX7_worthTo_49 rfl rfl (by rw [show k = t by omega]) rfl rfl hQ
      · have c_11 : ¬ t ≤ k := fun h => c_11 ((nI_leI (by omega) (by omega)).mpr h)
        refine ev_iload_n (q := 15) dX7_worthTo_14 rfl rfl ?_
        refine ev_iload_n (q := 16) dX7_worthTo_15 rfl rfl ?_
        refine ev_iload (q := 18) dX7_worthTo_16 rfl rfl ?_
        refine ev_callS2i (q := 21) dX7_worthTo_18 ca_X7_113 (c_X7_has (by omega) (by omega)) (Nat.le_of_ble_eq_true rfl) (Nat.le_of_ble_eq_true rfl) (by decide) (by decide) rfl ?_
        refine ev_if_eq (q := 24) 39 dX7_worthTo_21 (by decide) rfl (fun c_21 => ?_) (fun c_21 => ?_)
        · have c_21 := b2i_0.mp c_21
          refine ev_iconst (q := 40) (0) dX7_worthTo_39 (by decide) rfl ?_
          refine ev_iadd (q := 41) dX7_worthTo_40 rfl ?_
          refine ev_ist_3 (q := 42) dX7_worthTo_41 rfl rfl ?_
          refine ev_inc_4 (q := 45) (nI (k + 1)) dX7_worthTo_42 (nI_1 k) rfl rfl ?_
          refine ev_goto 5 dX7_worthTo_45 (by decide) ?_
          have e := ih (j - 1) (by omega) (k + 1) (by omega)
          simp only [wsum, c_21] at e
          exact e
        · have c_21 := b2i_n0.mp c_21
          refine ev_aload_n (q := 25) dX7_worthTo_24 rfl rfl ?_
          refine ev_get (q := 28) dX7_worthTo_25 fr_X7_13 rfl (lt_n hn (by decide)) rfl rfl ?_
          refine ev_bipush (q := 30) (6) dX7_worthTo_28 (by decide) rfl ?_
          refine ev_iload_n (q := 31) dX7_worthTo_30 rfl rfl ?_
          refine ev_imul (q := 32) dX7_worthTo_31 rfl ?_
          refine ev_iload (q := 34) dX7_worthTo_32 rfl rfl ?_
          refine ev_iadd (q := 35) dX7_worthTo_34 rfl ?_
          refine ev_iaS (q := 36) (6 * c + k) dX7_worthTo_35 (by rw [show (6 : Int32) = nI 6 from rfl, pk_mul, nI_add]) rfl (by omega) (lt_n hn (by decide)) rfl ?_
          refine ev_goto 40 dX7_worthTo_36 (by decide) ?_
          refine ev_iadd (q := 41) dX7_worthTo_40 rfl ?_
          refine ev_ist_3 (q := 42) dX7_worthTo_41 rfl rfl ?_
          refine ev_inc_4 (q := 45) (nI (k + 1)) dX7_worthTo_42 (nI_1 k) rfl rfl ?_
          refine ev_goto 5 dX7_worthTo_45 (by decide) ?_
          have e := ih (j - 1) (by omega) (k + 1) (by omega)
          simp only [wsum, c_21] at e
          exact e
  refine ev_iconst (q := 1) (0) dX7_worthTo_0 (by decide) rfl ?_
  refine ev_ist_3 (q := 2) dX7_worthTo_1 rfl rfl ?_
  refine ev_iconst (q := 3) (0) dX7_worthTo_2 (by decide) rfl ?_
  refine ev_ist_4 (q := 5) dX7_worthTo_3 rfl rfl ?_
  exact lp t 0 (by omega)
theorem c_X7_tasteOf {t w : Nat} (hn : 49 ≤ n) (ht : I 33 0 = nI t) (h6 : t ≤ 6) (hw : w < 2 ^ 31) : Rn xl xs 1 21 0 0 mX7_tasteOf [.ref 33, .int (nI w)] n (sysH I J X) (some (.int (wsum (I 35) t w))) n (sysH I J X) := by
  intro Q hQ
  show Ev xl xs 1 21 0 0 mX7_tasteOf 0 [some (.ref 33), some (.int (nI w)), none, none] [] n (sysH I J X) Q
  have lp : ∀ j k, k + j = t → Ev xl xs 1 21 0 0 mX7_tasteOf 4 [some (.ref 33), some (.int (nI w)), some (.int (wsum (I 35) k w)), some (.int (nI k))] [] n (sysH I J X) Q := by
    intro j
    induction j using Nat.strongRecOn with
    | _ j ih =>
      intro k hk
      refine ev_iload_n (q := 5) dX7_tasteOf_4 rfl rfl ?_
      refine ev_aload_n (q := 6) dX7_tasteOf_5 rfl rfl ?_
      refine ev_get (q := 9) dX7_tasteOf_6 fr_X7_7 rfl (lt_n hn (by decide)) rfl rfl ?_
      rw [ht]
      refine ev_icmp_ge (q := 12) 39 dX7_tasteOf_9 (by decide) rfl (fun c_9 => ?_) (fun c_9 => ?_)
      · have c_9 : t ≤ k := (nI_leI (by omega) (by omega)).mp c_9
        refine ev_iload_n (q := 40) dX7_tasteOf_39 rfl rfl ?_
        exact ev_iretE dX7_tasteOf_40 rfl rfl (by rw [show k = t by omega]) rfl rfl hQ
      · have c_9 : ¬ t ≤ k := fun h => c_9 ((nI_leI (by omega) (by omega)).mpr h)
        refine ev_iload_n (q := 13) dX7_tasteOf_12 rfl rfl ?_
        refine ev_iload_n (q := 14) dX7_tasteOf_13 rfl rfl ?_
        refine ev_iload_n (q := 15) dX7_tasteOf_14 rfl rfl ?_
        refine ev_callS2i (q := 18) dX7_tasteOf_15 ca_X7_113 (c_X7_has (by omega) (by omega)) (Nat.le_of_ble_eq_true rfl) (Nat.le_of_ble_eq_true rfl) (by decide) (by decide) rfl ?_
        refine ev_if_eq (q := 21) 30 dX7_tasteOf_18 (by decide) rfl (fun c_18 => ?_) (fun c_18 => ?_)
        · have c_18 := b2i_0.mp c_18
          refine ev_iconst (q := 31) (0) dX7_tasteOf_30 (by decide) rfl ?_
          refine ev_iadd (q := 32) dX7_tasteOf_31 rfl ?_
          refine ev_ist_2 (q := 33) dX7_tasteOf_32 rfl rfl ?_
          refine ev_inc_3 (q := 36) (nI (k + 1)) dX7_tasteOf_33 (nI_1 k) rfl rfl ?_
          refine ev_goto 4 dX7_tasteOf_36 (by decide) ?_
          have e := ih (j - 1) (by omega) (k + 1) (by omega)
          simp only [wsum, c_18] at e
          exact e
        · have c_18 := b2i_n0.mp c_18
          refine ev_aload_n (q := 22) dX7_tasteOf_21 rfl rfl ?_
          refine ev_get (q := 25) dX7_tasteOf_22 fr_X7_17 rfl (lt_n hn (by decide)) rfl rfl ?_
          refine ev_iload_n (q := 26) dX7_tasteOf_25 rfl rfl ?_
          refine ev_iaS (q := 27) _ dX7_tasteOf_26 rfl rfl (by omega) (lt_n hn (by decide)) rfl ?_
          refine ev_goto 31 dX7_tasteOf_27 (by decide) ?_
          refine ev_iadd (q := 32) dX7_tasteOf_31 rfl ?_
          refine ev_ist_2 (q := 33) dX7_tasteOf_32 rfl rfl ?_
          refine ev_inc_3 (q := 36) (nI (k + 1)) dX7_tasteOf_33 (nI_1 k) rfl rfl ?_
          refine ev_goto 4 dX7_tasteOf_36 (by decide) ?_
          have e := ih (j - 1) (by omega) (k + 1) (by omega)
          simp only [wsum, c_18] at e
          exact e
  refine ev_iconst (q := 1) (0) dX7_tasteOf_0 (by decide) rfl ?_
  refine ev_ist_2 (q := 2) dX7_tasteOf_1 rfl rfl ?_
  refine ev_iconst (q := 3) (0) dX7_tasteOf_2 (by decide) rfl ?_
  refine ev_ist_3 (q := 4) dX7_tasteOf_3 rfl rfl ?_
  exact lp t 0 (by omega)
theorem c_X7_isThing {t : Nat} (v : Int32) (hn : 49 ≤ n) (ht : I 33 0 = nI t) : Rn xl xs 1 22 0 0 mX7_isThing [.ref 33, .int v] n (sysH I J X) (some (.int (b2i (inb v 0 (nI t - 1))))) n (sysH I J X) := by
  intro Q hQ
  show Ev xl xs 1 22 0 0 mX7_isThing 0 [some (.ref 33), some (.int v)] [] n (sysH I J X) Q
  refine ev_iload_n (q := 1) dX7_isThing_0 rfl rfl ?_
  refine ev_iconst (q := 2) (0) dX7_isThing_1 (by decide) rfl ?_
  refine ev_aload_n (q := 3) dX7_isThing_2 rfl rfl ?_
  refine ev_get (q := 6) dX7_isThing_3 fr_X7_7 rfl (lt_n hn (by decide)) rfl rfl ?_
  refine ev_iconst (q := 7) (1) dX7_isThing_6 (by decide) rfl ?_
  refine ev_isub (q := 8) dX7_isThing_7 rfl ?_
  refine ev_callS3i (q := 11) dX7_isThing_8 ca_X7_99 (c_X7_in _ _ _) (Nat.le_of_ble_eq_true rfl) (Nat.le_of_ble_eq_true rfl) (by decide) (by decide) rfl ?_
  exact ev_iretE dX7_isThing_11 rfl (nar_b2i _) (by rw [ht]) rfl rfl hQ
theorem c_X7_isWorld {t : Nat} (v : Int32) (hn : 49 ≤ n) (ht : I 33 0 = nI t) (h6 : t ≤ 6) : Rn xl xs 1 22 0 0 mX7_isWorld [.ref 33, .int v] n (sysH I J X) (some (.int (b2i (inb v 0 (nI (2 ^ t) - 1))))) n (sysH I J X) := by
  intro Q hQ
  show Ev xl xs 1 22 0 0 mX7_isWorld 0 [some (.ref 33), some (.int v)] [] n (sysH I J X) Q
  refine ev_iload_n (q := 1) dX7_isWorld_0 rfl rfl ?_
  refine ev_iconst (q := 2) (0) dX7_isWorld_1 (by decide) rfl ?_
  refine ev_aload_n (q := 3) dX7_isWorld_2 rfl rfl ?_
  refine ev_callV0i (q := 6) dX7_isWorld_3 ca_X7_95 (c_X7_worlds hn ht h6) rfl (lt_n hn (by decide)) rfl rfl (Nat.le_of_ble_eq_true rfl) (Nat.le_of_ble_eq_true rfl) (by decide) (by decide) rfl ?_
  refine ev_iconst (q := 7) (1) dX7_isWorld_6 (by decide) rfl ?_
  refine ev_isub (q := 8) dX7_isWorld_7 rfl ?_
  refine ev_callS3i (q := 11) dX7_isWorld_8 ca_X7_99 (c_X7_in _ _ _) (Nat.le_of_ble_eq_true rfl) (Nat.le_of_ble_eq_true rfl) (by decide) (by decide) rfl ?_
  exact ev_iretE dX7_isWorld_11 rfl (nar_b2i _) rfl rfl rfl hQ
end MODEL2
end
section
theorem dX7_keepsTerm_0 : decode cX7_keepsTerm 0 = .ok (.iload_n 1, 1) := by decide +kernel
theorem dX7_keepsTerm_1 : decode cX7_keepsTerm 1 = .ok (.aload_n 0, 1) := by decide +kernel
theorem dX7_keepsTerm_2 : decode cX7_keepsTerm 2 = .ok (.getfield 184, 3) := by decide +kernel
theorem dX7_keepsTerm_5 : decode cX7_keepsTerm 5 = .ok (.iand, 1) := by decide +kernel
theorem dX7_keepsTerm_6 : decode cX7_keepsTerm 6 = .ok (.aload_n 0, 1) := by decide +kernel
theorem dX7_keepsTerm_7 : decode cX7_keepsTerm 7 = .ok (.getfield 184, 3) := by decide +kernel
theorem dX7_keepsTerm_10 : decode cX7_keepsTerm 10 = .ok (.if_icmp .ne 52, 3) := by decide +kernel
theorem dX7_keepsTerm_13 : decode cX7_keepsTerm 13 = .ok (.iload_n 1, 1) := by decide +kernel
theorem dX7_keepsTerm_14 : decode cX7_keepsTerm 14 = .ok (.aload_n 0, 1) := by decide +kernel
theorem dX7_keepsTerm_15 : decode cX7_keepsTerm 15 = .ok (.getfield 187, 3) := by decide +kernel
theorem dX7_keepsTerm_18 : decode cX7_keepsTerm 18 = .ok (.iand, 1) := by decide +kernel
theorem dX7_keepsTerm_19 : decode cX7_keepsTerm 19 = .ok (.ifCond .ne 43, 3) := by decide +kernel
theorem dX7_keepsTerm_22 : decode cX7_keepsTerm 22 = .ok (.aload_n 0, 1) := by decide +kernel
theorem dX7_keepsTerm_23 : decode cX7_keepsTerm 23 = .ok (.getfield 80, 3) := by decide +kernel
theorem dX7_keepsTerm_26 : decode cX7_keepsTerm 26 = .ok (.iload_n 1, 1) := by decide +kernel
theorem dX7_keepsTerm_27 : decode cX7_keepsTerm 27 = .ok (.invokestatic 143, 3) := by decide +kernel
theorem dX7_keepsTerm_30 : decode cX7_keepsTerm 30 = .ok (.ifCond .eq 32, 3) := by decide +kernel
theorem dX7_keepsTerm_33 : decode cX7_keepsTerm 33 = .ok (.iload_n 1, 1) := by decide +kernel
theorem dX7_keepsTerm_34 : decode cX7_keepsTerm 34 = .ok (.iload_n 2, 1) := by decide +kernel
theorem dX7_keepsTerm_35 : decode cX7_keepsTerm 35 = .ok (.ixor, 1) := by decide +kernel
theorem dX7_keepsTerm_36 : decode cX7_keepsTerm 36 = .ok (.aload_n 0, 1) := by decide +kernel
theorem dX7_keepsTerm_37 : decode cX7_keepsTerm 37 = .ok (.getfield 184, 3) := by decide +kernel
theorem dX7_keepsTerm_40 : decode cX7_keepsTerm 40 = .ok (.aload_n 0, 1) := by decide +kernel
theorem dX7_keepsTerm_41 : decode cX7_keepsTerm 41 = .ok (.getfield 187, 3) := by decide +kernel
theorem dX7_keepsTerm_44 : decode cX7_keepsTerm 44 = .ok (.ior, 1) := by decide +kernel
theorem dX7_keepsTerm_45 : decode cX7_keepsTerm 45 = .ok (.iconst (-1), 1) := by decide +kernel
theorem dX7_keepsTerm_46 : decode cX7_keepsTerm 46 = .ok (.ixor, 1) := by decide +kernel
theorem dX7_keepsTerm_47 : decode cX7_keepsTerm 47 = .ok (.iand, 1) := by decide +kernel
theorem dX7_keepsTerm_48 : decode cX7_keepsTerm 48 = .ok (.invokestatic 147, 3) := by decide +kernel
theorem dX7_keepsTerm_51 : decode cX7_keepsTerm 51 = .ok (.aload_n 0, 1) := by decide +kernel
theorem dX7_keepsTerm_52 : decode cX7_keepsTerm 52 = .ok (.getfield 70, 3) := by decide +kernel
theorem dX7_keepsTerm_55 : decode cX7_keepsTerm 55 = .ok (.if_icmp .gt 7, 3) := by decide +kernel
theorem dX7_keepsTerm_58 : decode cX7_keepsTerm 58 = .ok (.iconst 1, 1) := by decide +kernel
theorem dX7_keepsTerm_59 : decode cX7_keepsTerm 59 = .ok (.goto 4, 3) := by decide +kernel
theorem dX7_keepsTerm_62 : decode cX7_keepsTerm 62 = .ok (.iconst 0, 1) := by decide +kernel
theorem dX7_keepsTerm_63 : decode cX7_keepsTerm 63 = .ok (.ireturn, 1) := by decide +kernel
theorem dX7_keepingTerm_0 : decode cX7_keepingTerm 0 = .ok (.aload_n 0, 1) := by decide +kernel
theorem dX7_keepingTerm_1 : decode cX7_keepingTerm 1 = .ok (.iload_n 1, 1) := by decide +kernel
theorem dX7_keepingTerm_2 : decode cX7_keepingTerm 2 = .ok (.invokevirtual 190, 3) := by decide +kernel
theorem dX7_keepingTerm_5 : decode cX7_keepingTerm 5 = .ok (.lconst 0, 1) := by decide +kernel
theorem dX7_keepingTerm_6 : decode cX7_keepingTerm 6 = .ok (.lstore_n 3, 1) := by decide +kernel
theorem dX7_keepingTerm_7 : decode cX7_keepingTerm 7 = .ok (.iconst 0, 1) := by decide +kernel
theorem dX7_keepingTerm_8 : decode cX7_keepingTerm 8 = .ok (.istore 5, 2) := by decide +kernel
theorem dX7_keepingTerm_10 : decode cX7_keepingTerm 10 = .ok (.iload 5, 2) := by decide +kernel
theorem dX7_keepingTerm_12 : decode cX7_keepingTerm 12 = .ok (.aload_n 0, 1) := by decide +kernel
theorem dX7_keepingTerm_13 : decode cX7_keepingTerm 13 = .ok (.invokevirtual 95, 3) := by decide +kernel
theorem dX7_keepingTerm_16 : decode cX7_keepingTerm 16 = .ok (.if_icmp .ge 30, 3) := by decide +kernel
theorem dX7_keepingTerm_19 : decode cX7_keepingTerm 19 = .ok (.lload_n 3, 1) := by decide +kernel
theorem dX7_keepingTerm_20 : decode cX7_keepingTerm 20 = .ok (.aload_n 0, 1) := by decide +kernel
theorem dX7_keepingTerm_21 : decode cX7_keepingTerm 21 = .ok (.iload 5, 2) := by decide +kernel
theorem dX7_keepingTerm_23 : decode cX7_keepingTerm 23 = .ok (.iload_n 2, 1) := by decide +kernel
theorem dX7_keepingTerm_24 : decode cX7_keepingTerm 24 = .ok (.invokevirtual 194, 3) := by decide +kernel
theorem dX7_keepingTerm_27 : decode cX7_keepingTerm 27 = .ok (.ifCond .eq 10, 3) := by decide +kernel
theorem dX7_keepingTerm_30 : decode cX7_keepingTerm 30 = .ok (.lconst 1, 1) := by decide +kernel
theorem dX7_keepingTerm_31 : decode cX7_keepingTerm 31 = .ok (.iload 5, 2) := by decide +kernel
theorem dX7_keepingTerm_33 : decode cX7_keepingTerm 33 = .ok (.lshl, 1) := by decide +kernel
theorem dX7_keepingTerm_34 : decode cX7_keepingTerm 34 = .ok (.goto 4, 3) := by decide +kernel
theorem dX7_keepingTerm_37 : decode cX7_keepingTerm 37 = .ok (.lconst 0, 1) := by decide +kernel
theorem dX7_keepingTerm_38 : decode cX7_keepingTerm 38 = .ok (.lor, 1) := by decide +kernel
theorem dX7_keepingTerm_39 : decode cX7_keepingTerm 39 = .ok (.lstore_n 3, 1) := by decide +kernel
theorem dX7_keepingTerm_40 : decode cX7_keepingTerm 40 = .ok (.iinc 5 1, 3) := by decide +kernel
theorem dX7_keepingTerm_43 : decode cX7_keepingTerm 43 = .ok (.goto (-33), 3) := by decide +kernel
theorem dX7_keepingTerm_46 : decode cX7_keepingTerm 46 = .ok (.lload_n 3, 1) := by decide +kernel
theorem dX7_keepingTerm_47 : decode cX7_keepingTerm 47 = .ok (.lreturn, 1) := by decide +kernel
theorem dX7_madeOfTerm_0 : decode cX7_madeOfTerm 0 = .ok (.aload_n 0, 1) := by decide +kernel
theorem dX7_madeOfTerm_1 : decode cX7_madeOfTerm 1 = .ok (.aload_n 0, 1) := by decide +kernel
theorem dX7_madeOfTerm_2 : decode cX7_madeOfTerm 2 = .ok (.iload_n 1, 1) := by decide +kernel
theorem dX7_madeOfTerm_3 : decode cX7_madeOfTerm 3 = .ok (.iload_n 2, 1) := by decide +kernel
theorem dX7_madeOfTerm_4 : decode cX7_madeOfTerm 4 = .ok (.invokevirtual 197, 3) := by decide +kernel
theorem dX7_madeOfTerm_7 : decode cX7_madeOfTerm 7 = .ok (.iload_n 2, 1) := by decide +kernel
theorem dX7_madeOfTerm_8 : decode cX7_madeOfTerm 8 = .ok (.invokevirtual 171, 3) := by decide +kernel
theorem dX7_madeOfTerm_11 : decode cX7_madeOfTerm 11 = .ok (.ireturn, 1) := by decide +kernel
theorem nI_or (a b : Nat) : nI a ||| nI b = nI (a ||| b) := by
  apply Int32.toBitVec_inj.mp
  rw [Int32.toBitVec_or]
  show BitVec.ofNat 32 a ||| BitVec.ofNat 32 b = BitVec.ofNat 32 (a ||| b)
  rw [BitVec.ofNat_or]
theorem nI_and (a b : Nat) : nI a &&& nI b = nI (a &&& b) := by
  apply Int32.toBitVec_inj.mp
  rw [Int32.toBitVec_and]
  show BitVec.ofNat 32 a &&& BitVec.ofNat 32 b = BitVec.ofNat 32 (a &&& b)
  rw [BitVec.ofNat_and]
theorem nI_xor (a b : Nat) : nI a ^^^ nI b = nI (a ^^^ b) := by
  apply Int32.toBitVec_inj.mp
  rw [Int32.toBitVec_xor]
  show BitVec.ofNat 32 a ^^^ BitVec.ofNat 32 b = BitVec.ofNat 32 (a ^^^ b)
  rw [BitVec.ofNat_xor]
theorem nI_not {a m : Nat} (ha : a < 64) (hm : m < 64) : nI a &&& (nI m ^^^ (-1)) = nI (a &&& (63 ^^^ m)) := by
  have : ∀ a, a < 64 → ∀ m, m < 64 → nI a &&& (nI m ^^^ (-1)) = nI (a &&& (63 ^^^ m)) := by decide +kernel
  exact this a ha m hm
theorem nI_div3 {a : Nat} (ha : a < 2 ^ 31) : nI a / 3 = nI (a / 3) := pk_div ha (d := 3) (by decide) (by decide)
theorem nI_rem3 {a : Nat} (ha : a < 2 ^ 31) : nI a - nI a / 3 * 3 = nI (a % 3) := pk_rem ha (d := 3) (by decide) (by decide)
theorem nI_sh1 {k : Nat} (hk : k < 31) : (1 : Int32) <<< (nI k &&& 31) = nI (2 ^ k) := by
  have : ∀ k, k < 31 → (1 : Int32) <<< (nI k &&& 31) = nI (2 ^ k) := by decide +kernel
  exact this k hk
def upto {α : Type} (f : Nat → α → α) : Nat → α → α
  | 0, a => a
  | k + 1, a => f k (upto f k a)
def eo : Option Nat → Int32
  | none => -6
  | some w => nI w
/-- base three -/
def dig (t num k : Nat) : Nat := num / 3 ^ (t - 1 - k) % 3
def wdc (t num : Nat) : Nat → Nat
  | 0 => 0
  | k + 1 => wdc t num k + if 0 < dig t num k then 1 else 0
def wd (t num : Nat) : Nat := wdc t num t
theorem wdc_le (t num : Nat) : ∀ k, wdc t num k ≤ k
  | 0 => Nat.le_refl _
  | k + 1 => by unfold wdc; have := wdc_le t num k; split <;> omega
def tmask (v t num : Nat) : Nat → Nat
  | 0 => 0
  | i + 1 => tmask v t num i ||| (if num / 3 ^ i % 3 = v then 2 ^ (t - 1 - i) else 0)
theorem tmask_lt (v t num : Nat) (h6 : t ≤ 6) : ∀ i, i ≤ t → tmask v t num i < 64
  | 0, _ => by show 0 < 64; decide
  | i + 1, hi => by
    have h1 := tmask_lt v t num h6 i (by omega)
    have h2 : (if num / 3 ^ i % 3 = v then 2 ^ (t - 1 - i) else 0) < 2 ^ 6 := by
      split
      · exact Nat.pow_lt_pow_right (by decide) (by omega)
      · decide
    exact Nat.or_lt_two_pow (n := 6) h1 h2
def yn (I : Nat → Nat → Int32) (y z : Int32) : Nat → Nat → Int32 := setI I 33 (upd (upd (I 33) 21 y) 22 z)
theorem yn_0 (I : Nat → Nat → Int32) (y z : Int32) : setI (setI I 33 (upd (I 33) 21 y)) 33 (upd (setI I 33 (upd (I 33) 21 y) 33) 22 z) = yn I y z := by
  funext p j; simp only [yn, setI, upd]; split <;> simp_all
theorem yn_y (I : Nat → Nat → Int32) (y z y' : Int32) : setI (yn I y z) 33 (upd (yn I y z 33) 21 y') = yn I y' z := by
  funext p j
  by_cases hp : p = 33
  · subst hp
    simp only [yn, setI, upd, if_true]
    by_cases h1 : j = 21 <;> by_cases h2 : j = 22 <;> simp_all
  · simp [yn, setI, hp]
theorem yn_n (I : Nat → Nat → Int32) (y z z' : Int32) : setI (yn I y z) 33 (upd (yn I y z 33) 22 z') = yn I y z' := by
  funext p j
  by_cases hp : p = 33
  · subst hp
    simp only [yn, setI, upd, if_true]
    by_cases h1 : j = 21 <;> by_cases h2 : j = 22 <;> simp_all
  · simp [yn, setI, hp]
theorem yn_yn (I : Nat → Nat → Int32) (y z y' z' : Int32) : yn (yn I y z) y' z' = yn I y' z' := by
  funext p j
  by_cases hp : p = 33
  · subst hp
    simp only [yn, setI, upd, if_true]
    by_cases h1 : j = 21 <;> by_cases h2 : j = 22 <;> simp_all
  · simp [yn, setI, hp]
section MODEL3
variable {xl : Nat} {xs : Nat → Int32} {n : Nat} {h : Nat → PC} {I : Nat → Nat → Int32} {J : Nat → Nat → Int64} {X : Nat → Option Nat} {t : Nat}
theorem c_X7_count {S : Int64} (hn : 49 ≤ n) (ht : I 33 0 = nI t) (h6 : t ≤ 6) : Rn xl xs 1 22 0 0 mX7_count [.ref 33, .long S] n (sysH I J X) (some (.int (upto (fun w c => c + b2i (lbit S w)) (2 ^ t) 0))) n (sysH I J X) := by
  intro Q hQ
  have h64 : 2 ^ t ≤ 64 := Nat.pow_le_pow_right (n := 2) (by decide) h6
  show Ev xl xs 1 22 0 0 mX7_count 0 [some (.ref 33), some (.long S), none, none, none] [] n (sysH I J X) Q
  have lp : ∀ j k, k + j = 2 ^ t → Ev xl xs 1 22 0 0 mX7_count 5 [some (.ref 33), some (.long S), none, some (.int (upto (fun w c => c + b2i (lbit S w)) k 0)), some (.int (nI k))] [] n (sysH I J X) Q := by
    intro j
    induction j using Nat.strongRecOn with
    | _ j ih =>
      intro k hk
      refine ev_iload (q := 7) dX7_count_5 rfl rfl ?_
      refine ev_aload_n (q := 8) dX7_count_7 rfl rfl ?_
      refine ev_callV0i (q := 11) dX7_count_8 ca_X7_95 (c_X7_worlds hn ht h6) rfl (lt_n hn (by decide)) rfl rfl (Nat.le_of_ble_eq_true rfl) (Nat.le_of_ble_eq_true rfl) (by decide) (by decide) rfl ?_
      refine ev_icmp_ge (q := 14) 37 dX7_count_11 (by decide) rfl (fun c_11 => ?_) (fun c_11 => ?_)
      · have c_11 : 2 ^ t ≤ k := (nI_leI (by omega) (by omega)).mp c_11
        refine ev_iload_n (q := 38) dX7_count_37 rfl rfl ?_
        exact ev_iretE dX7_count_38 rfl rfl (by rw [show k = 2 ^ t by omega]) rfl rfl hQ
      · have c_11 : ¬ 2 ^ t ≤ k := fun h => c_11 ((nI_leI (by omega) (by omega)).mpr h)
        refine ev_iload_n (q := 15) dX7_count_14 rfl rfl ?_
        refine ev_lload_n (q := 16) dX7_count_15 rfl rfl ?_
        refine ev_iload (q := 18) dX7_count_16 rfl rfl ?_
        refine ev_callS2i (q := 21) dX7_count_18 ca_X7_143 (c_X7_holds (by omega)) (Nat.le_of_ble_eq_true rfl) (Nat.le_of_ble_eq_true rfl) (by decide) (by decide) rfl ?_
        refine ev_if_eq (q := 24) 28 dX7_count_21 (by decide) rfl (fun c_21 => ?_) (fun c_21 => ?_)
        · have c_21 := b2i_0.mp c_21
          refine ev_iconst (q := 29) (0) dX7_count_28 (by decide) rfl ?_
          refine ev_iadd (q := 30) dX7_count_29 rfl ?_
          refine ev_ist_3 (q := 31) dX7_count_30 rfl rfl ?_
          refine ev_inc_4 (q := 34) (nI (k + 1)) dX7_count_31 (nI_1 k) rfl rfl ?_
          refine ev_goto 5 dX7_count_34 (by decide) ?_
          have e := ih (j - 1) (by omega) (k + 1) (by omega)
          simp only [upto, c_21] at e
          exact e
        · have c_21 := b2i_n0.mp c_21
          refine ev_iconst (q := 25) (1) dX7_count_24 (by decide) rfl ?_
          refine ev_goto 29 dX7_count_25 (by decide) ?_
          refine ev_iadd (q := 30) dX7_count_29 rfl ?_
          refine ev_ist_3 (q := 31) dX7_count_30 rfl rfl ?_
          refine ev_inc_4 (q := 34) (nI (k + 1)) dX7_count_31 (nI_1 k) rfl rfl ?_
          refine ev_goto 5 dX7_count_34 (by decide) ?_
          have e := ih (j - 1) (by omega) (k + 1) (by omega)
          simp only [upto, c_21] at e
          exact e
  refine ev_iconst (q := 1) (0) dX7_count_0 (by decide) rfl ?_
  refine ev_ist_3 (q := 2) dX7_count_1 rfl rfl ?_
  refine ev_iconst (q := 3) (0) dX7_count_2 (by decide) rfl ?_
  refine ev_ist_4 (q := 5) dX7_count_3 rfl rfl ?_
  exact lp (2 ^ t) 0 (by omega)
/-- how the spirit likes a world -/
def lkF (I : Nat → Nat → Int32) (t wy wi at_ w : Nat) : Int32 := if wy = 1 then wsum (I 35) t w else if wy = 0 then -(wsum (fun k => I 34 (6 * wi + k)) t w) else (-1000) * nI (pop 6 (w ^^^ at_)) - wsum (fun k => I 34 (6 * wi + k)) t w
theorem c_X7_likes {wy wi w a : Nat} (hn : 49 ≤ n) (ht : I 33 0 = nI t) (h6 : t ≤ 6) (hwy : I 33 4 = nI wy) (h3 : wy < 3) (hwi : I 33 5 = nI wi) (h4 : wi < 4) (hw : w < 64) (ha : a < 64) : Rn xl xs 2 45 0 0 mX7_likes [.ref 33, .int (nI w), .int (nI a)] n (sysH I J X) (some (.int (lkF I t wy wi a w))) n (sysH I J X) := by
  intro Q hQ
  have hx : w ^^^ a < 64 := Nat.xor_lt_two_pow (n := 6) hw ha
  show Ev xl xs 2 45 0 0 mX7_likes 0 [some (.ref 33), some (.int (nI w)), some (.int (nI a))] [] n (sysH I J X) Q
  refine ev_aload_n (q := 1) dX7_likes_0 rfl rfl ?_
  refine ev_get (q := 4) dX7_likes_1 fr_X7_64 rfl (lt_n hn (by decide)) rfl rfl ?_
  rw [hwy]
  refine ev_iconst (q := 5) (1) dX7_likes_4 (by decide) rfl ?_
  refine ev_icmp_ne (q := 8) 16 dX7_likes_5 (by decide) rfl (fun c_5 => ?_) (fun c_5 => ?_)
  · have c_5 : wy ≠ 1 := fun h => c_5 (by rw [h]; rfl)
    refine ev_aload_n (q := 17) dX7_likes_16 rfl rfl ?_
    refine ev_get (q := 20) dX7_likes_17 fr_X7_64 rfl (lt_n hn (by decide)) rfl rfl ?_
    rw [hwy]
    refine ev_if_ne (q := 23) 36 dX7_likes_20 (by decide) rfl (fun c_20 => ?_) (fun c_20 => ?_)
    · have c_20 : wy ≠ 0 := fun h => c_20 (by rw [h]; rfl)
      refine ev_sipush (q := 39) (-1000) dX7_likes_36 (by decide) rfl ?_
      refine ev_iload_n (q := 40) dX7_likes_39 rfl rfl ?_
      refine ev_iload_n (q := 41) dX7_likes_40 rfl rfl ?_
      refine ev_ixor (q := 42) dX7_likes_41 rfl ?_
      rw [nI_xor]
      refine ev_callS1i (q := 45) dX7_likes_42 ca_X7_147 (c_X7_bits (by omega)) (Nat.le_of_ble_eq_true rfl) (Nat.le_of_ble_eq_true rfl) (by decide) (by decide) rfl ?_
      refine ev_imul (q := 46) dX7_likes_45 rfl ?_
      refine ev_aload_n (q := 47) dX7_likes_46 rfl rfl ?_
      refine ev_aload_n (q := 48) dX7_likes_47 rfl rfl ?_
      refine ev_get (q := 51) dX7_likes_48 fr_X7_67 rfl (lt_n hn (by decide)) rfl rfl ?_
      rw [hwi]
      refine ev_iload_n (q := 52) dX7_likes_51 rfl rfl ?_
      refine ev_callV2i (q := 55) dX7_likes_52 ca_X7_117 (c_X7_worthTo hn ht h6 (by omega) (by omega)) rfl (lt_n hn (by decide)) rfl rfl (Nat.le_of_ble_eq_true rfl) (Nat.le_of_ble_eq_true rfl) (by decide) (by decide) rfl ?_
      refine ev_isub (q := 56) dX7_likes_55 rfl ?_
      exact ev_iretE dX7_likes_56 rfl rfl (by simp [lkF, *]) rfl rfl hQ
    · have c_20 : wy = 0 := (nI_eq (b := 0) (by omega) (by omega)).mp c_20
      refine ev_aload_n (q := 24) dX7_likes_23 rfl rfl ?_
      refine ev_aload_n (q := 25) dX7_likes_24 rfl rfl ?_
      refine ev_get (q := 28) dX7_likes_25 fr_X7_67 rfl (lt_n hn (by decide)) rfl rfl ?_
      rw [hwi]
      refine ev_iload_n (q := 29) dX7_likes_28 rfl rfl ?_
      refine ev_callV2i (q := 32) dX7_likes_29 ca_X7_117 (c_X7_worthTo hn ht h6 (by omega) (by omega)) rfl (lt_n hn (by decide)) rfl rfl (Nat.le_of_ble_eq_true rfl) (Nat.le_of_ble_eq_true rfl) (by decide) (by decide) rfl ?_
      refine ev_ineg (q := 33) dX7_likes_32 rfl ?_
      refine ev_goto 56 dX7_likes_33 (by decide) ?_
      exact ev_iretE dX7_likes_56 rfl rfl (by simp [lkF, *]) rfl rfl hQ
  · have c_5 : wy = 1 := (nI_eq (b := 1) (by omega) (by omega)).mp c_5
    refine ev_aload_n (q := 9) dX7_likes_8 rfl rfl ?_
    refine ev_iload_n (q := 10) dX7_likes_9 rfl rfl ?_
    refine ev_callV1i (q := 13) dX7_likes_10 ca_X7_165 (c_X7_tasteOf hn ht h6 (by omega)) rfl (lt_n hn (by decide)) rfl rfl (Nat.le_of_ble_eq_true rfl) (Nat.le_of_ble_eq_true rfl) (by decide) (by decide) rfl ?_
    refine ev_goto 56 dX7_likes_13 (by decide) ?_
    exact ev_iretE dX7_likes_56 rfl rfl (by simp [lkF, *]) rfl rfl hQ
def mkF (lk : Nat → Int32) (S : Int64) : Nat → Option Nat → Option Nat := fun w o => if lbit S w then (match o with
  | none => some w
  | some v => if lk v < lk w then some w else some v) else o
theorem mkF_lt {lk : Nat → Int32} {S : Int64} : ∀ k v, upto (mkF lk S) k none = some v → v < k
  | 0, v, h => by cases h
  | k + 1, v, h => by
    have ih := mkF_lt (lk := lk) (S := S) k
    have h : mkF lk S k (upto (mkF lk S) k none) = some v := h
    generalize upto (mkF lk S) k none = o at h ih
    unfold mkF at h
    split at h
    · cases o with
      | none => cases h; omega
      | some u =>
        have := ih u rfl
        dsimp only at h
        split at h <;> cases h <;> omega
    · have := ih v h; omega
theorem c_X7_madeOf {wy wi a : Nat} {S : Int64} (hn : 49 ≤ n) (ht : I 33 0 = nI t) (h6 : t ≤ 6) (hwy : I 33 4 = nI wy) (h3 : wy < 3) (hwi : I 33 5 = nI wi) (h4 : wi < 4) (ha : a < 64) : Rn xl xs 3 67 0 0 mX7_madeOf [.ref 33, .long S, .int (nI a)] n (sysH I J X) (some (.int (eo (upto (mkF (lkF I t wy wi a) S) (2 ^ t) none)))) n (sysH I J X) := by
  intro Q hQ
  have h64 : 2 ^ t ≤ 64 := Nat.pow_le_pow_right (n := 2) (by decide) h6
  show Ev xl xs 3 67 0 0 mX7_madeOf 0 [some (.ref 33), some (.long S), none, some (.int (nI a)), none, none] [] n (sysH I J X) Q
  have lp : ∀ j k, k + j = 2 ^ t → Ev xl xs 3 67 0 0 mX7_madeOf 7 [some (.ref 33), some (.long S), none, some (.int (nI a)), some (.int (eo (upto (mkF (lkF I t wy wi a) S) k none))), some (.int (nI k))] [] n (sysH I J X) Q := by
    intro j
    induction j using Nat.strongRecOn with
    | _ j ih =>
      intro k hk
      have hlt := mkF_lt (lk := lkF I t wy wi a) (S := S) k
      cases ho : upto (mkF (lkF I t wy wi a) S) k none with
      | none =>
        refine ev_iload (q := 9) dX7_madeOf_7 rfl rfl ?_
        refine ev_aload_n (q := 10) dX7_madeOf_9 rfl rfl ?_
        refine ev_callV0i (q := 13) dX7_madeOf_10 ca_X7_95 (c_X7_worlds hn ht h6) rfl (lt_n hn (by decide)) rfl rfl (Nat.le_of_ble_eq_true rfl) (Nat.le_of_ble_eq_true rfl) (by decide) (by decide) rfl ?_
        refine ev_icmp_ge (q := 16) 62 dX7_madeOf_13 (by decide) rfl (fun c_13 => ?_) (fun c_13 => ?_)
        · have c_13 : 2 ^ t ≤ k := (nI_leI (by omega) (by omega)).mp c_13
          refine ev_iload (q := 64) dX7_madeOf_62 rfl rfl ?_
          exact ev_iretE dX7_madeOf_64 rfl rfl (by rw [show 2 ^ t = k by omega, ho]) rfl rfl hQ
        · have c_13 : ¬ 2 ^ t ≤ k := fun h => c_13 ((nI_leI (by omega) (by omega)).mpr h)
          refine ev_lload_n (q := 17) dX7_madeOf_16 rfl rfl ?_
          refine ev_iload (q := 19) dX7_madeOf_17 rfl rfl ?_
          refine ev_callS2i (q := 22) dX7_madeOf_19 ca_X7_143 (c_X7_holds (by omega)) (Nat.le_of_ble_eq_true rfl) (Nat.le_of_ble_eq_true rfl) (by decide) (by decide) rfl ?_
          refine ev_if_eq (q := 25) 52 dX7_madeOf_22 (by decide) rfl (fun c_22 => ?_) (fun c_22 => ?_)
          · have c_22 := b2i_0.mp c_22
            refine ev_iload (q := 54) dX7_madeOf_52 rfl rfl ?_
            refine ev_ist_4 (q := 56) dX7_madeOf_54 rfl rfl ?_
            refine ev_inc_5 (q := 59) (nI (k + 1)) dX7_madeOf_56 (nI_1 k) rfl rfl ?_
            refine ev_goto 7 dX7_madeOf_59 (by decide) ?_
            have e := ih (j - 1) (by omega) (k + 1) (by omega)
            simp only [upto, mkF, ho, c_22] at e
            exact e
          · have c_22 := b2i_n0.mp c_22
            refine ev_iload (q := 27) dX7_madeOf_25 rfl rfl ?_
            refine ev_if_lt (q := 30) 47 dX7_madeOf_27 (by decide) rfl (fun c_27 => ?_) (fun c_27 => ?_)
            · refine ev_iload (q := 49) dX7_madeOf_47 rfl rfl ?_
              refine ev_goto 54 dX7_madeOf_49 (by decide) ?_
              refine ev_ist_4 (q := 56) dX7_madeOf_54 rfl rfl ?_
              refine ev_inc_5 (q := 59) (nI (k + 1)) dX7_madeOf_56 (nI_1 k) rfl rfl ?_
              refine ev_goto 7 dX7_madeOf_59 (by decide) ?_
              have e := ih (j - 1) (by omega) (k + 1) (by omega)
              simp only [upto, mkF, ho, c_22] at e
              exact e
            · exact absurd (show (-6 : Int32) < 0 by decide) c_27
      | some v =>
        have hv := hlt v ho
        refine ev_iload (q := 9) dX7_madeOf_7 rfl rfl ?_
        refine ev_aload_n (q := 10) dX7_madeOf_9 rfl rfl ?_
        refine ev_callV0i (q := 13) dX7_madeOf_10 ca_X7_95 (c_X7_worlds hn ht h6) rfl (lt_n hn (by decide)) rfl rfl (Nat.le_of_ble_eq_true rfl) (Nat.le_of_ble_eq_true rfl) (by decide) (by decide) rfl ?_
        refine ev_icmp_ge (q := 16) 62 dX7_madeOf_13 (by decide) rfl (fun c_13 => ?_) (fun c_13 => ?_)
        · have c_13 : 2 ^ t ≤ k := (nI_leI (by omega) (by omega)).mp c_13
          refine ev_iload (q := 64) dX7_madeOf_62 rfl rfl ?_
          exact ev_iretE dX7_madeOf_64 rfl rfl (by rw [show 2 ^ t = k by omega, ho]) rfl rfl hQ
        · have c_13 : ¬ 2 ^ t ≤ k := fun h => c_13 ((nI_leI (by omega) (by omega)).mpr h)
          refine ev_lload_n (q := 17) dX7_madeOf_16 rfl rfl ?_
          refine ev_iload (q := 19) dX7_madeOf_17 rfl rfl ?_
          refine ev_callS2i (q := 22) dX7_madeOf_19 ca_X7_143 (c_X7_holds (by omega)) (Nat.le_of_ble_eq_true rfl) (Nat.le_of_ble_eq_true rfl) (by decide) (by decide) rfl ?_
          refine ev_if_eq (q := 25) 52 dX7_madeOf_22 (by decide) rfl (fun c_22 => ?_) (fun c_22 => ?_)
          · have c_22 := b2i_0.mp c_22
            refine ev_iload (q := 54) dX7_madeOf_52 rfl rfl ?_
            refine ev_ist_4 (q := 56) dX7_madeOf_54 rfl rfl ?_
            refine ev_inc_5 (q := 59) (nI (k + 1)) dX7_madeOf_56 (nI_1 k) rfl rfl ?_
            refine ev_goto 7 dX7_madeOf_59 (by decide) ?_
            have e := ih (j - 1) (by omega) (k + 1) (by omega)
            first | (simp only [upto, mkF, ho, c_22, c_44, if_true, if_false] at e; exact e) | (simp only [upto, mkF, ho, c_22] at e; exact e)
          · have c_22 := b2i_n0.mp c_22
            refine ev_iload (q := 27) dX7_madeOf_25 rfl rfl ?_
            refine ev_if_lt (q := 30) 47 dX7_madeOf_27 (by decide) rfl (fun c_27 => ?_) (fun c_27 => ?_)
            · exact absurd c_27 (nI_pos (by omega))
            · refine ev_aload_n (q := 31) dX7_madeOf_30 rfl rfl ?_
              refine ev_iload (q := 33) dX7_madeOf_31 rfl rfl ?_
              refine ev_iload_n (q := 34) dX7_madeOf_33 rfl rfl ?_
              refine ev_callV2i (q := 37) dX7_madeOf_34 ca_X7_168 (c_X7_likes hn ht h6 hwy h3 hwi h4 (by omega) (by omega)) rfl (lt_n hn (by decide)) rfl rfl (Nat.le_of_ble_eq_true rfl) (Nat.le_of_ble_eq_true rfl) (by decide) (by decide) rfl ?_
              refine ev_aload_n (q := 38) dX7_madeOf_37 rfl rfl ?_
              refine ev_iload (q := 40) dX7_madeOf_38 rfl rfl ?_
              refine ev_iload_n (q := 41) dX7_madeOf_40 rfl rfl ?_
              refine ev_callV2i (q := 44) dX7_madeOf_41 ca_X7_168 (c_X7_likes (w := v) hn ht h6 hwy h3 hwi h4 (by omega) (by omega)) rfl (lt_n hn (by decide)) rfl rfl (Nat.le_of_ble_eq_true rfl) (Nat.le_of_ble_eq_true rfl) (by decide) (by decide) rfl ?_
              refine ev_icmp_le (q := 47) 52 dX7_madeOf_44 (by decide) rfl (fun c_44 => ?_) (fun c_44 => ?_)
              · have c_44 : ¬ lkF I t wy wi a v < lkF I t wy wi a k := fun h => absurd c_44 (by simp only [i_le, i_lt] at *; omega)
                refine ev_iload (q := 54) dX7_madeOf_52 rfl rfl ?_
                refine ev_ist_4 (q := 56) dX7_madeOf_54 rfl rfl ?_
                refine ev_inc_5 (q := 59) (nI (k + 1)) dX7_madeOf_56 (nI_1 k) rfl rfl ?_
                refine ev_goto 7 dX7_madeOf_59 (by decide) ?_
                have e := ih (j - 1) (by omega) (k + 1) (by omega)
                first | (simp only [upto, mkF, ho, c_22, c_44, if_true, if_false] at e; exact e) | (simp only [upto, mkF, ho, c_22] at e; exact e)
              · have c_44 : lkF I t wy wi a v < lkF I t wy wi a k := by simp only [i_le, i_lt] at *; omega
                refine ev_iload (q := 49) dX7_madeOf_47 rfl rfl ?_
                refine ev_goto 54 dX7_madeOf_49 (by decide) ?_
                refine ev_ist_4 (q := 56) dX7_madeOf_54 rfl rfl ?_
                refine ev_inc_5 (q := 59) (nI (k + 1)) dX7_madeOf_56 (nI_1 k) rfl rfl ?_
                refine ev_goto 7 dX7_madeOf_59 (by decide) ?_
                have e := ih (j - 1) (by omega) (k + 1) (by omega)
                first | (simp only [upto, mkF, ho, c_22, c_44, if_true, if_false] at e; exact e) | (simp only [upto, mkF, ho, c_22] at e; exact e)
  refine ev_bipush (q := 2) (-6) dX7_madeOf_0 (by decide) rfl ?_
  refine ev_ist_4 (q := 4) dX7_madeOf_2 rfl rfl ?_
  refine ev_iconst (q := 5) (0) dX7_madeOf_4 (by decide) rfl ?_
  refine ev_ist_5 (q := 7) dX7_madeOf_5 rfl rfl ?_
  exact lp (2 ^ t) 0 (by omega)
end MODEL3
end
section
theorem inc_m1 (x : Int32) : x + Int32.ofInt (-1) = x - 1 := (Int32.sub_eq_add_neg (a := x) (b := 1)).symm
section MODEL4
variable {xl : Nat} {xs : Nat → Int32} {n : Nat} {h : Nat → PC} {I : Nat → Nat → Int32} {J : Nat → Nat → Int64} {X : Nat → Option Nat} {t : Nat}
theorem c_X7_terms (hn : 49 ≤ n) (ht : I 33 0 = nI t) (h6 : t ≤ 6) : Rn xl xs 0 0 0 0 mX7_terms [.ref 33] n (sysH I J X) (some (.int (nI (3 ^ t)))) n (sysH I J X) := by
  intro Q hQ
  show Ev xl xs 0 0 0 0 mX7_terms 0 [some (.ref 33), none, none] [] n (sysH I J X) Q
  have lp : ∀ j k, k + j = t → Ev xl xs 0 0 0 0 mX7_terms 4 [some (.ref 33), some (.int (nI (3 ^ k))), some (.int (nI k))] [] n (sysH I J X) Q := by
    intro j
    induction j using Nat.strongRecOn with
    | _ j ih =>
      intro k hk
      refine ev_iload_n (q := 5) dX7_terms_4 rfl rfl ?_
      refine ev_aload_n (q := 6) dX7_terms_5 rfl rfl ?_
      refine ev_get (q := 9) dX7_terms_6 fr_X7_7 rfl (lt_n hn (by decide)) rfl rfl ?_
      rw [ht]
      refine ev_icmp_ge (q := 12) 22 dX7_terms_9 (by decide) rfl (fun c_9 => ?_) (fun c_9 => ?_)
      · have c_9 : t ≤ k := (nI_leI (by omega) (by omega)).mp c_9
        refine ev_iload_n (q := 23) dX7_terms_22 rfl rfl ?_
        exact ev_iretE dX7_terms_23 rfl rfl (by rw [show k = t by omega]) rfl rfl hQ
      · have c_9 : ¬ t ≤ k := fun h => c_9 ((nI_leI (by omega) (by omega)).mpr h)
        refine ev_iload_n (q := 13) dX7_terms_12 rfl rfl ?_
        refine ev_iconst (q := 14) (3) dX7_terms_13 (by decide) rfl ?_
        refine ev_imul (q := 15) dX7_terms_14 rfl ?_
        refine ev_ist_1 (q := 16) dX7_terms_15 rfl rfl ?_
        refine ev_inc_2 (q := 19) (nI (k + 1)) dX7_terms_16 (nI_1 k) rfl rfl ?_
        refine ev_goto 4 dX7_terms_19 (by decide) ?_
        rw [show (3 : Int32) = nI 3 from rfl, pk_mul, ← Nat.pow_succ]
        exact ih (j - 1) (by omega) (k + 1) (by omega)
  refine ev_iconst (q := 1) (1) dX7_terms_0 (by decide) rfl ?_
  refine ev_ist_1 (q := 2) dX7_terms_1 rfl rfl ?_
  refine ev_iconst (q := 3) (0) dX7_terms_2 (by decide) rfl ?_
  refine ev_ist_2 (q := 4) dX7_terms_3 rfl rfl ?_
  exact lp t 0 (by omega)
theorem c_X7_digitOf {num k : Nat} (hn : 49 ≤ n) (ht : I 33 0 = nI t) (h6 : t ≤ 6) (hk : k < t) (hu : num < 2 ^ 31) : Rn xl xs 0 0 0 0 mX7_digitOf [.ref 33, .int (nI num), .int (nI k)] n (sysH I J X) (some (.int (nI (dig t num k)))) n (sysH I J X) := by
  intro Q hQ
  show Ev xl xs 0 0 0 0 mX7_digitOf 0 [some (.ref 33), some (.int (nI num)), some (.int (nI k)), none, none] [] n (sysH I J X) Q
  have lp : ∀ j i, k + j = i → i < t → Ev xl xs 0 0 0 0 mX7_digitOf 10 [some (.ref 33), some (.int (nI num)), some (.int (nI k)), some (.int (nI (num / 3 ^ (t - 1 - i)))), some (.int (nI i))] [] n (sysH I J X) Q := by
    intro j
    induction j using Nat.strongRecOn with
    | _ j ih =>
      intro i hi hit
      have hb : num / 3 ^ (t - 1 - i) < 2 ^ 31 := Nat.lt_of_le_of_lt (Nat.div_le_self _ _) hu
      refine ev_iload (q := 12) dX7_digitOf_10 rfl rfl ?_
      refine ev_iload_n (q := 13) dX7_digitOf_12 rfl rfl ?_
      refine ev_icmp_le (q := 16) 26 dX7_digitOf_13 (by decide) rfl (fun c_13 => ?_) (fun c_13 => ?_)
      · have c_13 : i ≤ k := (nI_leI (by omega) (by omega)).mp c_13
        refine ev_iload_n (q := 27) dX7_digitOf_26 rfl rfl ?_
        refine ev_iconst (q := 28) (3) dX7_digitOf_27 (by decide) rfl ?_
        refine ev_irem (q := 29) (by decide) dX7_digitOf_28 rfl ?_
        exact ev_iretE dX7_digitOf_29 rfl rfl (by rw [nI_rem3 hb, show i = k by omega]; rfl) rfl rfl hQ
      · have c_13 : ¬ i ≤ k := fun h => c_13 ((nI_leI (by omega) (by omega)).mpr h)
        refine ev_iload_n (q := 17) dX7_digitOf_16 rfl rfl ?_
        refine ev_iconst (q := 18) (3) dX7_digitOf_17 (by decide) rfl ?_
        refine ev_idiv (q := 19) (by decide) dX7_digitOf_18 rfl ?_
        refine ev_ist_3 (q := 20) dX7_digitOf_19 rfl rfl ?_
        refine ev_inc_4 (q := 23) (nI (i - 1)) dX7_digitOf_20 (by obtain ⟨i', rfl⟩ : ∃ i', i = i' + 1 := ⟨i - 1, by omega⟩; exact pk_m1 i') rfl rfl ?_
        refine ev_goto 10 dX7_digitOf_23 (by decide) ?_
        rw [nI_div3 hb, Nat.div_div_eq_div_mul, show 3 ^ (t - 1 - i) * 3 = 3 ^ (t - 1 - (i - 1)) from by rw [show t - 1 - (i - 1) = (t - 1 - i) + 1 by omega, Nat.pow_succ]]
        exact ih (j - 1) (by omega) (i - 1) (by omega) (by omega)
  refine ev_iload_n (q := 1) dX7_digitOf_0 rfl rfl ?_
  refine ev_ist_3 (q := 2) dX7_digitOf_1 rfl rfl ?_
  refine ev_aload_n (q := 3) dX7_digitOf_2 rfl rfl ?_
  refine ev_get (q := 6) dX7_digitOf_3 fr_X7_7 rfl (lt_n hn (by decide)) rfl rfl ?_
  rw [ht]
  refine ev_iconst (q := 7) (1) dX7_digitOf_6 (by decide) rfl ?_
  refine ev_isub (q := 8) dX7_digitOf_7 rfl ?_
  refine ev_ist_4 (q := 10) dX7_digitOf_8 rfl rfl ?_
  have e := lp (t - 1 - k) (t - 1) (by omega) (by omega)
  rw [Nat.sub_self, Nat.pow_zero, Nat.div_one] at e
  rw [show nI t - 1 = nI (t - 1) from pk_sub (b := 1) (by omega)]
  exact e
theorem c_X7_words {num : Nat} (hn : 49 ≤ n) (ht : I 33 0 = nI t) (h6 : t ≤ 6) (hu : num < 2 ^ 31) : Rn xl xs 1 24 0 0 mX7_words [.ref 33, .int (nI num)] n (sysH I J X) (some (.int (nI (wd t num)))) n (sysH I J X) := by
  intro Q hQ
  show Ev xl xs 1 24 0 0 mX7_words 0 [some (.ref 33), some (.int (nI num)), none, none] [] n (sysH I J X) Q
  have lp : ∀ j k, k + j = t → Ev xl xs 1 24 0 0 mX7_words 4 [some (.ref 33), some (.int (nI num)), some (.int (nI (wdc t num k))), some (.int (nI k))] [] n (sysH I J X) Q := by
    intro j
    induction j using Nat.strongRecOn with
    | _ j ih =>
      intro k hk
      have hd : dig t num k < 3 := Nat.mod_lt _ (by decide)
      refine ev_iload_n (q := 5) dX7_words_4 rfl rfl ?_
      refine ev_aload_n (q := 6) dX7_words_5 rfl rfl ?_
      refine ev_get (q := 9) dX7_words_6 fr_X7_7 rfl (lt_n hn (by decide)) rfl rfl ?_
      rw [ht]
      refine ev_icmp_ge (q := 12) 35 dX7_words_9 (by decide) rfl (fun c_9 => ?_) (fun c_9 => ?_)
      · have c_9 : t ≤ k := (nI_leI (by omega) (by omega)).mp c_9
        refine ev_iload_n (q := 36) dX7_words_35 rfl rfl ?_
        exact ev_iretE dX7_words_36 rfl rfl (by rw [show k = t by omega]; rfl) rfl rfl hQ
      · have c_9 : ¬ t ≤ k := fun h => c_9 ((nI_leI (by omega) (by omega)).mpr h)
        refine ev_iload_n (q := 13) dX7_words_12 rfl rfl ?_
        refine ev_aload_n (q := 14) dX7_words_13 rfl rfl ?_
        refine ev_iload_n (q := 15) dX7_words_14 rfl rfl ?_
        refine ev_iload_n (q := 16) dX7_words_15 rfl rfl ?_
        refine ev_callV2i (q := 19) dX7_words_16 ca_X7_181 (c_X7_digitOf hn ht h6 (by omega) (by omega)) rfl (lt_n hn (by decide)) rfl rfl (Nat.le_of_ble_eq_true rfl) (Nat.le_of_ble_eq_true rfl) (by decide) (by decide) rfl ?_
        refine ev_if_le (q := 22) 26 dX7_words_19 (by decide) rfl (fun c_19 => ?_) (fun c_19 => ?_)
        · have c_19 : ¬ 0 < dig t num k := Nat.not_lt.mpr ((nI_leI (b := 0) (by omega) (by omega)).mp c_19)
          refine ev_iconst (q := 27) (0) dX7_words_26 (by decide) rfl ?_
          refine ev_iadd (q := 28) dX7_words_27 rfl ?_
          refine ev_ist_2 (q := 29) dX7_words_28 rfl rfl ?_
          refine ev_inc_3 (q := 32) (nI (k + 1)) dX7_words_29 (nI_1 k) rfl rfl ?_
          refine ev_goto 4 dX7_words_32 (by decide) ?_
          have e := ih (j - 1) (by omega) (k + 1) (by omega)
          simp only [wdc, c_19, if_true, if_false] at e
          first | (rw [nI_1]; exact e) | (rw [show nI (wdc t num k) + 0 = nI (wdc t num k + 0) from nI_add _ 0]; exact e)
        · have c_19 : 0 < dig t num k := Nat.not_le.mp fun h => c_19 ((nI_leI (b := 0) (by omega) (by omega)).mpr h)
          refine ev_iconst (q := 23) (1) dX7_words_22 (by decide) rfl ?_
          refine ev_goto 27 dX7_words_23 (by decide) ?_
          refine ev_iadd (q := 28) dX7_words_27 rfl ?_
          refine ev_ist_2 (q := 29) dX7_words_28 rfl rfl ?_
          refine ev_inc_3 (q := 32) (nI (k + 1)) dX7_words_29 (nI_1 k) rfl rfl ?_
          refine ev_goto 4 dX7_words_32 (by decide) ?_
          have e := ih (j - 1) (by omega) (k + 1) (by omega)
          simp only [wdc, c_19, if_true, if_false] at e
          first | (rw [nI_1]; exact e) | (rw [show nI (wdc t num k) + 0 = nI (wdc t num k + 0) from nI_add _ 0]; exact e)
  refine ev_iconst (q := 1) (0) dX7_words_0 (by decide) rfl ?_
  refine ev_ist_2 (q := 2) dX7_words_1 rfl rfl ?_
  refine ev_iconst (q := 3) (0) dX7_words_2 (by decide) rfl ?_
  refine ev_ist_3 (q := 4) dX7_words_3 rfl rfl ?_
  exact lp t 0 (by omega)
def ynT (I : Nat → Nat → Int32) (t num : Nat) : Nat → Nat → Int32 := yn I (nI (tmask 1 t num t)) (nI (tmask 2 t num t))
theorem c_X7_layTerm {num : Nat} (hn : 49 ≤ n) (ht : I 33 0 = nI t) (h6 : t ≤ 6) (hu : num < 2 ^ 31) : Rn xl xs 0 0 0 0 mX7_layTerm [.ref 33, .int (nI num)] n (sysH I J X) none n (sysH (ynT I t num) J X) := by
  intro Q hQ
  show Ev xl xs 0 0 0 0 mX7_layTerm 0 [some (.ref 33), some (.int (nI num)), none, none] [] n (sysH I J X) Q
  have lp : ∀ j i, i + j = t → Ev xl xs 0 0 0 0 mX7_layTerm 19 [some (.ref 33), some (.int (nI num)), some (.int (nI (num / 3 ^ i))), some (.int (nI j - 1))] [] n (sysH (yn I (nI (tmask 1 t num i)) (nI (tmask 2 t num i))) J X) Q := by
    intro j
    induction j with
    | zero =>
      intro i hi
      have hi : i = t := by omega
      subst hi
      refine ev_iload_n (q := 20) dX7_layTerm_19 rfl rfl ?_
      refine ev_if_lt (q := 23) 79 dX7_layTerm_20 (by decide) rfl (fun c_20 => ?_) (fun c_20 => ?_)
      · exact ev_retE dX7_layTerm_79 rfl rfl rfl hQ
      · exact absurd (show nI 0 - 1 < 0 by decide) c_20
    | succ j ih =>
      intro i hi
      have hb : num / 3 ^ i < 2 ^ 31 := Nat.lt_of_le_of_lt (Nat.div_le_self _ _) hu
      have hm : num / 3 ^ i % 3 < 3 := Nat.mod_lt _ (by decide)
      have hj : t - 1 - i = j := by omega
      rw [show nI (j + 1) - 1 = nI j from nI_pred j]
      refine ev_iload_n (q := 20) dX7_layTerm_19 rfl rfl ?_
      refine ev_if_lt (q := 23) 79 dX7_layTerm_20 (by decide) rfl (fun c_20 => ?_) (fun c_20 => ?_)
      · exact absurd c_20 (nI_pos (by omega))
      · refine ev_aload_n (q := 24) dX7_layTerm_23 rfl rfl ?_
        refine ev_dup (q := 25) (fun _ => rfl) dX7_layTerm_24 rfl ?_
        refine ev_get (q := 28) dX7_layTerm_25 fr_X7_184 rfl (lt_n hn (by decide)) rfl rfl ?_
        refine ev_iload_n (q := 29) dX7_layTerm_28 rfl rfl ?_
        refine ev_iconst (q := 30) (3) dX7_layTerm_29 (by decide) rfl ?_
        refine ev_irem (q := 31) (by decide) dX7_layTerm_30 rfl ?_
        rw [nI_rem3 hb]
        refine ev_iconst (q := 32) (1) dX7_layTerm_31 (by decide) rfl ?_
        refine ev_icmp_ne (q := 35) 41 dX7_layTerm_32 (by decide) rfl (fun c_32 => ?_) (fun c_32 => ?_)
        · have c_32 : ¬ num / 3 ^ i % 3 = 1 := fun h => c_32 (by rw [h]; rfl)
          refine ev_iconst (q := 42) (0) dX7_layTerm_41 (by decide) rfl ?_
          rw [show ∀ z, yn I (nI (tmask 1 t num i)) z 33 21 = nI (tmask 1 t num i) from fun _ => rfl]
          refine ev_ior (q := 43) dX7_layTerm_42 rfl ?_
          first | rw [nI_sh1 (by omega), nI_or] | rw [show (0 : Int32) = nI 0 from rfl, nI_or]
          refine ev_putI (q := 46) dX7_layTerm_43 fa_X7_184 rfl (by decide) (lt_n hn (by decide)) (Nat.le_of_ble_eq_true rfl) ⟨rfl, rfl⟩ rfl rfl ?_
          rw [yn_y]
          refine ev_aload_n (q := 47) dX7_layTerm_46 rfl rfl ?_
          refine ev_dup (q := 48) (fun _ => rfl) dX7_layTerm_47 rfl ?_
          refine ev_get (q := 51) dX7_layTerm_48 fr_X7_187 rfl (lt_n hn (by decide)) rfl rfl ?_
          refine ev_iload_n (q := 52) dX7_layTerm_51 rfl rfl ?_
          refine ev_iconst (q := 53) (3) dX7_layTerm_52 (by decide) rfl ?_
          refine ev_irem (q := 54) (by decide) dX7_layTerm_53 rfl ?_
          rw [nI_rem3 hb]
          refine ev_iconst (q := 55) (2) dX7_layTerm_54 (by decide) rfl ?_
          refine ev_icmp_ne (q := 58) 64 dX7_layTerm_55 (by decide) rfl (fun c_55 => ?_) (fun c_55 => ?_)
          · have c_55 : ¬ num / 3 ^ i % 3 = 2 := fun h => c_55 (by rw [h]; rfl)
            refine ev_iconst (q := 65) (0) dX7_layTerm_64 (by decide) rfl ?_
            rw [show ∀ z, yn I z (nI (tmask 2 t num i)) 33 22 = nI (tmask 2 t num i) from fun _ => rfl]
            refine ev_ior (q := 66) dX7_layTerm_65 rfl ?_
            first | rw [nI_sh1 (by omega), nI_or] | rw [show (0 : Int32) = nI 0 from rfl, nI_or]
            refine ev_putI (q := 69) dX7_layTerm_66 fa_X7_187 rfl (by decide) (lt_n hn (by decide)) (Nat.le_of_ble_eq_true rfl) ⟨rfl, rfl⟩ rfl rfl ?_
            rw [yn_n]
            refine ev_iload_n (q := 70) dX7_layTerm_69 rfl rfl ?_
            refine ev_iconst (q := 71) (3) dX7_layTerm_70 (by decide) rfl ?_
            refine ev_idiv (q := 72) (by decide) dX7_layTerm_71 rfl ?_
            refine ev_ist_2 (q := 73) dX7_layTerm_72 rfl rfl ?_
            refine ev_inc_3 (q := 76) (nI j - 1) dX7_layTerm_73 (inc_m1 _) rfl rfl ?_
            refine ev_goto 19 dX7_layTerm_76 (by decide) ?_
            rw [nI_div3 hb, Nat.div_div_eq_div_mul, ← Nat.pow_succ]
            have e := ih (i + 1) (by omega)
            try simp only [tmask, hj, c_32, c_55, if_true, if_false] at e
            first | exact e | exact absurd (c_32.symm.trans c_55) (by decide)
          · have c_55 : num / 3 ^ i % 3 = 2 := (nI_eq (b := 2) (by omega) (by omega)).mp c_55
            refine ev_iconst (q := 59) (1) dX7_layTerm_58 (by decide) rfl ?_
            refine ev_iload_n (q := 60) dX7_layTerm_59 rfl rfl ?_
            refine ev_ishl (q := 61) dX7_layTerm_60 rfl ?_
            refine ev_goto 65 dX7_layTerm_61 (by decide) ?_
            rw [show ∀ z, yn I z (nI (tmask 2 t num i)) 33 22 = nI (tmask 2 t num i) from fun _ => rfl]
            refine ev_ior (q := 66) dX7_layTerm_65 rfl ?_
            first | rw [nI_sh1 (by omega), nI_or] | rw [show (0 : Int32) = nI 0 from rfl, nI_or]
            refine ev_putI (q := 69) dX7_layTerm_66 fa_X7_187 rfl (by decide) (lt_n hn (by decide)) (Nat.le_of_ble_eq_true rfl) ⟨rfl, rfl⟩ rfl rfl ?_
            rw [yn_n]
            refine ev_iload_n (q := 70) dX7_layTerm_69 rfl rfl ?_
            refine ev_iconst (q := 71) (3) dX7_layTerm_70 (by decide) rfl ?_
            refine ev_idiv (q := 72) (by decide) dX7_layTerm_71 rfl ?_
            refine ev_ist_2 (q := 73) dX7_layTerm_72 rfl rfl ?_
            refine ev_inc_3 (q := 76) (nI j - 1) dX7_layTerm_73 (inc_m1 _) rfl rfl ?_
            refine ev_goto 19 dX7_layTerm_76 (by decide) ?_
            rw [nI_div3 hb, Nat.div_div_eq_div_mul, ← Nat.pow_succ]
            have e := ih (i + 1) (by omega)
            try simp only [tmask, hj, c_32, c_55, if_true, if_false] at e
            first | exact e | exact absurd (c_32.symm.trans c_55) (by decide)
        · have c_32 : num / 3 ^ i % 3 = 1 := (nI_eq (b := 1) (by omega) (by omega)).mp c_32
          refine ev_iconst (q := 36) (1) dX7_layTerm_35 (by decide) rfl ?_
          refine ev_iload_n (q := 37) dX7_layTerm_36 rfl rfl ?_
          refine ev_ishl (q := 38) dX7_layTerm_37 rfl ?_
          refine ev_goto 42 dX7_layTerm_38 (by decide) ?_
          rw [show ∀ z, yn I (nI (tmask 1 t num i)) z 33 21 = nI (tmask 1 t num i) from fun _ => rfl]
          refine ev_ior (q := 43) dX7_layTerm_42 rfl ?_
          first | rw [nI_sh1 (by omega), nI_or] | rw [show (0 : Int32) = nI 0 from rfl, nI_or]
          refine ev_putI (q := 46) dX7_layTerm_43 fa_X7_184 rfl (by decide) (lt_n hn (by decide)) (Nat.le_of_ble_eq_true rfl) ⟨rfl, rfl⟩ rfl rfl ?_
          rw [yn_y]
          refine ev_aload_n (q := 47) dX7_layTerm_46 rfl rfl ?_
          refine ev_dup (q := 48) (fun _ => rfl) dX7_layTerm_47 rfl ?_
          refine ev_get (q := 51) dX7_layTerm_48 fr_X7_187 rfl (lt_n hn (by decide)) rfl rfl ?_
          refine ev_iload_n (q := 52) dX7_layTerm_51 rfl rfl ?_
          refine ev_iconst (q := 53) (3) dX7_layTerm_52 (by decide) rfl ?_
          refine ev_irem (q := 54) (by decide) dX7_layTerm_53 rfl ?_
          rw [nI_rem3 hb]
          refine ev_iconst (q := 55) (2) dX7_layTerm_54 (by decide) rfl ?_
          refine ev_icmp_ne (q := 58) 64 dX7_layTerm_55 (by decide) rfl (fun c_55 => ?_) (fun c_55 => ?_)
          · have c_55 : ¬ num / 3 ^ i % 3 = 2 := fun h => c_55 (by rw [h]; rfl)
            refine ev_iconst (q := 65) (0) dX7_layTerm_64 (by decide) rfl ?_
            rw [show ∀ z, yn I z (nI (tmask 2 t num i)) 33 22 = nI (tmask 2 t num i) from fun _ => rfl]
            refine ev_ior (q := 66) dX7_layTerm_65 rfl ?_
            first | rw [nI_sh1 (by omega), nI_or] | rw [show (0 : Int32) = nI 0 from rfl, nI_or]
            refine ev_putI (q := 69) dX7_layTerm_66 fa_X7_187 rfl (by decide) (lt_n hn (by decide)) (Nat.le_of_ble_eq_true rfl) ⟨rfl, rfl⟩ rfl rfl ?_
            rw [yn_n]
            refine ev_iload_n (q := 70) dX7_layTerm_69 rfl rfl ?_
            refine ev_iconst (q := 71) (3) dX7_layTerm_70 (by decide) rfl ?_
            refine ev_idiv (q := 72) (by decide) dX7_layTerm_71 rfl ?_
            refine ev_ist_2 (q := 73) dX7_layTerm_72 rfl rfl ?_
            refine ev_inc_3 (q := 76) (nI j - 1) dX7_layTerm_73 (inc_m1 _) rfl rfl ?_
            refine ev_goto 19 dX7_layTerm_76 (by decide) ?_
            rw [nI_div3 hb, Nat.div_div_eq_div_mul, ← Nat.pow_succ]
            have e := ih (i + 1) (by omega)
            try simp only [tmask, hj, c_32, c_55, if_true, if_false] at e
            first | exact e | exact absurd (c_32.symm.trans c_55) (by decide)
          · have c_55 : num / 3 ^ i % 3 = 2 := (nI_eq (b := 2) (by omega) (by omega)).mp c_55
            refine ev_iconst (q := 59) (1) dX7_layTerm_58 (by decide) rfl ?_
            refine ev_iload_n (q := 60) dX7_layTerm_59 rfl rfl ?_
            refine ev_ishl (q := 61) dX7_layTerm_60 rfl ?_
            refine ev_goto 65 dX7_layTerm_61 (by decide) ?_
            rw [show ∀ z, yn I z (nI (tmask 2 t num i)) 33 22 = nI (tmask 2 t num i) from fun _ => rfl]
            refine ev_ior (q := 66) dX7_layTerm_65 rfl ?_
            first | rw [nI_sh1 (by omega), nI_or] | rw [show (0 : Int32) = nI 0 from rfl, nI_or]
            refine ev_putI (q := 69) dX7_layTerm_66 fa_X7_187 rfl (by decide) (lt_n hn (by decide)) (Nat.le_of_ble_eq_true rfl) ⟨rfl, rfl⟩ rfl rfl ?_
            rw [yn_n]
            refine ev_iload_n (q := 70) dX7_layTerm_69 rfl rfl ?_
            refine ev_iconst (q := 71) (3) dX7_layTerm_70 (by decide) rfl ?_
            refine ev_idiv (q := 72) (by decide) dX7_layTerm_71 rfl ?_
            refine ev_ist_2 (q := 73) dX7_layTerm_72 rfl rfl ?_
            refine ev_inc_3 (q := 76) (nI j - 1) dX7_layTerm_73 (inc_m1 _) rfl rfl ?_
            refine ev_goto 19 dX7_layTerm_76 (by decide) ?_
            rw [nI_div3 hb, Nat.div_div_eq_div_mul, ← Nat.pow_succ]
            have e := ih (i + 1) (by omega)
            try simp only [tmask, hj, c_32, c_55, if_true, if_false] at e
            first | exact e | exact absurd (c_32.symm.trans c_55) (by decide)
  refine ev_aload_n (q := 1) dX7_layTerm_0 rfl rfl ?_
  refine ev_iconst (q := 2) (0) dX7_layTerm_1 (by decide) rfl ?_
  refine ev_putI (q := 5) dX7_layTerm_2 fa_X7_184 rfl (by decide) (lt_n hn (by decide)) (Nat.le_of_ble_eq_true rfl) ⟨rfl, rfl⟩ rfl rfl ?_
  refine ev_aload_n (q := 6) dX7_layTerm_5 rfl rfl ?_
  refine ev_iconst (q := 7) (0) dX7_layTerm_6 (by decide) rfl ?_
  refine ev_putI (q := 10) dX7_layTerm_7 fa_X7_187 rfl (by decide) (lt_n hn (by decide)) (Nat.le_of_ble_eq_true rfl) ⟨rfl, rfl⟩ rfl rfl ?_
  have hz := yn_0 I 0 0
  refine ev_iload_n (q := 11) dX7_layTerm_10 rfl rfl ?_
  refine ev_ist_2 (q := 12) dX7_layTerm_11 rfl rfl ?_
  refine ev_aload_n (q := 13) dX7_layTerm_12 rfl rfl ?_
  refine ev_get (q := 16) dX7_layTerm_13 fr_X7_7 rfl (lt_n hn (by decide)) rfl rfl ?_
  rw [show setI (setI I 33 (upd (I 33) 21 0)) 33 (upd (setI I 33 (upd (I 33) 21 0) 33) 22 0) 33 0 = nI t from ht]
  refine ev_iconst (q := 17) (1) dX7_layTerm_16 (by decide) rfl ?_
  refine ev_isub (q := 18) dX7_layTerm_17 rfl ?_
  refine ev_ist_3 (q := 19) dX7_layTerm_18 rfl rfl ?_
  rw [hz]
  have e := lp t 0 (by omega)
  rw [Nat.pow_zero, Nat.div_one] at e
  exact e
end MODEL4
end
section
theorem dX7_term_0 : decode cX7_term 0 = .ok (.iload_n 1, 1) := by decide +kernel
theorem dX7_term_1 : decode cX7_term 1 = .ok (.iconst 0, 1) := by decide +kernel
theorem dX7_term_2 : decode cX7_term 2 = .ok (.aload_n 0, 1) := by decide +kernel
theorem dX7_term_3 : decode cX7_term 3 = .ok (.invokevirtual 201, 3) := by decide +kernel
theorem dX7_term_6 : decode cX7_term 6 = .ok (.iconst 1, 1) := by decide +kernel
theorem dX7_term_7 : decode cX7_term 7 = .ok (.isub, 1) := by decide +kernel
theorem dX7_term_8 : decode cX7_term 8 = .ok (.invokestatic 99, 3) := by decide +kernel
theorem dX7_term_11 : decode cX7_term 11 = .ok (.ifCond .ne 6, 3) := by decide +kernel
theorem dX7_term_14 : decode cX7_term 14 = .ok (.bipush (-2), 2) := by decide +kernel
theorem dX7_term_16 : decode cX7_term 16 = .ok (.ireturn, 1) := by decide +kernel
theorem dX7_term_17 : decode cX7_term 17 = .ok (.aload_n 0, 1) := by decide +kernel
theorem dX7_term_18 : decode cX7_term 18 = .ok (.iload_n 1, 1) := by decide +kernel
theorem dX7_term_19 : decode cX7_term 19 = .ok (.aload_n 0, 1) := by decide +kernel
theorem dX7_term_20 : decode cX7_term 20 = .ok (.getfield 73, 3) := by decide +kernel
theorem dX7_term_23 : decode cX7_term 23 = .ok (.invokevirtual 204, 3) := by decide +kernel
theorem dX7_term_26 : decode cX7_term 26 = .ok (.istore_n 2, 1) := by decide +kernel
theorem dX7_term_27 : decode cX7_term 27 = .ok (.iload_n 2, 1) := by decide +kernel
theorem dX7_term_28 : decode cX7_term 28 = .ok (.ifCond .ge 8, 3) := by decide +kernel
theorem dX7_term_31 : decode cX7_term 31 = .ok (.bipush (-3), 2) := by decide +kernel
theorem dX7_term_33 : decode cX7_term 33 = .ok (.goto 4, 3) := by decide +kernel
theorem dX7_term_36 : decode cX7_term 36 = .ok (.iload_n 2, 1) := by decide +kernel
theorem dX7_term_37 : decode cX7_term 37 = .ok (.ireturn, 1) := by decide +kernel
def mk64 (p : Nat → Bool) : Nat → Int64
  | 0 => 0
  | k + 1 => mk64 p k ||| (if p k then (1 : Int64) <<< ((nI k).toInt64 &&& 63) else 0)
theorem one_shl {k : Nat} (hk : k < 64) (j : Nat) : ((1 : Int64) <<< ((nI k).toInt64 &&& 63)).toBitVec.getLsbD j = decide (j = k) := by
  have h1 : ∀ k, k < 64 → ((1 : Int64) <<< ((nI k).toInt64 &&& 63)).toBitVec = BitVec.twoPow 64 k := by decide +kernel
  rw [h1 k hk, BitVec.getLsbD_twoPow]
  by_cases hj : j = k
  · subst hj; simp [hk]
  · have : ¬ k = j := fun h => hj h.symm
    simp [hj, this]
theorem mk64_bit (p : Nat → Bool) : ∀ k, k ≤ 64 → ∀ j, lbit (mk64 p k) j = (decide (j < k) && p j)
  | 0, _, j => by simp [mk64, lbit]
  | k + 1, hk, j => by
    have ih := mk64_bit p k (by omega) j
    unfold lbit at ih ⊢
    unfold mk64
    rw [Int64.toBitVec_or, BitVec.getLsbD_or, ih]
    cases hp : p k
    · simp only [hp, Bool.false_eq_true, if_false]
      have : (0 : Int64).toBitVec.getLsbD j = false := by simp
      rw [this, Bool.or_false]
      by_cases hj : j = k
      · subst hj; simp [hp]
      · have : (j < k + 1) = (j < k) := by simp; omega
        simp only [this]
    · simp only [if_true]
      rw [one_shl (by omega)]
      by_cases hj : j = k
      · subst hj; simp [hp]
      · have : (j < k + 1) = (j < k) := by simp; omega
        simp [this, hj]
theorem l_ext {S T : Int64} (h : ∀ j, j < 64 → lbit S j = lbit T j) : S = T := by
  apply Int64.toBitVec_inj.mp
  apply BitVec.eq_of_getLsbD_eq
  exact h
/-- a world keeps a term -/
def ktF (law : Int64) (sl y z a w : Nat) : Bool := decide (w &&& y = y) && decide (w &&& z = 0) && lbit law w && decide (pop 6 ((w ^^^ a) &&& (63 ^^^ (y ||| z))) ≤ sl)
section MODEL5
variable {xl : Nat} {xs : Nat → Int32} {n : Nat} {h : Nat → PC} {I : Nat → Nat → Int32} {J : Nat → Nat → Int64} {X : Nat → Option Nat} {t : Nat}
theorem c_X7_keepsTerm {y z sl a w : Nat} (hn : 49 ≤ n) (hy : I 33 21 = nI y) (hz : I 33 22 = nI z) (hs : I 33 6 = nI sl) (hy6 : y < 64) (hz6 : z < 64) (hs6 : sl ≤ 6) (ha : a < 64) (hw : w < 64) : Rn xl xs 1 22 0 0 mX7_keepsTerm [.ref 33, .int (nI w), .int (nI a)] n (sysH I J X) (some (.int (b2i (ktF (J 33 8) sl y z a w)))) n (sysH I J X) := by
  intro Q hQ
  have hx : w ^^^ a < 64 := Nat.xor_lt_two_pow (n := 6) hw ha
  have hyz : y ||| z < 64 := Nat.or_lt_two_pow (n := 6) hy6 hz6
  have hb : (w ^^^ a) &&& (63 ^^^ (y ||| z)) < 64 := Nat.lt_of_le_of_lt Nat.and_le_left hx
  have hp := pop_le 6 ((w ^^^ a) &&& (63 ^^^ (y ||| z)))
  have h1 : w &&& y < 64 := Nat.lt_of_le_of_lt Nat.and_le_left hw
  have h2 : w &&& z < 64 := Nat.lt_of_le_of_lt Nat.and_le_left hw
  show Ev xl xs 1 22 0 0 mX7_keepsTerm 0 [some (.ref 33), some (.int (nI w)), some (.int (nI a))] [] n (sysH I J X) Q
  refine ev_iload_n (q := 1) dX7_keepsTerm_0 rfl rfl ?_
  refine ev_aload_n (q := 2) dX7_keepsTerm_1 rfl rfl ?_
  refine ev_get (q := 5) dX7_keepsTerm_2 fr_X7_184 rfl (lt_n hn (by decide)) rfl rfl ?_
  refine ev_iand (q := 6) dX7_keepsTerm_5 rfl ?_
  refine ev_aload_n (q := 7) dX7_keepsTerm_6 rfl rfl ?_
  refine ev_get (q := 10) dX7_keepsTerm_7 fr_X7_184 rfl (lt_n hn (by decide)) rfl rfl ?_
  rw [hy, nI_and]
  refine ev_icmp_ne (q := 13) 62 dX7_keepsTerm_10 (by decide) rfl (fun c_10 => ?_) (fun c_10 => ?_)
  · have c_10 : ¬ w &&& y = y := fun h => c_10 (by rw [h])
    refine ev_iconst (q := 63) (0) dX7_keepsTerm_62 (by decide) rfl ?_
    exact ev_iretE dX7_keepsTerm_63 rfl (nar_b2i _) (by simp [ktF, b2i, *]) rfl rfl hQ
  · have c_10 : w &&& y = y := (nI_eq (by omega) (by omega)).mp c_10
    refine ev_iload_n (q := 14) dX7_keepsTerm_13 rfl rfl ?_
    refine ev_aload_n (q := 15) dX7_keepsTerm_14 rfl rfl ?_
    refine ev_get (q := 18) dX7_keepsTerm_15 fr_X7_187 rfl (lt_n hn (by decide)) rfl rfl ?_
    refine ev_iand (q := 19) dX7_keepsTerm_18 rfl ?_
    rw [hz, nI_and]
    refine ev_if_ne (q := 22) 62 dX7_keepsTerm_19 (by decide) rfl (fun c_19 => ?_) (fun c_19 => ?_)
    · have c_19 : ¬ w &&& z = 0 := fun h => c_19 (by rw [h]; rfl)
      refine ev_iconst (q := 63) (0) dX7_keepsTerm_62 (by decide) rfl ?_
      exact ev_iretE dX7_keepsTerm_63 rfl (nar_b2i _) (by simp [ktF, b2i, *]) rfl rfl hQ
    · have c_19 : w &&& z = 0 := (nI_eq (b := 0) (by omega) (by omega)).mp c_19
      refine ev_aload_n (q := 23) dX7_keepsTerm_22 rfl rfl ?_
      refine ev_get (q := 26) dX7_keepsTerm_23 fr_X7_80 rfl (lt_n hn (by decide)) rfl rfl ?_
      refine ev_iload_n (q := 27) dX7_keepsTerm_26 rfl rfl ?_
      refine ev_callS2i (q := 30) dX7_keepsTerm_27 ca_X7_143 (c_X7_holds (by omega)) (Nat.le_of_ble_eq_true rfl) (Nat.le_of_ble_eq_true rfl) (by decide) (by decide) rfl ?_
      refine ev_if_eq (q := 33) 62 dX7_keepsTerm_30 (by decide) rfl (fun c_30 => ?_) (fun c_30 => ?_)
      · have c_30 := b2i_0.mp c_30
        refine ev_iconst (q := 63) (0) dX7_keepsTerm_62 (by decide) rfl ?_
        exact ev_iretE dX7_keepsTerm_63 rfl (nar_b2i _) (by simp [ktF, b2i, *]) rfl rfl hQ
      · have c_30 := b2i_n0.mp c_30
        refine ev_iload_n (q := 34) dX7_keepsTerm_33 rfl rfl ?_
        refine ev_iload_n (q := 35) dX7_keepsTerm_34 rfl rfl ?_
        refine ev_ixor (q := 36) dX7_keepsTerm_35 rfl ?_
        refine ev_aload_n (q := 37) dX7_keepsTerm_36 rfl rfl ?_
        refine ev_get (q := 40) dX7_keepsTerm_37 fr_X7_184 rfl (lt_n hn (by decide)) rfl rfl ?_
        refine ev_aload_n (q := 41) dX7_keepsTerm_40 rfl rfl ?_
        refine ev_get (q := 44) dX7_keepsTerm_41 fr_X7_187 rfl (lt_n hn (by decide)) rfl rfl ?_
        refine ev_ior (q := 45) dX7_keepsTerm_44 rfl ?_
        refine ev_iconst (q := 46) (-1) dX7_keepsTerm_45 (by decide) rfl ?_
        refine ev_ixor (q := 47) dX7_keepsTerm_46 rfl ?_
        refine ev_iand (q := 48) dX7_keepsTerm_47 rfl ?_
        rw [hy, hz, nI_or, nI_xor, nI_not hx hyz]
        refine ev_callS1i (q := 51) dX7_keepsTerm_48 ca_X7_147 (c_X7_bits (by omega)) (Nat.le_of_ble_eq_true rfl) (Nat.le_of_ble_eq_true rfl) (by decide) (by decide) rfl ?_
        refine ev_aload_n (q := 52) dX7_keepsTerm_51 rfl rfl ?_
        refine ev_get (q := 55) dX7_keepsTerm_52 fr_X7_70 rfl (lt_n hn (by decide)) rfl rfl ?_
        rw [hs]
        refine ev_icmp_gt (q := 58) 62 dX7_keepsTerm_55 (by decide) rfl (fun c_55 => ?_) (fun c_55 => ?_)
        · have c_55 : ¬ pop 6 ((w ^^^ a) &&& (63 ^^^ (y ||| z))) ≤ sl := Nat.not_le.mpr ((nI_ltI (by omega) (by omega)).mp c_55)
          refine ev_iconst (q := 63) (0) dX7_keepsTerm_62 (by decide) rfl ?_
          exact ev_iretE dX7_keepsTerm_63 rfl (nar_b2i _) (by simp [ktF, b2i, *]) rfl rfl hQ
        · have c_55 : pop 6 ((w ^^^ a) &&& (63 ^^^ (y ||| z))) ≤ sl := Nat.not_lt.mp fun h => c_55 ((nI_ltI (by omega) (by omega)).mpr h)
          refine ev_iconst (q := 59) (1) dX7_keepsTerm_58 (by decide) rfl ?_
          refine ev_goto 63 dX7_keepsTerm_59 (by decide) ?_
          exact ev_iretE dX7_keepsTerm_63 rfl (nar_b2i _) (by simp [ktF, b2i, *]) rfl rfl hQ
def ktT (J : Nat → Nat → Int64) (t sl num a : Nat) : Nat → Bool := ktF (J 33 8) sl (tmask 1 t num t) (tmask 2 t num t) a
theorem c_X7_keepingTerm {sl a num : Nat} (hn : 49 ≤ n) (ht : I 33 0 = nI t) (h6 : t ≤ 6) (hs : I 33 6 = nI sl) (hs6 : sl ≤ 6) (ha : a < 64) (hu : num < 2 ^ 31) : Rn xl xs 2 44 0 0 mX7_keepingTerm [.ref 33, .int (nI num), .int (nI a)] n (sysH I J X) (some (.long (mk64 (ktT J t sl num a) (2 ^ t)))) n (sysH (ynT I t num) J X) := by
  intro Q hQ
  have h64 : 2 ^ t ≤ 64 := Nat.pow_le_pow_right (n := 2) (by decide) h6
  have hy6 := tmask_lt 1 t num h6 t (by omega)
  have hz6 := tmask_lt 2 t num h6 t (by omega)
  have hy : ynT I t num 33 21 = nI (tmask 1 t num t) := rfl
  have hz : ynT I t num 33 22 = nI (tmask 2 t num t) := rfl
  have ht2 : ynT I t num 33 0 = nI t := ht
  have hs2 : ynT I t num 33 6 = nI sl := hs
  show Ev xl xs 2 44 0 0 mX7_keepingTerm 0 [some (.ref 33), some (.int (nI num)), some (.int (nI a)), none, none, none] [] n (sysH I J X) Q
  have lp : ∀ j k, k + j = 2 ^ t → Ev xl xs 2 44 0 0 mX7_keepingTerm 10 [some (.ref 33), some (.int (nI num)), some (.int (nI a)), some (.long (mk64 (ktT J t sl num a) k)), none, some (.int (nI k))] [] n (sysH (ynT I t num) J X) Q := by
    intro j
    induction j using Nat.strongRecOn with
    | _ j ih =>
      intro k hk
      refine ev_iload (q := 12) dX7_keepingTerm_10 rfl rfl ?_
      refine ev_aload_n (q := 13) dX7_keepingTerm_12 rfl rfl ?_
      refine ev_callV0i (q := 16) dX7_keepingTerm_13 ca_X7_95 (c_X7_worlds hn ht2 h6) rfl (lt_n hn (by decide)) rfl rfl (Nat.le_of_ble_eq_true rfl) (Nat.le_of_ble_eq_true rfl) (by decide) (by decide) rfl ?_
      refine ev_icmp_ge (q := 19) 46 dX7_keepingTerm_16 (by decide) rfl (fun c_16 => ?_) (fun c_16 => ?_)
      · have c_16 : 2 ^ t ≤ k := (nI_leI (by omega) (by omega)).mp c_16
        refine ev_lload_n (q := 47) dX7_keepingTerm_46 rfl rfl ?_
        exact ev_lretE dX7_keepingTerm_47 rfl (by rw [show k = 2 ^ t by omega]) rfl rfl hQ
      · have c_16 : ¬ 2 ^ t ≤ k := fun h => c_16 ((nI_leI (by omega) (by omega)).mpr h)
        refine ev_lload_n (q := 20) dX7_keepingTerm_19 rfl rfl ?_
        refine ev_aload_n (q := 21) dX7_keepingTerm_20 rfl rfl ?_
        refine ev_iload (q := 23) dX7_keepingTerm_21 rfl rfl ?_
        refine ev_iload_n (q := 24) dX7_keepingTerm_23 rfl rfl ?_
        refine ev_callV2i (q := 27) dX7_keepingTerm_24 ca_X7_194 (c_X7_keepsTerm hn hy hz hs2 hy6 hz6 hs6 ha (by omega)) rfl (lt_n hn (by decide)) rfl rfl (Nat.le_of_ble_eq_true rfl) (Nat.le_of_ble_eq_true rfl) (by decide) (by decide) rfl ?_
        refine ev_if_eq (q := 30) 37 dX7_keepingTerm_27 (by decide) rfl (fun c_27 => ?_) (fun c_27 => ?_)
        · have c_27 : ktT J t sl num a k = false := b2i_0.mp c_27
          refine ev_lconst (q := 38) (0) dX7_keepingTerm_37 (by decide) rfl ?_
          refine ev_lor (q := 39) dX7_keepingTerm_38 rfl ?_
          refine ev_lst_3 (q := 40) dX7_keepingTerm_39 rfl rfl ?_
          refine ev_inc_5 (q := 43) (nI (k + 1)) dX7_keepingTerm_40 (nI_1 k) rfl rfl ?_
          refine ev_goto 10 dX7_keepingTerm_43 (by decide) ?_
          have e := ih (j - 1) (by omega) (k + 1) (by omega)
          simp only [mk64, c_27] at e
          exact e
        · have c_27 : ktT J t sl num a k = true := b2i_n0.mp c_27
          refine ev_lconst (q := 31) (1) dX7_keepingTerm_30 (by decide) rfl ?_
          refine ev_iload (q := 33) dX7_keepingTerm_31 rfl rfl ?_
          refine ev_lshl (q := 34) dX7_keepingTerm_33 rfl ?_
          refine ev_goto 38 dX7_keepingTerm_34 (by decide) ?_
          refine ev_lor (q := 39) dX7_keepingTerm_38 rfl ?_
          refine ev_lst_3 (q := 40) dX7_keepingTerm_39 rfl rfl ?_
          refine ev_inc_5 (q := 43) (nI (k + 1)) dX7_keepingTerm_40 (nI_1 k) rfl rfl ?_
          refine ev_goto 10 dX7_keepingTerm_43 (by decide) ?_
          have e := ih (j - 1) (by omega) (k + 1) (by omega)
          simp only [mk64, c_27] at e
          exact e
  refine ev_aload_n (q := 1) dX7_keepingTerm_0 rfl rfl ?_
  refine ev_iload_n (q := 2) dX7_keepingTerm_1 rfl rfl ?_
  refine ev_callV1v (q := 5) dX7_keepingTerm_2 ca_X7_190 (c_X7_layTerm hn ht h6 (by omega)) rfl (lt_n hn (by decide)) rfl rfl (Nat.le_of_ble_eq_true rfl) (Nat.le_of_ble_eq_true rfl) (by decide) (by decide) rfl ?_
  refine ev_lconst (q := 6) (0) dX7_keepingTerm_5 (by decide) rfl ?_
  refine ev_lst_3 (q := 7) dX7_keepingTerm_6 rfl rfl ?_
  refine ev_iconst (q := 8) (0) dX7_keepingTerm_7 (by decide) rfl ?_
  refine ev_ist_5 (q := 10) dX7_keepingTerm_8 rfl rfl ?_
  exact lp (2 ^ t) 0 (by omega)
theorem lk_ynT {num wy wi a : Nat} : lkF (ynT I t num) t wy wi a = lkF I t wy wi a := rfl
/-- what the spirit makes of a term -/
def mtF (I : Nat → Nat → Int32) (J : Nat → Nat → Int64) (t sl wy wi num a : Nat) : Option Nat := upto (mkF (lkF I t wy wi a) (mk64 (ktT J t sl num a) (2 ^ t))) (2 ^ t) none
theorem c_X7_madeOfTerm {sl wy wi a num : Nat} (hn : 49 ≤ n) (ht : I 33 0 = nI t) (h6 : t ≤ 6) (hs : I 33 6 = nI sl) (hs6 : sl ≤ 6) (hwy : I 33 4 = nI wy) (h3 : wy < 3) (hwi : I 33 5 = nI wi) (h4 : wi < 4) (ha : a < 64) (hu : num < 2 ^ 31) : Rn xl xs 4 92 0 0 mX7_madeOfTerm [.ref 33, .int (nI num), .int (nI a)] n (sysH I J X) (some (.int (eo (mtF I J t sl wy wi num a)))) n (sysH (ynT I t num) J X) := by
  intro Q hQ
  show Ev xl xs 4 92 0 0 mX7_madeOfTerm 0 [some (.ref 33), some (.int (nI num)), some (.int (nI a))] [] n (sysH I J X) Q
  refine ev_aload_n (q := 1) dX7_madeOfTerm_0 rfl rfl ?_
  refine ev_aload_n (q := 2) dX7_madeOfTerm_1 rfl rfl ?_
  refine ev_iload_n (q := 3) dX7_madeOfTerm_2 rfl rfl ?_
  refine ev_iload_n (q := 4) dX7_madeOfTerm_3 rfl rfl ?_
  refine ev_callV2l (q := 7) dX7_madeOfTerm_4 ca_X7_197 (c_X7_keepingTerm hn ht h6 hs hs6 (by omega) (by omega)) rfl (lt_n hn (by decide)) rfl rfl (Nat.le_of_ble_eq_true rfl) (Nat.le_of_ble_eq_true rfl) (by decide) (by decide) rfl ?_
  refine ev_iload_n (q := 8) dX7_madeOfTerm_7 rfl rfl ?_
  refine ev_callV2i (q := 11) dX7_madeOfTerm_8 ca_X7_171 (c_X7_madeOf (I := ynT I t num) hn ht h6 hwy h3 hwi h4 ha) rfl (lt_n hn (by decide)) rfl rfl (Nat.le_of_ble_eq_true rfl) (Nat.le_of_ble_eq_true rfl) (by decide) (by decide) rfl ?_
  exact ev_iretE dX7_madeOfTerm_11 rfl rfl rfl rfl rfl hQ
theorem mtF_lt {sl wy wi num a v : Nat} (h : mtF I J t sl wy wi num a = some v) : v < 2 ^ t := mkF_lt _ _ h
end MODEL5
end
section
/-! SCRATCH: what no later call can see; 'ov I S' is I with scratch S -/
def scb (p j : Nat) : Bool := (p == 33 && (j == 18 || j == 21 || j == 22 || j == 25)) || (Nat.ble 13 p && Nat.ble p 14) || (Nat.ble 22 p && Nat.ble p 32) || (Nat.ble 42 p && Nat.ble p 45)
def scj (p : Nat) : Bool := p == 12 || p == 15
def ov (I S : Nat → Nat → Int32) : Nat → Nat → Int32 := fun p j => bif scb p j then S p j else I p j
def ovJ (J T : Nat → Nat → Int64) : Nat → Nat → Int64 := fun p j => bif scj p then T p j else J p j
theorem ovf {I S : Nat → Nat → Int32} {p j : Nat} (h : scb p j = true) (x : Int32) : setI (ov I S) p (upd (ov I S p) j x) = ov I (setI S p (upd (S p) j x)) := by
  funext a b
  by_cases ha : a = p
  · subst ha
    by_cases hb : b = j
    · subst hb; simp [setI, upd, ov, h]
    · simp [setI, upd, ov, hb]
  · simp [setI, ov, ha]
theorem ovg {I S : Nat → Nat → Int32} {p j : Nat} (h : scb p j = false) (x : Int32) : setI (ov I S) p (upd (ov I S p) j x) = ov (setI I p (upd (I p) j x)) S := by
  funext a b
  by_cases ha : a = p
  · subst ha
    by_cases hb : b = j
    · subst hb; simp [setI, upd, ov, h]
    · simp [setI, upd, ov, hb]
  · simp [setI, ov, ha]
theorem ovjf {J T : Nat → Nat → Int64} {p j : Nat} (h : scj p = true) (x : Int64) : setJ (ovJ J T) p (vp_updL (ovJ J T p) j x) = ovJ J (setJ T p (vp_updL (T p) j x)) := by
  funext a b
  by_cases ha : a = p
  · subst ha
    by_cases hb : b = j
    · subst hb; simp [setJ, vp_updL, ovJ, h]
    · simp [setJ, vp_updL, ovJ, hb]
  · simp [setJ, ovJ, ha]
theorem ovjg {J T : Nat → Nat → Int64} {p j : Nat} (h : scj p = false) (x : Int64) : setJ (ovJ J T) p (vp_updL (ovJ J T p) j x) = ovJ (setJ J p (vp_updL (J p) j x)) T := by
  funext a b
  by_cases ha : a = p
  · subst ha
    by_cases hb : b = j
    · subst hb; simp [setJ, vp_updL, ovJ, h]
    · simp [setJ, vp_updL, ovJ, hb]
  · simp [setJ, ovJ, ha]
def RnS (xl : Nat) (xs : Nat → Int32) (F L b1 b2 : Nat) (M : Mt) (vs : List Value) (n : Nat) (I : Nat → Nat → Int32) (J : Nat → Nat → Int64) (X : Nat → Option Nat) (r : Option Value) (n' : Nat) (I' : Nat → Nat → Int32) (J' : Nat → Nat → Int64) (X' : Nat → Option Nat) : Prop :=
  ∀ (S : Nat → Nat → Int32) (T : Nat → Nat → Int64) (Q : QT), (∀ S' T', Q r n' (sysH (ov I' S') (ovJ J' T') X')) → Ev xl xs F L b1 b2 M 0 (ent vs M.2.2.1) [] n (sysH (ov I S) (ovJ J T) X) Q
section SCR
variable {xl : Nat} {xs : Nat → Int32} {F L B1 B2 : Nat} {M : Mt} {pc : Nat} {lv : List (Option Value)} {st : List Value} {n : Nat} {Q : QT} {q : Nat} {I S I' : Nat → Nat → Int32} {J T J' : Nat → Nat → Int64} {X X' : Nat → Option Nat}
theorem rnS {vs : List Value} {r : Option Value} (h : ∀ (S : Nat → Nat → Int32) (T : Nat → Nat → Int64), Rn xl xs F L B1 B2 M vs n (sysH (ov I S) (ovJ J T) X) r n (sysH (ov I S) (ovJ J T) X)) : RnS xl xs F L B1 B2 M vs n I J X r n I J X := fun S T Q hQ => h S T Q (hQ S T)
theorem ev_isC {p len : Nat} {i x : Int32} (kx : Nat) (d : decode M.2.1 pc = .ok (.iastore, 1)) (hi : i = nI kx) (hs : shI p = some len) (hk : kx < len) (hn : p < n) (hc : scb p kx = true) (hq : pc + 1 = q) (k : ∀ S, Ev xl xs F L B1 B2 M q lv st n (sysH (ov I S) (ovJ J T) X) Q) : Ev xl xs F L B1 B2 M pc lv (.int x :: .int i :: .ref p :: st) n (sysH (ov I S) (ovJ J T) X) Q := by
  refine ev_isS kx d hi hs hk hn hq ?_
  rw [ovf hc]; exact k _
theorem ev_isK {p len : Nat} {i x : Int32} (kx : Nat) (d : decode M.2.1 pc = .ok (.iastore, 1)) (hi : i = nI kx) (hs : shI p = some len) (hk : kx < len) (hn : p < n) (hc : scb p kx = true) (hq : pc + 1 = q) (k : Ev xl xs F L B1 B2 M q lv st n (sysH (ov I (setI S p (upd (S p) kx x))) (ovJ J T) X) Q) : Ev xl xs F L B1 B2 M pc lv (.int x :: .int i :: .ref p :: st) n (sysH (ov I S) (ovJ J T) X) Q := by
  refine ev_isS kx d hi hs hk hn hq ?_
  rw [ovf hc]; exact k
theorem ev_isR {p len : Nat} {i x : Int32} (kx : Nat) (d : decode M.2.1 pc = .ok (.iastore, 1)) (hi : i = nI kx) (hs : shI p = some len) (hk : kx < len) (hn : p < n) (hc : scb p kx = false) (hq : pc + 1 = q) (k : Ev xl xs F L B1 B2 M q lv st n (sysH (ov (setI I p (upd (I p) kx x)) S) (ovJ J T) X) Q) : Ev xl xs F L B1 B2 M pc lv (.int x :: .int i :: .ref p :: st) n (sysH (ov I S) (ovJ J T) X) Q := by
  refine ev_isS kx d hi hs hk hn hq ?_
  rw [ovg hc]; exact k
theorem ev_zsK {p len : Nat} {i x : Int32} (kx : Nat) (d : decode M.2.1 pc = .ok (.bastore, 1)) (hi : i = nI kx) (hs : shZ p = some len) (hk : kx < len) (hn : p < n) (hx : vp_nar .boolean x = x) (hc : scb p kx = true) (hq : pc + 1 = q) (k : Ev xl xs F L B1 B2 M q lv st n (sysH (ov I (setI S p (upd (S p) kx x))) (ovJ J T) X) Q) : Ev xl xs F L B1 B2 M pc lv (.int x :: .int i :: .ref p :: st) n (sysH (ov I S) (ovJ J T) X) Q := by
  refine ev_zsS kx d hi hs hk hn hx hq ?_
  rw [ovf hc]; exact k
theorem ev_zsR {p len : Nat} {i x : Int32} (kx : Nat) (d : decode M.2.1 pc = .ok (.bastore, 1)) (hi : i = nI kx) (hs : shZ p = some len) (hk : kx < len) (hn : p < n) (hx : vp_nar .boolean x = x) (hc : scb p kx = false) (hq : pc + 1 = q) (k : Ev xl xs F L B1 B2 M q lv st n (sysH (ov (setI I p (upd (I p) kx x)) S) (ovJ J T) X) Q) : Ev xl xs F L B1 B2 M pc lv (.int x :: .int i :: .ref p :: st) n (sysH (ov I S) (ovJ J T) X) Q := by
  refine ev_zsS kx d hi hs hk hn hx hq ?_
  rw [ovg hc]; exact k
theorem ev_lsK {p len : Nat} {i : Int32} {x : Int64} (kx : Nat) (d : decode M.2.1 pc = .ok (.lastore, 1)) (hi : i = nI kx) (hs : shJ p = some len) (hk : kx < len) (hn : p < n) (hc : scj p = true) (hq : pc + 1 = q) (k : Ev xl xs F L B1 B2 M q lv st n (sysH (ov I S) (ovJ J (setJ T p (vp_updL (T p) kx x))) X) Q) : Ev xl xs F L B1 B2 M pc lv (.long x :: .int i :: .ref p :: st) n (sysH (ov I S) (ovJ J T) X) Q := by
  refine ev_lsS kx d hi hs hk hn hq ?_
  rw [ovjf hc]; exact k
theorem ev_lsR {p len : Nat} {i : Int32} {x : Int64} (kx : Nat) (d : decode M.2.1 pc = .ok (.lastore, 1)) (hi : i = nI kx) (hs : shJ p = some len) (hk : kx < len) (hn : p < n) (hc : scj p = false) (hq : pc + 1 = q) (k : Ev xl xs F L B1 B2 M q lv st n (sysH (ov I S) (ovJ (setJ J p (vp_updL (J p) kx x)) T) X) Q) : Ev xl xs F L B1 B2 M pc lv (.long x :: .int i :: .ref p :: st) n (sysH (ov I S) (ovJ J T) X) Q := by
  refine ev_lsS kx d hi hs hk hn hq ?_
  rw [ovjg hc]; exact k
theorem ev_putIK {idx ci j p : Nat} {fs : List Value} {x : Int32} {ty : FieldType} (d : decode M.2.1 pc = .ok (.putfield idx, 3)) (fa : FA M.1.cls idx ci j ty false) (hc : sysH (ov I S) (ovJ J T) X p = .inr (ci, fs)) (hp : p < 65) (hn : p < n) (hj : j < fs.length) (hv : narrow ty (.int x) = .int x ∧ fits ty (.int x) = true) (hf : (sysL (ov I S) (ovJ J T) X).set p (.inr (ci, fs.set j (.int x))) = sysL (setI (ov I S) p (upd (ov I S p) j x)) (ovJ J T) X) (hb : scb p j = true) (hq : pc + 3 = q) (k : Ev xl xs F L B1 B2 M q lv st n (sysH (ov I (setI S p (upd (S p) j x))) (ovJ J T) X) Q) : Ev xl xs F L B1 B2 M pc lv (.int x :: .ref p :: st) n (sysH (ov I S) (ovJ J T) X) Q := by
  refine ev_putI d fa hc hp hn hj hv hf hq ?_
  rw [ovf hb]; exact k
theorem ev_putIR {idx ci j p : Nat} {fs : List Value} {x : Int32} {ty : FieldType} (d : decode M.2.1 pc = .ok (.putfield idx, 3)) (fa : FA M.1.cls idx ci j ty false) (hc : sysH (ov I S) (ovJ J T) X p = .inr (ci, fs)) (hp : p < 65) (hn : p < n) (hj : j < fs.length) (hv : narrow ty (.int x) = .int x ∧ fits ty (.int x) = true) (hf : (sysL (ov I S) (ovJ J T) X).set p (.inr (ci, fs.set j (.int x))) = sysL (setI (ov I S) p (upd (ov I S p) j x)) (ovJ J T) X) (hb : scb p j = false) (hq : pc + 3 = q) (k : Ev xl xs F L B1 B2 M q lv st n (sysH (ov (setI I p (upd (I p) j x)) S) (ovJ J T) X) Q) : Ev xl xs F L B1 B2 M pc lv (.int x :: .ref p :: st) n (sysH (ov I S) (ovJ J T) X) Q := by
  refine ev_putI d fa hc hp hn hj hv hf hq ?_
  rw [ovg hb]; exact k
theorem ev_putJR {idx ci j p : Nat} {fs : List Value} {x : Int64} {ty : FieldType} (d : decode M.2.1 pc = .ok (.putfield idx, 3)) (fa : FA M.1.cls idx ci j ty false) (hc : sysH (ov I S) (ovJ J T) X p = .inr (ci, fs)) (hp : p < 65) (hn : p < n) (hj : j < fs.length) (hv : narrow ty (.long x) = .long x ∧ fits ty (.long x) = true) (hf : (sysL (ov I S) (ovJ J T) X).set p (.inr (ci, fs.set j (.long x))) = sysL (ov I S) (setJ (ovJ J T) p (vp_updL (ovJ J T p) j x)) X) (hb : scj p = false) (hq : pc + 3 = q) (k : Ev xl xs F L B1 B2 M q lv st n (sysH (ov I S) (ovJ (setJ J p (vp_updL (J p) j x)) T) X) Q) : Ev xl xs F L B1 B2 M pc lv (.long x :: .ref p :: st) n (sysH (ov I S) (ovJ J T) X) Q := by
  refine ev_putJ d fa hc hp hn hj hv hf hq ?_
  rw [ovjg hb]; exact k
def RnQ (xl : Nat) (xs : Nat → Int32) (F L b1 b2 : Nat) (M : Mt) (vs : List Value) (n : Nat) (h : Nat → PC) (P : QT) : Prop := Ev xl xs F L b1 b2 M 0 (ent vs M.2.2.1) [] n h P
theorem ev_callQV {idx na b1 b2 F' L' : Nat} {M' : Mt} {As rest : List Value} {b ci : Nat} {fs : List Value} {cr : vw_C} {h : Nat → PC} {P : QT} (d : decode M.2.1 pc = .ok (.invokevirtual idx, 3)) (ca : CV M.1.cls idx M' na) (hn : As.length = na) (hc : h b = .inr (ci, fs)) (hbn : b < n) (hcr : vwCl[ci]? = some cr) (hcl : cr.1 = M'.1.cls) (hlen : (entA (.ref b :: As)).length ≤ M'.2.2.1) (hw : (rest.map fun v => v.category).sum ≤ 8) (hF : F' + 1 ≤ F) (hL : 19 + M'.2.2.1 + L' ≤ L) (hb1 : b1 ≤ B1) (hb2 : b2 ≤ B2) (hR : RnQ xl xs F' L' b1 b2 M' (.ref b :: As) n h P) (hq : pc + 3 = q) (k : ∀ r n' h', P r n' h' → Ev xl xs F L (B1 - b1) (B2 - b2) M q lv (r.toList ++ rest) n' h' Q) : Ev xl xs F L B1 B2 M pc lv (As.reverse ++ .ref b :: rest) n h Q := by
  subst hq
  intro p l e R s m args below meth cc Z D cA sz zd n0 ad0 CM SM C ad H locs cells slots ls hH hE hS h1 h2 hl o1 o2
  have oA : okl n (.ref b :: As) := fun v hv => o2 v (by
    rcases List.mem_cons.mp hv with e | e
    · rw [e]; simp
    · simp [e])
  have oR : okl n rest := fun v hv => o2 v (by simp [hv])
  have hM := ev_met l D cA sz zd ad ca.1 hlen oA hR
  have hR' := C.hR
  rw [List.map_append, List.map_reverse, List.map_cons]
  refine ev_back C hE hS h1 h2 hb1 hb2 hl o1 oR (va_runV (As := As.map (mv ad)) (rest := rest.map (mv ad)) (Ts := TB) (own := M.1.cls) (C := M'.1.cls) (n := na) (b := ad b) ⟨C.hx, C.hb, C.hml, C.own, C.ts⟩ hM (cwV na C.ts (fun w hw => ?_) rfl rfl rfl ⟨rfl, ca.1.2.2.1⟩ (hR_of hR' hF hL)) ⟨pcE_blind, ?_, pcE_at C hH hS⟩ rfl (by rw [List.length_map]; exact hn) hl.1.1 rfl (lv_room (by rw [cats_map]; exact hw)) d ⟨by omega, by omega⟩) k
  · unfold wsV at hw
    rcases List.mem_append.mp hw with hw | hw
    · refine tb_good w ?_
      simp only [List.mem_cons, List.not_mem_nil, or_false] at hw
      rcases hw with rfl | rfl | rfl | rfl
      · exact ca.2.1
      · exact ca.2.2.1
      · exact ca.2.2.2
      · exact ca.1.2.1
    · exact wsM_good ca.1 w hw
  · have := va_recv C.hK hH.2.2.1 hcr (hs_at hH hbn hc)
    rw [hcl] at this
    exact this
theorem ev_callQS {idx na b1 b2 F' L' : Nat} {M' : Mt} {As rest : List Value} {h : Nat → PC} {P : QT} (d : decode M.2.1 pc = .ok (.invokestatic idx, 3)) (ca : CS M.1.cls idx M' na) (hn : As.length = na) (hlen : (entA (As)).length ≤ M'.2.2.1) (hw : (rest.map fun v => v.category).sum ≤ 8) (hF : F' + 1 ≤ F) (hL : 19 + M'.2.2.1 + L' ≤ L) (hb1 : b1 ≤ B1) (hb2 : b2 ≤ B2) (hR : RnQ xl xs F' L' b1 b2 M' (As) n h P) (hq : pc + 3 = q) (k : ∀ r n' h', P r n' h' → Ev xl xs F L (B1 - b1) (B2 - b2) M q lv (r.toList ++ rest) n' h' Q) : Ev xl xs F L B1 B2 M pc lv (As.reverse ++ rest) n h Q := by
  subst hq
  intro p l e R s m args below meth cc Z D cA sz zd n0 ad0 CM SM C ad H locs cells slots ls hH hE hS h1 h2 hl o1 o2
  have oA : okl n (As) := fun v hv => o2 v (by
    simp [hv])
  have oR : okl n rest := fun v hv => o2 v (by simp [hv])
  have hM := ev_met l D cA sz zd ad ca.1 hlen oA hR
  have hR' := C.hR
  rw [List.map_append, List.map_reverse]
  exact ev_back C hE hS h1 h2 hb1 hb2 hl o1 oR (va_runS (As := As.map (mv ad)) (rest := rest.map (mv ad)) (Ts := TB) (own := M.1.cls) (n := na) ⟨C.hx, C.hb, C.hml, C.own, C.ts⟩ hM ⟨callB_of na C.ts (wsM_good ca.1) rfl rfl rfl (C.ts _ ca.1.2.1) (C.ts _ ca.2.1) ca.1.2.2.1 (hR_of hR' hF hL), C.ts _ ca.2.2⟩ ⟨pcE_blind, pcE_at C hH hS⟩ rfl (by rw [List.length_map]; exact hn) hl.1.1 rfl (lv_room (by rw [cats_map]; exact hw)) d ⟨by omega, by omega⟩) k
theorem ev_callQSn {idx na b1 b2 F' L' : Nat} {M' : Mt} {As rest : List Value} {h : Nat → PC} {P : QT} (d : decode M.2.1 pc = .ok (.invokestatic idx, 3)) (ca : CSn M.1.cls idx M' na) (hn : As.length = na) (hlen : (entA (As)).length ≤ M'.2.2.1) (hw : (rest.map fun v => v.category).sum ≤ 8) (hF : F' + 1 ≤ F) (hL : 19 + M'.2.2.1 + L' ≤ L) (hb1 : b1 ≤ B1) (hb2 : b2 ≤ B2) (hR : RnQ xl xs F' L' b1 b2 M' (As) n h P) (hq : pc + 3 = q) (k : ∀ r n' h', P r n' h' → Ev xl xs F L (B1 - b1) (B2 - b2) M q lv (r.toList ++ rest) n' h' Q) : Ev xl xs F L B1 B2 M pc lv (As.reverse ++ rest) n h Q := by
  subst hq
  intro p l e R s m args below meth cc Z D cA sz zd n0 ad0 CM SM C ad H locs cells slots ls hH hE hS h1 h2 hl o1 o2
  have oA : okl n (As) := fun v hv => o2 v (by
    simp [hv])
  have oR : okl n rest := fun v hv => o2 v (by simp [hv])
  have hM := ev_met l D cA sz zd ad ca.1 hlen oA hR
  have hR' := C.hR
  obtain ⟨cb, ⟨host, hlk⟩, hst⟩ := ca
  rw [List.map_append, List.map_reverse]
  exact ev_back C hE hS h1 h2 hb1 hb2 hl o1 oR (va_runSN (As := As.map (mv ad)) (rest := rest.map (mv ad)) (Ts := TB) (own := M.1.cls) (host := host) (n := na) ⟨C.hx, C.hb, C.hml, C.own, C.ts⟩ hM ⟨va_cnB na C.ts (wsM_good cb) rfl rfl rfl (C.nw _ hlk) (C.ts _ cb.2.1) cb.2.2.1 (hR_of hR' hF hL), C.ts _ hst, trivial⟩ ⟨pcE_blind, pcE_at C hH hS⟩ rfl (by rw [List.length_map]; exact hn) hl.1.1 rfl (lv_room (by rw [cats_map]; exact hw)) d ⟨by omega, by omega⟩) k
theorem ev_callV0iS {idx F' L' : Nat} {M' : Mt} {b ci : Nat} {fs : List Value} {cr : vw_C} {r : Int32} {n' : Nat} (d : decode M.2.1 pc = .ok (.invokevirtual idx, 3)) (ca : CV M.1.cls idx M' 0) (hR : RnS xl xs F' L' 0 0 M' [.ref b] n I J X (some (.int r)) n' I' J' X') (hc : sysH (ov I S) (ovJ J T) X b = .inr (ci, fs)) (hbn : b < n) (hcr : vwCl[ci]? = some cr) (hcl : cr.1 = M'.1.cls) (hlen : (entA [.ref b]).length ≤ M'.2.2.1) (hw : (st.map fun v => v.category).sum ≤ 8) (hF : F' + 1 ≤ F) (hL : 19 + M'.2.2.1 + L' ≤ L) (hq : pc + 3 = q) (k : ∀ S T, Ev xl xs F L B1 B2 M q lv (.int r :: st) n' (sysH (ov I' S) (ovJ J' T) X') Q) : Ev xl xs F L B1 B2 M pc lv (.ref b :: st) n (sysH (ov I S) (ovJ J T) X) Q :=
  ev_callQV (As := []) (rest := st) (b1 := 0) (b2 := 0) (P := fun r2 n2 h2 => r2 = (some (.int r)) ∧ n2 = n' ∧ ∃ S2 T2, h2 = sysH (ov I' S2) (ovJ J' T2) X') d ca rfl hc hbn hcr hcl hlen hw hF hL (Nat.zero_le _) (Nat.zero_le _) (hR S T _ (fun S2 T2 => ⟨rfl, rfl, S2, T2, rfl⟩)) hq (fun r2 n2 h2 hz => by obtain ⟨rfl, rfl, S2, T2, rfl⟩ := hz; exact k S2 T2)
theorem ev_callV0lS {idx F' L' : Nat} {M' : Mt} {b ci : Nat} {fs : List Value} {cr : vw_C} {r : Int64} {n' : Nat} (d : decode M.2.1 pc = .ok (.invokevirtual idx, 3)) (ca : CV M.1.cls idx M' 0) (hR : RnS xl xs F' L' 0 0 M' [.ref b] n I J X (some (.long r)) n' I' J' X') (hc : sysH (ov I S) (ovJ J T) X b = .inr (ci, fs)) (hbn : b < n) (hcr : vwCl[ci]? = some cr) (hcl : cr.1 = M'.1.cls) (hlen : (entA [.ref b]).length ≤ M'.2.2.1) (hw : (st.map fun v => v.category).sum ≤ 8) (hF : F' + 1 ≤ F) (hL : 19 + M'.2.2.1 + L' ≤ L) (hq : pc + 3 = q) (k : ∀ S T, Ev xl xs F L B1 B2 M q lv (.long r :: st) n' (sysH (ov I' S) (ovJ J' T) X') Q) : Ev xl xs F L B1 B2 M pc lv (.ref b :: st) n (sysH (ov I S) (ovJ J T) X) Q :=
  ev_callQV (As := []) (rest := st) (b1 := 0) (b2 := 0) (P := fun r2 n2 h2 => r2 = (some (.long r)) ∧ n2 = n' ∧ ∃ S2 T2, h2 = sysH (ov I' S2) (ovJ J' T2) X') d ca rfl hc hbn hcr hcl hlen hw hF hL (Nat.zero_le _) (Nat.zero_le _) (hR S T _ (fun S2 T2 => ⟨rfl, rfl, S2, T2, rfl⟩)) hq (fun r2 n2 h2 hz => by obtain ⟨rfl, rfl, S2, T2, rfl⟩ := hz; exact k S2 T2)
theorem ev_callV0vS {idx F' L' : Nat} {M' : Mt} {b ci : Nat} {fs : List Value} {cr : vw_C} {n' : Nat} (d : decode M.2.1 pc = .ok (.invokevirtual idx, 3)) (ca : CV M.1.cls idx M' 0) (hR : RnS xl xs F' L' 0 0 M' [.ref b] n I J X none n' I' J' X') (hc : sysH (ov I S) (ovJ J T) X b = .inr (ci, fs)) (hbn : b < n) (hcr : vwCl[ci]? = some cr) (hcl : cr.1 = M'.1.cls) (hlen : (entA [.ref b]).length ≤ M'.2.2.1) (hw : (st.map fun v => v.category).sum ≤ 8) (hF : F' + 1 ≤ F) (hL : 19 + M'.2.2.1 + L' ≤ L) (hq : pc + 3 = q) (k : ∀ S T, Ev xl xs F L B1 B2 M q lv st n' (sysH (ov I' S) (ovJ J' T) X') Q) : Ev xl xs F L B1 B2 M pc lv (.ref b :: st) n (sysH (ov I S) (ovJ J T) X) Q :=
  ev_callQV (As := []) (rest := st) (b1 := 0) (b2 := 0) (P := fun r2 n2 h2 => r2 = none ∧ n2 = n' ∧ ∃ S2 T2, h2 = sysH (ov I' S2) (ovJ J' T2) X') d ca rfl hc hbn hcr hcl hlen hw hF hL (Nat.zero_le _) (Nat.zero_le _) (hR S T _ (fun S2 T2 => ⟨rfl, rfl, S2, T2, rfl⟩)) hq (fun r2 n2 h2 hz => by obtain ⟨rfl, rfl, S2, T2, rfl⟩ := hz; exact k S2 T2)
theorem ev_callV1iS {idx F' L' : Nat} {M' : Mt} {v0 : Value} {b ci : Nat} {fs : List Value} {cr : vw_C} {r : Int32} {n' : Nat} (d : decode M.2.1 pc = .ok (.invokevirtual idx, 3)) (ca : CV M.1.cls idx M' 1) (hR : RnS xl xs F' L' 0 0 M' [.ref b, v0] n I J X (some (.int r)) n' I' J' X') (hc : sysH (ov I S) (ovJ J T) X b = .inr (ci, fs)) (hbn : b < n) (hcr : vwCl[ci]? = some cr) (hcl : cr.1 = M'.1.cls) (hlen : (entA [.ref b, v0]).length ≤ M'.2.2.1) (hw : (st.map fun v => v.category).sum ≤ 8) (hF : F' + 1 ≤ F) (hL : 19 + M'.2.2.1 + L' ≤ L) (hq : pc + 3 = q) (k : ∀ S T, Ev xl xs F L B1 B2 M q lv (.int r :: st) n' (sysH (ov I' S) (ovJ J' T) X') Q) : Ev xl xs F L B1 B2 M pc lv (v0 :: .ref b :: st) n (sysH (ov I S) (ovJ J T) X) Q :=
  ev_callQV (As := [v0]) (rest := st) (b1 := 0) (b2 := 0) (P := fun r2 n2 h2 => r2 = (some (.int r)) ∧ n2 = n' ∧ ∃ S2 T2, h2 = sysH (ov I' S2) (ovJ J' T2) X') d ca rfl hc hbn hcr hcl hlen hw hF hL (Nat.zero_le _) (Nat.zero_le _) (hR S T _ (fun S2 T2 => ⟨rfl, rfl, S2, T2, rfl⟩)) hq (fun r2 n2 h2 hz => by obtain ⟨rfl, rfl, S2, T2, rfl⟩ := hz; exact k S2 T2)
theorem ev_callV1lS {idx F' L' : Nat} {M' : Mt} {v0 : Value} {b ci : Nat} {fs : List Value} {cr : vw_C} {r : Int64} {n' : Nat} (d : decode M.2.1 pc = .ok (.invokevirtual idx, 3)) (ca : CV M.1.cls idx M' 1) (hR : RnS xl xs F' L' 0 0 M' [.ref b, v0] n I J X (some (.long r)) n' I' J' X') (hc : sysH (ov I S) (ovJ J T) X b = .inr (ci, fs)) (hbn : b < n) (hcr : vwCl[ci]? = some cr) (hcl : cr.1 = M'.1.cls) (hlen : (entA [.ref b, v0]).length ≤ M'.2.2.1) (hw : (st.map fun v => v.category).sum ≤ 8) (hF : F' + 1 ≤ F) (hL : 19 + M'.2.2.1 + L' ≤ L) (hq : pc + 3 = q) (k : ∀ S T, Ev xl xs F L B1 B2 M q lv (.long r :: st) n' (sysH (ov I' S) (ovJ J' T) X') Q) : Ev xl xs F L B1 B2 M pc lv (v0 :: .ref b :: st) n (sysH (ov I S) (ovJ J T) X) Q :=
  ev_callQV (As := [v0]) (rest := st) (b1 := 0) (b2 := 0) (P := fun r2 n2 h2 => r2 = (some (.long r)) ∧ n2 = n' ∧ ∃ S2 T2, h2 = sysH (ov I' S2) (ovJ J' T2) X') d ca rfl hc hbn hcr hcl hlen hw hF hL (Nat.zero_le _) (Nat.zero_le _) (hR S T _ (fun S2 T2 => ⟨rfl, rfl, S2, T2, rfl⟩)) hq (fun r2 n2 h2 hz => by obtain ⟨rfl, rfl, S2, T2, rfl⟩ := hz; exact k S2 T2)
theorem ev_callV1vS {idx F' L' : Nat} {M' : Mt} {v0 : Value} {b ci : Nat} {fs : List Value} {cr : vw_C} {n' : Nat} (d : decode M.2.1 pc = .ok (.invokevirtual idx, 3)) (ca : CV M.1.cls idx M' 1) (hR : RnS xl xs F' L' 0 0 M' [.ref b, v0] n I J X none n' I' J' X') (hc : sysH (ov I S) (ovJ J T) X b = .inr (ci, fs)) (hbn : b < n) (hcr : vwCl[ci]? = some cr) (hcl : cr.1 = M'.1.cls) (hlen : (entA [.ref b, v0]).length ≤ M'.2.2.1) (hw : (st.map fun v => v.category).sum ≤ 8) (hF : F' + 1 ≤ F) (hL : 19 + M'.2.2.1 + L' ≤ L) (hq : pc + 3 = q) (k : ∀ S T, Ev xl xs F L B1 B2 M q lv st n' (sysH (ov I' S) (ovJ J' T) X') Q) : Ev xl xs F L B1 B2 M pc lv (v0 :: .ref b :: st) n (sysH (ov I S) (ovJ J T) X) Q :=
  ev_callQV (As := [v0]) (rest := st) (b1 := 0) (b2 := 0) (P := fun r2 n2 h2 => r2 = none ∧ n2 = n' ∧ ∃ S2 T2, h2 = sysH (ov I' S2) (ovJ J' T2) X') d ca rfl hc hbn hcr hcl hlen hw hF hL (Nat.zero_le _) (Nat.zero_le _) (hR S T _ (fun S2 T2 => ⟨rfl, rfl, S2, T2, rfl⟩)) hq (fun r2 n2 h2 hz => by obtain ⟨rfl, rfl, S2, T2, rfl⟩ := hz; exact k S2 T2)
theorem ev_callV2iS {idx F' L' : Nat} {M' : Mt} {v0 v1 : Value} {b ci : Nat} {fs : List Value} {cr : vw_C} {r : Int32} {n' : Nat} (d : decode M.2.1 pc = .ok (.invokevirtual idx, 3)) (ca : CV M.1.cls idx M' 2) (hR : RnS xl xs F' L' 0 0 M' [.ref b, v0, v1] n I J X (some (.int r)) n' I' J' X') (hc : sysH (ov I S) (ovJ J T) X b = .inr (ci, fs)) (hbn : b < n) (hcr : vwCl[ci]? = some cr) (hcl : cr.1 = M'.1.cls) (hlen : (entA [.ref b, v0, v1]).length ≤ M'.2.2.1) (hw : (st.map fun v => v.category).sum ≤ 8) (hF : F' + 1 ≤ F) (hL : 19 + M'.2.2.1 + L' ≤ L) (hq : pc + 3 = q) (k : ∀ S T, Ev xl xs F L B1 B2 M q lv (.int r :: st) n' (sysH (ov I' S) (ovJ J' T) X') Q) : Ev xl xs F L B1 B2 M pc lv (v1 :: v0 :: .ref b :: st) n (sysH (ov I S) (ovJ J T) X) Q :=
  ev_callQV (As := [v0, v1]) (rest := st) (b1 := 0) (b2 := 0) (P := fun r2 n2 h2 => r2 = (some (.int r)) ∧ n2 = n' ∧ ∃ S2 T2, h2 = sysH (ov I' S2) (ovJ J' T2) X') d ca rfl hc hbn hcr hcl hlen hw hF hL (Nat.zero_le _) (Nat.zero_le _) (hR S T _ (fun S2 T2 => ⟨rfl, rfl, S2, T2, rfl⟩)) hq (fun r2 n2 h2 hz => by obtain ⟨rfl, rfl, S2, T2, rfl⟩ := hz; exact k S2 T2)
theorem ev_callV2lS {idx F' L' : Nat} {M' : Mt} {v0 v1 : Value} {b ci : Nat} {fs : List Value} {cr : vw_C} {r : Int64} {n' : Nat} (d : decode M.2.1 pc = .ok (.invokevirtual idx, 3)) (ca : CV M.1.cls idx M' 2) (hR : RnS xl xs F' L' 0 0 M' [.ref b, v0, v1] n I J X (some (.long r)) n' I' J' X') (hc : sysH (ov I S) (ovJ J T) X b = .inr (ci, fs)) (hbn : b < n) (hcr : vwCl[ci]? = some cr) (hcl : cr.1 = M'.1.cls) (hlen : (entA [.ref b, v0, v1]).length ≤ M'.2.2.1) (hw : (st.map fun v => v.category).sum ≤ 8) (hF : F' + 1 ≤ F) (hL : 19 + M'.2.2.1 + L' ≤ L) (hq : pc + 3 = q) (k : ∀ S T, Ev xl xs F L B1 B2 M q lv (.long r :: st) n' (sysH (ov I' S) (ovJ J' T) X') Q) : Ev xl xs F L B1 B2 M pc lv (v1 :: v0 :: .ref b :: st) n (sysH (ov I S) (ovJ J T) X) Q :=
  ev_callQV (As := [v0, v1]) (rest := st) (b1 := 0) (b2 := 0) (P := fun r2 n2 h2 => r2 = (some (.long r)) ∧ n2 = n' ∧ ∃ S2 T2, h2 = sysH (ov I' S2) (ovJ J' T2) X') d ca rfl hc hbn hcr hcl hlen hw hF hL (Nat.zero_le _) (Nat.zero_le _) (hR S T _ (fun S2 T2 => ⟨rfl, rfl, S2, T2, rfl⟩)) hq (fun r2 n2 h2 hz => by obtain ⟨rfl, rfl, S2, T2, rfl⟩ := hz; exact k S2 T2)
theorem ev_callV2vS {idx F' L' : Nat} {M' : Mt} {v0 v1 : Value} {b ci : Nat} {fs : List Value} {cr : vw_C} {n' : Nat} (d : decode M.2.1 pc = .ok (.invokevirtual idx, 3)) (ca : CV M.1.cls idx M' 2) (hR : RnS xl xs F' L' 0 0 M' [.ref b, v0, v1] n I J X none n' I' J' X') (hc : sysH (ov I S) (ovJ J T) X b = .inr (ci, fs)) (hbn : b < n) (hcr : vwCl[ci]? = some cr) (hcl : cr.1 = M'.1.cls) (hlen : (entA [.ref b, v0, v1]).length ≤ M'.2.2.1) (hw : (st.map fun v => v.category).sum ≤ 8) (hF : F' + 1 ≤ F) (hL : 19 + M'.2.2.1 + L' ≤ L) (hq : pc + 3 = q) (k : ∀ S T, Ev xl xs F L B1 B2 M q lv st n' (sysH (ov I' S) (ovJ J' T) X') Q) : Ev xl xs F L B1 B2 M pc lv (v1 :: v0 :: .ref b :: st) n (sysH (ov I S) (ovJ J T) X) Q :=
  ev_callQV (As := [v0, v1]) (rest := st) (b1 := 0) (b2 := 0) (P := fun r2 n2 h2 => r2 = none ∧ n2 = n' ∧ ∃ S2 T2, h2 = sysH (ov I' S2) (ovJ J' T2) X') d ca rfl hc hbn hcr hcl hlen hw hF hL (Nat.zero_le _) (Nat.zero_le _) (hR S T _ (fun S2 T2 => ⟨rfl, rfl, S2, T2, rfl⟩)) hq (fun r2 n2 h2 hz => by obtain ⟨rfl, rfl, S2, T2, rfl⟩ := hz; exact k S2 T2)
theorem ev_callV3iS {idx F' L' : Nat} {M' : Mt} {v0 v1 v2 : Value} {b ci : Nat} {fs : List Value} {cr : vw_C} {r : Int32} {n' : Nat} (d : decode M.2.1 pc = .ok (.invokevirtual idx, 3)) (ca : CV M.1.cls idx M' 3) (hR : RnS xl xs F' L' 0 0 M' [.ref b, v0, v1, v2] n I J X (some (.int r)) n' I' J' X') (hc : sysH (ov I S) (ovJ J T) X b = .inr (ci, fs)) (hbn : b < n) (hcr : vwCl[ci]? = some cr) (hcl : cr.1 = M'.1.cls) (hlen : (entA [.ref b, v0, v1, v2]).length ≤ M'.2.2.1) (hw : (st.map fun v => v.category).sum ≤ 8) (hF : F' + 1 ≤ F) (hL : 19 + M'.2.2.1 + L' ≤ L) (hq : pc + 3 = q) (k : ∀ S T, Ev xl xs F L B1 B2 M q lv (.int r :: st) n' (sysH (ov I' S) (ovJ J' T) X') Q) : Ev xl xs F L B1 B2 M pc lv (v2 :: v1 :: v0 :: .ref b :: st) n (sysH (ov I S) (ovJ J T) X) Q :=
  ev_callQV (As := [v0, v1, v2]) (rest := st) (b1 := 0) (b2 := 0) (P := fun r2 n2 h2 => r2 = (some (.int r)) ∧ n2 = n' ∧ ∃ S2 T2, h2 = sysH (ov I' S2) (ovJ J' T2) X') d ca rfl hc hbn hcr hcl hlen hw hF hL (Nat.zero_le _) (Nat.zero_le _) (hR S T _ (fun S2 T2 => ⟨rfl, rfl, S2, T2, rfl⟩)) hq (fun r2 n2 h2 hz => by obtain ⟨rfl, rfl, S2, T2, rfl⟩ := hz; exact k S2 T2)
theorem ev_callV3lS {idx F' L' : Nat} {M' : Mt} {v0 v1 v2 : Value} {b ci : Nat} {fs : List Value} {cr : vw_C} {r : Int64} {n' : Nat} (d : decode M.2.1 pc = .ok (.invokevirtual idx, 3)) (ca : CV M.1.cls idx M' 3) (hR : RnS xl xs F' L' 0 0 M' [.ref b, v0, v1, v2] n I J X (some (.long r)) n' I' J' X') (hc : sysH (ov I S) (ovJ J T) X b = .inr (ci, fs)) (hbn : b < n) (hcr : vwCl[ci]? = some cr) (hcl : cr.1 = M'.1.cls) (hlen : (entA [.ref b, v0, v1, v2]).length ≤ M'.2.2.1) (hw : (st.map fun v => v.category).sum ≤ 8) (hF : F' + 1 ≤ F) (hL : 19 + M'.2.2.1 + L' ≤ L) (hq : pc + 3 = q) (k : ∀ S T, Ev xl xs F L B1 B2 M q lv (.long r :: st) n' (sysH (ov I' S) (ovJ J' T) X') Q) : Ev xl xs F L B1 B2 M pc lv (v2 :: v1 :: v0 :: .ref b :: st) n (sysH (ov I S) (ovJ J T) X) Q :=
  ev_callQV (As := [v0, v1, v2]) (rest := st) (b1 := 0) (b2 := 0) (P := fun r2 n2 h2 => r2 = (some (.long r)) ∧ n2 = n' ∧ ∃ S2 T2, h2 = sysH (ov I' S2) (ovJ J' T2) X') d ca rfl hc hbn hcr hcl hlen hw hF hL (Nat.zero_le _) (Nat.zero_le _) (hR S T _ (fun S2 T2 => ⟨rfl, rfl, S2, T2, rfl⟩)) hq (fun r2 n2 h2 hz => by obtain ⟨rfl, rfl, S2, T2, rfl⟩ := hz; exact k S2 T2)
theorem ev_callV3vS {idx F' L' : Nat} {M' : Mt} {v0 v1 v2 : Value} {b ci : Nat} {fs : List Value} {cr : vw_C} {n' : Nat} (d : decode M.2.1 pc = .ok (.invokevirtual idx, 3)) (ca : CV M.1.cls idx M' 3) (hR : RnS xl xs F' L' 0 0 M' [.ref b, v0, v1, v2] n I J X none n' I' J' X') (hc : sysH (ov I S) (ovJ J T) X b = .inr (ci, fs)) (hbn : b < n) (hcr : vwCl[ci]? = some cr) (hcl : cr.1 = M'.1.cls) (hlen : (entA [.ref b, v0, v1, v2]).length ≤ M'.2.2.1) (hw : (st.map fun v => v.category).sum ≤ 8) (hF : F' + 1 ≤ F) (hL : 19 + M'.2.2.1 + L' ≤ L) (hq : pc + 3 = q) (k : ∀ S T, Ev xl xs F L B1 B2 M q lv st n' (sysH (ov I' S) (ovJ J' T) X') Q) : Ev xl xs F L B1 B2 M pc lv (v2 :: v1 :: v0 :: .ref b :: st) n (sysH (ov I S) (ovJ J T) X) Q :=
  ev_callQV (As := [v0, v1, v2]) (rest := st) (b1 := 0) (b2 := 0) (P := fun r2 n2 h2 => r2 = none ∧ n2 = n' ∧ ∃ S2 T2, h2 = sysH (ov I' S2) (ovJ J' T2) X') d ca rfl hc hbn hcr hcl hlen hw hF hL (Nat.zero_le _) (Nat.zero_le _) (hR S T _ (fun S2 T2 => ⟨rfl, rfl, S2, T2, rfl⟩)) hq (fun r2 n2 h2 hz => by obtain ⟨rfl, rfl, S2, T2, rfl⟩ := hz; exact k S2 T2)
theorem ev_callV4iS {idx F' L' : Nat} {M' : Mt} {v0 v1 v2 v3 : Value} {b ci : Nat} {fs : List Value} {cr : vw_C} {r : Int32} {n' : Nat} (d : decode M.2.1 pc = .ok (.invokevirtual idx, 3)) (ca : CV M.1.cls idx M' 4) (hR : RnS xl xs F' L' 0 0 M' [.ref b, v0, v1, v2, v3] n I J X (some (.int r)) n' I' J' X') (hc : sysH (ov I S) (ovJ J T) X b = .inr (ci, fs)) (hbn : b < n) (hcr : vwCl[ci]? = some cr) (hcl : cr.1 = M'.1.cls) (hlen : (entA [.ref b, v0, v1, v2, v3]).length ≤ M'.2.2.1) (hw : (st.map fun v => v.category).sum ≤ 8) (hF : F' + 1 ≤ F) (hL : 19 + M'.2.2.1 + L' ≤ L) (hq : pc + 3 = q) (k : ∀ S T, Ev xl xs F L B1 B2 M q lv (.int r :: st) n' (sysH (ov I' S) (ovJ J' T) X') Q) : Ev xl xs F L B1 B2 M pc lv (v3 :: v2 :: v1 :: v0 :: .ref b :: st) n (sysH (ov I S) (ovJ J T) X) Q :=
  ev_callQV (As := [v0, v1, v2, v3]) (rest := st) (b1 := 0) (b2 := 0) (P := fun r2 n2 h2 => r2 = (some (.int r)) ∧ n2 = n' ∧ ∃ S2 T2, h2 = sysH (ov I' S2) (ovJ J' T2) X') d ca rfl hc hbn hcr hcl hlen hw hF hL (Nat.zero_le _) (Nat.zero_le _) (hR S T _ (fun S2 T2 => ⟨rfl, rfl, S2, T2, rfl⟩)) hq (fun r2 n2 h2 hz => by obtain ⟨rfl, rfl, S2, T2, rfl⟩ := hz; exact k S2 T2)
theorem ev_callV4lS {idx F' L' : Nat} {M' : Mt} {v0 v1 v2 v3 : Value} {b ci : Nat} {fs : List Value} {cr : vw_C} {r : Int64} {n' : Nat} (d : decode M.2.1 pc = .ok (.invokevirtual idx, 3)) (ca : CV M.1.cls idx M' 4) (hR : RnS xl xs F' L' 0 0 M' [.ref b, v0, v1, v2, v3] n I J X (some (.long r)) n' I' J' X') (hc : sysH (ov I S) (ovJ J T) X b = .inr (ci, fs)) (hbn : b < n) (hcr : vwCl[ci]? = some cr) (hcl : cr.1 = M'.1.cls) (hlen : (entA [.ref b, v0, v1, v2, v3]).length ≤ M'.2.2.1) (hw : (st.map fun v => v.category).sum ≤ 8) (hF : F' + 1 ≤ F) (hL : 19 + M'.2.2.1 + L' ≤ L) (hq : pc + 3 = q) (k : ∀ S T, Ev xl xs F L B1 B2 M q lv (.long r :: st) n' (sysH (ov I' S) (ovJ J' T) X') Q) : Ev xl xs F L B1 B2 M pc lv (v3 :: v2 :: v1 :: v0 :: .ref b :: st) n (sysH (ov I S) (ovJ J T) X) Q :=
  ev_callQV (As := [v0, v1, v2, v3]) (rest := st) (b1 := 0) (b2 := 0) (P := fun r2 n2 h2 => r2 = (some (.long r)) ∧ n2 = n' ∧ ∃ S2 T2, h2 = sysH (ov I' S2) (ovJ J' T2) X') d ca rfl hc hbn hcr hcl hlen hw hF hL (Nat.zero_le _) (Nat.zero_le _) (hR S T _ (fun S2 T2 => ⟨rfl, rfl, S2, T2, rfl⟩)) hq (fun r2 n2 h2 hz => by obtain ⟨rfl, rfl, S2, T2, rfl⟩ := hz; exact k S2 T2)
theorem ev_callV4vS {idx F' L' : Nat} {M' : Mt} {v0 v1 v2 v3 : Value} {b ci : Nat} {fs : List Value} {cr : vw_C} {n' : Nat} (d : decode M.2.1 pc = .ok (.invokevirtual idx, 3)) (ca : CV M.1.cls idx M' 4) (hR : RnS xl xs F' L' 0 0 M' [.ref b, v0, v1, v2, v3] n I J X none n' I' J' X') (hc : sysH (ov I S) (ovJ J T) X b = .inr (ci, fs)) (hbn : b < n) (hcr : vwCl[ci]? = some cr) (hcl : cr.1 = M'.1.cls) (hlen : (entA [.ref b, v0, v1, v2, v3]).length ≤ M'.2.2.1) (hw : (st.map fun v => v.category).sum ≤ 8) (hF : F' + 1 ≤ F) (hL : 19 + M'.2.2.1 + L' ≤ L) (hq : pc + 3 = q) (k : ∀ S T, Ev xl xs F L B1 B2 M q lv st n' (sysH (ov I' S) (ovJ J' T) X') Q) : Ev xl xs F L B1 B2 M pc lv (v3 :: v2 :: v1 :: v0 :: .ref b :: st) n (sysH (ov I S) (ovJ J T) X) Q :=
  ev_callQV (As := [v0, v1, v2, v3]) (rest := st) (b1 := 0) (b2 := 0) (P := fun r2 n2 h2 => r2 = none ∧ n2 = n' ∧ ∃ S2 T2, h2 = sysH (ov I' S2) (ovJ J' T2) X') d ca rfl hc hbn hcr hcl hlen hw hF hL (Nat.zero_le _) (Nat.zero_le _) (hR S T _ (fun S2 T2 => ⟨rfl, rfl, S2, T2, rfl⟩)) hq (fun r2 n2 h2 hz => by obtain ⟨rfl, rfl, S2, T2, rfl⟩ := hz; exact k S2 T2)
theorem ev_callS0iS {idx F' L' : Nat} {M' : Mt} {r : Int32} {n' : Nat} (d : decode M.2.1 pc = .ok (.invokestatic idx, 3)) (ca : CS M.1.cls idx M' 0) (hR : RnS xl xs F' L' 0 0 M' [] n I J X (some (.int r)) n' I' J' X') (hlen : (entA []).length ≤ M'.2.2.1) (hw : (st.map fun v => v.category).sum ≤ 8) (hF : F' + 1 ≤ F) (hL : 19 + M'.2.2.1 + L' ≤ L) (hq : pc + 3 = q) (k : ∀ S T, Ev xl xs F L B1 B2 M q lv (.int r :: st) n' (sysH (ov I' S) (ovJ J' T) X') Q) : Ev xl xs F L B1 B2 M pc lv st n (sysH (ov I S) (ovJ J T) X) Q :=
  ev_callQS (As := []) (rest := st) (b1 := 0) (b2 := 0) (P := fun r2 n2 h2 => r2 = (some (.int r)) ∧ n2 = n' ∧ ∃ S2 T2, h2 = sysH (ov I' S2) (ovJ J' T2) X') d ca rfl hlen hw hF hL (Nat.zero_le _) (Nat.zero_le _) (hR S T _ (fun S2 T2 => ⟨rfl, rfl, S2, T2, rfl⟩)) hq (fun r2 n2 h2 hz => by obtain ⟨rfl, rfl, S2, T2, rfl⟩ := hz; exact k S2 T2)
theorem ev_callS0lS {idx F' L' : Nat} {M' : Mt} {r : Int64} {n' : Nat} (d : decode M.2.1 pc = .ok (.invokestatic idx, 3)) (ca : CS M.1.cls idx M' 0) (hR : RnS xl xs F' L' 0 0 M' [] n I J X (some (.long r)) n' I' J' X') (hlen : (entA []).length ≤ M'.2.2.1) (hw : (st.map fun v => v.category).sum ≤ 8) (hF : F' + 1 ≤ F) (hL : 19 + M'.2.2.1 + L' ≤ L) (hq : pc + 3 = q) (k : ∀ S T, Ev xl xs F L B1 B2 M q lv (.long r :: st) n' (sysH (ov I' S) (ovJ J' T) X') Q) : Ev xl xs F L B1 B2 M pc lv st n (sysH (ov I S) (ovJ J T) X) Q :=
  ev_callQS (As := []) (rest := st) (b1 := 0) (b2 := 0) (P := fun r2 n2 h2 => r2 = (some (.long r)) ∧ n2 = n' ∧ ∃ S2 T2, h2 = sysH (ov I' S2) (ovJ J' T2) X') d ca rfl hlen hw hF hL (Nat.zero_le _) (Nat.zero_le _) (hR S T _ (fun S2 T2 => ⟨rfl, rfl, S2, T2, rfl⟩)) hq (fun r2 n2 h2 hz => by obtain ⟨rfl, rfl, S2, T2, rfl⟩ := hz; exact k S2 T2)
theorem ev_callS0vS {idx F' L' : Nat} {M' : Mt} {n' : Nat} (d : decode M.2.1 pc = .ok (.invokestatic idx, 3)) (ca : CS M.1.cls idx M' 0) (hR : RnS xl xs F' L' 0 0 M' [] n I J X none n' I' J' X') (hlen : (entA []).length ≤ M'.2.2.1) (hw : (st.map fun v => v.category).sum ≤ 8) (hF : F' + 1 ≤ F) (hL : 19 + M'.2.2.1 + L' ≤ L) (hq : pc + 3 = q) (k : ∀ S T, Ev xl xs F L B1 B2 M q lv st n' (sysH (ov I' S) (ovJ J' T) X') Q) : Ev xl xs F L B1 B2 M pc lv st n (sysH (ov I S) (ovJ J T) X) Q :=
  ev_callQS (As := []) (rest := st) (b1 := 0) (b2 := 0) (P := fun r2 n2 h2 => r2 = none ∧ n2 = n' ∧ ∃ S2 T2, h2 = sysH (ov I' S2) (ovJ J' T2) X') d ca rfl hlen hw hF hL (Nat.zero_le _) (Nat.zero_le _) (hR S T _ (fun S2 T2 => ⟨rfl, rfl, S2, T2, rfl⟩)) hq (fun r2 n2 h2 hz => by obtain ⟨rfl, rfl, S2, T2, rfl⟩ := hz; exact k S2 T2)
theorem ev_callS1iS {idx F' L' : Nat} {M' : Mt} {v0 : Value} {r : Int32} {n' : Nat} (d : decode M.2.1 pc = .ok (.invokestatic idx, 3)) (ca : CS M.1.cls idx M' 1) (hR : RnS xl xs F' L' 0 0 M' [v0] n I J X (some (.int r)) n' I' J' X') (hlen : (entA [v0]).length ≤ M'.2.2.1) (hw : (st.map fun v => v.category).sum ≤ 8) (hF : F' + 1 ≤ F) (hL : 19 + M'.2.2.1 + L' ≤ L) (hq : pc + 3 = q) (k : ∀ S T, Ev xl xs F L B1 B2 M q lv (.int r :: st) n' (sysH (ov I' S) (ovJ J' T) X') Q) : Ev xl xs F L B1 B2 M pc lv (v0 :: st) n (sysH (ov I S) (ovJ J T) X) Q :=
  ev_callQS (As := [v0]) (rest := st) (b1 := 0) (b2 := 0) (P := fun r2 n2 h2 => r2 = (some (.int r)) ∧ n2 = n' ∧ ∃ S2 T2, h2 = sysH (ov I' S2) (ovJ J' T2) X') d ca rfl hlen hw hF hL (Nat.zero_le _) (Nat.zero_le _) (hR S T _ (fun S2 T2 => ⟨rfl, rfl, S2, T2, rfl⟩)) hq (fun r2 n2 h2 hz => by obtain ⟨rfl, rfl, S2, T2, rfl⟩ := hz; exact k S2 T2)
theorem ev_callS1lS {idx F' L' : Nat} {M' : Mt} {v0 : Value} {r : Int64} {n' : Nat} (d : decode M.2.1 pc = .ok (.invokestatic idx, 3)) (ca : CS M.1.cls idx M' 1) (hR : RnS xl xs F' L' 0 0 M' [v0] n I J X (some (.long r)) n' I' J' X') (hlen : (entA [v0]).length ≤ M'.2.2.1) (hw : (st.map fun v => v.category).sum ≤ 8) (hF : F' + 1 ≤ F) (hL : 19 + M'.2.2.1 + L' ≤ L) (hq : pc + 3 = q) (k : ∀ S T, Ev xl xs F L B1 B2 M q lv (.long r :: st) n' (sysH (ov I' S) (ovJ J' T) X') Q) : Ev xl xs F L B1 B2 M pc lv (v0 :: st) n (sysH (ov I S) (ovJ J T) X) Q :=
  ev_callQS (As := [v0]) (rest := st) (b1 := 0) (b2 := 0) (P := fun r2 n2 h2 => r2 = (some (.long r)) ∧ n2 = n' ∧ ∃ S2 T2, h2 = sysH (ov I' S2) (ovJ J' T2) X') d ca rfl hlen hw hF hL (Nat.zero_le _) (Nat.zero_le _) (hR S T _ (fun S2 T2 => ⟨rfl, rfl, S2, T2, rfl⟩)) hq (fun r2 n2 h2 hz => by obtain ⟨rfl, rfl, S2, T2, rfl⟩ := hz; exact k S2 T2)
theorem ev_callS1vS {idx F' L' : Nat} {M' : Mt} {v0 : Value} {n' : Nat} (d : decode M.2.1 pc = .ok (.invokestatic idx, 3)) (ca : CS M.1.cls idx M' 1) (hR : RnS xl xs F' L' 0 0 M' [v0] n I J X none n' I' J' X') (hlen : (entA [v0]).length ≤ M'.2.2.1) (hw : (st.map fun v => v.category).sum ≤ 8) (hF : F' + 1 ≤ F) (hL : 19 + M'.2.2.1 + L' ≤ L) (hq : pc + 3 = q) (k : ∀ S T, Ev xl xs F L B1 B2 M q lv st n' (sysH (ov I' S) (ovJ J' T) X') Q) : Ev xl xs F L B1 B2 M pc lv (v0 :: st) n (sysH (ov I S) (ovJ J T) X) Q :=
  ev_callQS (As := [v0]) (rest := st) (b1 := 0) (b2 := 0) (P := fun r2 n2 h2 => r2 = none ∧ n2 = n' ∧ ∃ S2 T2, h2 = sysH (ov I' S2) (ovJ J' T2) X') d ca rfl hlen hw hF hL (Nat.zero_le _) (Nat.zero_le _) (hR S T _ (fun S2 T2 => ⟨rfl, rfl, S2, T2, rfl⟩)) hq (fun r2 n2 h2 hz => by obtain ⟨rfl, rfl, S2, T2, rfl⟩ := hz; exact k S2 T2)
theorem ev_callS2iS {idx F' L' : Nat} {M' : Mt} {v0 v1 : Value} {r : Int32} {n' : Nat} (d : decode M.2.1 pc = .ok (.invokestatic idx, 3)) (ca : CS M.1.cls idx M' 2) (hR : RnS xl xs F' L' 0 0 M' [v0, v1] n I J X (some (.int r)) n' I' J' X') (hlen : (entA [v0, v1]).length ≤ M'.2.2.1) (hw : (st.map fun v => v.category).sum ≤ 8) (hF : F' + 1 ≤ F) (hL : 19 + M'.2.2.1 + L' ≤ L) (hq : pc + 3 = q) (k : ∀ S T, Ev xl xs F L B1 B2 M q lv (.int r :: st) n' (sysH (ov I' S) (ovJ J' T) X') Q) : Ev xl xs F L B1 B2 M pc lv (v1 :: v0 :: st) n (sysH (ov I S) (ovJ J T) X) Q :=
  ev_callQS (As := [v0, v1]) (rest := st) (b1 := 0) (b2 := 0) (P := fun r2 n2 h2 => r2 = (some (.int r)) ∧ n2 = n' ∧ ∃ S2 T2, h2 = sysH (ov I' S2) (ovJ J' T2) X') d ca rfl hlen hw hF hL (Nat.zero_le _) (Nat.zero_le _) (hR S T _ (fun S2 T2 => ⟨rfl, rfl, S2, T2, rfl⟩)) hq (fun r2 n2 h2 hz => by obtain ⟨rfl, rfl, S2, T2, rfl⟩ := hz; exact k S2 T2)
theorem ev_callS2lS {idx F' L' : Nat} {M' : Mt} {v0 v1 : Value} {r : Int64} {n' : Nat} (d : decode M.2.1 pc = .ok (.invokestatic idx, 3)) (ca : CS M.1.cls idx M' 2) (hR : RnS xl xs F' L' 0 0 M' [v0, v1] n I J X (some (.long r)) n' I' J' X') (hlen : (entA [v0, v1]).length ≤ M'.2.2.1) (hw : (st.map fun v => v.category).sum ≤ 8) (hF : F' + 1 ≤ F) (hL : 19 + M'.2.2.1 + L' ≤ L) (hq : pc + 3 = q) (k : ∀ S T, Ev xl xs F L B1 B2 M q lv (.long r :: st) n' (sysH (ov I' S) (ovJ J' T) X') Q) : Ev xl xs F L B1 B2 M pc lv (v1 :: v0 :: st) n (sysH (ov I S) (ovJ J T) X) Q :=
  ev_callQS (As := [v0, v1]) (rest := st) (b1 := 0) (b2 := 0) (P := fun r2 n2 h2 => r2 = (some (.long r)) ∧ n2 = n' ∧ ∃ S2 T2, h2 = sysH (ov I' S2) (ovJ J' T2) X') d ca rfl hlen hw hF hL (Nat.zero_le _) (Nat.zero_le _) (hR S T _ (fun S2 T2 => ⟨rfl, rfl, S2, T2, rfl⟩)) hq (fun r2 n2 h2 hz => by obtain ⟨rfl, rfl, S2, T2, rfl⟩ := hz; exact k S2 T2)
theorem ev_callS2vS {idx F' L' : Nat} {M' : Mt} {v0 v1 : Value} {n' : Nat} (d : decode M.2.1 pc = .ok (.invokestatic idx, 3)) (ca : CS M.1.cls idx M' 2) (hR : RnS xl xs F' L' 0 0 M' [v0, v1] n I J X none n' I' J' X') (hlen : (entA [v0, v1]).length ≤ M'.2.2.1) (hw : (st.map fun v => v.category).sum ≤ 8) (hF : F' + 1 ≤ F) (hL : 19 + M'.2.2.1 + L' ≤ L) (hq : pc + 3 = q) (k : ∀ S T, Ev xl xs F L B1 B2 M q lv st n' (sysH (ov I' S) (ovJ J' T) X') Q) : Ev xl xs F L B1 B2 M pc lv (v1 :: v0 :: st) n (sysH (ov I S) (ovJ J T) X) Q :=
  ev_callQS (As := [v0, v1]) (rest := st) (b1 := 0) (b2 := 0) (P := fun r2 n2 h2 => r2 = none ∧ n2 = n' ∧ ∃ S2 T2, h2 = sysH (ov I' S2) (ovJ J' T2) X') d ca rfl hlen hw hF hL (Nat.zero_le _) (Nat.zero_le _) (hR S T _ (fun S2 T2 => ⟨rfl, rfl, S2, T2, rfl⟩)) hq (fun r2 n2 h2 hz => by obtain ⟨rfl, rfl, S2, T2, rfl⟩ := hz; exact k S2 T2)
theorem ev_callS3iS {idx F' L' : Nat} {M' : Mt} {v0 v1 v2 : Value} {r : Int32} {n' : Nat} (d : decode M.2.1 pc = .ok (.invokestatic idx, 3)) (ca : CS M.1.cls idx M' 3) (hR : RnS xl xs F' L' 0 0 M' [v0, v1, v2] n I J X (some (.int r)) n' I' J' X') (hlen : (entA [v0, v1, v2]).length ≤ M'.2.2.1) (hw : (st.map fun v => v.category).sum ≤ 8) (hF : F' + 1 ≤ F) (hL : 19 + M'.2.2.1 + L' ≤ L) (hq : pc + 3 = q) (k : ∀ S T, Ev xl xs F L B1 B2 M q lv (.int r :: st) n' (sysH (ov I' S) (ovJ J' T) X') Q) : Ev xl xs F L B1 B2 M pc lv (v2 :: v1 :: v0 :: st) n (sysH (ov I S) (ovJ J T) X) Q :=
  ev_callQS (As := [v0, v1, v2]) (rest := st) (b1 := 0) (b2 := 0) (P := fun r2 n2 h2 => r2 = (some (.int r)) ∧ n2 = n' ∧ ∃ S2 T2, h2 = sysH (ov I' S2) (ovJ J' T2) X') d ca rfl hlen hw hF hL (Nat.zero_le _) (Nat.zero_le _) (hR S T _ (fun S2 T2 => ⟨rfl, rfl, S2, T2, rfl⟩)) hq (fun r2 n2 h2 hz => by obtain ⟨rfl, rfl, S2, T2, rfl⟩ := hz; exact k S2 T2)
theorem ev_callS3lS {idx F' L' : Nat} {M' : Mt} {v0 v1 v2 : Value} {r : Int64} {n' : Nat} (d : decode M.2.1 pc = .ok (.invokestatic idx, 3)) (ca : CS M.1.cls idx M' 3) (hR : RnS xl xs F' L' 0 0 M' [v0, v1, v2] n I J X (some (.long r)) n' I' J' X') (hlen : (entA [v0, v1, v2]).length ≤ M'.2.2.1) (hw : (st.map fun v => v.category).sum ≤ 8) (hF : F' + 1 ≤ F) (hL : 19 + M'.2.2.1 + L' ≤ L) (hq : pc + 3 = q) (k : ∀ S T, Ev xl xs F L B1 B2 M q lv (.long r :: st) n' (sysH (ov I' S) (ovJ J' T) X') Q) : Ev xl xs F L B1 B2 M pc lv (v2 :: v1 :: v0 :: st) n (sysH (ov I S) (ovJ J T) X) Q :=
  ev_callQS (As := [v0, v1, v2]) (rest := st) (b1 := 0) (b2 := 0) (P := fun r2 n2 h2 => r2 = (some (.long r)) ∧ n2 = n' ∧ ∃ S2 T2, h2 = sysH (ov I' S2) (ovJ J' T2) X') d ca rfl hlen hw hF hL (Nat.zero_le _) (Nat.zero_le _) (hR S T _ (fun S2 T2 => ⟨rfl, rfl, S2, T2, rfl⟩)) hq (fun r2 n2 h2 hz => by obtain ⟨rfl, rfl, S2, T2, rfl⟩ := hz; exact k S2 T2)
theorem ev_callS3vS {idx F' L' : Nat} {M' : Mt} {v0 v1 v2 : Value} {n' : Nat} (d : decode M.2.1 pc = .ok (.invokestatic idx, 3)) (ca : CS M.1.cls idx M' 3) (hR : RnS xl xs F' L' 0 0 M' [v0, v1, v2] n I J X none n' I' J' X') (hlen : (entA [v0, v1, v2]).length ≤ M'.2.2.1) (hw : (st.map fun v => v.category).sum ≤ 8) (hF : F' + 1 ≤ F) (hL : 19 + M'.2.2.1 + L' ≤ L) (hq : pc + 3 = q) (k : ∀ S T, Ev xl xs F L B1 B2 M q lv st n' (sysH (ov I' S) (ovJ J' T) X') Q) : Ev xl xs F L B1 B2 M pc lv (v2 :: v1 :: v0 :: st) n (sysH (ov I S) (ovJ J T) X) Q :=
  ev_callQS (As := [v0, v1, v2]) (rest := st) (b1 := 0) (b2 := 0) (P := fun r2 n2 h2 => r2 = none ∧ n2 = n' ∧ ∃ S2 T2, h2 = sysH (ov I' S2) (ovJ J' T2) X') d ca rfl hlen hw hF hL (Nat.zero_le _) (Nat.zero_le _) (hR S T _ (fun S2 T2 => ⟨rfl, rfl, S2, T2, rfl⟩)) hq (fun r2 n2 h2 hz => by obtain ⟨rfl, rfl, S2, T2, rfl⟩ := hz; exact k S2 T2)
theorem ev_callS4iS {idx F' L' : Nat} {M' : Mt} {v0 v1 v2 v3 : Value} {r : Int32} {n' : Nat} (d : decode M.2.1 pc = .ok (.invokestatic idx, 3)) (ca : CS M.1.cls idx M' 4) (hR : RnS xl xs F' L' 0 0 M' [v0, v1, v2, v3] n I J X (some (.int r)) n' I' J' X') (hlen : (entA [v0, v1, v2, v3]).length ≤ M'.2.2.1) (hw : (st.map fun v => v.category).sum ≤ 8) (hF : F' + 1 ≤ F) (hL : 19 + M'.2.2.1 + L' ≤ L) (hq : pc + 3 = q) (k : ∀ S T, Ev xl xs F L B1 B2 M q lv (.int r :: st) n' (sysH (ov I' S) (ovJ J' T) X') Q) : Ev xl xs F L B1 B2 M pc lv (v3 :: v2 :: v1 :: v0 :: st) n (sysH (ov I S) (ovJ J T) X) Q :=
  ev_callQS (As := [v0, v1, v2, v3]) (rest := st) (b1 := 0) (b2 := 0) (P := fun r2 n2 h2 => r2 = (some (.int r)) ∧ n2 = n' ∧ ∃ S2 T2, h2 = sysH (ov I' S2) (ovJ J' T2) X') d ca rfl hlen hw hF hL (Nat.zero_le _) (Nat.zero_le _) (hR S T _ (fun S2 T2 => ⟨rfl, rfl, S2, T2, rfl⟩)) hq (fun r2 n2 h2 hz => by obtain ⟨rfl, rfl, S2, T2, rfl⟩ := hz; exact k S2 T2)
theorem ev_callS4lS {idx F' L' : Nat} {M' : Mt} {v0 v1 v2 v3 : Value} {r : Int64} {n' : Nat} (d : decode M.2.1 pc = .ok (.invokestatic idx, 3)) (ca : CS M.1.cls idx M' 4) (hR : RnS xl xs F' L' 0 0 M' [v0, v1, v2, v3] n I J X (some (.long r)) n' I' J' X') (hlen : (entA [v0, v1, v2, v3]).length ≤ M'.2.2.1) (hw : (st.map fun v => v.category).sum ≤ 8) (hF : F' + 1 ≤ F) (hL : 19 + M'.2.2.1 + L' ≤ L) (hq : pc + 3 = q) (k : ∀ S T, Ev xl xs F L B1 B2 M q lv (.long r :: st) n' (sysH (ov I' S) (ovJ J' T) X') Q) : Ev xl xs F L B1 B2 M pc lv (v3 :: v2 :: v1 :: v0 :: st) n (sysH (ov I S) (ovJ J T) X) Q :=
  ev_callQS (As := [v0, v1, v2, v3]) (rest := st) (b1 := 0) (b2 := 0) (P := fun r2 n2 h2 => r2 = (some (.long r)) ∧ n2 = n' ∧ ∃ S2 T2, h2 = sysH (ov I' S2) (ovJ J' T2) X') d ca rfl hlen hw hF hL (Nat.zero_le _) (Nat.zero_le _) (hR S T _ (fun S2 T2 => ⟨rfl, rfl, S2, T2, rfl⟩)) hq (fun r2 n2 h2 hz => by obtain ⟨rfl, rfl, S2, T2, rfl⟩ := hz; exact k S2 T2)
theorem ev_callS4vS {idx F' L' : Nat} {M' : Mt} {v0 v1 v2 v3 : Value} {n' : Nat} (d : decode M.2.1 pc = .ok (.invokestatic idx, 3)) (ca : CS M.1.cls idx M' 4) (hR : RnS xl xs F' L' 0 0 M' [v0, v1, v2, v3] n I J X none n' I' J' X') (hlen : (entA [v0, v1, v2, v3]).length ≤ M'.2.2.1) (hw : (st.map fun v => v.category).sum ≤ 8) (hF : F' + 1 ≤ F) (hL : 19 + M'.2.2.1 + L' ≤ L) (hq : pc + 3 = q) (k : ∀ S T, Ev xl xs F L B1 B2 M q lv st n' (sysH (ov I' S) (ovJ J' T) X') Q) : Ev xl xs F L B1 B2 M pc lv (v3 :: v2 :: v1 :: v0 :: st) n (sysH (ov I S) (ovJ J T) X) Q :=
  ev_callQS (As := [v0, v1, v2, v3]) (rest := st) (b1 := 0) (b2 := 0) (P := fun r2 n2 h2 => r2 = none ∧ n2 = n' ∧ ∃ S2 T2, h2 = sysH (ov I' S2) (ovJ J' T2) X') d ca rfl hlen hw hF hL (Nat.zero_le _) (Nat.zero_le _) (hR S T _ (fun S2 T2 => ⟨rfl, rfl, S2, T2, rfl⟩)) hq (fun r2 n2 h2 hz => by obtain ⟨rfl, rfl, S2, T2, rfl⟩ := hz; exact k S2 T2)
theorem ev_callSn0iS {idx F' L' : Nat} {M' : Mt} {r : Int32} {n' : Nat} (d : decode M.2.1 pc = .ok (.invokestatic idx, 3)) (ca : CSn M.1.cls idx M' 0) (hR : RnS xl xs F' L' 0 0 M' [] n I J X (some (.int r)) n' I' J' X') (hlen : (entA []).length ≤ M'.2.2.1) (hw : (st.map fun v => v.category).sum ≤ 8) (hF : F' + 1 ≤ F) (hL : 19 + M'.2.2.1 + L' ≤ L) (hq : pc + 3 = q) (k : ∀ S T, Ev xl xs F L B1 B2 M q lv (.int r :: st) n' (sysH (ov I' S) (ovJ J' T) X') Q) : Ev xl xs F L B1 B2 M pc lv st n (sysH (ov I S) (ovJ J T) X) Q :=
  ev_callQSn (As := []) (rest := st) (b1 := 0) (b2 := 0) (P := fun r2 n2 h2 => r2 = (some (.int r)) ∧ n2 = n' ∧ ∃ S2 T2, h2 = sysH (ov I' S2) (ovJ J' T2) X') d ca rfl hlen hw hF hL (Nat.zero_le _) (Nat.zero_le _) (hR S T _ (fun S2 T2 => ⟨rfl, rfl, S2, T2, rfl⟩)) hq (fun r2 n2 h2 hz => by obtain ⟨rfl, rfl, S2, T2, rfl⟩ := hz; exact k S2 T2)
theorem ev_callSn0lS {idx F' L' : Nat} {M' : Mt} {r : Int64} {n' : Nat} (d : decode M.2.1 pc = .ok (.invokestatic idx, 3)) (ca : CSn M.1.cls idx M' 0) (hR : RnS xl xs F' L' 0 0 M' [] n I J X (some (.long r)) n' I' J' X') (hlen : (entA []).length ≤ M'.2.2.1) (hw : (st.map fun v => v.category).sum ≤ 8) (hF : F' + 1 ≤ F) (hL : 19 + M'.2.2.1 + L' ≤ L) (hq : pc + 3 = q) (k : ∀ S T, Ev xl xs F L B1 B2 M q lv (.long r :: st) n' (sysH (ov I' S) (ovJ J' T) X') Q) : Ev xl xs F L B1 B2 M pc lv st n (sysH (ov I S) (ovJ J T) X) Q :=
  ev_callQSn (As := []) (rest := st) (b1 := 0) (b2 := 0) (P := fun r2 n2 h2 => r2 = (some (.long r)) ∧ n2 = n' ∧ ∃ S2 T2, h2 = sysH (ov I' S2) (ovJ J' T2) X') d ca rfl hlen hw hF hL (Nat.zero_le _) (Nat.zero_le _) (hR S T _ (fun S2 T2 => ⟨rfl, rfl, S2, T2, rfl⟩)) hq (fun r2 n2 h2 hz => by obtain ⟨rfl, rfl, S2, T2, rfl⟩ := hz; exact k S2 T2)
theorem ev_callSn0vS {idx F' L' : Nat} {M' : Mt} {n' : Nat} (d : decode M.2.1 pc = .ok (.invokestatic idx, 3)) (ca : CSn M.1.cls idx M' 0) (hR : RnS xl xs F' L' 0 0 M' [] n I J X none n' I' J' X') (hlen : (entA []).length ≤ M'.2.2.1) (hw : (st.map fun v => v.category).sum ≤ 8) (hF : F' + 1 ≤ F) (hL : 19 + M'.2.2.1 + L' ≤ L) (hq : pc + 3 = q) (k : ∀ S T, Ev xl xs F L B1 B2 M q lv st n' (sysH (ov I' S) (ovJ J' T) X') Q) : Ev xl xs F L B1 B2 M pc lv st n (sysH (ov I S) (ovJ J T) X) Q :=
  ev_callQSn (As := []) (rest := st) (b1 := 0) (b2 := 0) (P := fun r2 n2 h2 => r2 = none ∧ n2 = n' ∧ ∃ S2 T2, h2 = sysH (ov I' S2) (ovJ J' T2) X') d ca rfl hlen hw hF hL (Nat.zero_le _) (Nat.zero_le _) (hR S T _ (fun S2 T2 => ⟨rfl, rfl, S2, T2, rfl⟩)) hq (fun r2 n2 h2 hz => by obtain ⟨rfl, rfl, S2, T2, rfl⟩ := hz; exact k S2 T2)
theorem ev_callSn1iS {idx F' L' : Nat} {M' : Mt} {v0 : Value} {r : Int32} {n' : Nat} (d : decode M.2.1 pc = .ok (.invokestatic idx, 3)) (ca : CSn M.1.cls idx M' 1) (hR : RnS xl xs F' L' 0 0 M' [v0] n I J X (some (.int r)) n' I' J' X') (hlen : (entA [v0]).length ≤ M'.2.2.1) (hw : (st.map fun v => v.category).sum ≤ 8) (hF : F' + 1 ≤ F) (hL : 19 + M'.2.2.1 + L' ≤ L) (hq : pc + 3 = q) (k : ∀ S T, Ev xl xs F L B1 B2 M q lv (.int r :: st) n' (sysH (ov I' S) (ovJ J' T) X') Q) : Ev xl xs F L B1 B2 M pc lv (v0 :: st) n (sysH (ov I S) (ovJ J T) X) Q :=
  ev_callQSn (As := [v0]) (rest := st) (b1 := 0) (b2 := 0) (P := fun r2 n2 h2 => r2 = (some (.int r)) ∧ n2 = n' ∧ ∃ S2 T2, h2 = sysH (ov I' S2) (ovJ J' T2) X') d ca rfl hlen hw hF hL (Nat.zero_le _) (Nat.zero_le _) (hR S T _ (fun S2 T2 => ⟨rfl, rfl, S2, T2, rfl⟩)) hq (fun r2 n2 h2 hz => by obtain ⟨rfl, rfl, S2, T2, rfl⟩ := hz; exact k S2 T2)
theorem ev_callSn1lS {idx F' L' : Nat} {M' : Mt} {v0 : Value} {r : Int64} {n' : Nat} (d : decode M.2.1 pc = .ok (.invokestatic idx, 3)) (ca : CSn M.1.cls idx M' 1) (hR : RnS xl xs F' L' 0 0 M' [v0] n I J X (some (.long r)) n' I' J' X') (hlen : (entA [v0]).length ≤ M'.2.2.1) (hw : (st.map fun v => v.category).sum ≤ 8) (hF : F' + 1 ≤ F) (hL : 19 + M'.2.2.1 + L' ≤ L) (hq : pc + 3 = q) (k : ∀ S T, Ev xl xs F L B1 B2 M q lv (.long r :: st) n' (sysH (ov I' S) (ovJ J' T) X') Q) : Ev xl xs F L B1 B2 M pc lv (v0 :: st) n (sysH (ov I S) (ovJ J T) X) Q :=
  ev_callQSn (As := [v0]) (rest := st) (b1 := 0) (b2 := 0) (P := fun r2 n2 h2 => r2 = (some (.long r)) ∧ n2 = n' ∧ ∃ S2 T2, h2 = sysH (ov I' S2) (ovJ J' T2) X') d ca rfl hlen hw hF hL (Nat.zero_le _) (Nat.zero_le _) (hR S T _ (fun S2 T2 => ⟨rfl, rfl, S2, T2, rfl⟩)) hq (fun r2 n2 h2 hz => by obtain ⟨rfl, rfl, S2, T2, rfl⟩ := hz; exact k S2 T2)
theorem ev_callSn1vS {idx F' L' : Nat} {M' : Mt} {v0 : Value} {n' : Nat} (d : decode M.2.1 pc = .ok (.invokestatic idx, 3)) (ca : CSn M.1.cls idx M' 1) (hR : RnS xl xs F' L' 0 0 M' [v0] n I J X none n' I' J' X') (hlen : (entA [v0]).length ≤ M'.2.2.1) (hw : (st.map fun v => v.category).sum ≤ 8) (hF : F' + 1 ≤ F) (hL : 19 + M'.2.2.1 + L' ≤ L) (hq : pc + 3 = q) (k : ∀ S T, Ev xl xs F L B1 B2 M q lv st n' (sysH (ov I' S) (ovJ J' T) X') Q) : Ev xl xs F L B1 B2 M pc lv (v0 :: st) n (sysH (ov I S) (ovJ J T) X) Q :=
  ev_callQSn (As := [v0]) (rest := st) (b1 := 0) (b2 := 0) (P := fun r2 n2 h2 => r2 = none ∧ n2 = n' ∧ ∃ S2 T2, h2 = sysH (ov I' S2) (ovJ J' T2) X') d ca rfl hlen hw hF hL (Nat.zero_le _) (Nat.zero_le _) (hR S T _ (fun S2 T2 => ⟨rfl, rfl, S2, T2, rfl⟩)) hq (fun r2 n2 h2 hz => by obtain ⟨rfl, rfl, S2, T2, rfl⟩ := hz; exact k S2 T2)
theorem ev_callSn2iS {idx F' L' : Nat} {M' : Mt} {v0 v1 : Value} {r : Int32} {n' : Nat} (d : decode M.2.1 pc = .ok (.invokestatic idx, 3)) (ca : CSn M.1.cls idx M' 2) (hR : RnS xl xs F' L' 0 0 M' [v0, v1] n I J X (some (.int r)) n' I' J' X') (hlen : (entA [v0, v1]).length ≤ M'.2.2.1) (hw : (st.map fun v => v.category).sum ≤ 8) (hF : F' + 1 ≤ F) (hL : 19 + M'.2.2.1 + L' ≤ L) (hq : pc + 3 = q) (k : ∀ S T, Ev xl xs F L B1 B2 M q lv (.int r :: st) n' (sysH (ov I' S) (ovJ J' T) X') Q) : Ev xl xs F L B1 B2 M pc lv (v1 :: v0 :: st) n (sysH (ov I S) (ovJ J T) X) Q :=
  ev_callQSn (As := [v0, v1]) (rest := st) (b1 := 0) (b2 := 0) (P := fun r2 n2 h2 => r2 = (some (.int r)) ∧ n2 = n' ∧ ∃ S2 T2, h2 = sysH (ov I' S2) (ovJ J' T2) X') d ca rfl hlen hw hF hL (Nat.zero_le _) (Nat.zero_le _) (hR S T _ (fun S2 T2 => ⟨rfl, rfl, S2, T2, rfl⟩)) hq (fun r2 n2 h2 hz => by obtain ⟨rfl, rfl, S2, T2, rfl⟩ := hz; exact k S2 T2)
theorem ev_callSn2lS {idx F' L' : Nat} {M' : Mt} {v0 v1 : Value} {r : Int64} {n' : Nat} (d : decode M.2.1 pc = .ok (.invokestatic idx, 3)) (ca : CSn M.1.cls idx M' 2) (hR : RnS xl xs F' L' 0 0 M' [v0, v1] n I J X (some (.long r)) n' I' J' X') (hlen : (entA [v0, v1]).length ≤ M'.2.2.1) (hw : (st.map fun v => v.category).sum ≤ 8) (hF : F' + 1 ≤ F) (hL : 19 + M'.2.2.1 + L' ≤ L) (hq : pc + 3 = q) (k : ∀ S T, Ev xl xs F L B1 B2 M q lv (.long r :: st) n' (sysH (ov I' S) (ovJ J' T) X') Q) : Ev xl xs F L B1 B2 M pc lv (v1 :: v0 :: st) n (sysH (ov I S) (ovJ J T) X) Q :=
  ev_callQSn (As := [v0, v1]) (rest := st) (b1 := 0) (b2 := 0) (P := fun r2 n2 h2 => r2 = (some (.long r)) ∧ n2 = n' ∧ ∃ S2 T2, h2 = sysH (ov I' S2) (ovJ J' T2) X') d ca rfl hlen hw hF hL (Nat.zero_le _) (Nat.zero_le _) (hR S T _ (fun S2 T2 => ⟨rfl, rfl, S2, T2, rfl⟩)) hq (fun r2 n2 h2 hz => by obtain ⟨rfl, rfl, S2, T2, rfl⟩ := hz; exact k S2 T2)
theorem ev_callSn2vS {idx F' L' : Nat} {M' : Mt} {v0 v1 : Value} {n' : Nat} (d : decode M.2.1 pc = .ok (.invokestatic idx, 3)) (ca : CSn M.1.cls idx M' 2) (hR : RnS xl xs F' L' 0 0 M' [v0, v1] n I J X none n' I' J' X') (hlen : (entA [v0, v1]).length ≤ M'.2.2.1) (hw : (st.map fun v => v.category).sum ≤ 8) (hF : F' + 1 ≤ F) (hL : 19 + M'.2.2.1 + L' ≤ L) (hq : pc + 3 = q) (k : ∀ S T, Ev xl xs F L B1 B2 M q lv st n' (sysH (ov I' S) (ovJ J' T) X') Q) : Ev xl xs F L B1 B2 M pc lv (v1 :: v0 :: st) n (sysH (ov I S) (ovJ J T) X) Q :=
  ev_callQSn (As := [v0, v1]) (rest := st) (b1 := 0) (b2 := 0) (P := fun r2 n2 h2 => r2 = none ∧ n2 = n' ∧ ∃ S2 T2, h2 = sysH (ov I' S2) (ovJ J' T2) X') d ca rfl hlen hw hF hL (Nat.zero_le _) (Nat.zero_le _) (hR S T _ (fun S2 T2 => ⟨rfl, rfl, S2, T2, rfl⟩)) hq (fun r2 n2 h2 hz => by obtain ⟨rfl, rfl, S2, T2, rfl⟩ := hz; exact k S2 T2)
theorem ev_callSn3iS {idx F' L' : Nat} {M' : Mt} {v0 v1 v2 : Value} {r : Int32} {n' : Nat} (d : decode M.2.1 pc = .ok (.invokestatic idx, 3)) (ca : CSn M.1.cls idx M' 3) (hR : RnS xl xs F' L' 0 0 M' [v0, v1, v2] n I J X (some (.int r)) n' I' J' X') (hlen : (entA [v0, v1, v2]).length ≤ M'.2.2.1) (hw : (st.map fun v => v.category).sum ≤ 8) (hF : F' + 1 ≤ F) (hL : 19 + M'.2.2.1 + L' ≤ L) (hq : pc + 3 = q) (k : ∀ S T, Ev xl xs F L B1 B2 M q lv (.int r :: st) n' (sysH (ov I' S) (ovJ J' T) X') Q) : Ev xl xs F L B1 B2 M pc lv (v2 :: v1 :: v0 :: st) n (sysH (ov I S) (ovJ J T) X) Q :=
  ev_callQSn (As := [v0, v1, v2]) (rest := st) (b1 := 0) (b2 := 0) (P := fun r2 n2 h2 => r2 = (some (.int r)) ∧ n2 = n' ∧ ∃ S2 T2, h2 = sysH (ov I' S2) (ovJ J' T2) X') d ca rfl hlen hw hF hL (Nat.zero_le _) (Nat.zero_le _) (hR S T _ (fun S2 T2 => ⟨rfl, rfl, S2, T2, rfl⟩)) hq (fun r2 n2 h2 hz => by obtain ⟨rfl, rfl, S2, T2, rfl⟩ := hz; exact k S2 T2)
theorem ev_callSn3lS {idx F' L' : Nat} {M' : Mt} {v0 v1 v2 : Value} {r : Int64} {n' : Nat} (d : decode M.2.1 pc = .ok (.invokestatic idx, 3)) (ca : CSn M.1.cls idx M' 3) (hR : RnS xl xs F' L' 0 0 M' [v0, v1, v2] n I J X (some (.long r)) n' I' J' X') (hlen : (entA [v0, v1, v2]).length ≤ M'.2.2.1) (hw : (st.map fun v => v.category).sum ≤ 8) (hF : F' + 1 ≤ F) (hL : 19 + M'.2.2.1 + L' ≤ L) (hq : pc + 3 = q) (k : ∀ S T, Ev xl xs F L B1 B2 M q lv (.long r :: st) n' (sysH (ov I' S) (ovJ J' T) X') Q) : Ev xl xs F L B1 B2 M pc lv (v2 :: v1 :: v0 :: st) n (sysH (ov I S) (ovJ J T) X) Q :=
  ev_callQSn (As := [v0, v1, v2]) (rest := st) (b1 := 0) (b2 := 0) (P := fun r2 n2 h2 => r2 = (some (.long r)) ∧ n2 = n' ∧ ∃ S2 T2, h2 = sysH (ov I' S2) (ovJ J' T2) X') d ca rfl hlen hw hF hL (Nat.zero_le _) (Nat.zero_le _) (hR S T _ (fun S2 T2 => ⟨rfl, rfl, S2, T2, rfl⟩)) hq (fun r2 n2 h2 hz => by obtain ⟨rfl, rfl, S2, T2, rfl⟩ := hz; exact k S2 T2)
theorem ev_callSn3vS {idx F' L' : Nat} {M' : Mt} {v0 v1 v2 : Value} {n' : Nat} (d : decode M.2.1 pc = .ok (.invokestatic idx, 3)) (ca : CSn M.1.cls idx M' 3) (hR : RnS xl xs F' L' 0 0 M' [v0, v1, v2] n I J X none n' I' J' X') (hlen : (entA [v0, v1, v2]).length ≤ M'.2.2.1) (hw : (st.map fun v => v.category).sum ≤ 8) (hF : F' + 1 ≤ F) (hL : 19 + M'.2.2.1 + L' ≤ L) (hq : pc + 3 = q) (k : ∀ S T, Ev xl xs F L B1 B2 M q lv st n' (sysH (ov I' S) (ovJ J' T) X') Q) : Ev xl xs F L B1 B2 M pc lv (v2 :: v1 :: v0 :: st) n (sysH (ov I S) (ovJ J T) X) Q :=
  ev_callQSn (As := [v0, v1, v2]) (rest := st) (b1 := 0) (b2 := 0) (P := fun r2 n2 h2 => r2 = none ∧ n2 = n' ∧ ∃ S2 T2, h2 = sysH (ov I' S2) (ovJ J' T2) X') d ca rfl hlen hw hF hL (Nat.zero_le _) (Nat.zero_le _) (hR S T _ (fun S2 T2 => ⟨rfl, rfl, S2, T2, rfl⟩)) hq (fun r2 n2 h2 hz => by obtain ⟨rfl, rfl, S2, T2, rfl⟩ := hz; exact k S2 T2)
theorem ev_callSn4iS {idx F' L' : Nat} {M' : Mt} {v0 v1 v2 v3 : Value} {r : Int32} {n' : Nat} (d : decode M.2.1 pc = .ok (.invokestatic idx, 3)) (ca : CSn M.1.cls idx M' 4) (hR : RnS xl xs F' L' 0 0 M' [v0, v1, v2, v3] n I J X (some (.int r)) n' I' J' X') (hlen : (entA [v0, v1, v2, v3]).length ≤ M'.2.2.1) (hw : (st.map fun v => v.category).sum ≤ 8) (hF : F' + 1 ≤ F) (hL : 19 + M'.2.2.1 + L' ≤ L) (hq : pc + 3 = q) (k : ∀ S T, Ev xl xs F L B1 B2 M q lv (.int r :: st) n' (sysH (ov I' S) (ovJ J' T) X') Q) : Ev xl xs F L B1 B2 M pc lv (v3 :: v2 :: v1 :: v0 :: st) n (sysH (ov I S) (ovJ J T) X) Q :=
  ev_callQSn (As := [v0, v1, v2, v3]) (rest := st) (b1 := 0) (b2 := 0) (P := fun r2 n2 h2 => r2 = (some (.int r)) ∧ n2 = n' ∧ ∃ S2 T2, h2 = sysH (ov I' S2) (ovJ J' T2) X') d ca rfl hlen hw hF hL (Nat.zero_le _) (Nat.zero_le _) (hR S T _ (fun S2 T2 => ⟨rfl, rfl, S2, T2, rfl⟩)) hq (fun r2 n2 h2 hz => by obtain ⟨rfl, rfl, S2, T2, rfl⟩ := hz; exact k S2 T2)
theorem ev_callSn4lS {idx F' L' : Nat} {M' : Mt} {v0 v1 v2 v3 : Value} {r : Int64} {n' : Nat} (d : decode M.2.1 pc = .ok (.invokestatic idx, 3)) (ca : CSn M.1.cls idx M' 4) (hR : RnS xl xs F' L' 0 0 M' [v0, v1, v2, v3] n I J X (some (.long r)) n' I' J' X') (hlen : (entA [v0, v1, v2, v3]).length ≤ M'.2.2.1) (hw : (st.map fun v => v.category).sum ≤ 8) (hF : F' + 1 ≤ F) (hL : 19 + M'.2.2.1 + L' ≤ L) (hq : pc + 3 = q) (k : ∀ S T, Ev xl xs F L B1 B2 M q lv (.long r :: st) n' (sysH (ov I' S) (ovJ J' T) X') Q) : Ev xl xs F L B1 B2 M pc lv (v3 :: v2 :: v1 :: v0 :: st) n (sysH (ov I S) (ovJ J T) X) Q :=
  ev_callQSn (As := [v0, v1, v2, v3]) (rest := st) (b1 := 0) (b2 := 0) (P := fun r2 n2 h2 => r2 = (some (.long r)) ∧ n2 = n' ∧ ∃ S2 T2, h2 = sysH (ov I' S2) (ovJ J' T2) X') d ca rfl hlen hw hF hL (Nat.zero_le _) (Nat.zero_le _) (hR S T _ (fun S2 T2 => ⟨rfl, rfl, S2, T2, rfl⟩)) hq (fun r2 n2 h2 hz => by obtain ⟨rfl, rfl, S2, T2, rfl⟩ := hz; exact k S2 T2)
theorem ev_callSn4vS {idx F' L' : Nat} {M' : Mt} {v0 v1 v2 v3 : Value} {n' : Nat} (d : decode M.2.1 pc = .ok (.invokestatic idx, 3)) (ca : CSn M.1.cls idx M' 4) (hR : RnS xl xs F' L' 0 0 M' [v0, v1, v2, v3] n I J X none n' I' J' X') (hlen : (entA [v0, v1, v2, v3]).length ≤ M'.2.2.1) (hw : (st.map fun v => v.category).sum ≤ 8) (hF : F' + 1 ≤ F) (hL : 19 + M'.2.2.1 + L' ≤ L) (hq : pc + 3 = q) (k : ∀ S T, Ev xl xs F L B1 B2 M q lv st n' (sysH (ov I' S) (ovJ J' T) X') Q) : Ev xl xs F L B1 B2 M pc lv (v3 :: v2 :: v1 :: v0 :: st) n (sysH (ov I S) (ovJ J T) X) Q :=
  ev_callQSn (As := [v0, v1, v2, v3]) (rest := st) (b1 := 0) (b2 := 0) (P := fun r2 n2 h2 => r2 = none ∧ n2 = n' ∧ ∃ S2 T2, h2 = sysH (ov I' S2) (ovJ J' T2) X') d ca rfl hlen hw hF hL (Nat.zero_le _) (Nat.zero_le _) (hR S T _ (fun S2 T2 => ⟨rfl, rfl, S2, T2, rfl⟩)) hq (fun r2 n2 h2 hz => by obtain ⟨rfl, rfl, S2, T2, rfl⟩ := hz; exact k S2 T2)
end SCR
end
section
def MI (I : Nat → Nat → Int32) (t sl wy wi he : Nat) : Prop := I 33 0 = nI t ∧ 2 ≤ t ∧ t ≤ 6 ∧ I 33 6 = nI sl ∧ sl ≤ 6 ∧ I 33 4 = nI wy ∧ wy < 3 ∧ I 33 5 = nI wi ∧ wi < 4 ∧ I 33 7 = nI he ∧ he < 2 ^ t
theorem p2_le {t : Nat} (h6 : t ≤ 6) : 2 ^ t ≤ 64 := Nat.pow_le_pow_right (n := 2) (by decide) h6
theorem p3_le {t : Nat} (h6 : t ≤ 6) : 3 ^ t ≤ 729 := Nat.pow_le_pow_right (n := 3) (by decide) h6
/-- what a world is worth to a cousin -/
def wtF (I : Nat → Nat → Int32) (t c w : Nat) : Int32 := wsum (fun k => I 34 (6 * c + k)) t w
theorem ov_yn (I S : Nat → Nat → Int32) (y z : Int32) : yn (ov I S) y z = ov I (setI (setI S 33 (upd (S 33) 21 y)) 33 (upd (setI S 33 (upd (S 33) 21 y) 33) 22 z)) := by
  rw [← yn_0, ovf (p := 33) (j := 21) rfl, ovf (p := 33) (j := 22) rfl]
def lyS (S : Nat → Nat → Int32) (t num : Nat) : Nat → Nat → Int32 := setI (setI S 33 (upd (S 33) 21 (nI (tmask 1 t num t)))) 33 (upd (setI S 33 (upd (S 33) 21 (nI (tmask 1 t num t))) 33) 22 (nI (tmask 2 t num t)))
section MODEL6
variable {xl : Nat} {xs : Nat → Int32} {n : Nat} {h : Nat → PC} {I S : Nat → Nat → Int32} {J T : Nat → Nat → Int64} {X : Nat → Option Nat} {t sl wy wi he : Nat}
theorem s_X7_worlds (hn : 49 ≤ n) (hm : MI I t sl wy wi he) : Rn xl xs 0 0 0 0 mX7_worlds [.ref 33] n (sysH (ov I S) (ovJ J T) X) (some (.int (nI (2 ^ t)))) n (sysH (ov I S) (ovJ J T) X) := c_X7_worlds (I := ov I S) hn hm.1 hm.2.2.1
theorem s_X7_terms (hn : 49 ≤ n) (hm : MI I t sl wy wi he) : Rn xl xs 0 0 0 0 mX7_terms [.ref 33] n (sysH (ov I S) (ovJ J T) X) (some (.int (nI (3 ^ t)))) n (sysH (ov I S) (ovJ J T) X) := c_X7_terms (I := ov I S) hn hm.1 hm.2.2.1
theorem s_X7_isThing (hn : 49 ≤ n) (hm : MI I t sl wy wi he) (v : Int32) : Rn xl xs 1 22 0 0 mX7_isThing [.ref 33, .int v] n (sysH (ov I S) (ovJ J T) X) (some (.int (b2i (inb v 0 (nI t - 1))))) n (sysH (ov I S) (ovJ J T) X) := c_X7_isThing (I := ov I S) v hn hm.1
theorem s_X7_isWorld (hn : 49 ≤ n) (hm : MI I t sl wy wi he) (v : Int32) : Rn xl xs 1 22 0 0 mX7_isWorld [.ref 33, .int v] n (sysH (ov I S) (ovJ J T) X) (some (.int (b2i (inb v 0 (nI (2 ^ t) - 1))))) n (sysH (ov I S) (ovJ J T) X) := c_X7_isWorld (I := ov I S) v hn hm.1 hm.2.2.1
theorem s_X7_worthTo {c w : Nat} (hn : 49 ≤ n) (hm : MI I t sl wy wi he) (hc : c < 4) (hw : w < 2 ^ 31) : Rn xl xs 1 21 0 0 mX7_worthTo [.ref 33, .int (nI c), .int (nI w)] n (sysH (ov I S) (ovJ J T) X) (some (.int (wtF I t c w))) n (sysH (ov I S) (ovJ J T) X) := c_X7_worthTo (I := ov I S) hn hm.1 hm.2.2.1 hc hw
theorem s_X7_digitOf {num k : Nat} (hn : 49 ≤ n) (hm : MI I t sl wy wi he) (hk : k < t) (hu : num < 2 ^ 31) : Rn xl xs 0 0 0 0 mX7_digitOf [.ref 33, .int (nI num), .int (nI k)] n (sysH (ov I S) (ovJ J T) X) (some (.int (nI (dig t num k)))) n (sysH (ov I S) (ovJ J T) X) := c_X7_digitOf (I := ov I S) hn hm.1 hm.2.2.1 hk hu
theorem s_X7_words {num : Nat} (hn : 49 ≤ n) (hm : MI I t sl wy wi he) (hu : num < 2 ^ 31) : Rn xl xs 1 24 0 0 mX7_words [.ref 33, .int (nI num)] n (sysH (ov I S) (ovJ J T) X) (some (.int (nI (wd t num)))) n (sysH (ov I S) (ovJ J T) X) := c_X7_words (I := ov I S) hn hm.1 hm.2.2.1 hu
theorem s_X7_count {Z : Int64} (hn : 49 ≤ n) (hm : MI I t sl wy wi he) : Rn xl xs 1 22 0 0 mX7_count [.ref 33, .long Z] n (sysH (ov I S) (ovJ J T) X) (some (.int (upto (fun w c => c + b2i (lbit Z w)) (2 ^ t) 0))) n (sysH (ov I S) (ovJ J T) X) := c_X7_count (I := ov I S) hn hm.1 hm.2.2.1
theorem s_X7_madeOf {a : Nat} {Z : Int64} (hn : 49 ≤ n) (hm : MI I t sl wy wi he) (ha : a < 64) : Rn xl xs 3 67 0 0 mX7_madeOf [.ref 33, .long Z, .int (nI a)] n (sysH (ov I S) (ovJ J T) X) (some (.int (eo (upto (mkF (lkF I t wy wi a) Z) (2 ^ t) none)))) n (sysH (ov I S) (ovJ J T) X) := c_X7_madeOf (I := ov I S) hn hm.1 hm.2.2.1 hm.2.2.2.2.2.1 hm.2.2.2.2.2.2.1 hm.2.2.2.2.2.2.2.1 hm.2.2.2.2.2.2.2.2.1 ha
theorem s_X7_madeOfTerm {a num : Nat} (hn : 49 ≤ n) (hm : MI I t sl wy wi he) (ha : a < 64) (hu : num < 2 ^ 31) : RnS xl xs 4 92 0 0 mX7_madeOfTerm [.ref 33, .int (nI num), .int (nI a)] n I J X (some (.int (eo (mtF I J t sl wy wi num a)))) n I J X := by
  intro S T Q hQ
  refine c_X7_madeOfTerm (I := ov I S) hn hm.1 hm.2.2.1 hm.2.2.2.1 hm.2.2.2.2.1 hm.2.2.2.2.2.1 hm.2.2.2.2.2.2.1 hm.2.2.2.2.2.2.2.1 hm.2.2.2.2.2.2.2.2.1 ha hu Q ?_
  unfold ynT
  rw [ov_yn]
  exact hQ _ _
theorem s_X7_layTerm {num : Nat} (hn : 49 ≤ n) (hm : MI I t sl wy wi he) (hu : num < 2 ^ 31) : Rn xl xs 0 0 0 0 mX7_layTerm [.ref 33, .int (nI num)] n (sysH (ov I S) (ovJ J T) X) none n (sysH (ov I (lyS S t num)) (ovJ J T) X) := by
  have e := c_X7_layTerm (xl := xl) (xs := xs) (I := ov I S) (J := ovJ J T) (X := X) hn hm.1 hm.2.2.1 hu
  unfold ynT at e
  rw [ov_yn] at e
  exact e
/-- STATE for none -/
def e3 : Option Nat → Int32
  | none => -3
  | some w => nI w
theorem inb_nat {v : Int32} {m : Nat} (hm : m < 2 ^ 31) (h : inb v 0 (nI m - 1) = true) (h0 : 0 < m) : ∃ k, k < m ∧ v = nI k := by
  simp only [inb, Bool.and_eq_true, decide_eq_true_eq] at h
  obtain ⟨j, hj, e⟩ := nI_of (x := v) (by simp only [i_le, i_lt] at *; omega)
  refine ⟨j, ?_, e⟩
  have h2 := h.2
  rw [e, show nI m - 1 = nI (m - 1) from pk_sub (b := 1) h0] at h2
  have := (nI_leI hj (by omega)).mp h2
  omega
theorem s_X7_term (hn : 49 ≤ n) (hm : MI I t sl wy wi he) (v : Int32) : RnS xl xs 5 114 0 0 mX7_term [.ref 33, .int v] n I J X (some (.int (if inb v 0 (nI (3 ^ t) - 1) then e3 (mtF I J t sl wy wi v.toNatClampNeg he) else -2))) n I J X := by
  intro S T Q hQ
  have hm' := hm
  obtain ⟨ht, ht2, h6, hs, hs6, hwy, h3, hwi, h4, hhe, hhl⟩ := hm'
  have h64 := p2_le h6
  have h729 := p3_le h6
  have hpos : 0 < 3 ^ t := Nat.pow_pos (by decide)
  show Ev xl xs 5 114 0 0 mX7_term 0 [some (.ref 33), some (.int v), none] [] n (sysH (ov I S) (ovJ J T) X) Q
  refine ev_iload_n (q := 1) dX7_term_0 rfl rfl ?_
  refine ev_iconst (q := 2) (0) dX7_term_1 (by decide) rfl ?_
  refine ev_aload_n (q := 3) dX7_term_2 rfl rfl ?_
  refine ev_callV0i (q := 6) dX7_term_3 ca_X7_201 (s_X7_terms hn hm) rfl (lt_n hn (by decide)) rfl rfl (Nat.le_of_ble_eq_true rfl) (Nat.le_of_ble_eq_true rfl) (by decide) (by decide) rfl ?_
  refine ev_iconst (q := 7) (1) dX7_term_6 (by decide) rfl ?_
  refine ev_isub (q := 8) dX7_term_7 rfl ?_
  refine ev_callS3i (q := 11) dX7_term_8 ca_X7_99 (c_X7_in _ _ _) (Nat.le_of_ble_eq_true rfl) (Nat.le_of_ble_eq_true rfl) (by decide) (by decide) rfl ?_
  refine ev_if_ne (q := 14) 17 dX7_term_11 (by decide) rfl (fun c_11 => ?_) (fun c_11 => ?_)
  · have c_11 := b2i_ne.mp c_11
    obtain ⟨num, hnum, rfl⟩ := inb_nat (by omega) c_11 hpos
    refine ev_aload_n (q := 18) dX7_term_17 rfl rfl ?_
    refine ev_iload_n (q := 19) dX7_term_18 rfl rfl ?_
    refine ev_aload_n (q := 20) dX7_term_19 rfl rfl ?_
    refine ev_get (q := 23) dX7_term_20 fr_X7_73 rfl (lt_n hn (by decide)) rfl rfl ?_
    rw [show ov I S 33 7 = nI he from hhe]
    refine ev_callV2iS (q := 26) dX7_term_23 ca_X7_204 (s_X7_madeOfTerm hn hm (by omega) (by omega)) rfl (lt_n hn (by decide)) rfl rfl (Nat.le_of_ble_eq_true rfl) (Nat.le_of_ble_eq_true rfl) (by decide) (by decide) rfl (fun S T => ?_)
    refine ev_ist_2 (q := 27) dX7_term_26 rfl rfl ?_
    refine ev_iload_n (q := 28) dX7_term_27 rfl rfl ?_
    refine ev_if_ge (q := 31) 36 dX7_term_28 (by decide) rfl (fun c_28 => ?_) (fun c_28 => ?_)
    · have c_28 : ∃ w, mtF I J t sl wy wi num he = some w := by cases hx : mtF I J t sl wy wi num he with | none => rw [hx] at c_28; exact absurd c_28 (by decide) | some w => exact ⟨w, rfl⟩
      refine ev_iload_n (q := 37) dX7_term_36 rfl rfl ?_
      exact ev_iretE dX7_term_37 rfl rfl (by rw [c_11, nI_clamp (by omega)]; first | (obtain ⟨w, hw⟩ := c_28; rw [hw]; rfl) | (rw [c_28]; rfl)) rfl rfl (hQ _ _)
    · have c_28 : mtF I J t sl wy wi num he = none := by cases hx : mtF I J t sl wy wi num he with | none => rfl | some w => rw [hx] at c_28; have := mtF_lt hx; exact absurd (nI_pos' (by omega)) c_28
      refine ev_bipush (q := 33) (-3) dX7_term_31 (by decide) rfl ?_
      refine ev_goto 37 dX7_term_33 (by decide) ?_
      exact ev_iretE dX7_term_37 rfl rfl (by rw [c_11, nI_clamp (by omega)]; first | (obtain ⟨w, hw⟩ := c_28; rw [hw]; rfl) | (rw [c_28]; rfl)) rfl rfl (hQ _ _)
  · have c_11 : inb v 0 (nI (3 ^ t) - 1) = false := b2i_0.mp c_11
    refine ev_bipush (q := 16) (-2) dX7_term_14 (by decide) rfl ?_
    exact ev_iretE dX7_term_16 rfl rfl (by rw [c_11]; rfl) rfl rfl (hQ _ _)
end MODEL6
end
section
theorem dX7_wording_0 : decode cX7_wording 0 = .ok (.iload_n 1, 1) := by decide +kernel
theorem dX7_wording_1 : decode cX7_wording 1 = .ok (.bipush (-99), 2) := by decide +kernel
theorem dX7_wording_3 : decode cX7_wording 3 = .ok (.bipush 99, 2) := by decide +kernel
theorem dX7_wording_5 : decode cX7_wording 5 = .ok (.invokestatic 99, 3) := by decide +kernel
theorem dX7_wording_8 : decode cX7_wording 8 = .ok (.ifCond .eq 12, 3) := by decide +kernel
theorem dX7_wording_11 : decode cX7_wording 11 = .ok (.iload_n 2, 1) := by decide +kernel
theorem dX7_wording_12 : decode cX7_wording 12 = .ok (.iconst 0, 1) := by decide +kernel
theorem dX7_wording_13 : decode cX7_wording 13 = .ok (.iconst 1, 1) := by decide +kernel
theorem dX7_wording_14 : decode cX7_wording 14 = .ok (.invokestatic 99, 3) := by decide +kernel
theorem dX7_wording_17 : decode cX7_wording 17 = .ok (.ifCond .ne 6, 3) := by decide +kernel
theorem dX7_wording_20 : decode cX7_wording 20 = .ok (.bipush (-2), 2) := by decide +kernel
theorem dX7_wording_22 : decode cX7_wording 22 = .ok (.ireturn, 1) := by decide +kernel
theorem dX7_wording_23 : decode cX7_wording 23 = .ok (.bipush (-6), 2) := by decide +kernel
theorem dX7_wording_25 : decode cX7_wording 25 = .ok (.istore_n 3, 1) := by decide +kernel
theorem dX7_wording_26 : decode cX7_wording 26 = .ok (.iconst 0, 1) := by decide +kernel
theorem dX7_wording_27 : decode cX7_wording 27 = .ok (.istore 4, 2) := by decide +kernel
theorem dX7_wording_29 : decode cX7_wording 29 = .ok (.iload 4, 2) := by decide +kernel
theorem dX7_wording_31 : decode cX7_wording 31 = .ok (.aload_n 0, 1) := by decide +kernel
theorem dX7_wording_32 : decode cX7_wording 32 = .ok (.invokevirtual 201, 3) := by decide +kernel
theorem dX7_wording_35 : decode cX7_wording 35 = .ok (.if_icmp .ge 77, 3) := by decide +kernel
theorem dX7_wording_38 : decode cX7_wording 38 = .ok (.aload_n 0, 1) := by decide +kernel
theorem dX7_wording_39 : decode cX7_wording 39 = .ok (.iload 4, 2) := by decide +kernel
theorem dX7_wording_41 : decode cX7_wording 41 = .ok (.aload_n 0, 1) := by decide +kernel
theorem dX7_wording_42 : decode cX7_wording 42 = .ok (.getfield 73, 3) := by decide +kernel
theorem dX7_wording_45 : decode cX7_wording 45 = .ok (.invokevirtual 204, 3) := by decide +kernel
theorem dX7_wording_48 : decode cX7_wording 48 = .ok (.istore 5, 2) := by decide +kernel
theorem dX7_wording_50 : decode cX7_wording 50 = .ok (.iload 5, 2) := by decide +kernel
theorem dX7_wording_52 : decode cX7_wording 52 = .ok (.ifCond .lt 21, 3) := by decide +kernel
theorem dX7_wording_55 : decode cX7_wording 55 = .ok (.aload_n 0, 1) := by decide +kernel
theorem dX7_wording_56 : decode cX7_wording 56 = .ok (.aload_n 0, 1) := by decide +kernel
theorem dX7_wording_57 : decode cX7_wording 57 = .ok (.getfield 67, 3) := by decide +kernel
theorem dX7_wording_60 : decode cX7_wording 60 = .ok (.iload 5, 2) := by decide +kernel
theorem dX7_wording_62 : decode cX7_wording 62 = .ok (.invokevirtual 117, 3) := by decide +kernel
theorem dX7_wording_65 : decode cX7_wording 65 = .ok (.iload_n 1, 1) := by decide +kernel
theorem dX7_wording_66 : decode cX7_wording 66 = .ok (.if_icmp .lt 7, 3) := by decide +kernel
theorem dX7_wording_69 : decode cX7_wording 69 = .ok (.iconst 1, 1) := by decide +kernel
theorem dX7_wording_70 : decode cX7_wording 70 = .ok (.goto 4, 3) := by decide +kernel
theorem dX7_wording_73 : decode cX7_wording 73 = .ok (.iconst 0, 1) := by decide +kernel
theorem dX7_wording_74 : decode cX7_wording 74 = .ok (.istore 6, 2) := by decide +kernel
theorem dX7_wording_76 : decode cX7_wording 76 = .ok (.iload 6, 2) := by decide +kernel
theorem dX7_wording_78 : decode cX7_wording 78 = .ok (.ifCond .eq 26, 3) := by decide +kernel
theorem dX7_wording_81 : decode cX7_wording 81 = .ok (.iload_n 3, 1) := by decide +kernel
theorem dX7_wording_82 : decode cX7_wording 82 = .ok (.ifCond .lt 17, 3) := by decide +kernel
theorem dX7_wording_85 : decode cX7_wording 85 = .ok (.aload_n 0, 1) := by decide +kernel
theorem dX7_wording_86 : decode cX7_wording 86 = .ok (.iload 4, 2) := by decide +kernel
theorem dX7_wording_88 : decode cX7_wording 88 = .ok (.invokevirtual 207, 3) := by decide +kernel
theorem dX7_wording_91 : decode cX7_wording 91 = .ok (.aload_n 0, 1) := by decide +kernel
theorem dX7_wording_92 : decode cX7_wording 92 = .ok (.iload_n 3, 1) := by decide +kernel
theorem dX7_wording_93 : decode cX7_wording 93 = .ok (.invokevirtual 207, 3) := by decide +kernel
theorem dX7_wording_96 : decode cX7_wording 96 = .ok (.if_icmp .ge 8, 3) := by decide +kernel
theorem dX7_wording_99 : decode cX7_wording 99 = .ok (.iload 4, 2) := by decide +kernel
theorem dX7_wording_101 : decode cX7_wording 101 = .ok (.goto 4, 3) := by decide +kernel
theorem dX7_wording_104 : decode cX7_wording 104 = .ok (.iload_n 3, 1) := by decide +kernel
theorem dX7_wording_105 : decode cX7_wording 105 = .ok (.istore_n 3, 1) := by decide +kernel
theorem dX7_wording_106 : decode cX7_wording 106 = .ok (.iinc 4 1, 3) := by decide +kernel
theorem dX7_wording_109 : decode cX7_wording 109 = .ok (.goto (-80), 3) := by decide +kernel
theorem dX7_wording_112 : decode cX7_wording 112 = .ok (.iload_n 3, 1) := by decide +kernel
theorem dX7_wording_113 : decode cX7_wording 113 = .ok (.ifCond .lt 7, 3) := by decide +kernel
theorem dX7_wording_116 : decode cX7_wording 116 = .ok (.iload_n 2, 1) := by decide +kernel
theorem dX7_wording_117 : decode cX7_wording 117 = .ok (.ifCond .ne 7, 3) := by decide +kernel
theorem dX7_wording_120 : decode cX7_wording 120 = .ok (.iload_n 3, 1) := by decide +kernel
theorem dX7_wording_121 : decode cX7_wording 121 = .ok (.goto 8, 3) := by decide +kernel
theorem dX7_wording_124 : decode cX7_wording 124 = .ok (.aload_n 0, 1) := by decide +kernel
theorem dX7_wording_125 : decode cX7_wording 125 = .ok (.iload_n 3, 1) := by decide +kernel
theorem dX7_wording_126 : decode cX7_wording 126 = .ok (.invokevirtual 207, 3) := by decide +kernel
theorem dX7_wording_129 : decode cX7_wording 129 = .ok (.ireturn, 1) := by decide +kernel
theorem dX7_most_0 : decode cX7_most 0 = .ok (.iload_n 1, 1) := by decide +kernel
theorem dX7_most_1 : decode cX7_most 1 = .ok (.iconst 0, 1) := by decide +kernel
theorem dX7_most_2 : decode cX7_most 2 = .ok (.bipush 6, 2) := by decide +kernel
theorem dX7_most_4 : decode cX7_most 4 = .ok (.invokestatic 99, 3) := by decide +kernel
theorem dX7_most_7 : decode cX7_most 7 = .ok (.ifCond .eq 12, 3) := by decide +kernel
theorem dX7_most_10 : decode cX7_most 10 = .ok (.iload_n 2, 1) := by decide +kernel
theorem dX7_most_11 : decode cX7_most 11 = .ok (.iconst 0, 1) := by decide +kernel
theorem dX7_most_12 : decode cX7_most 12 = .ok (.iconst 1, 1) := by decide +kernel
theorem dX7_most_13 : decode cX7_most 13 = .ok (.invokestatic 99, 3) := by decide +kernel
theorem dX7_most_16 : decode cX7_most 16 = .ok (.ifCond .ne 6, 3) := by decide +kernel
theorem dX7_most_19 : decode cX7_most 19 = .ok (.bipush (-2), 2) := by decide +kernel
theorem dX7_most_21 : decode cX7_most 21 = .ok (.ireturn, 1) := by decide +kernel
theorem dX7_most_22 : decode cX7_most 22 = .ok (.bipush (-6), 2) := by decide +kernel
theorem dX7_most_24 : decode cX7_most 24 = .ok (.istore_n 3, 1) := by decide +kernel
theorem dX7_most_25 : decode cX7_most 25 = .ok (.iconst 0, 1) := by decide +kernel
theorem dX7_most_26 : decode cX7_most 26 = .ok (.istore 4, 2) := by decide +kernel
theorem dX7_most_28 : decode cX7_most 28 = .ok (.iconst 0, 1) := by decide +kernel
theorem dX7_most_29 : decode cX7_most 29 = .ok (.istore 5, 2) := by decide +kernel
theorem dX7_most_31 : decode cX7_most 31 = .ok (.iload 5, 2) := by decide +kernel
theorem dX7_most_33 : decode cX7_most 33 = .ok (.aload_n 0, 1) := by decide +kernel
theorem dX7_most_34 : decode cX7_most 34 = .ok (.invokevirtual 201, 3) := by decide +kernel
theorem dX7_most_37 : decode cX7_most 37 = .ok (.if_icmp .ge 101, 3) := by decide +kernel
theorem dX7_most_40 : decode cX7_most 40 = .ok (.aload_n 0, 1) := by decide +kernel
theorem dX7_most_41 : decode cX7_most 41 = .ok (.iload 5, 2) := by decide +kernel
theorem dX7_most_43 : decode cX7_most 43 = .ok (.invokevirtual 207, 3) := by decide +kernel
theorem dX7_most_46 : decode cX7_most 46 = .ok (.iload_n 1, 1) := by decide +kernel
theorem dX7_most_47 : decode cX7_most 47 = .ok (.if_icmp .gt 16, 3) := by decide +kernel
theorem dX7_most_50 : decode cX7_most 50 = .ok (.aload_n 0, 1) := by decide +kernel
theorem dX7_most_51 : decode cX7_most 51 = .ok (.iload 5, 2) := by decide +kernel
theorem dX7_most_53 : decode cX7_most 53 = .ok (.aload_n 0, 1) := by decide +kernel
theorem dX7_most_54 : decode cX7_most 54 = .ok (.getfield 73, 3) := by decide +kernel
theorem dX7_most_57 : decode cX7_most 57 = .ok (.invokevirtual 204, 3) := by decide +kernel
theorem dX7_most_60 : decode cX7_most 60 = .ok (.goto 5, 3) := by decide +kernel
theorem dX7_most_63 : decode cX7_most 63 = .ok (.bipush (-6), 2) := by decide +kernel
theorem dX7_most_65 : decode cX7_most 65 = .ok (.istore 6, 2) := by decide +kernel
theorem dX7_most_67 : decode cX7_most 67 = .ok (.iload 6, 2) := by decide +kernel
theorem dX7_most_69 : decode cX7_most 69 = .ok (.ifCond .ge 7, 3) := by decide +kernel
theorem dX7_most_72 : decode cX7_most 72 = .ok (.iconst 0, 1) := by decide +kernel
theorem dX7_most_73 : decode cX7_most 73 = .ok (.goto 13, 3) := by decide +kernel
theorem dX7_most_76 : decode cX7_most 76 = .ok (.aload_n 0, 1) := by decide +kernel
theorem dX7_most_77 : decode cX7_most 77 = .ok (.aload_n 0, 1) := by decide +kernel
theorem dX7_most_78 : decode cX7_most 78 = .ok (.getfield 67, 3) := by decide +kernel
theorem dX7_most_81 : decode cX7_most 81 = .ok (.iload 6, 2) := by decide +kernel
theorem dX7_most_83 : decode cX7_most 83 = .ok (.invokevirtual 117, 3) := by decide +kernel
theorem dX7_most_86 : decode cX7_most 86 = .ok (.istore 7, 2) := by decide +kernel
theorem dX7_most_88 : decode cX7_most 88 = .ok (.iload 6, 2) := by decide +kernel
theorem dX7_most_90 : decode cX7_most 90 = .ok (.ifCond .lt 42, 3) := by decide +kernel
theorem dX7_most_93 : decode cX7_most 93 = .ok (.iload_n 3, 1) := by decide +kernel
theorem dX7_most_94 : decode cX7_most 94 = .ok (.ifCond .lt 31, 3) := by decide +kernel
theorem dX7_most_97 : decode cX7_most 97 = .ok (.iload 7, 2) := by decide +kernel
theorem dX7_most_99 : decode cX7_most 99 = .ok (.iload 4, 2) := by decide +kernel
theorem dX7_most_101 : decode cX7_most 101 = .ok (.if_icmp .gt 24, 3) := by decide +kernel
theorem dX7_most_104 : decode cX7_most 104 = .ok (.iload 7, 2) := by decide +kernel
theorem dX7_most_106 : decode cX7_most 106 = .ok (.iload 4, 2) := by decide +kernel
theorem dX7_most_108 : decode cX7_most 108 = .ok (.if_icmp .ne 24, 3) := by decide +kernel
theorem dX7_most_111 : decode cX7_most 111 = .ok (.aload_n 0, 1) := by decide +kernel
theorem dX7_most_112 : decode cX7_most 112 = .ok (.iload 5, 2) := by decide +kernel
theorem dX7_most_114 : decode cX7_most 114 = .ok (.invokevirtual 207, 3) := by decide +kernel
theorem dX7_most_117 : decode cX7_most 117 = .ok (.aload_n 0, 1) := by decide +kernel
theorem dX7_most_118 : decode cX7_most 118 = .ok (.iload_n 3, 1) := by decide +kernel
theorem dX7_most_119 : decode cX7_most 119 = .ok (.invokevirtual 207, 3) := by decide +kernel
theorem dX7_most_122 : decode cX7_most 122 = .ok (.if_icmp .ge 10, 3) := by decide +kernel
theorem dX7_most_125 : decode cX7_most 125 = .ok (.iload 5, 2) := by decide +kernel
theorem dX7_most_127 : decode cX7_most 127 = .ok (.istore_n 3, 1) := by decide +kernel
theorem dX7_most_128 : decode cX7_most 128 = .ok (.iload 7, 2) := by decide +kernel
theorem dX7_most_130 : decode cX7_most 130 = .ok (.istore 4, 2) := by decide +kernel
theorem dX7_most_132 : decode cX7_most 132 = .ok (.iinc 5 1, 3) := by decide +kernel
theorem dX7_most_135 : decode cX7_most 135 = .ok (.goto (-104), 3) := by decide +kernel
theorem dX7_most_138 : decode cX7_most 138 = .ok (.iload_n 3, 1) := by decide +kernel
theorem dX7_most_139 : decode cX7_most 139 = .ok (.ifCond .lt 8, 3) := by decide +kernel
theorem dX7_most_142 : decode cX7_most 142 = .ok (.iload_n 2, 1) := by decide +kernel
theorem dX7_most_143 : decode cX7_most 143 = .ok (.iconst 1, 1) := by decide +kernel
theorem dX7_most_144 : decode cX7_most 144 = .ok (.if_icmp .ne 7, 3) := by decide +kernel
theorem dX7_most_147 : decode cX7_most 147 = .ok (.iload_n 3, 1) := by decide +kernel
theorem dX7_most_148 : decode cX7_most 148 = .ok (.goto 9, 3) := by decide +kernel
theorem dX7_most_151 : decode cX7_most 151 = .ok (.iload 4, 2) := by decide +kernel
theorem dX7_most_153 : decode cX7_most 153 = .ok (.sipush 1000, 3) := by decide +kernel
theorem dX7_most_156 : decode cX7_most 156 = .ok (.iadd, 1) := by decide +kernel
theorem dX7_most_157 : decode cX7_most 157 = .ok (.ireturn, 1) := by decide +kernel
theorem dX7_votesFor_0 : decode cX7_votesFor 0 = .ok (.iconst 0, 1) := by decide +kernel
theorem dX7_votesFor_1 : decode cX7_votesFor 1 = .ok (.istore_n 2, 1) := by decide +kernel
theorem dX7_votesFor_2 : decode cX7_votesFor 2 = .ok (.iconst 0, 1) := by decide +kernel
theorem dX7_votesFor_3 : decode cX7_votesFor 3 = .ok (.istore_n 3, 1) := by decide +kernel
theorem dX7_votesFor_4 : decode cX7_votesFor 4 = .ok (.iload_n 3, 1) := by decide +kernel
theorem dX7_votesFor_5 : decode cX7_votesFor 5 = .ok (.iconst 4, 1) := by decide +kernel
theorem dX7_votesFor_6 : decode cX7_votesFor 6 = .ok (.if_icmp .ge 40, 3) := by decide +kernel
theorem dX7_votesFor_9 : decode cX7_votesFor 9 = .ok (.iload_n 2, 1) := by decide +kernel
theorem dX7_votesFor_10 : decode cX7_votesFor 10 = .ok (.aload_n 0, 1) := by decide +kernel
theorem dX7_votesFor_11 : decode cX7_votesFor 11 = .ok (.iload_n 3, 1) := by decide +kernel
theorem dX7_votesFor_12 : decode cX7_votesFor 12 = .ok (.iload_n 1, 1) := by decide +kernel
theorem dX7_votesFor_13 : decode cX7_votesFor 13 = .ok (.invokevirtual 117, 3) := by decide +kernel
theorem dX7_votesFor_16 : decode cX7_votesFor 16 = .ok (.aload_n 0, 1) := by decide +kernel
theorem dX7_votesFor_17 : decode cX7_votesFor 17 = .ok (.iload_n 3, 1) := by decide +kernel
theorem dX7_votesFor_18 : decode cX7_votesFor 18 = .ok (.aload_n 0, 1) := by decide +kernel
theorem dX7_votesFor_19 : decode cX7_votesFor 19 = .ok (.getfield 73, 3) := by decide +kernel
theorem dX7_votesFor_22 : decode cX7_votesFor 22 = .ok (.invokevirtual 117, 3) := by decide +kernel
theorem dX7_votesFor_25 : decode cX7_votesFor 25 = .ok (.if_icmp .le 12, 3) := by decide +kernel
theorem dX7_votesFor_28 : decode cX7_votesFor 28 = .ok (.aload_n 0, 1) := by decide +kernel
theorem dX7_votesFor_29 : decode cX7_votesFor 29 = .ok (.getfield 20, 3) := by decide +kernel
theorem dX7_votesFor_32 : decode cX7_votesFor 32 = .ok (.iload_n 3, 1) := by decide +kernel
theorem dX7_votesFor_33 : decode cX7_votesFor 33 = .ok (.iaload, 1) := by decide +kernel
theorem dX7_votesFor_34 : decode cX7_votesFor 34 = .ok (.goto 4, 3) := by decide +kernel
theorem dX7_votesFor_37 : decode cX7_votesFor 37 = .ok (.iconst 0, 1) := by decide +kernel
theorem dX7_votesFor_38 : decode cX7_votesFor 38 = .ok (.iadd, 1) := by decide +kernel
theorem dX7_votesFor_39 : decode cX7_votesFor 39 = .ok (.istore_n 2, 1) := by decide +kernel
theorem dX7_votesFor_40 : decode cX7_votesFor 40 = .ok (.iinc 3 1, 3) := by decide +kernel
theorem dX7_votesFor_43 : decode cX7_votesFor 43 = .ok (.goto (-39), 3) := by decide +kernel
theorem dX7_votesFor_46 : decode cX7_votesFor 46 = .ok (.iload_n 2, 1) := by decide +kernel
theorem dX7_votesFor_47 : decode cX7_votesFor 47 = .ok (.ireturn, 1) := by decide +kernel
theorem dX7_worthToAll_0 : decode cX7_worthToAll 0 = .ok (.iconst 0, 1) := by decide +kernel
theorem dX7_worthToAll_1 : decode cX7_worthToAll 1 = .ok (.istore_n 2, 1) := by decide +kernel
theorem dX7_worthToAll_2 : decode cX7_worthToAll 2 = .ok (.iconst 0, 1) := by decide +kernel
theorem dX7_worthToAll_3 : decode cX7_worthToAll 3 = .ok (.istore_n 3, 1) := by decide +kernel
theorem dX7_worthToAll_4 : decode cX7_worthToAll 4 = .ok (.iload_n 3, 1) := by decide +kernel
theorem dX7_worthToAll_5 : decode cX7_worthToAll 5 = .ok (.iconst 4, 1) := by decide +kernel
theorem dX7_worthToAll_6 : decode cX7_worthToAll 6 = .ok (.if_icmp .ge 18, 3) := by decide +kernel
theorem dX7_worthToAll_9 : decode cX7_worthToAll 9 = .ok (.iload_n 2, 1) := by decide +kernel
theorem dX7_worthToAll_10 : decode cX7_worthToAll 10 = .ok (.aload_n 0, 1) := by decide +kernel
theorem dX7_worthToAll_11 : decode cX7_worthToAll 11 = .ok (.iload_n 3, 1) := by decide +kernel
theorem dX7_worthToAll_12 : decode cX7_worthToAll 12 = .ok (.iload_n 1, 1) := by decide +kernel
theorem dX7_worthToAll_13 : decode cX7_worthToAll 13 = .ok (.invokevirtual 117, 3) := by decide +kernel
theorem dX7_worthToAll_16 : decode cX7_worthToAll 16 = .ok (.iadd, 1) := by decide +kernel
theorem dX7_worthToAll_17 : decode cX7_worthToAll 17 = .ok (.istore_n 2, 1) := by decide +kernel
theorem dX7_worthToAll_18 : decode cX7_worthToAll 18 = .ok (.iinc 3 1, 3) := by decide +kernel
theorem dX7_worthToAll_21 : decode cX7_worthToAll 21 = .ok (.goto (-17), 3) := by decide +kernel
theorem dX7_worthToAll_24 : decode cX7_worthToAll 24 = .ok (.iload_n 2, 1) := by decide +kernel
theorem dX7_worthToAll_25 : decode cX7_worthToAll 25 = .ok (.ireturn, 1) := by decide +kernel
theorem dX7_agreed_0 : decode cX7_agreed 0 = .ok (.iload_n 1, 1) := by decide +kernel
theorem dX7_agreed_1 : decode cX7_agreed 1 = .ok (.iconst 0, 1) := by decide +kernel
theorem dX7_agreed_2 : decode cX7_agreed 2 = .ok (.iconst 1, 1) := by decide +kernel
theorem dX7_agreed_3 : decode cX7_agreed 3 = .ok (.invokestatic 99, 3) := by decide +kernel
theorem dX7_agreed_6 : decode cX7_agreed 6 = .ok (.ifCond .ne 6, 3) := by decide +kernel
theorem dX7_agreed_9 : decode cX7_agreed 9 = .ok (.bipush (-2), 2) := by decide +kernel
theorem dX7_agreed_11 : decode cX7_agreed 11 = .ok (.ireturn, 1) := by decide +kernel
theorem dX7_agreed_12 : decode cX7_agreed 12 = .ok (.bipush (-6), 2) := by decide +kernel
theorem dX7_agreed_14 : decode cX7_agreed 14 = .ok (.istore_n 2, 1) := by decide +kernel
theorem dX7_agreed_15 : decode cX7_agreed 15 = .ok (.iconst 0, 1) := by decide +kernel
theorem dX7_agreed_16 : decode cX7_agreed 16 = .ok (.istore_n 3, 1) := by decide +kernel
theorem dX7_agreed_17 : decode cX7_agreed 17 = .ok (.iconst 0, 1) := by decide +kernel
theorem dX7_agreed_18 : decode cX7_agreed 18 = .ok (.istore 4, 2) := by decide +kernel
theorem dX7_agreed_20 : decode cX7_agreed 20 = .ok (.iload 4, 2) := by decide +kernel
theorem dX7_agreed_22 : decode cX7_agreed 22 = .ok (.aload_n 0, 1) := by decide +kernel
theorem dX7_agreed_23 : decode cX7_agreed 23 = .ok (.invokevirtual 201, 3) := by decide +kernel
theorem dX7_agreed_26 : decode cX7_agreed 26 = .ok (.if_icmp .ge 86, 3) := by decide +kernel
theorem dX7_agreed_29 : decode cX7_agreed 29 = .ok (.aload_n 0, 1) := by decide +kernel
theorem dX7_agreed_30 : decode cX7_agreed 30 = .ok (.iload 4, 2) := by decide +kernel
theorem dX7_agreed_32 : decode cX7_agreed 32 = .ok (.aload_n 0, 1) := by decide +kernel
theorem dX7_agreed_33 : decode cX7_agreed 33 = .ok (.getfield 73, 3) := by decide +kernel
theorem dX7_agreed_36 : decode cX7_agreed 36 = .ok (.invokevirtual 204, 3) := by decide +kernel
theorem dX7_agreed_39 : decode cX7_agreed 39 = .ok (.istore 5, 2) := by decide +kernel
theorem dX7_agreed_41 : decode cX7_agreed 41 = .ok (.iload 5, 2) := by decide +kernel
theorem dX7_agreed_43 : decode cX7_agreed 43 = .ok (.ifCond .ge 7, 3) := by decide +kernel
theorem dX7_agreed_46 : decode cX7_agreed 46 = .ok (.iconst 0, 1) := by decide +kernel
theorem dX7_agreed_47 : decode cX7_agreed 47 = .ok (.goto 36, 3) := by decide +kernel
theorem dX7_agreed_50 : decode cX7_agreed 50 = .ok (.ldc 223, 2) := by decide +kernel
theorem dX7_agreed_52 : decode cX7_agreed 52 = .ok (.aload_n 0, 1) := by decide +kernel
theorem dX7_agreed_53 : decode cX7_agreed 53 = .ok (.iload 5, 2) := by decide +kernel
theorem dX7_agreed_55 : decode cX7_agreed 55 = .ok (.invokevirtual 220, 3) := by decide +kernel
theorem dX7_agreed_58 : decode cX7_agreed 58 = .ok (.imul, 1) := by decide +kernel
theorem dX7_agreed_59 : decode cX7_agreed 59 = .ok (.bipush 10, 2) := by decide +kernel
theorem dX7_agreed_61 : decode cX7_agreed 61 = .ok (.aload_n 0, 1) := by decide +kernel
theorem dX7_agreed_62 : decode cX7_agreed 62 = .ok (.iload 5, 2) := by decide +kernel
theorem dX7_agreed_64 : decode cX7_agreed 64 = .ok (.invokevirtual 224, 3) := by decide +kernel
theorem dX7_agreed_67 : decode cX7_agreed 67 = .ok (.sipush 500, 3) := by decide +kernel
theorem dX7_agreed_70 : decode cX7_agreed 70 = .ok (.iadd, 1) := by decide +kernel
theorem dX7_agreed_71 : decode cX7_agreed 71 = .ok (.imul, 1) := by decide +kernel
theorem dX7_agreed_72 : decode cX7_agreed 72 = .ok (.iadd, 1) := by decide +kernel
theorem dX7_agreed_73 : decode cX7_agreed 73 = .ok (.bipush 6, 2) := by decide +kernel
theorem dX7_agreed_75 : decode cX7_agreed 75 = .ok (.iadd, 1) := by decide +kernel
theorem dX7_agreed_76 : decode cX7_agreed 76 = .ok (.aload_n 0, 1) := by decide +kernel
theorem dX7_agreed_77 : decode cX7_agreed 77 = .ok (.iload 4, 2) := by decide +kernel
theorem dX7_agreed_79 : decode cX7_agreed 79 = .ok (.invokevirtual 207, 3) := by decide +kernel
theorem dX7_agreed_82 : decode cX7_agreed 82 = .ok (.isub, 1) := by decide +kernel
theorem dX7_agreed_83 : decode cX7_agreed 83 = .ok (.istore 6, 2) := by decide +kernel
theorem dX7_agreed_85 : decode cX7_agreed 85 = .ok (.iload 5, 2) := by decide +kernel
theorem dX7_agreed_87 : decode cX7_agreed 87 = .ok (.ifCond .lt 19, 3) := by decide +kernel
theorem dX7_agreed_90 : decode cX7_agreed 90 = .ok (.iload_n 2, 1) := by decide +kernel
theorem dX7_agreed_91 : decode cX7_agreed 91 = .ok (.ifCond .lt 9, 3) := by decide +kernel
theorem dX7_agreed_94 : decode cX7_agreed 94 = .ok (.iload 6, 2) := by decide +kernel
theorem dX7_agreed_96 : decode cX7_agreed 96 = .ok (.iload_n 3, 1) := by decide +kernel
theorem dX7_agreed_97 : decode cX7_agreed 97 = .ok (.if_icmp .le 9, 3) := by decide +kernel
theorem dX7_agreed_100 : decode cX7_agreed 100 = .ok (.iload 4, 2) := by decide +kernel
theorem dX7_agreed_102 : decode cX7_agreed 102 = .ok (.istore_n 2, 1) := by decide +kernel
theorem dX7_agreed_103 : decode cX7_agreed 103 = .ok (.iload 6, 2) := by decide +kernel
theorem dX7_agreed_105 : decode cX7_agreed 105 = .ok (.istore_n 3, 1) := by decide +kernel
theorem dX7_agreed_106 : decode cX7_agreed 106 = .ok (.iinc 4 1, 3) := by decide +kernel
theorem dX7_agreed_109 : decode cX7_agreed 109 = .ok (.goto (-89), 3) := by decide +kernel
theorem dX7_agreed_112 : decode cX7_agreed 112 = .ok (.iload_n 2, 1) := by decide +kernel
theorem dX7_agreed_113 : decode cX7_agreed 113 = .ok (.ifCond .lt 7, 3) := by decide +kernel
theorem dX7_agreed_116 : decode cX7_agreed 116 = .ok (.iload_n 1, 1) := by decide +kernel
theorem dX7_agreed_117 : decode cX7_agreed 117 = .ok (.ifCond .ne 7, 3) := by decide +kernel
theorem dX7_agreed_120 : decode cX7_agreed 120 = .ok (.iload_n 2, 1) := by decide +kernel
theorem dX7_agreed_121 : decode cX7_agreed 121 = .ok (.goto 7, 3) := by decide +kernel
theorem dX7_agreed_124 : decode cX7_agreed 124 = .ok (.iload_n 3, 1) := by decide +kernel
theorem dX7_agreed_125 : decode cX7_agreed 125 = .ok (.ldc 223, 2) := by decide +kernel
theorem dX7_agreed_127 : decode cX7_agreed 127 = .ok (.idiv, 1) := by decide +kernel
theorem dX7_agreed_128 : decode cX7_agreed 128 = .ok (.ireturn, 1) := by decide +kernel
def pickW (t : Nat) (good : Nat → Bool) : Nat → Option Nat → Option Nat := fun k fd => if good k then (match fd with
  | none => some k
  | some u => if wd t k < wd t u then some k else some u) else fd
def pickB (better : Nat → Int32 → Nat → Int32 → Bool) (own : Nat → Option Int32) : Nat → Option (Nat × Int32) → Option (Nat × Int32) := fun k s => match own k with
  | none => s
  | some o => match s with
    | none => some (k, o)
    | some (u, b) => if better k o u b then some (k, o) else some (u, b)
theorem pickW_lt {t : Nat} {good : Nat → Bool} : ∀ k v, upto (pickW t good) k none = some v → v < k
  | 0, v, h => by cases h
  | k + 1, v, h => by
    have ih := pickW_lt (t := t) (good := good) k
    have h : pickW t good k (upto (pickW t good) k none) = some v := h
    generalize upto (pickW t good) k none = o at h ih
    unfold pickW at h
    split at h
    · cases o with
      | none => cases h; omega
      | some u =>
        have := ih u rfl
        dsimp only at h
        split at h <;> cases h <;> omega
    · have := ih v h; omega
theorem pickB_lt {better : Nat → Int32 → Nat → Int32 → Bool} {own : Nat → Option Int32} : ∀ k v b, upto (pickB better own) k none = some (v, b) → v < k
  | 0, v, b, h => by cases h
  | k + 1, v, b, h => by
    have ih := pickB_lt (better := better) (own := own) k
    have h : pickB better own k (upto (pickB better own) k none) = some (v, b) := h
    generalize upto (pickB better own) k none = o at h ih
    unfold pickB at h
    split at h
    · have := ih v b h; omega
    · cases o with
      | none => cases h; omega
      | some u =>
        obtain ⟨u, c⟩ := u
        have := ih u c rfl
        dsimp only at h
        split at h <;> cases h <;> omega
theorem neg6 : (-6 : Int32) < 0 := by decide
def gdW (I : Nat → Nat → Int32) (J : Nat → Nat → Int64) (t sl wy wi he : Nat) (goal : Int32) : Nat → Bool := fun k => match mtF I J t sl wy wi k he with
  | none => false
  | some v => decide (goal ≤ wtF I t wi v)
def eoP : Option (Nat × Int32) → Int32
  | none => -6
  | some p => nI p.1
def bvP : Option (Nat × Int32) → Int32
  | none => 0
  | some p => p.2
def btW (t : Nat) : Nat → Int32 → Nat → Int32 → Bool := fun k o u b => decide (b < o) || (decide (o = b) && decide (wd t k < wd t u))
def ownM (I : Nat → Nat → Int32) (J : Nat → Nat → Int64) (t sl wy wi he : Nat) (most : Int32) : Nat → Option Int32 := fun k => if nI (wd t k) ≤ most then (mtF I J t sl wy wi k he).map (wtF I t wi) else none
def voF (I : Nat → Nat → Int32) (t he w : Nat) : Int32 := upto (fun c s => s + if wtF I t c he < wtF I t c w then I 36 c else 0) 4 0
def waF (I : Nat → Nat → Int32) (t w : Nat) : Int32 := upto (fun c s => s + wtF I t c w) 4 0
def ownA (I : Nat → Nat → Int32) (J : Nat → Nat → Int64) (t sl wy wi he : Nat) : Nat → Option Int32 := fun k => (mtF I J t sl wy wi k he).map (fun v => 100000 * voF I t he v + 10 * (waF I t v + 500) + 6 - nI (wd t k))
theorem wd_le {t num : Nat} (h6 : t ≤ 6) : wd t num ≤ 6 := Nat.le_trans (wdc_le t num t) h6
section MODEL7
variable {xl : Nat} {xs : Nat → Int32} {n : Nat} {h : Nat → PC} {I S : Nat → Nat → Int32} {J T : Nat → Nat → Int64} {X : Nat → Option Nat} {t sl wy wi he : Nat}
theorem s_X7_wording (hn : 49 ≤ n) (hm : MI I t sl wy wi he) (goal what : Int32) : RnS xl xs 5 114 0 0 mX7_wording [.ref 33, .int goal, .int what] n I J X (some (.int (if inb goal (-99) 99 && inb what 0 1 then (match upto (pickW t (gdW I J t sl wy wi he goal)) (3 ^ t) none with | none => -6 | some u => if what = 0 then nI u else nI (wd t u)) else -2))) n I J X := by
  intro S T Q hQ
  have hm' := hm
  obtain ⟨ht, ht2, h6, hs, hs6, hwy, h3, hwi, h4, hhe, hhl⟩ := hm'
  have h64 := p2_le h6
  have h729 := p3_le h6
  show Ev xl xs 5 114 0 0 mX7_wording 0 [some (.ref 33), some (.int goal), some (.int what), none, none, none, none] [] n (sysH (ov I S) (ovJ J T) X) Q
  cases hin : (inb goal (-99) 99 && inb what 0 1) with
  | false =>
    rw [hin] at hQ
    refine ev_iload_n (q := 1) dX7_wording_0 rfl rfl ?_
    refine ev_bipush (q := 3) (-99) dX7_wording_1 (by decide) rfl ?_
    refine ev_bipush (q := 5) (99) dX7_wording_3 (by decide) rfl ?_
    refine ev_callS3i (q := 8) dX7_wording_5 ca_X7_99 (c_X7_in _ _ _) (Nat.le_of_ble_eq_true rfl) (Nat.le_of_ble_eq_true rfl) (by decide) (by decide) rfl ?_
    refine ev_if_eq (q := 11) 20 dX7_wording_8 (by decide) rfl (fun c_8 => ?_) (fun c_8 => ?_)
    · have c_8 := b2i_0.mp c_8
      refine ev_bipush (q := 22) (-2) dX7_wording_20 (by decide) rfl ?_
      exact ev_iretE dX7_wording_22 rfl rfl rfl rfl rfl (hQ _ _)
    · have c_8 := b2i_n0.mp c_8
      refine ev_iload_n (q := 12) dX7_wording_11 rfl rfl ?_
      refine ev_iconst (q := 13) (0) dX7_wording_12 (by decide) rfl ?_
      refine ev_iconst (q := 14) (1) dX7_wording_13 (by decide) rfl ?_
      refine ev_callS3i (q := 17) dX7_wording_14 ca_X7_99 (c_X7_in _ _ _) (Nat.le_of_ble_eq_true rfl) (Nat.le_of_ble_eq_true rfl) (by decide) (by decide) rfl ?_
      refine ev_if_ne (q := 20) 23 dX7_wording_17 (by decide) rfl (fun c_17 => ?_) (fun c_17 => ?_)
      · exact absurd (b2i_ne.mp c_17) (by rw [c_8, Bool.true_and] at hin; rw [hin]; decide)
      · refine ev_bipush (q := 22) (-2) dX7_wording_20 (by decide) rfl ?_
        exact ev_iretE dX7_wording_22 rfl rfl rfl rfl rfl (hQ _ _)
  | true =>
    rw [hin] at hQ
    have hin := Bool.and_eq_true_iff.mp hin
    have lp : ∀ j k, k + j = 3 ^ t → ∀ S T a5 a6, Ev xl xs 5 114 0 0 mX7_wording 29 [some (.ref 33), some (.int goal), some (.int what), some (.int (eo (upto (pickW t (gdW I J t sl wy wi he goal)) k none))), some (.int (nI k)), a5, a6] [] n (sysH (ov I S) (ovJ J T) X) Q := by
      intro j
      induction j using Nat.strongRecOn with
      | _ j ih =>
        intro k hk S T a5 a6
        have hlt := pickW_lt (t := t) (good := gdW I J t sl wy wi he goal) k
        have hwk := wd_le (num := k) h6
        cases ho : upto (pickW t (gdW I J t sl wy wi he goal)) k none with
        | none =>
          cases hmk : mtF I J t sl wy wi k he with
          | none =>
            refine ev_iload (q := 31) dX7_wording_29 rfl rfl ?_
            refine ev_aload_n (q := 32) dX7_wording_31 rfl rfl ?_
            refine ev_callV0i (q := 35) dX7_wording_32 ca_X7_201 (s_X7_terms hn hm) rfl (lt_n hn (by decide)) rfl rfl (Nat.le_of_ble_eq_true rfl) (Nat.le_of_ble_eq_true rfl) (by decide) (by decide) rfl ?_
            refine ev_icmp_ge (q := 38) 112 dX7_wording_35 (by decide) rfl (fun c_35 => ?_) (fun c_35 => ?_)
            · have c_35 : 3 ^ t ≤ k := (nI_leI (by omega) (by omega)).mp c_35
              refine ev_iload_n (q := 113) dX7_wording_112 rfl rfl ?_
              refine ev_if_lt (q := 116) 120 dX7_wording_113 (by decide) rfl (fun c_113 => ?_) (fun c_113 => ?_)
              · refine ev_iload_n (q := 121) dX7_wording_120 rfl rfl ?_
                refine ev_goto 129 dX7_wording_121 (by decide) ?_
                exact ev_iretE dX7_wording_129 rfl rfl (by rw [show 3 ^ t = k by omega, ho]; rfl) rfl rfl (hQ _ _)
              · exact absurd neg6 c_113
            · have c_35 : ¬ 3 ^ t ≤ k := fun h => c_35 ((nI_leI (by omega) (by omega)).mpr h)
              refine ev_aload_n (q := 39) dX7_wording_38 rfl rfl ?_
              refine ev_iload (q := 41) dX7_wording_39 rfl rfl ?_
              refine ev_aload_n (q := 42) dX7_wording_41 rfl rfl ?_
              refine ev_get (q := 45) dX7_wording_42 fr_X7_73 rfl (lt_n hn (by decide)) rfl rfl ?_
              rw [show ov I S 33 7 = nI he from hhe]
              refine ev_callV2iS (q := 48) dX7_wording_45 ca_X7_204 (s_X7_madeOfTerm hn hm (by omega) (by omega)) rfl (lt_n hn (by decide)) rfl rfl (Nat.le_of_ble_eq_true rfl) (Nat.le_of_ble_eq_true rfl) (by decide) (by decide) rfl (fun S T => ?_)
              rw [hmk]
              refine ev_ist_5 (q := 50) dX7_wording_48 rfl rfl ?_
              refine ev_iload (q := 52) dX7_wording_50 rfl rfl ?_
              refine ev_if_lt (q := 55) 73 dX7_wording_52 (by decide) rfl (fun c_52 => ?_) (fun c_52 => ?_)
              · refine ev_iconst (q := 74) (0) dX7_wording_73 (by decide) rfl ?_
                refine ev_ist_6 (q := 76) dX7_wording_74 rfl rfl ?_
                refine ev_iload (q := 78) dX7_wording_76 rfl rfl ?_
                refine ev_if_eq (q := 81) 104 dX7_wording_78 (by decide) rfl (fun c_78 => ?_) (fun c_78 => ?_)
                · refine ev_iload_n (q := 105) dX7_wording_104 rfl rfl ?_
                  refine ev_ist_3 (q := 106) dX7_wording_105 rfl rfl ?_
                  refine ev_inc_4 (q := 109) (nI (k + 1)) dX7_wording_106 (nI_1 k) rfl rfl ?_
                  refine ev_goto 29 dX7_wording_109 (by decide) ?_
                  have e := ih (j - 1) (by omega) (k + 1) (by omega) S T
                  simp only [upto, pickW, gdW, ho, hmk] at e
                  exact e _ _
                · exact absurd rfl c_78
              · exact absurd neg6 c_52
          | some v =>
            have hv := mtF_lt hmk
            refine ev_iload (q := 31) dX7_wording_29 rfl rfl ?_
            refine ev_aload_n (q := 32) dX7_wording_31 rfl rfl ?_
            refine ev_callV0i (q := 35) dX7_wording_32 ca_X7_201 (s_X7_terms hn hm) rfl (lt_n hn (by decide)) rfl rfl (Nat.le_of_ble_eq_true rfl) (Nat.le_of_ble_eq_true rfl) (by decide) (by decide) rfl ?_
            refine ev_icmp_ge (q := 38) 112 dX7_wording_35 (by decide) rfl (fun c_35 => ?_) (fun c_35 => ?_)
            · have c_35 : 3 ^ t ≤ k := (nI_leI (by omega) (by omega)).mp c_35
              refine ev_iload_n (q := 113) dX7_wording_112 rfl rfl ?_
              refine ev_if_lt (q := 116) 120 dX7_wording_113 (by decide) rfl (fun c_113 => ?_) (fun c_113 => ?_)
              · refine ev_iload_n (q := 121) dX7_wording_120 rfl rfl ?_
                refine ev_goto 129 dX7_wording_121 (by decide) ?_
                exact ev_iretE dX7_wording_129 rfl rfl (by rw [show 3 ^ t = k by omega, ho]; rfl) rfl rfl (hQ _ _)
              · exact absurd neg6 c_113
            · have c_35 : ¬ 3 ^ t ≤ k := fun h => c_35 ((nI_leI (by omega) (by omega)).mpr h)
              refine ev_aload_n (q := 39) dX7_wording_38 rfl rfl ?_
              refine ev_iload (q := 41) dX7_wording_39 rfl rfl ?_
              refine ev_aload_n (q := 42) dX7_wording_41 rfl rfl ?_
              refine ev_get (q := 45) dX7_wording_42 fr_X7_73 rfl (lt_n hn (by decide)) rfl rfl ?_
              rw [show ov I S 33 7 = nI he from hhe]
              refine ev_callV2iS (q := 48) dX7_wording_45 ca_X7_204 (s_X7_madeOfTerm hn hm (by omega) (by omega)) rfl (lt_n hn (by decide)) rfl rfl (Nat.le_of_ble_eq_true rfl) (Nat.le_of_ble_eq_true rfl) (by decide) (by decide) rfl (fun S T => ?_)
              rw [hmk]
              refine ev_ist_5 (q := 50) dX7_wording_48 rfl rfl ?_
              refine ev_iload (q := 52) dX7_wording_50 rfl rfl ?_
              refine ev_if_lt (q := 55) 73 dX7_wording_52 (by decide) rfl (fun c_52 => ?_) (fun c_52 => ?_)
              · exact absurd c_52 (nI_pos (by omega))
              · refine ev_aload_n (q := 56) dX7_wording_55 rfl rfl ?_
                refine ev_aload_n (q := 57) dX7_wording_56 rfl rfl ?_
                refine ev_get (q := 60) dX7_wording_57 fr_X7_67 rfl (lt_n hn (by decide)) rfl rfl ?_
                rw [show ov I S 33 5 = nI wi from hwi]
                refine ev_iload (q := 62) dX7_wording_60 rfl rfl ?_
                refine ev_callV2i (q := 65) dX7_wording_62 ca_X7_117 (s_X7_worthTo (w := v) hn hm (by omega) (by omega)) rfl (lt_n hn (by decide)) rfl rfl (Nat.le_of_ble_eq_true rfl) (Nat.le_of_ble_eq_true rfl) (by decide) (by decide) rfl ?_
                refine ev_iload_n (q := 66) dX7_wording_65 rfl rfl ?_
                refine ev_icmp_lt (q := 69) 73 dX7_wording_66 (by decide) rfl (fun c_66 => ?_) (fun c_66 => ?_)
                · have c_66 : ¬ goal ≤ wtF I t wi v := fun h => absurd c_66 (by simp only [i_le, i_lt] at *; omega)
                  refine ev_iconst (q := 74) (0) dX7_wording_73 (by decide) rfl ?_
                  refine ev_ist_6 (q := 76) dX7_wording_74 rfl rfl ?_
                  refine ev_iload (q := 78) dX7_wording_76 rfl rfl ?_
                  refine ev_if_eq (q := 81) 104 dX7_wording_78 (by decide) rfl (fun c_78 => ?_) (fun c_78 => ?_)
                  · have c_78 : ¬ goal ≤ wtF I t wi v := by first | exact c_66 | exact absurd c_78 (by decide)
                    refine ev_iload_n (q := 105) dX7_wording_104 rfl rfl ?_
                    refine ev_ist_3 (q := 106) dX7_wording_105 rfl rfl ?_
                    refine ev_inc_4 (q := 109) (nI (k + 1)) dX7_wording_106 (nI_1 k) rfl rfl ?_
                    refine ev_goto 29 dX7_wording_109 (by decide) ?_
                    have e := ih (j - 1) (by omega) (k + 1) (by omega) S T
                    simp only [upto, pickW, gdW, ho, hmk, c_78, decide_true, decide_false, if_true, if_false] at e
                    exact e _ _
                  · have c_78 : goal ≤ wtF I t wi v := by first | exact c_66 | exact absurd rfl c_78
                    refine ev_iload_n (q := 82) dX7_wording_81 rfl rfl ?_
                    refine ev_if_lt (q := 85) 99 dX7_wording_82 (by decide) rfl (fun c_82 => ?_) (fun c_82 => ?_)
                    · refine ev_iload (q := 101) dX7_wording_99 rfl rfl ?_
                      refine ev_goto 105 dX7_wording_101 (by decide) ?_
                      refine ev_ist_3 (q := 106) dX7_wording_105 rfl rfl ?_
                      refine ev_inc_4 (q := 109) (nI (k + 1)) dX7_wording_106 (nI_1 k) rfl rfl ?_
                      refine ev_goto 29 dX7_wording_109 (by decide) ?_
                      have e := ih (j - 1) (by omega) (k + 1) (by omega) S T
                      simp only [upto, pickW, gdW, ho, hmk, c_78, decide_true, decide_false, if_true, if_false] at e
                      exact e _ _
                    · exact absurd neg6 c_82
                · have c_66 : goal ≤ wtF I t wi v := by simp only [i_le, i_lt] at *; omega
                  refine ev_iconst (q := 70) (1) dX7_wording_69 (by decide) rfl ?_
                  refine ev_goto 74 dX7_wording_70 (by decide) ?_
                  refine ev_ist_6 (q := 76) dX7_wording_74 rfl rfl ?_
                  refine ev_iload (q := 78) dX7_wording_76 rfl rfl ?_
                  refine ev_if_eq (q := 81) 104 dX7_wording_78 (by decide) rfl (fun c_78 => ?_) (fun c_78 => ?_)
                  · have c_78 : ¬ goal ≤ wtF I t wi v := by first | exact c_66 | exact absurd c_78 (by decide)
                    refine ev_iload_n (q := 105) dX7_wording_104 rfl rfl ?_
                    refine ev_ist_3 (q := 106) dX7_wording_105 rfl rfl ?_
                    refine ev_inc_4 (q := 109) (nI (k + 1)) dX7_wording_106 (nI_1 k) rfl rfl ?_
                    refine ev_goto 29 dX7_wording_109 (by decide) ?_
                    have e := ih (j - 1) (by omega) (k + 1) (by omega) S T
                    simp only [upto, pickW, gdW, ho, hmk, c_78, decide_true, decide_false, if_true, if_false] at e
                    exact e _ _
                  · have c_78 : goal ≤ wtF I t wi v := by first | exact c_66 | exact absurd rfl c_78
                    refine ev_iload_n (q := 82) dX7_wording_81 rfl rfl ?_
                    refine ev_if_lt (q := 85) 99 dX7_wording_82 (by decide) rfl (fun c_82 => ?_) (fun c_82 => ?_)
                    · refine ev_iload (q := 101) dX7_wording_99 rfl rfl ?_
                      refine ev_goto 105 dX7_wording_101 (by decide) ?_
                      refine ev_ist_3 (q := 106) dX7_wording_105 rfl rfl ?_
                      refine ev_inc_4 (q := 109) (nI (k + 1)) dX7_wording_106 (nI_1 k) rfl rfl ?_
                      refine ev_goto 29 dX7_wording_109 (by decide) ?_
                      have e := ih (j - 1) (by omega) (k + 1) (by omega) S T
                      simp only [upto, pickW, gdW, ho, hmk, c_78, decide_true, decide_false, if_true, if_false] at e
                      exact e _ _
                    · exact absurd neg6 c_82
        | some u =>
          have hu := hlt u ho
          have hwu := wd_le (num := u) h6
          cases hmk : mtF I J t sl wy wi k he with
          | none =>
            refine ev_iload (q := 31) dX7_wording_29 rfl rfl ?_
            refine ev_aload_n (q := 32) dX7_wording_31 rfl rfl ?_
            refine ev_callV0i (q := 35) dX7_wording_32 ca_X7_201 (s_X7_terms hn hm) rfl (lt_n hn (by decide)) rfl rfl (Nat.le_of_ble_eq_true rfl) (Nat.le_of_ble_eq_true rfl) (by decide) (by decide) rfl ?_
            refine ev_icmp_ge (q := 38) 112 dX7_wording_35 (by decide) rfl (fun c_35 => ?_) (fun c_35 => ?_)
            · have c_35 : 3 ^ t ≤ k := (nI_leI (by omega) (by omega)).mp c_35
              refine ev_iload_n (q := 113) dX7_wording_112 rfl rfl ?_
              refine ev_if_lt (q := 116) 120 dX7_wording_113 (by decide) rfl (fun c_113 => ?_) (fun c_113 => ?_)
              · exact absurd c_113 (nI_pos (by omega))
              · refine ev_iload_n (q := 117) dX7_wording_116 rfl rfl ?_
                refine ev_if_ne (q := 120) 124 dX7_wording_117 (by decide) rfl (fun c_117 => ?_) (fun c_117 => ?_)
                · refine ev_aload_n (q := 125) dX7_wording_124 rfl rfl ?_
                  refine ev_iload_n (q := 126) dX7_wording_125 rfl rfl ?_
                  refine ev_callV1i (q := 129) dX7_wording_126 ca_X7_207 (s_X7_words (num := u) hn hm (by omega)) rfl (lt_n hn (by decide)) rfl rfl (Nat.le_of_ble_eq_true rfl) (Nat.le_of_ble_eq_true rfl) (by decide) (by decide) rfl ?_
                  exact ev_iretE dX7_wording_129 rfl rfl (by rw [show 3 ^ t = k by omega, ho]; first | (simp [c_117]; done) | (simp [c_117]; rfl)) rfl rfl (hQ _ _)
                · refine ev_iload_n (q := 121) dX7_wording_120 rfl rfl ?_
                  refine ev_goto 129 dX7_wording_121 (by decide) ?_
                  exact ev_iretE dX7_wording_129 rfl rfl (by rw [show 3 ^ t = k by omega, ho]; first | (simp [c_117]; done) | (simp [c_117]; rfl)) rfl rfl (hQ _ _)
            · have c_35 : ¬ 3 ^ t ≤ k := fun h => c_35 ((nI_leI (by omega) (by omega)).mpr h)
              refine ev_aload_n (q := 39) dX7_wording_38 rfl rfl ?_
              refine ev_iload (q := 41) dX7_wording_39 rfl rfl ?_
              refine ev_aload_n (q := 42) dX7_wording_41 rfl rfl ?_
              refine ev_get (q := 45) dX7_wording_42 fr_X7_73 rfl (lt_n hn (by decide)) rfl rfl ?_
              rw [show ov I S 33 7 = nI he from hhe]
              refine ev_callV2iS (q := 48) dX7_wording_45 ca_X7_204 (s_X7_madeOfTerm hn hm (by omega) (by omega)) rfl (lt_n hn (by decide)) rfl rfl (Nat.le_of_ble_eq_true rfl) (Nat.le_of_ble_eq_true rfl) (by decide) (by decide) rfl (fun S T => ?_)
              rw [hmk]
              refine ev_ist_5 (q := 50) dX7_wording_48 rfl rfl ?_
              refine ev_iload (q := 52) dX7_wording_50 rfl rfl ?_
              refine ev_if_lt (q := 55) 73 dX7_wording_52 (by decide) rfl (fun c_52 => ?_) (fun c_52 => ?_)
              · refine ev_iconst (q := 74) (0) dX7_wording_73 (by decide) rfl ?_
                refine ev_ist_6 (q := 76) dX7_wording_74 rfl rfl ?_
                refine ev_iload (q := 78) dX7_wording_76 rfl rfl ?_
                refine ev_if_eq (q := 81) 104 dX7_wording_78 (by decide) rfl (fun c_78 => ?_) (fun c_78 => ?_)
                · refine ev_iload_n (q := 105) dX7_wording_104 rfl rfl ?_
                  refine ev_ist_3 (q := 106) dX7_wording_105 rfl rfl ?_
                  refine ev_inc_4 (q := 109) (nI (k + 1)) dX7_wording_106 (nI_1 k) rfl rfl ?_
                  refine ev_goto 29 dX7_wording_109 (by decide) ?_
                  have e := ih (j - 1) (by omega) (k + 1) (by omega) S T
                  simp only [upto, pickW, gdW, ho, hmk] at e
                  exact e _ _
                · exact absurd rfl c_78
              · exact absurd neg6 c_52
          | some v =>
            have hv := mtF_lt hmk
            refine ev_iload (q := 31) dX7_wording_29 rfl rfl ?_
            refine ev_aload_n (q := 32) dX7_wording_31 rfl rfl ?_
            refine ev_callV0i (q := 35) dX7_wording_32 ca_X7_201 (s_X7_terms hn hm) rfl (lt_n hn (by decide)) rfl rfl (Nat.le_of_ble_eq_true rfl) (Nat.le_of_ble_eq_true rfl) (by decide) (by decide) rfl ?_
            refine ev_icmp_ge (q := 38) 112 dX7_wording_35 (by decide) rfl (fun c_35 => ?_) (fun c_35 => ?_)
            · have c_35 : 3 ^ t ≤ k := (nI_leI (by omega) (by omega)).mp c_35
              refine ev_iload_n (q := 113) dX7_wording_112 rfl rfl ?_
              refine ev_if_lt (q := 116) 120 dX7_wording_113 (by decide) rfl (fun c_113 => ?_) (fun c_113 => ?_)
              · exact absurd c_113 (nI_pos (by omega))
              · refine ev_iload_n (q := 117) dX7_wording_116 rfl rfl ?_
                refine ev_if_ne (q := 120) 124 dX7_wording_117 (by decide) rfl (fun c_117 => ?_) (fun c_117 => ?_)
                · refine ev_aload_n (q := 125) dX7_wording_124 rfl rfl ?_
                  refine ev_iload_n (q := 126) dX7_wording_125 rfl rfl ?_
                  refine ev_callV1i (q := 129) dX7_wording_126 ca_X7_207 (s_X7_words (num := u) hn hm (by omega)) rfl (lt_n hn (by decide)) rfl rfl (Nat.le_of_ble_eq_true rfl) (Nat.le_of_ble_eq_true rfl) (by decide) (by decide) rfl ?_
                  exact ev_iretE dX7_wording_129 rfl rfl (by rw [show 3 ^ t = k by omega, ho]; first | (simp [c_117]; done) | (simp [c_117]; rfl)) rfl rfl (hQ _ _)
                · refine ev_iload_n (q := 121) dX7_wording_120 rfl rfl ?_
                  refine ev_goto 129 dX7_wording_121 (by decide) ?_
                  exact ev_iretE dX7_wording_129 rfl rfl (by rw [show 3 ^ t = k by omega, ho]; first | (simp [c_117]; done) | (simp [c_117]; rfl)) rfl rfl (hQ _ _)
            · have c_35 : ¬ 3 ^ t ≤ k := fun h => c_35 ((nI_leI (by omega) (by omega)).mpr h)
              refine ev_aload_n (q := 39) dX7_wording_38 rfl rfl ?_
              refine ev_iload (q := 41) dX7_wording_39 rfl rfl ?_
              refine ev_aload_n (q := 42) dX7_wording_41 rfl rfl ?_
              refine ev_get (q := 45) dX7_wording_42 fr_X7_73 rfl (lt_n hn (by decide)) rfl rfl ?_
              rw [show ov I S 33 7 = nI he from hhe]
              refine ev_callV2iS (q := 48) dX7_wording_45 ca_X7_204 (s_X7_madeOfTerm hn hm (by omega) (by omega)) rfl (lt_n hn (by decide)) rfl rfl (Nat.le_of_ble_eq_true rfl) (Nat.le_of_ble_eq_true rfl) (by decide) (by decide) rfl (fun S T => ?_)
              rw [hmk]
              refine ev_ist_5 (q := 50) dX7_wording_48 rfl rfl ?_
              refine ev_iload (q := 52) dX7_wording_50 rfl rfl ?_
              refine ev_if_lt (q := 55) 73 dX7_wording_52 (by decide) rfl (fun c_52 => ?_) (fun c_52 => ?_)
              · exact absurd c_52 (nI_pos (by omega))
              · refine ev_aload_n (q := 56) dX7_wording_55 rfl rfl ?_
                refine ev_aload_n (q := 57) dX7_wording_56 rfl rfl ?_
                refine ev_get (q := 60) dX7_wording_57 fr_X7_67 rfl (lt_n hn (by decide)) rfl rfl ?_
                rw [show ov I S 33 5 = nI wi from hwi]
                refine ev_iload (q := 62) dX7_wording_60 rfl rfl ?_
                refine ev_callV2i (q := 65) dX7_wording_62 ca_X7_117 (s_X7_worthTo (w := v) hn hm (by omega) (by omega)) rfl (lt_n hn (by decide)) rfl rfl (Nat.le_of_ble_eq_true rfl) (Nat.le_of_ble_eq_true rfl) (by decide) (by decide) rfl ?_
                refine ev_iload_n (q := 66) dX7_wording_65 rfl rfl ?_
                refine ev_icmp_lt (q := 69) 73 dX7_wording_66 (by decide) rfl (fun c_66 => ?_) (fun c_66 => ?_)
                · have c_66 : ¬ goal ≤ wtF I t wi v := fun h => absurd c_66 (by simp only [i_le, i_lt] at *; omega)
                  refine ev_iconst (q := 74) (0) dX7_wording_73 (by decide) rfl ?_
                  refine ev_ist_6 (q := 76) dX7_wording_74 rfl rfl ?_
                  refine ev_iload (q := 78) dX7_wording_76 rfl rfl ?_
                  refine ev_if_eq (q := 81) 104 dX7_wording_78 (by decide) rfl (fun c_78 => ?_) (fun c_78 => ?_)
                  · have c_78 : ¬ goal ≤ wtF I t wi v := by first | exact c_66 | exact absurd c_78 (by decide)
                    refine ev_iload_n (q := 105) dX7_wording_104 rfl rfl ?_
                    refine ev_ist_3 (q := 106) dX7_wording_105 rfl rfl ?_
                    refine ev_inc_4 (q := 109) (nI (k + 1)) dX7_wording_106 (nI_1 k) rfl rfl ?_
                    refine ev_goto 29 dX7_wording_109 (by decide) ?_
                    have e := ih (j - 1) (by omega) (k + 1) (by omega) S T
                    first | (simp only [upto, pickW, gdW, ho, hmk, c_78, c_96, decide_true, decide_false, if_true, if_false] at e; exact e _ _) | (simp only [upto, pickW, gdW, ho, hmk, c_78, decide_true, decide_false, if_true, if_false] at e; exact e _ _)
                  · have c_78 : goal ≤ wtF I t wi v := by first | exact c_66 | exact absurd rfl c_78
                    refine ev_iload_n (q := 82) dX7_wording_81 rfl rfl ?_
                    refine ev_if_lt (q := 85) 99 dX7_wording_82 (by decide) rfl (fun c_82 => ?_) (fun c_82 => ?_)
                    · exact absurd c_82 (nI_pos (by omega))
                    · refine ev_aload_n (q := 86) dX7_wording_85 rfl rfl ?_
                      refine ev_iload (q := 88) dX7_wording_86 rfl rfl ?_
                      refine ev_callV1i (q := 91) dX7_wording_88 ca_X7_207 (s_X7_words hn hm (by omega)) rfl (lt_n hn (by decide)) rfl rfl (Nat.le_of_ble_eq_true rfl) (Nat.le_of_ble_eq_true rfl) (by decide) (by decide) rfl ?_
                      refine ev_aload_n (q := 92) dX7_wording_91 rfl rfl ?_
                      refine ev_iload_n (q := 93) dX7_wording_92 rfl rfl ?_
                      refine ev_callV1i (q := 96) dX7_wording_93 ca_X7_207 (s_X7_words (num := u) hn hm (by omega)) rfl (lt_n hn (by decide)) rfl rfl (Nat.le_of_ble_eq_true rfl) (Nat.le_of_ble_eq_true rfl) (by decide) (by decide) rfl ?_
                      refine ev_icmp_ge (q := 99) 104 dX7_wording_96 (by decide) rfl (fun c_96 => ?_) (fun c_96 => ?_)
                      · have c_96 : ¬ wd t k < wd t u := Nat.not_lt.mpr ((nI_leI (by omega) (by omega)).mp c_96)
                        refine ev_iload_n (q := 105) dX7_wording_104 rfl rfl ?_
                        refine ev_ist_3 (q := 106) dX7_wording_105 rfl rfl ?_
                        refine ev_inc_4 (q := 109) (nI (k + 1)) dX7_wording_106 (nI_1 k) rfl rfl ?_
                        refine ev_goto 29 dX7_wording_109 (by decide) ?_
                        have e := ih (j - 1) (by omega) (k + 1) (by omega) S T
                        first | (simp only [upto, pickW, gdW, ho, hmk, c_78, c_96, decide_true, decide_false, if_true, if_false] at e; exact e _ _) | (simp only [upto, pickW, gdW, ho, hmk, c_78, decide_true, decide_false, if_true, if_false] at e; exact e _ _)
                      · have c_96 : wd t k < wd t u := Nat.not_le.mp fun h => c_96 ((nI_leI (by omega) (by omega)).mpr h)
                        refine ev_iload (q := 101) dX7_wording_99 rfl rfl ?_
                        refine ev_goto 105 dX7_wording_101 (by decide) ?_
                        refine ev_ist_3 (q := 106) dX7_wording_105 rfl rfl ?_
                        refine ev_inc_4 (q := 109) (nI (k + 1)) dX7_wording_106 (nI_1 k) rfl rfl ?_
                        refine ev_goto 29 dX7_wording_109 (by decide) ?_
                        have e := ih (j - 1) (by omega) (k + 1) (by omega) S T
                        first | (simp only [upto, pickW, gdW, ho, hmk, c_78, c_96, decide_true, decide_false, if_true, if_false] at e; exact e _ _) | (simp only [upto, pickW, gdW, ho, hmk, c_78, decide_true, decide_false, if_true, if_false] at e; exact e _ _)
                · have c_66 : goal ≤ wtF I t wi v := by simp only [i_le, i_lt] at *; omega
                  refine ev_iconst (q := 70) (1) dX7_wording_69 (by decide) rfl ?_
                  refine ev_goto 74 dX7_wording_70 (by decide) ?_
                  refine ev_ist_6 (q := 76) dX7_wording_74 rfl rfl ?_
                  refine ev_iload (q := 78) dX7_wording_76 rfl rfl ?_
                  refine ev_if_eq (q := 81) 104 dX7_wording_78 (by decide) rfl (fun c_78 => ?_) (fun c_78 => ?_)
                  · have c_78 : ¬ goal ≤ wtF I t wi v := by first | exact c_66 | exact absurd c_78 (by decide)
                    refine ev_iload_n (q := 105) dX7_wording_104 rfl rfl ?_
                    refine ev_ist_3 (q := 106) dX7_wording_105 rfl rfl ?_
                    refine ev_inc_4 (q := 109) (nI (k + 1)) dX7_wording_106 (nI_1 k) rfl rfl ?_
                    refine ev_goto 29 dX7_wording_109 (by decide) ?_
                    have e := ih (j - 1) (by omega) (k + 1) (by omega) S T
                    first | (simp only [upto, pickW, gdW, ho, hmk, c_78, c_96, decide_true, decide_false, if_true, if_false] at e; exact e _ _) | (simp only [upto, pickW, gdW, ho, hmk, c_78, decide_true, decide_false, if_true, if_false] at e; exact e _ _)
                  · have c_78 : goal ≤ wtF I t wi v := by first | exact c_66 | exact absurd rfl c_78
                    refine ev_iload_n (q := 82) dX7_wording_81 rfl rfl ?_
                    refine ev_if_lt (q := 85) 99 dX7_wording_82 (by decide) rfl (fun c_82 => ?_) (fun c_82 => ?_)
                    · exact absurd c_82 (nI_pos (by omega))
                    · refine ev_aload_n (q := 86) dX7_wording_85 rfl rfl ?_
                      refine ev_iload (q := 88) dX7_wording_86 rfl rfl ?_
                      refine ev_callV1i (q := 91) dX7_wording_88 ca_X7_207 (s_X7_words hn hm (by omega)) rfl (lt_n hn (by decide)) rfl rfl (Nat.le_of_ble_eq_true rfl) (Nat.le_of_ble_eq_true rfl) (by decide) (by decide) rfl ?_
                      refine ev_aload_n (q := 92) dX7_wording_91 rfl rfl ?_
                      refine ev_iload_n (q := 93) dX7_wording_92 rfl rfl ?_
                      refine ev_callV1i (q := 96) dX7_wording_93 ca_X7_207 (s_X7_words (num := u) hn hm (by omega)) rfl (lt_n hn (by decide)) rfl rfl (Nat.le_of_ble_eq_true rfl) (Nat.le_of_ble_eq_true rfl) (by decide) (by decide) rfl ?_
                      refine ev_icmp_ge (q := 99) 104 dX7_wording_96 (by decide) rfl (fun c_96 => ?_) (fun c_96 => ?_)
                      · have c_96 : ¬ wd t k < wd t u := Nat.not_lt.mpr ((nI_leI (by omega) (by omega)).mp c_96)
                        refine ev_iload_n (q := 105) dX7_wording_104 rfl rfl ?_
                        refine ev_ist_3 (q := 106) dX7_wording_105 rfl rfl ?_
                        refine ev_inc_4 (q := 109) (nI (k + 1)) dX7_wording_106 (nI_1 k) rfl rfl ?_
                        refine ev_goto 29 dX7_wording_109 (by decide) ?_
                        have e := ih (j - 1) (by omega) (k + 1) (by omega) S T
                        first | (simp only [upto, pickW, gdW, ho, hmk, c_78, c_96, decide_true, decide_false, if_true, if_false] at e; exact e _ _) | (simp only [upto, pickW, gdW, ho, hmk, c_78, decide_true, decide_false, if_true, if_false] at e; exact e _ _)
                      · have c_96 : wd t k < wd t u := Nat.not_le.mp fun h => c_96 ((nI_leI (by omega) (by omega)).mpr h)
                        refine ev_iload (q := 101) dX7_wording_99 rfl rfl ?_
                        refine ev_goto 105 dX7_wording_101 (by decide) ?_
                        refine ev_ist_3 (q := 106) dX7_wording_105 rfl rfl ?_
                        refine ev_inc_4 (q := 109) (nI (k + 1)) dX7_wording_106 (nI_1 k) rfl rfl ?_
                        refine ev_goto 29 dX7_wording_109 (by decide) ?_
                        have e := ih (j - 1) (by omega) (k + 1) (by omega) S T
                        first | (simp only [upto, pickW, gdW, ho, hmk, c_78, c_96, decide_true, decide_false, if_true, if_false] at e; exact e _ _) | (simp only [upto, pickW, gdW, ho, hmk, c_78, decide_true, decide_false, if_true, if_false] at e; exact e _ _)
    refine ev_iload_n (q := 1) dX7_wording_0 rfl rfl ?_
    refine ev_bipush (q := 3) (-99) dX7_wording_1 (by decide) rfl ?_
    refine ev_bipush (q := 5) (99) dX7_wording_3 (by decide) rfl ?_
    refine ev_callS3i (q := 8) dX7_wording_5 ca_X7_99 (c_X7_in _ _ _) (Nat.le_of_ble_eq_true rfl) (Nat.le_of_ble_eq_true rfl) (by decide) (by decide) rfl ?_
    refine ev_if_eq (q := 11) 20 dX7_wording_8 (by decide) rfl (fun c_8 => ?_) (fun c_8 => ?_)
    · exact absurd c_8 (b2i_n0.mpr hin.1)
    · refine ev_iload_n (q := 12) dX7_wording_11 rfl rfl ?_
      refine ev_iconst (q := 13) (0) dX7_wording_12 (by decide) rfl ?_
      refine ev_iconst (q := 14) (1) dX7_wording_13 (by decide) rfl ?_
      refine ev_callS3i (q := 17) dX7_wording_14 ca_X7_99 (c_X7_in _ _ _) (Nat.le_of_ble_eq_true rfl) (Nat.le_of_ble_eq_true rfl) (by decide) (by decide) rfl ?_
      refine ev_if_ne (q := 20) 23 dX7_wording_17 (by decide) rfl (fun c_17 => ?_) (fun c_17 => ?_)
      · refine ev_bipush (q := 25) (-6) dX7_wording_23 (by decide) rfl ?_
        refine ev_ist_3 (q := 26) dX7_wording_25 rfl rfl ?_
        refine ev_iconst (q := 27) (0) dX7_wording_26 (by decide) rfl ?_
        refine ev_ist_4 (q := 29) dX7_wording_27 rfl rfl ?_
        exact lp (3 ^ t) 0 (by omega) _ _ _ _
      · exact absurd c_17 (b2i_n0.mpr hin.2)
end MODEL7
end
section
section MODEL8
variable {xl : Nat} {xs : Nat → Int32} {n : Nat} {h : Nat → PC} {I S : Nat → Nat → Int32} {J T : Nat → Nat → Int64} {X : Nat → Option Nat} {t sl wy wi he : Nat}
theorem s_X7_most (hn : 49 ≤ n) (hm : MI I t sl wy wi he) (most what : Int32) : RnS xl xs 5 114 0 0 mX7_most [.ref 33, .int most, .int what] n I J X (some (.int (if inb most 0 6 && inb what 0 1 then (match upto (pickB (btW t) (ownM I J t sl wy wi he most)) (3 ^ t) none with | none => -6 | some p => if what = 1 then nI p.1 else p.2 + 1000) else -2))) n I J X := by
  intro S T Q hQ
  have hm' := hm
  obtain ⟨ht, ht2, h6, hs, hs6, hwy, h3, hwi, h4, hhe, hhl⟩ := hm'
  have h64 := p2_le h6
  have h729 := p3_le h6
  show Ev xl xs 5 114 0 0 mX7_most 0 [some (.ref 33), some (.int most), some (.int what), none, none, none, none, none] [] n (sysH (ov I S) (ovJ J T) X) Q
  cases hin : (inb most 0 6 && inb what 0 1) with
  | false =>
    rw [hin] at hQ
    refine ev_iload_n (q := 1) dX7_most_0 rfl rfl ?_
    refine ev_iconst (q := 2) (0) dX7_most_1 (by decide) rfl ?_
    refine ev_bipush (q := 4) (6) dX7_most_2 (by decide) rfl ?_
    refine ev_callS3i (q := 7) dX7_most_4 ca_X7_99 (c_X7_in _ _ _) (Nat.le_of_ble_eq_true rfl) (Nat.le_of_ble_eq_true rfl) (by decide) (by decide) rfl ?_
    refine ev_if_eq (q := 10) 19 dX7_most_7 (by decide) rfl (fun c_7 => ?_) (fun c_7 => ?_)
    · have c_7 := b2i_0.mp c_7
      refine ev_bipush (q := 21) (-2) dX7_most_19 (by decide) rfl ?_
      exact ev_iretE dX7_most_21 rfl rfl rfl rfl rfl (hQ _ _)
    · have c_7 := b2i_n0.mp c_7
      refine ev_iload_n (q := 11) dX7_most_10 rfl rfl ?_
      refine ev_iconst (q := 12) (0) dX7_most_11 (by decide) rfl ?_
      refine ev_iconst (q := 13) (1) dX7_most_12 (by decide) rfl ?_
      refine ev_callS3i (q := 16) dX7_most_13 ca_X7_99 (c_X7_in _ _ _) (Nat.le_of_ble_eq_true rfl) (Nat.le_of_ble_eq_true rfl) (by decide) (by decide) rfl ?_
      refine ev_if_ne (q := 19) 22 dX7_most_16 (by decide) rfl (fun c_16 => ?_) (fun c_16 => ?_)
      · exact absurd (b2i_ne.mp c_16) (by rw [c_7, Bool.true_and] at hin; rw [hin]; decide)
      · refine ev_bipush (q := 21) (-2) dX7_most_19 (by decide) rfl ?_
        exact ev_iretE dX7_most_21 rfl rfl rfl rfl rfl (hQ _ _)
  | true =>
    rw [hin] at hQ
    have hin := Bool.and_eq_true_iff.mp hin
    have lp : ∀ j k, k + j = 3 ^ t → ∀ S T a6 a7, Ev xl xs 5 114 0 0 mX7_most 31 [some (.ref 33), some (.int most), some (.int what), some (.int (eoP (upto (pickB (btW t) (ownM I J t sl wy wi he most)) k none))), some (.int (bvP (upto (pickB (btW t) (ownM I J t sl wy wi he most)) k none))), some (.int (nI k)), a6, a7] [] n (sysH (ov I S) (ovJ J T) X) Q := by
      intro j
      induction j using Nat.strongRecOn with
      | _ j ih =>
        intro k hk S T a6 a7
        have hlt := pickB_lt (better := btW t) (own := ownM I J t sl wy wi he most) k
        have hwk := wd_le (num := k) h6
        cases ho : upto (pickB (btW t) (ownM I J t sl wy wi he most)) k none with
        | none =>
          cases hmk : mtF I J t sl wy wi k he with
          | none =>
            refine ev_iload (q := 33) dX7_most_31 rfl rfl ?_
            refine ev_aload_n (q := 34) dX7_most_33 rfl rfl ?_
            refine ev_callV0i (q := 37) dX7_most_34 ca_X7_201 (s_X7_terms hn hm) rfl (lt_n hn (by decide)) rfl rfl (Nat.le_of_ble_eq_true rfl) (Nat.le_of_ble_eq_true rfl) (by decide) (by decide) rfl ?_
            refine ev_icmp_ge (q := 40) 138 dX7_most_37 (by decide) rfl (fun c_37 => ?_) (fun c_37 => ?_)
            · have c_37 : 3 ^ t ≤ k := (nI_leI (by omega) (by omega)).mp c_37
              refine ev_iload_n (q := 139) dX7_most_138 rfl rfl ?_
              refine ev_if_lt (q := 142) 147 dX7_most_139 (by decide) rfl (fun c_139 => ?_) (fun c_139 => ?_)
              · refine ev_iload_n (q := 148) dX7_most_147 rfl rfl ?_
                refine ev_goto 157 dX7_most_148 (by decide) ?_
                exact ev_iretE dX7_most_157 rfl rfl (by rw [show 3 ^ t = k by omega, ho]; rfl) rfl rfl (hQ _ _)
              · exact absurd neg6 c_139
            · have c_37 : ¬ 3 ^ t ≤ k := fun h => c_37 ((nI_leI (by omega) (by omega)).mpr h)
              refine ev_aload_n (q := 41) dX7_most_40 rfl rfl ?_
              refine ev_iload (q := 43) dX7_most_41 rfl rfl ?_
              refine ev_callV1i (q := 46) dX7_most_43 ca_X7_207 (s_X7_words hn hm (by omega)) rfl (lt_n hn (by decide)) rfl rfl (Nat.le_of_ble_eq_true rfl) (Nat.le_of_ble_eq_true rfl) (by decide) (by decide) rfl ?_
              refine ev_iload_n (q := 47) dX7_most_46 rfl rfl ?_
              refine ev_icmp_gt (q := 50) 63 dX7_most_47 (by decide) rfl (fun c_47 => ?_) (fun c_47 => ?_)
              · have c_47 : ¬ nI (wd t k) ≤ most := fun h => absurd c_47 (by simp only [i_le, i_lt] at *; omega)
                refine ev_bipush (q := 65) (-6) dX7_most_63 (by decide) rfl ?_
                refine ev_ist_6 (q := 67) dX7_most_65 rfl rfl ?_
                refine ev_iload (q := 69) dX7_most_67 rfl rfl ?_
                refine ev_if_ge (q := 72) 76 dX7_most_69 (by decide) rfl (fun c_69 => ?_) (fun c_69 => ?_)
                · exact absurd c_69 (by decide)
                · refine ev_iconst (q := 73) (0) dX7_most_72 (by decide) rfl ?_
                  refine ev_goto 86 dX7_most_73 (by decide) ?_
                  refine ev_ist_7 (q := 88) dX7_most_86 rfl rfl ?_
                  refine ev_iload (q := 90) dX7_most_88 rfl rfl ?_
                  refine ev_if_lt (q := 93) 132 dX7_most_90 (by decide) rfl (fun c_90 => ?_) (fun c_90 => ?_)
                  · refine ev_inc_5 (q := 135) (nI (k + 1)) dX7_most_132 (nI_1 k) rfl rfl ?_
                    refine ev_goto 31 dX7_most_135 (by decide) ?_
                    have e := ih (j - 1) (by omega) (k + 1) (by omega) S T
                    simp only [upto, pickB, ownM, ho, hmk, c_47, if_true, if_false, Option.map_none] at e
                    exact e _ _
                  · exact absurd neg6 c_90
              · have c_47 : nI (wd t k) ≤ most := by simp only [i_le, i_lt] at *; omega
                refine ev_aload_n (q := 51) dX7_most_50 rfl rfl ?_
                refine ev_iload (q := 53) dX7_most_51 rfl rfl ?_
                refine ev_aload_n (q := 54) dX7_most_53 rfl rfl ?_
                refine ev_get (q := 57) dX7_most_54 fr_X7_73 rfl (lt_n hn (by decide)) rfl rfl ?_
                rw [show ov I S 33 7 = nI he from hhe]
                refine ev_callV2iS (q := 60) dX7_most_57 ca_X7_204 (s_X7_madeOfTerm hn hm (by omega) (by omega)) rfl (lt_n hn (by decide)) rfl rfl (Nat.le_of_ble_eq_true rfl) (Nat.le_of_ble_eq_true rfl) (by decide) (by decide) rfl (fun S T => ?_)
                rw [hmk]
                refine ev_goto 65 dX7_most_60 (by decide) ?_
                refine ev_ist_6 (q := 67) dX7_most_65 rfl rfl ?_
                refine ev_iload (q := 69) dX7_most_67 rfl rfl ?_
                refine ev_if_ge (q := 72) 76 dX7_most_69 (by decide) rfl (fun c_69 => ?_) (fun c_69 => ?_)
                · exact absurd c_69 (by decide)
                · refine ev_iconst (q := 73) (0) dX7_most_72 (by decide) rfl ?_
                  refine ev_goto 86 dX7_most_73 (by decide) ?_
                  refine ev_ist_7 (q := 88) dX7_most_86 rfl rfl ?_
                  refine ev_iload (q := 90) dX7_most_88 rfl rfl ?_
                  refine ev_if_lt (q := 93) 132 dX7_most_90 (by decide) rfl (fun c_90 => ?_) (fun c_90 => ?_)
                  · refine ev_inc_5 (q := 135) (nI (k + 1)) dX7_most_132 (nI_1 k) rfl rfl ?_
                    refine ev_goto 31 dX7_most_135 (by decide) ?_
                    have e := ih (j - 1) (by omega) (k + 1) (by omega) S T
                    simp only [upto, pickB, ownM, ho, hmk, c_47, if_true, if_false, Option.map_none] at e
                    exact e _ _
                  · exact absurd neg6 c_90
          | some v =>
            have hv := mtF_lt hmk
            refine ev_iload (q := 33) dX7_most_31 rfl rfl ?_
            refine ev_aload_n (q := 34) dX7_most_33 rfl rfl ?_
            refine ev_callV0i (q := 37) dX7_most_34 ca_X7_201 (s_X7_terms hn hm) rfl (lt_n hn (by decide)) rfl rfl (Nat.le_of_ble_eq_true rfl) (Nat.le_of_ble_eq_true rfl) (by decide) (by decide) rfl ?_
            refine ev_icmp_ge (q := 40) 138 dX7_most_37 (by decide) rfl (fun c_37 => ?_) (fun c_37 => ?_)
            · have c_37 : 3 ^ t ≤ k := (nI_leI (by omega) (by omega)).mp c_37
              refine ev_iload_n (q := 139) dX7_most_138 rfl rfl ?_
              refine ev_if_lt (q := 142) 147 dX7_most_139 (by decide) rfl (fun c_139 => ?_) (fun c_139 => ?_)
              · refine ev_iload_n (q := 148) dX7_most_147 rfl rfl ?_
                refine ev_goto 157 dX7_most_148 (by decide) ?_
                exact ev_iretE dX7_most_157 rfl rfl (by rw [show 3 ^ t = k by omega, ho]; rfl) rfl rfl (hQ _ _)
              · exact absurd neg6 c_139
            · have c_37 : ¬ 3 ^ t ≤ k := fun h => c_37 ((nI_leI (by omega) (by omega)).mpr h)
              refine ev_aload_n (q := 41) dX7_most_40 rfl rfl ?_
              refine ev_iload (q := 43) dX7_most_41 rfl rfl ?_
              refine ev_callV1i (q := 46) dX7_most_43 ca_X7_207 (s_X7_words hn hm (by omega)) rfl (lt_n hn (by decide)) rfl rfl (Nat.le_of_ble_eq_true rfl) (Nat.le_of_ble_eq_true rfl) (by decide) (by decide) rfl ?_
              refine ev_iload_n (q := 47) dX7_most_46 rfl rfl ?_
              refine ev_icmp_gt (q := 50) 63 dX7_most_47 (by decide) rfl (fun c_47 => ?_) (fun c_47 => ?_)
              · have c_47 : ¬ nI (wd t k) ≤ most := fun h => absurd c_47 (by simp only [i_le, i_lt] at *; omega)
                refine ev_bipush (q := 65) (-6) dX7_most_63 (by decide) rfl ?_
                refine ev_ist_6 (q := 67) dX7_most_65 rfl rfl ?_
                refine ev_iload (q := 69) dX7_most_67 rfl rfl ?_
                refine ev_if_ge (q := 72) 76 dX7_most_69 (by decide) rfl (fun c_69 => ?_) (fun c_69 => ?_)
                · try (exact absurd c_69 (by decide))
                  all_goals (
                    refine ev_aload_n (q := 77) dX7_most_76 rfl rfl ?_
                    refine ev_aload_n (q := 78) dX7_most_77 rfl rfl ?_
                    refine ev_get (q := 81) dX7_most_78 fr_X7_67 rfl (lt_n hn (by decide)) rfl rfl ?_
                    rw [show ov I S 33 5 = nI wi from hwi]
                    refine ev_iload (q := 83) dX7_most_81 rfl rfl ?_
                    refine ev_callV2i (q := 86) dX7_most_83 ca_X7_117 (s_X7_worthTo (w := v) hn hm (by omega) (by omega)) rfl (lt_n hn (by decide)) rfl rfl (Nat.le_of_ble_eq_true rfl) (Nat.le_of_ble_eq_true rfl) (by decide) (by decide) rfl ?_
                    refine ev_ist_7 (q := 88) dX7_most_86 rfl rfl ?_
                    refine ev_iload (q := 90) dX7_most_88 rfl rfl ?_
                    refine ev_if_lt (q := 93) 132 dX7_most_90 (by decide) rfl (fun c_90 => ?_) (fun c_90 => ?_)
                    · try (exact absurd c_90 (nI_pos (by omega)))
                      all_goals (
                        refine ev_inc_5 (q := 135) (nI (k + 1)) dX7_most_132 (nI_1 k) rfl rfl ?_
                        refine ev_goto 31 dX7_most_135 (by decide) ?_
                        have e := ih (j - 1) (by omega) (k + 1) (by omega) S T
                        simp only [upto, pickB, ownM, ho, hmk, c_47, if_true, if_false, Option.map_some] at e
                        exact e _ _
                      )
                    · try (exact absurd neg6 c_90)
                      all_goals (
                        refine ev_iload_n (q := 94) dX7_most_93 rfl rfl ?_
                        refine ev_if_lt (q := 97) 125 dX7_most_94 (by decide) rfl (fun c_94 => ?_) (fun c_94 => ?_)
                        · refine ev_iload (q := 127) dX7_most_125 rfl rfl ?_
                          refine ev_ist_3 (q := 128) dX7_most_127 rfl rfl ?_
                          refine ev_iload (q := 130) dX7_most_128 rfl rfl ?_
                          refine ev_ist_4 (q := 132) dX7_most_130 rfl rfl ?_
                          refine ev_inc_5 (q := 135) (nI (k + 1)) dX7_most_132 (nI_1 k) rfl rfl ?_
                          refine ev_goto 31 dX7_most_135 (by decide) ?_
                          have e := ih (j - 1) (by omega) (k + 1) (by omega) S T
                          simp only [upto, pickB, ownM, ho, hmk, c_47, if_true, if_false, Option.map_some] at e
                          exact e _ _
                        · exact absurd neg6 c_94
                      )
                  )
                · try (exact absurd (nI_pos' (by omega)) c_69)
                  all_goals (
                    refine ev_iconst (q := 73) (0) dX7_most_72 (by decide) rfl ?_
                    refine ev_goto 86 dX7_most_73 (by decide) ?_
                    refine ev_ist_7 (q := 88) dX7_most_86 rfl rfl ?_
                    refine ev_iload (q := 90) dX7_most_88 rfl rfl ?_
                    refine ev_if_lt (q := 93) 132 dX7_most_90 (by decide) rfl (fun c_90 => ?_) (fun c_90 => ?_)
                    · try (exact absurd c_90 (nI_pos (by omega)))
                      all_goals (
                        refine ev_inc_5 (q := 135) (nI (k + 1)) dX7_most_132 (nI_1 k) rfl rfl ?_
                        refine ev_goto 31 dX7_most_135 (by decide) ?_
                        have e := ih (j - 1) (by omega) (k + 1) (by omega) S T
                        simp only [upto, pickB, ownM, ho, hmk, c_47, if_true, if_false, Option.map_some] at e
                        exact e _ _
                      )
                    · try (exact absurd neg6 c_90)
                      all_goals (
                        refine ev_iload_n (q := 94) dX7_most_93 rfl rfl ?_
                        refine ev_if_lt (q := 97) 125 dX7_most_94 (by decide) rfl (fun c_94 => ?_) (fun c_94 => ?_)
                        · refine ev_iload (q := 127) dX7_most_125 rfl rfl ?_
                          refine ev_ist_3 (q := 128) dX7_most_127 rfl rfl ?_
                          refine ev_iload (q := 130) dX7_most_128 rfl rfl ?_
                          refine ev_ist_4 (q := 132) dX7_most_130 rfl rfl ?_
                          refine ev_inc_5 (q := 135) (nI (k + 1)) dX7_most_132 (nI_1 k) rfl rfl ?_
                          refine ev_goto 31 dX7_most_135 (by decide) ?_
                          have e := ih (j - 1) (by omega) (k + 1) (by omega) S T
                          simp only [upto, pickB, ownM, ho, hmk, c_47, if_true, if_false, Option.map_some] at e
                          exact e _ _
                        · exact absurd neg6 c_94
                      )
                  )
              · have c_47 : nI (wd t k) ≤ most := by simp only [i_le, i_lt] at *; omega
                refine ev_aload_n (q := 51) dX7_most_50 rfl rfl ?_
                refine ev_iload (q := 53) dX7_most_51 rfl rfl ?_
                refine ev_aload_n (q := 54) dX7_most_53 rfl rfl ?_
                refine ev_get (q := 57) dX7_most_54 fr_X7_73 rfl (lt_n hn (by decide)) rfl rfl ?_
                rw [show ov I S 33 7 = nI he from hhe]
                refine ev_callV2iS (q := 60) dX7_most_57 ca_X7_204 (s_X7_madeOfTerm hn hm (by omega) (by omega)) rfl (lt_n hn (by decide)) rfl rfl (Nat.le_of_ble_eq_true rfl) (Nat.le_of_ble_eq_true rfl) (by decide) (by decide) rfl (fun S T => ?_)
                rw [hmk]
                refine ev_goto 65 dX7_most_60 (by decide) ?_
                refine ev_ist_6 (q := 67) dX7_most_65 rfl rfl ?_
                refine ev_iload (q := 69) dX7_most_67 rfl rfl ?_
                refine ev_if_ge (q := 72) 76 dX7_most_69 (by decide) rfl (fun c_69 => ?_) (fun c_69 => ?_)
                · try (exact absurd c_69 (by decide))
                  all_goals (
                    refine ev_aload_n (q := 77) dX7_most_76 rfl rfl ?_
                    refine ev_aload_n (q := 78) dX7_most_77 rfl rfl ?_
                    refine ev_get (q := 81) dX7_most_78 fr_X7_67 rfl (lt_n hn (by decide)) rfl rfl ?_
                    rw [show ov I S 33 5 = nI wi from hwi]
                    refine ev_iload (q := 83) dX7_most_81 rfl rfl ?_
                    refine ev_callV2i (q := 86) dX7_most_83 ca_X7_117 (s_X7_worthTo (w := v) hn hm (by omega) (by omega)) rfl (lt_n hn (by decide)) rfl rfl (Nat.le_of_ble_eq_true rfl) (Nat.le_of_ble_eq_true rfl) (by decide) (by decide) rfl ?_
                    refine ev_ist_7 (q := 88) dX7_most_86 rfl rfl ?_
                    refine ev_iload (q := 90) dX7_most_88 rfl rfl ?_
                    refine ev_if_lt (q := 93) 132 dX7_most_90 (by decide) rfl (fun c_90 => ?_) (fun c_90 => ?_)
                    · try (exact absurd c_90 (nI_pos (by omega)))
                      all_goals (
                        refine ev_inc_5 (q := 135) (nI (k + 1)) dX7_most_132 (nI_1 k) rfl rfl ?_
                        refine ev_goto 31 dX7_most_135 (by decide) ?_
                        have e := ih (j - 1) (by omega) (k + 1) (by omega) S T
                        simp only [upto, pickB, ownM, ho, hmk, c_47, if_true, if_false, Option.map_some] at e
                        exact e _ _
                      )
                    · try (exact absurd neg6 c_90)
                      all_goals (
                        refine ev_iload_n (q := 94) dX7_most_93 rfl rfl ?_
                        refine ev_if_lt (q := 97) 125 dX7_most_94 (by decide) rfl (fun c_94 => ?_) (fun c_94 => ?_)
                        · refine ev_iload (q := 127) dX7_most_125 rfl rfl ?_
                          refine ev_ist_3 (q := 128) dX7_most_127 rfl rfl ?_
                          refine ev_iload (q := 130) dX7_most_128 rfl rfl ?_
                          refine ev_ist_4 (q := 132) dX7_most_130 rfl rfl ?_
                          refine ev_inc_5 (q := 135) (nI (k + 1)) dX7_most_132 (nI_1 k) rfl rfl ?_
                          refine ev_goto 31 dX7_most_135 (by decide) ?_
                          have e := ih (j - 1) (by omega) (k + 1) (by omega) S T
                          simp only [upto, pickB, ownM, ho, hmk, c_47, if_true, if_false, Option.map_some] at e
                          exact e _ _
                        · exact absurd neg6 c_94
                      )
                  )
                · try (exact absurd (nI_pos' (by omega)) c_69)
                  all_goals (
                    refine ev_iconst (q := 73) (0) dX7_most_72 (by decide) rfl ?_
                    refine ev_goto 86 dX7_most_73 (by decide) ?_
                    refine ev_ist_7 (q := 88) dX7_most_86 rfl rfl ?_
                    refine ev_iload (q := 90) dX7_most_88 rfl rfl ?_
                    refine ev_if_lt (q := 93) 132 dX7_most_90 (by decide) rfl (fun c_90 => ?_) (fun c_90 => ?_)
                    · try (exact absurd c_90 (nI_pos (by omega)))
                      all_goals (
                        refine ev_inc_5 (q := 135) (nI (k + 1)) dX7_most_132 (nI_1 k) rfl rfl ?_
                        refine ev_goto 31 dX7_most_135 (by decide) ?_
                        have e := ih (j - 1) (by omega) (k + 1) (by omega) S T
                        simp only [upto, pickB, ownM, ho, hmk, c_47, if_true, if_false, Option.map_some] at e
                        exact e _ _
                      )
                    · try (exact absurd neg6 c_90)
                      all_goals (
                        refine ev_iload_n (q := 94) dX7_most_93 rfl rfl ?_
                        refine ev_if_lt (q := 97) 125 dX7_most_94 (by decide) rfl (fun c_94 => ?_) (fun c_94 => ?_)
                        · refine ev_iload (q := 127) dX7_most_125 rfl rfl ?_
                          refine ev_ist_3 (q := 128) dX7_most_127 rfl rfl ?_
                          refine ev_iload (q := 130) dX7_most_128 rfl rfl ?_
                          refine ev_ist_4 (q := 132) dX7_most_130 rfl rfl ?_
                          refine ev_inc_5 (q := 135) (nI (k + 1)) dX7_most_132 (nI_1 k) rfl rfl ?_
                          refine ev_goto 31 dX7_most_135 (by decide) ?_
                          have e := ih (j - 1) (by omega) (k + 1) (by omega) S T
                          simp only [upto, pickB, ownM, ho, hmk, c_47, if_true, if_false, Option.map_some] at e
                          exact e _ _
                        · exact absurd neg6 c_94
                      )
                  )
        | some p =>
          obtain ⟨u, b⟩ := p
          have hu := hlt u b ho
          have hwu := wd_le (num := u) h6
          cases hmk : mtF I J t sl wy wi k he with
          | none =>
            refine ev_iload (q := 33) dX7_most_31 rfl rfl ?_
            refine ev_aload_n (q := 34) dX7_most_33 rfl rfl ?_
            refine ev_callV0i (q := 37) dX7_most_34 ca_X7_201 (s_X7_terms hn hm) rfl (lt_n hn (by decide)) rfl rfl (Nat.le_of_ble_eq_true rfl) (Nat.le_of_ble_eq_true rfl) (by decide) (by decide) rfl ?_
            refine ev_icmp_ge (q := 40) 138 dX7_most_37 (by decide) rfl (fun c_37 => ?_) (fun c_37 => ?_)
            · have c_37 : 3 ^ t ≤ k := (nI_leI (by omega) (by omega)).mp c_37
              refine ev_iload_n (q := 139) dX7_most_138 rfl rfl ?_
              refine ev_if_lt (q := 142) 147 dX7_most_139 (by decide) rfl (fun c_139 => ?_) (fun c_139 => ?_)
              · exact absurd c_139 (nI_pos (by omega))
              · refine ev_iload_n (q := 143) dX7_most_142 rfl rfl ?_
                refine ev_iconst (q := 144) (1) dX7_most_143 (by decide) rfl ?_
                refine ev_icmp_ne (q := 147) 151 dX7_most_144 (by decide) rfl (fun c_144 => ?_) (fun c_144 => ?_)
                · refine ev_iload (q := 153) dX7_most_151 rfl rfl ?_
                  refine ev_sipush (q := 156) (1000) dX7_most_153 (by decide) rfl ?_
                  refine ev_iadd (q := 157) dX7_most_156 rfl ?_
                  exact ev_iretE dX7_most_157 rfl rfl (by rw [show 3 ^ t = k by omega, ho]; first | (simp [c_144]; done) | (simp [c_144]; rfl)) rfl rfl (hQ _ _)
                · refine ev_iload_n (q := 148) dX7_most_147 rfl rfl ?_
                  refine ev_goto 157 dX7_most_148 (by decide) ?_
                  exact ev_iretE dX7_most_157 rfl rfl (by rw [show 3 ^ t = k by omega, ho]; first | (simp [c_144]; done) | (simp [c_144]; rfl)) rfl rfl (hQ _ _)
            · have c_37 : ¬ 3 ^ t ≤ k := fun h => c_37 ((nI_leI (by omega) (by omega)).mpr h)
              refine ev_aload_n (q := 41) dX7_most_40 rfl rfl ?_
              refine ev_iload (q := 43) dX7_most_41 rfl rfl ?_
              refine ev_callV1i (q := 46) dX7_most_43 ca_X7_207 (s_X7_words hn hm (by omega)) rfl (lt_n hn (by decide)) rfl rfl (Nat.le_of_ble_eq_true rfl) (Nat.le_of_ble_eq_true rfl) (by decide) (by decide) rfl ?_
              refine ev_iload_n (q := 47) dX7_most_46 rfl rfl ?_
              refine ev_icmp_gt (q := 50) 63 dX7_most_47 (by decide) rfl (fun c_47 => ?_) (fun c_47 => ?_)
              · have c_47 : ¬ nI (wd t k) ≤ most := fun h => absurd c_47 (by simp only [i_le, i_lt] at *; omega)
                refine ev_bipush (q := 65) (-6) dX7_most_63 (by decide) rfl ?_
                refine ev_ist_6 (q := 67) dX7_most_65 rfl rfl ?_
                refine ev_iload (q := 69) dX7_most_67 rfl rfl ?_
                refine ev_if_ge (q := 72) 76 dX7_most_69 (by decide) rfl (fun c_69 => ?_) (fun c_69 => ?_)
                · exact absurd c_69 (by decide)
                · refine ev_iconst (q := 73) (0) dX7_most_72 (by decide) rfl ?_
                  refine ev_goto 86 dX7_most_73 (by decide) ?_
                  refine ev_ist_7 (q := 88) dX7_most_86 rfl rfl ?_
                  refine ev_iload (q := 90) dX7_most_88 rfl rfl ?_
                  refine ev_if_lt (q := 93) 132 dX7_most_90 (by decide) rfl (fun c_90 => ?_) (fun c_90 => ?_)
                  · refine ev_inc_5 (q := 135) (nI (k + 1)) dX7_most_132 (nI_1 k) rfl rfl ?_
                    refine ev_goto 31 dX7_most_135 (by decide) ?_
                    have e := ih (j - 1) (by omega) (k + 1) (by omega) S T
                    simp only [upto, pickB, ownM, ho, hmk, c_47, if_true, if_false, Option.map_none] at e
                    exact e _ _
                  · exact absurd neg6 c_90
              · have c_47 : nI (wd t k) ≤ most := by simp only [i_le, i_lt] at *; omega
                refine ev_aload_n (q := 51) dX7_most_50 rfl rfl ?_
                refine ev_iload (q := 53) dX7_most_51 rfl rfl ?_
                refine ev_aload_n (q := 54) dX7_most_53 rfl rfl ?_
                refine ev_get (q := 57) dX7_most_54 fr_X7_73 rfl (lt_n hn (by decide)) rfl rfl ?_
                rw [show ov I S 33 7 = nI he from hhe]
                refine ev_callV2iS (q := 60) dX7_most_57 ca_X7_204 (s_X7_madeOfTerm hn hm (by omega) (by omega)) rfl (lt_n hn (by decide)) rfl rfl (Nat.le_of_ble_eq_true rfl) (Nat.le_of_ble_eq_true rfl) (by decide) (by decide) rfl (fun S T => ?_)
                rw [hmk]
                refine ev_goto 65 dX7_most_60 (by decide) ?_
                refine ev_ist_6 (q := 67) dX7_most_65 rfl rfl ?_
                refine ev_iload (q := 69) dX7_most_67 rfl rfl ?_
                refine ev_if_ge (q := 72) 76 dX7_most_69 (by decide) rfl (fun c_69 => ?_) (fun c_69 => ?_)
                · exact absurd c_69 (by decide)
                · refine ev_iconst (q := 73) (0) dX7_most_72 (by decide) rfl ?_
                  refine ev_goto 86 dX7_most_73 (by decide) ?_
                  refine ev_ist_7 (q := 88) dX7_most_86 rfl rfl ?_
                  refine ev_iload (q := 90) dX7_most_88 rfl rfl ?_
                  refine ev_if_lt (q := 93) 132 dX7_most_90 (by decide) rfl (fun c_90 => ?_) (fun c_90 => ?_)
                  · refine ev_inc_5 (q := 135) (nI (k + 1)) dX7_most_132 (nI_1 k) rfl rfl ?_
                    refine ev_goto 31 dX7_most_135 (by decide) ?_
                    have e := ih (j - 1) (by omega) (k + 1) (by omega) S T
                    simp only [upto, pickB, ownM, ho, hmk, c_47, if_true, if_false, Option.map_none] at e
                    exact e _ _
                  · exact absurd neg6 c_90
          | some v =>
            have hv := mtF_lt hmk
            refine ev_iload (q := 33) dX7_most_31 rfl rfl ?_
            refine ev_aload_n (q := 34) dX7_most_33 rfl rfl ?_
            refine ev_callV0i (q := 37) dX7_most_34 ca_X7_201 (s_X7_terms hn hm) rfl (lt_n hn (by decide)) rfl rfl (Nat.le_of_ble_eq_true rfl) (Nat.le_of_ble_eq_true rfl) (by decide) (by decide) rfl ?_
            refine ev_icmp_ge (q := 40) 138 dX7_most_37 (by decide) rfl (fun c_37 => ?_) (fun c_37 => ?_)
            · have c_37 : 3 ^ t ≤ k := (nI_leI (by omega) (by omega)).mp c_37
              refine ev_iload_n (q := 139) dX7_most_138 rfl rfl ?_
              refine ev_if_lt (q := 142) 147 dX7_most_139 (by decide) rfl (fun c_139 => ?_) (fun c_139 => ?_)
              · exact absurd c_139 (nI_pos (by omega))
              · refine ev_iload_n (q := 143) dX7_most_142 rfl rfl ?_
                refine ev_iconst (q := 144) (1) dX7_most_143 (by decide) rfl ?_
                refine ev_icmp_ne (q := 147) 151 dX7_most_144 (by decide) rfl (fun c_144 => ?_) (fun c_144 => ?_)
                · refine ev_iload (q := 153) dX7_most_151 rfl rfl ?_
                  refine ev_sipush (q := 156) (1000) dX7_most_153 (by decide) rfl ?_
                  refine ev_iadd (q := 157) dX7_most_156 rfl ?_
                  exact ev_iretE dX7_most_157 rfl rfl (by rw [show 3 ^ t = k by omega, ho]; first | (simp [c_144]; done) | (simp [c_144]; rfl)) rfl rfl (hQ _ _)
                · refine ev_iload_n (q := 148) dX7_most_147 rfl rfl ?_
                  refine ev_goto 157 dX7_most_148 (by decide) ?_
                  exact ev_iretE dX7_most_157 rfl rfl (by rw [show 3 ^ t = k by omega, ho]; first | (simp [c_144]; done) | (simp [c_144]; rfl)) rfl rfl (hQ _ _)
            · have c_37 : ¬ 3 ^ t ≤ k := fun h => c_37 ((nI_leI (by omega) (by omega)).mpr h)
              refine ev_aload_n (q := 41) dX7_most_40 rfl rfl ?_
              refine ev_iload (q := 43) dX7_most_41 rfl rfl ?_
              refine ev_callV1i (q := 46) dX7_most_43 ca_X7_207 (s_X7_words hn hm (by omega)) rfl (lt_n hn (by decide)) rfl rfl (Nat.le_of_ble_eq_true rfl) (Nat.le_of_ble_eq_true rfl) (by decide) (by decide) rfl ?_
              refine ev_iload_n (q := 47) dX7_most_46 rfl rfl ?_
              refine ev_icmp_gt (q := 50) 63 dX7_most_47 (by decide) rfl (fun c_47 => ?_) (fun c_47 => ?_)
              · have c_47 : ¬ nI (wd t k) ≤ most := fun h => absurd c_47 (by simp only [i_le, i_lt] at *; omega)
                refine ev_bipush (q := 65) (-6) dX7_most_63 (by decide) rfl ?_
                refine ev_ist_6 (q := 67) dX7_most_65 rfl rfl ?_
                refine ev_iload (q := 69) dX7_most_67 rfl rfl ?_
                refine ev_if_ge (q := 72) 76 dX7_most_69 (by decide) rfl (fun c_69 => ?_) (fun c_69 => ?_)
                · try (exact absurd c_69 (by decide))
                  all_goals (
                    refine ev_aload_n (q := 77) dX7_most_76 rfl rfl ?_
                    refine ev_aload_n (q := 78) dX7_most_77 rfl rfl ?_
                    refine ev_get (q := 81) dX7_most_78 fr_X7_67 rfl (lt_n hn (by decide)) rfl rfl ?_
                    rw [show ov I S 33 5 = nI wi from hwi]
                    refine ev_iload (q := 83) dX7_most_81 rfl rfl ?_
                    refine ev_callV2i (q := 86) dX7_most_83 ca_X7_117 (s_X7_worthTo (w := v) hn hm (by omega) (by omega)) rfl (lt_n hn (by decide)) rfl rfl (Nat.le_of_ble_eq_true rfl) (Nat.le_of_ble_eq_true rfl) (by decide) (by decide) rfl ?_
                    refine ev_ist_7 (q := 88) dX7_most_86 rfl rfl ?_
                    refine ev_iload (q := 90) dX7_most_88 rfl rfl ?_
                    refine ev_if_lt (q := 93) 132 dX7_most_90 (by decide) rfl (fun c_90 => ?_) (fun c_90 => ?_)
                    · try (exact absurd c_90 (nI_pos (by omega)))
                      all_goals (
                        refine ev_inc_5 (q := 135) (nI (k + 1)) dX7_most_132 (nI_1 k) rfl rfl ?_
                        refine ev_goto 31 dX7_most_135 (by decide) ?_
                        have e := ih (j - 1) (by omega) (k + 1) (by omega) S T
                        first | (simp only [upto, pickB, ownM, ho, hmk, c_47, if_true, if_false, Option.map_some, hbt] at e; exact e _ _) | (simp only [upto, pickB, ownM, ho, hmk, c_47, if_true, if_false, Option.map_some] at e; exact e _ _)
                      )
                    · try (exact absurd neg6 c_90)
                      all_goals (
                        refine ev_iload_n (q := 94) dX7_most_93 rfl rfl ?_
                        refine ev_if_lt (q := 97) 125 dX7_most_94 (by decide) rfl (fun c_94 => ?_) (fun c_94 => ?_)
                        · exact absurd c_94 (nI_pos (by omega))
                        · refine ev_iload (q := 99) dX7_most_97 rfl rfl ?_
                          refine ev_iload (q := 101) dX7_most_99 rfl rfl ?_
                          refine ev_icmp_gt (q := 104) 125 dX7_most_101 (by decide) rfl (fun c_101 => ?_) (fun c_101 => ?_)
                          · have hbt : btW t k (wtF I t wi v) u b = true := by simp [btW, show b < wtF I t wi v from c_101]
                            refine ev_iload (q := 127) dX7_most_125 rfl rfl ?_
                            refine ev_ist_3 (q := 128) dX7_most_127 rfl rfl ?_
                            refine ev_iload (q := 130) dX7_most_128 rfl rfl ?_
                            refine ev_ist_4 (q := 132) dX7_most_130 rfl rfl ?_
                            refine ev_inc_5 (q := 135) (nI (k + 1)) dX7_most_132 (nI_1 k) rfl rfl ?_
                            refine ev_goto 31 dX7_most_135 (by decide) ?_
                            have e := ih (j - 1) (by omega) (k + 1) (by omega) S T
                            first | (simp only [upto, pickB, ownM, ho, hmk, c_47, if_true, if_false, Option.map_some, hbt] at e; exact e _ _) | (simp only [upto, pickB, ownM, ho, hmk, c_47, if_true, if_false, Option.map_some] at e; exact e _ _)
                          · have c_101 : ¬ b < wtF I t wi v := c_101
                            refine ev_iload (q := 106) dX7_most_104 rfl rfl ?_
                            refine ev_iload (q := 108) dX7_most_106 rfl rfl ?_
                            refine ev_icmp_ne (q := 111) 132 dX7_most_108 (by decide) rfl (fun c_108 => ?_) (fun c_108 => ?_)
                            · have hbt : btW t k (wtF I t wi v) u b = false := by simp [btW, c_101, show ¬ wtF I t wi v = b from c_108]
                              refine ev_inc_5 (q := 135) (nI (k + 1)) dX7_most_132 (nI_1 k) rfl rfl ?_
                              refine ev_goto 31 dX7_most_135 (by decide) ?_
                              have e := ih (j - 1) (by omega) (k + 1) (by omega) S T
                              first | (simp only [upto, pickB, ownM, ho, hmk, c_47, if_true, if_false, Option.map_some, hbt] at e; exact e _ _) | (simp only [upto, pickB, ownM, ho, hmk, c_47, if_true, if_false, Option.map_some] at e; exact e _ _)
                            · have c_108 : wtF I t wi v = b := c_108
                              refine ev_aload_n (q := 112) dX7_most_111 rfl rfl ?_
                              refine ev_iload (q := 114) dX7_most_112 rfl rfl ?_
                              refine ev_callV1i (q := 117) dX7_most_114 ca_X7_207 (s_X7_words hn hm (by omega)) rfl (lt_n hn (by decide)) rfl rfl (Nat.le_of_ble_eq_true rfl) (Nat.le_of_ble_eq_true rfl) (by decide) (by decide) rfl ?_
                              refine ev_aload_n (q := 118) dX7_most_117 rfl rfl ?_
                              refine ev_iload_n (q := 119) dX7_most_118 rfl rfl ?_
                              refine ev_callV1i (q := 122) dX7_most_119 ca_X7_207 (s_X7_words (num := u) hn hm (by omega)) rfl (lt_n hn (by decide)) rfl rfl (Nat.le_of_ble_eq_true rfl) (Nat.le_of_ble_eq_true rfl) (by decide) (by decide) rfl ?_
                              refine ev_icmp_ge (q := 125) 132 dX7_most_122 (by decide) rfl (fun c_122 => ?_) (fun c_122 => ?_)
                              · have hbt : btW t k (wtF I t wi v) u b = false := by have : ¬ wd t k < wd t u := Nat.not_lt.mpr ((nI_leI (by omega) (by omega)).mp c_122); simp [btW, c_101, this]
                                refine ev_inc_5 (q := 135) (nI (k + 1)) dX7_most_132 (nI_1 k) rfl rfl ?_
                                refine ev_goto 31 dX7_most_135 (by decide) ?_
                                have e := ih (j - 1) (by omega) (k + 1) (by omega) S T
                                first | (simp only [upto, pickB, ownM, ho, hmk, c_47, if_true, if_false, Option.map_some, hbt] at e; exact e _ _) | (simp only [upto, pickB, ownM, ho, hmk, c_47, if_true, if_false, Option.map_some] at e; exact e _ _)
                              · have hbt : btW t k (wtF I t wi v) u b = true := by have : wd t k < wd t u := Nat.not_le.mp fun h => c_122 ((nI_leI (by omega) (by omega)).mpr h); simp [btW, c_101, c_108, this]
                                refine ev_iload (q := 127) dX7_most_125 rfl rfl ?_
                                refine ev_ist_3 (q := 128) dX7_most_127 rfl rfl ?_
                                refine ev_iload (q := 130) dX7_most_128 rfl rfl ?_
                                refine ev_ist_4 (q := 132) dX7_most_130 rfl rfl ?_
                                refine ev_inc_5 (q := 135) (nI (k + 1)) dX7_most_132 (nI_1 k) rfl rfl ?_
                                refine ev_goto 31 dX7_most_135 (by decide) ?_
                                have e := ih (j - 1) (by omega) (k + 1) (by omega) S T
                                first | (simp only [upto, pickB, ownM, ho, hmk, c_47, if_true, if_false, Option.map_some, hbt] at e; exact e _ _) | (simp only [upto, pickB, ownM, ho, hmk, c_47, if_true, if_false, Option.map_some] at e; exact e _ _)
                      )
                  )
                · try (exact absurd (nI_pos' (by omega)) c_69)
                  all_goals (
                    refine ev_iconst (q := 73) (0) dX7_most_72 (by decide) rfl ?_
                    refine ev_goto 86 dX7_most_73 (by decide) ?_
                    refine ev_ist_7 (q := 88) dX7_most_86 rfl rfl ?_
                    refine ev_iload (q := 90) dX7_most_88 rfl rfl ?_
                    refine ev_if_lt (q := 93) 132 dX7_most_90 (by decide) rfl (fun c_90 => ?_) (fun c_90 => ?_)
                    · try (exact absurd c_90 (nI_pos (by omega)))
                      all_goals (
                        refine ev_inc_5 (q := 135) (nI (k + 1)) dX7_most_132 (nI_1 k) rfl rfl ?_
                        refine ev_goto 31 dX7_most_135 (by decide) ?_
                        have e := ih (j - 1) (by omega) (k + 1) (by omega) S T
                        first | (simp only [upto, pickB, ownM, ho, hmk, c_47, if_true, if_false, Option.map_some, hbt] at e; exact e _ _) | (simp only [upto, pickB, ownM, ho, hmk, c_47, if_true, if_false, Option.map_some] at e; exact e _ _)
                      )
                    · try (exact absurd neg6 c_90)
                      all_goals (
                        refine ev_iload_n (q := 94) dX7_most_93 rfl rfl ?_
                        refine ev_if_lt (q := 97) 125 dX7_most_94 (by decide) rfl (fun c_94 => ?_) (fun c_94 => ?_)
                        · exact absurd c_94 (nI_pos (by omega))
                        · refine ev_iload (q := 99) dX7_most_97 rfl rfl ?_
                          refine ev_iload (q := 101) dX7_most_99 rfl rfl ?_
                          refine ev_icmp_gt (q := 104) 125 dX7_most_101 (by decide) rfl (fun c_101 => ?_) (fun c_101 => ?_)
                          · have hbt : btW t k (wtF I t wi v) u b = true := by simp [btW, show b < wtF I t wi v from c_101]
                            refine ev_iload (q := 127) dX7_most_125 rfl rfl ?_
                            refine ev_ist_3 (q := 128) dX7_most_127 rfl rfl ?_
                            refine ev_iload (q := 130) dX7_most_128 rfl rfl ?_
                            refine ev_ist_4 (q := 132) dX7_most_130 rfl rfl ?_
                            refine ev_inc_5 (q := 135) (nI (k + 1)) dX7_most_132 (nI_1 k) rfl rfl ?_
                            refine ev_goto 31 dX7_most_135 (by decide) ?_
                            have e := ih (j - 1) (by omega) (k + 1) (by omega) S T
                            first | (simp only [upto, pickB, ownM, ho, hmk, c_47, if_true, if_false, Option.map_some, hbt] at e; exact e _ _) | (simp only [upto, pickB, ownM, ho, hmk, c_47, if_true, if_false, Option.map_some] at e; exact e _ _)
                          · have c_101 : ¬ b < wtF I t wi v := c_101
                            refine ev_iload (q := 106) dX7_most_104 rfl rfl ?_
                            refine ev_iload (q := 108) dX7_most_106 rfl rfl ?_
                            refine ev_icmp_ne (q := 111) 132 dX7_most_108 (by decide) rfl (fun c_108 => ?_) (fun c_108 => ?_)
                            · have hbt : btW t k (wtF I t wi v) u b = false := by simp [btW, c_101, show ¬ wtF I t wi v = b from c_108]
                              refine ev_inc_5 (q := 135) (nI (k + 1)) dX7_most_132 (nI_1 k) rfl rfl ?_
                              refine ev_goto 31 dX7_most_135 (by decide) ?_
                              have e := ih (j - 1) (by omega) (k + 1) (by omega) S T
                              first | (simp only [upto, pickB, ownM, ho, hmk, c_47, if_true, if_false, Option.map_some, hbt] at e; exact e _ _) | (simp only [upto, pickB, ownM, ho, hmk, c_47, if_true, if_false, Option.map_some] at e; exact e _ _)
                            · have c_108 : wtF I t wi v = b := c_108
                              refine ev_aload_n (q := 112) dX7_most_111 rfl rfl ?_
                              refine ev_iload (q := 114) dX7_most_112 rfl rfl ?_
                              refine ev_callV1i (q := 117) dX7_most_114 ca_X7_207 (s_X7_words hn hm (by omega)) rfl (lt_n hn (by decide)) rfl rfl (Nat.le_of_ble_eq_true rfl) (Nat.le_of_ble_eq_true rfl) (by decide) (by decide) rfl ?_
                              refine ev_aload_n (q := 118) dX7_most_117 rfl rfl ?_
                              refine ev_iload_n (q := 119) dX7_most_118 rfl rfl ?_
                              refine ev_callV1i (q := 122) dX7_most_119 ca_X7_207 (s_X7_words (num := u) hn hm (by omega)) rfl (lt_n hn (by decide)) rfl rfl (Nat.le_of_ble_eq_true rfl) (Nat.le_of_ble_eq_true rfl) (by decide) (by decide) rfl ?_
                              refine ev_icmp_ge (q := 125) 132 dX7_most_122 (by decide) rfl (fun c_122 => ?_) (fun c_122 => ?_)
                              · have hbt : btW t k (wtF I t wi v) u b = false := by have : ¬ wd t k < wd t u := Nat.not_lt.mpr ((nI_leI (by omega) (by omega)).mp c_122); simp [btW, c_101, this]
                                refine ev_inc_5 (q := 135) (nI (k + 1)) dX7_most_132 (nI_1 k) rfl rfl ?_
                                refine ev_goto 31 dX7_most_135 (by decide) ?_
                                have e := ih (j - 1) (by omega) (k + 1) (by omega) S T
                                first | (simp only [upto, pickB, ownM, ho, hmk, c_47, if_true, if_false, Option.map_some, hbt] at e; exact e _ _) | (simp only [upto, pickB, ownM, ho, hmk, c_47, if_true, if_false, Option.map_some] at e; exact e _ _)
                              · have hbt : btW t k (wtF I t wi v) u b = true := by have : wd t k < wd t u := Nat.not_le.mp fun h => c_122 ((nI_leI (by omega) (by omega)).mpr h); simp [btW, c_101, c_108, this]
                                refine ev_iload (q := 127) dX7_most_125 rfl rfl ?_
                                refine ev_ist_3 (q := 128) dX7_most_127 rfl rfl ?_
                                refine ev_iload (q := 130) dX7_most_128 rfl rfl ?_
                                refine ev_ist_4 (q := 132) dX7_most_130 rfl rfl ?_
                                refine ev_inc_5 (q := 135) (nI (k + 1)) dX7_most_132 (nI_1 k) rfl rfl ?_
                                refine ev_goto 31 dX7_most_135 (by decide) ?_
                                have e := ih (j - 1) (by omega) (k + 1) (by omega) S T
                                first | (simp only [upto, pickB, ownM, ho, hmk, c_47, if_true, if_false, Option.map_some, hbt] at e; exact e _ _) | (simp only [upto, pickB, ownM, ho, hmk, c_47, if_true, if_false, Option.map_some] at e; exact e _ _)
                      )
                  )
              · have c_47 : nI (wd t k) ≤ most := by simp only [i_le, i_lt] at *; omega
                refine ev_aload_n (q := 51) dX7_most_50 rfl rfl ?_
                refine ev_iload (q := 53) dX7_most_51 rfl rfl ?_
                refine ev_aload_n (q := 54) dX7_most_53 rfl rfl ?_
                refine ev_get (q := 57) dX7_most_54 fr_X7_73 rfl (lt_n hn (by decide)) rfl rfl ?_
                rw [show ov I S 33 7 = nI he from hhe]
                refine ev_callV2iS (q := 60) dX7_most_57 ca_X7_204 (s_X7_madeOfTerm hn hm (by omega) (by omega)) rfl (lt_n hn (by decide)) rfl rfl (Nat.le_of_ble_eq_true rfl) (Nat.le_of_ble_eq_true rfl) (by decide) (by decide) rfl (fun S T => ?_)
                rw [hmk]
                refine ev_goto 65 dX7_most_60 (by decide) ?_
                refine ev_ist_6 (q := 67) dX7_most_65 rfl rfl ?_
                refine ev_iload (q := 69) dX7_most_67 rfl rfl ?_
                refine ev_if_ge (q := 72) 76 dX7_most_69 (by decide) rfl (fun c_69 => ?_) (fun c_69 => ?_)
                · try (exact absurd c_69 (by decide))
                  all_goals (
                    refine ev_aload_n (q := 77) dX7_most_76 rfl rfl ?_
                    refine ev_aload_n (q := 78) dX7_most_77 rfl rfl ?_
                    refine ev_get (q := 81) dX7_most_78 fr_X7_67 rfl (lt_n hn (by decide)) rfl rfl ?_
                    rw [show ov I S 33 5 = nI wi from hwi]
                    refine ev_iload (q := 83) dX7_most_81 rfl rfl ?_
                    refine ev_callV2i (q := 86) dX7_most_83 ca_X7_117 (s_X7_worthTo (w := v) hn hm (by omega) (by omega)) rfl (lt_n hn (by decide)) rfl rfl (Nat.le_of_ble_eq_true rfl) (Nat.le_of_ble_eq_true rfl) (by decide) (by decide) rfl ?_
                    refine ev_ist_7 (q := 88) dX7_most_86 rfl rfl ?_
                    refine ev_iload (q := 90) dX7_most_88 rfl rfl ?_
                    refine ev_if_lt (q := 93) 132 dX7_most_90 (by decide) rfl (fun c_90 => ?_) (fun c_90 => ?_)
                    · try (exact absurd c_90 (nI_pos (by omega)))
                      all_goals (
                        refine ev_inc_5 (q := 135) (nI (k + 1)) dX7_most_132 (nI_1 k) rfl rfl ?_
                        refine ev_goto 31 dX7_most_135 (by decide) ?_
                        have e := ih (j - 1) (by omega) (k + 1) (by omega) S T
                        first | (simp only [upto, pickB, ownM, ho, hmk, c_47, if_true, if_false, Option.map_some, hbt] at e; exact e _ _) | (simp only [upto, pickB, ownM, ho, hmk, c_47, if_true, if_false, Option.map_some] at e; exact e _ _)
                      )
                    · try (exact absurd neg6 c_90)
                      all_goals (
                        refine ev_iload_n (q := 94) dX7_most_93 rfl rfl ?_
                        refine ev_if_lt (q := 97) 125 dX7_most_94 (by decide) rfl (fun c_94 => ?_) (fun c_94 => ?_)
                        · exact absurd c_94 (nI_pos (by omega))
                        · refine ev_iload (q := 99) dX7_most_97 rfl rfl ?_
                          refine ev_iload (q := 101) dX7_most_99 rfl rfl ?_
                          refine ev_icmp_gt (q := 104) 125 dX7_most_101 (by decide) rfl (fun c_101 => ?_) (fun c_101 => ?_)
                          · have hbt : btW t k (wtF I t wi v) u b = true := by simp [btW, show b < wtF I t wi v from c_101]
                            refine ev_iload (q := 127) dX7_most_125 rfl rfl ?_
                            refine ev_ist_3 (q := 128) dX7_most_127 rfl rfl ?_
                            refine ev_iload (q := 130) dX7_most_128 rfl rfl ?_
                            refine ev_ist_4 (q := 132) dX7_most_130 rfl rfl ?_
                            refine ev_inc_5 (q := 135) (nI (k + 1)) dX7_most_132 (nI_1 k) rfl rfl ?_
                            refine ev_goto 31 dX7_most_135 (by decide) ?_
                            have e := ih (j - 1) (by omega) (k + 1) (by omega) S T
                            first | (simp only [upto, pickB, ownM, ho, hmk, c_47, if_true, if_false, Option.map_some, hbt] at e; exact e _ _) | (simp only [upto, pickB, ownM, ho, hmk, c_47, if_true, if_false, Option.map_some] at e; exact e _ _)
                          · have c_101 : ¬ b < wtF I t wi v := c_101
                            refine ev_iload (q := 106) dX7_most_104 rfl rfl ?_
                            refine ev_iload (q := 108) dX7_most_106 rfl rfl ?_
                            refine ev_icmp_ne (q := 111) 132 dX7_most_108 (by decide) rfl (fun c_108 => ?_) (fun c_108 => ?_)
                            · have hbt : btW t k (wtF I t wi v) u b = false := by simp [btW, c_101, show ¬ wtF I t wi v = b from c_108]
                              refine ev_inc_5 (q := 135) (nI (k + 1)) dX7_most_132 (nI_1 k) rfl rfl ?_
                              refine ev_goto 31 dX7_most_135 (by decide) ?_
                              have e := ih (j - 1) (by omega) (k + 1) (by omega) S T
                              first | (simp only [upto, pickB, ownM, ho, hmk, c_47, if_true, if_false, Option.map_some, hbt] at e; exact e _ _) | (simp only [upto, pickB, ownM, ho, hmk, c_47, if_true, if_false, Option.map_some] at e; exact e _ _)
                            · have c_108 : wtF I t wi v = b := c_108
                              refine ev_aload_n (q := 112) dX7_most_111 rfl rfl ?_
                              refine ev_iload (q := 114) dX7_most_112 rfl rfl ?_
                              refine ev_callV1i (q := 117) dX7_most_114 ca_X7_207 (s_X7_words hn hm (by omega)) rfl (lt_n hn (by decide)) rfl rfl (Nat.le_of_ble_eq_true rfl) (Nat.le_of_ble_eq_true rfl) (by decide) (by decide) rfl ?_
                              refine ev_aload_n (q := 118) dX7_most_117 rfl rfl ?_
                              refine ev_iload_n (q := 119) dX7_most_118 rfl rfl ?_
                              refine ev_callV1i (q := 122) dX7_most_119 ca_X7_207 (s_X7_words (num := u) hn hm (by omega)) rfl (lt_n hn (by decide)) rfl rfl (Nat.le_of_ble_eq_true rfl) (Nat.le_of_ble_eq_true rfl) (by decide) (by decide) rfl ?_
                              refine ev_icmp_ge (q := 125) 132 dX7_most_122 (by decide) rfl (fun c_122 => ?_) (fun c_122 => ?_)
                              · have hbt : btW t k (wtF I t wi v) u b = false := by have : ¬ wd t k < wd t u := Nat.not_lt.mpr ((nI_leI (by omega) (by omega)).mp c_122); simp [btW, c_101, this]
                                refine ev_inc_5 (q := 135) (nI (k + 1)) dX7_most_132 (nI_1 k) rfl rfl ?_
                                refine ev_goto 31 dX7_most_135 (by decide) ?_
                                have e := ih (j - 1) (by omega) (k + 1) (by omega) S T
                                first | (simp only [upto, pickB, ownM, ho, hmk, c_47, if_true, if_false, Option.map_some, hbt] at e; exact e _ _) | (simp only [upto, pickB, ownM, ho, hmk, c_47, if_true, if_false, Option.map_some] at e; exact e _ _)
                              · have hbt : btW t k (wtF I t wi v) u b = true := by have : wd t k < wd t u := Nat.not_le.mp fun h => c_122 ((nI_leI (by omega) (by omega)).mpr h); simp [btW, c_101, c_108, this]
                                refine ev_iload (q := 127) dX7_most_125 rfl rfl ?_
                                refine ev_ist_3 (q := 128) dX7_most_127 rfl rfl ?_
                                refine ev_iload (q := 130) dX7_most_128 rfl rfl ?_
                                refine ev_ist_4 (q := 132) dX7_most_130 rfl rfl ?_
                                refine ev_inc_5 (q := 135) (nI (k + 1)) dX7_most_132 (nI_1 k) rfl rfl ?_
                                refine ev_goto 31 dX7_most_135 (by decide) ?_
                                have e := ih (j - 1) (by omega) (k + 1) (by omega) S T
                                first | (simp only [upto, pickB, ownM, ho, hmk, c_47, if_true, if_false, Option.map_some, hbt] at e; exact e _ _) | (simp only [upto, pickB, ownM, ho, hmk, c_47, if_true, if_false, Option.map_some] at e; exact e _ _)
                      )
                  )
                · try (exact absurd (nI_pos' (by omega)) c_69)
                  all_goals (
                    refine ev_iconst (q := 73) (0) dX7_most_72 (by decide) rfl ?_
                    refine ev_goto 86 dX7_most_73 (by decide) ?_
                    refine ev_ist_7 (q := 88) dX7_most_86 rfl rfl ?_
                    refine ev_iload (q := 90) dX7_most_88 rfl rfl ?_
                    refine ev_if_lt (q := 93) 132 dX7_most_90 (by decide) rfl (fun c_90 => ?_) (fun c_90 => ?_)
                    · try (exact absurd c_90 (nI_pos (by omega)))
                      all_goals (
                        refine ev_inc_5 (q := 135) (nI (k + 1)) dX7_most_132 (nI_1 k) rfl rfl ?_
                        refine ev_goto 31 dX7_most_135 (by decide) ?_
                        have e := ih (j - 1) (by omega) (k + 1) (by omega) S T
                        first | (simp only [upto, pickB, ownM, ho, hmk, c_47, if_true, if_false, Option.map_some, hbt] at e; exact e _ _) | (simp only [upto, pickB, ownM, ho, hmk, c_47, if_true, if_false, Option.map_some] at e; exact e _ _)
                      )
                    · try (exact absurd neg6 c_90)
                      all_goals (
                        refine ev_iload_n (q := 94) dX7_most_93 rfl rfl ?_
                        refine ev_if_lt (q := 97) 125 dX7_most_94 (by decide) rfl (fun c_94 => ?_) (fun c_94 => ?_)
                        · exact absurd c_94 (nI_pos (by omega))
                        · refine ev_iload (q := 99) dX7_most_97 rfl rfl ?_
                          refine ev_iload (q := 101) dX7_most_99 rfl rfl ?_
                          refine ev_icmp_gt (q := 104) 125 dX7_most_101 (by decide) rfl (fun c_101 => ?_) (fun c_101 => ?_)
                          · have hbt : btW t k (wtF I t wi v) u b = true := by simp [btW, show b < wtF I t wi v from c_101]
                            refine ev_iload (q := 127) dX7_most_125 rfl rfl ?_
                            refine ev_ist_3 (q := 128) dX7_most_127 rfl rfl ?_
                            refine ev_iload (q := 130) dX7_most_128 rfl rfl ?_
                            refine ev_ist_4 (q := 132) dX7_most_130 rfl rfl ?_
                            refine ev_inc_5 (q := 135) (nI (k + 1)) dX7_most_132 (nI_1 k) rfl rfl ?_
                            refine ev_goto 31 dX7_most_135 (by decide) ?_
                            have e := ih (j - 1) (by omega) (k + 1) (by omega) S T
                            first | (simp only [upto, pickB, ownM, ho, hmk, c_47, if_true, if_false, Option.map_some, hbt] at e; exact e _ _) | (simp only [upto, pickB, ownM, ho, hmk, c_47, if_true, if_false, Option.map_some] at e; exact e _ _)
                          · have c_101 : ¬ b < wtF I t wi v := c_101
                            refine ev_iload (q := 106) dX7_most_104 rfl rfl ?_
                            refine ev_iload (q := 108) dX7_most_106 rfl rfl ?_
                            refine ev_icmp_ne (q := 111) 132 dX7_most_108 (by decide) rfl (fun c_108 => ?_) (fun c_108 => ?_)
                            · have hbt : btW t k (wtF I t wi v) u b = false := by simp [btW, c_101, show ¬ wtF I t wi v = b from c_108]
                              refine ev_inc_5 (q := 135) (nI (k + 1)) dX7_most_132 (nI_1 k) rfl rfl ?_
                              refine ev_goto 31 dX7_most_135 (by decide) ?_
                              have e := ih (j - 1) (by omega) (k + 1) (by omega) S T
                              first | (simp only [upto, pickB, ownM, ho, hmk, c_47, if_true, if_false, Option.map_some, hbt] at e; exact e _ _) | (simp only [upto, pickB, ownM, ho, hmk, c_47, if_true, if_false, Option.map_some] at e; exact e _ _)
                            · have c_108 : wtF I t wi v = b := c_108
                              refine ev_aload_n (q := 112) dX7_most_111 rfl rfl ?_
                              refine ev_iload (q := 114) dX7_most_112 rfl rfl ?_
                              refine ev_callV1i (q := 117) dX7_most_114 ca_X7_207 (s_X7_words hn hm (by omega)) rfl (lt_n hn (by decide)) rfl rfl (Nat.le_of_ble_eq_true rfl) (Nat.le_of_ble_eq_true rfl) (by decide) (by decide) rfl ?_
                              refine ev_aload_n (q := 118) dX7_most_117 rfl rfl ?_
                              refine ev_iload_n (q := 119) dX7_most_118 rfl rfl ?_
                              refine ev_callV1i (q := 122) dX7_most_119 ca_X7_207 (s_X7_words (num := u) hn hm (by omega)) rfl (lt_n hn (by decide)) rfl rfl (Nat.le_of_ble_eq_true rfl) (Nat.le_of_ble_eq_true rfl) (by decide) (by decide) rfl ?_
                              refine ev_icmp_ge (q := 125) 132 dX7_most_122 (by decide) rfl (fun c_122 => ?_) (fun c_122 => ?_)
                              · have hbt : btW t k (wtF I t wi v) u b = false := by have : ¬ wd t k < wd t u := Nat.not_lt.mpr ((nI_leI (by omega) (by omega)).mp c_122); simp [btW, c_101, this]
                                refine ev_inc_5 (q := 135) (nI (k + 1)) dX7_most_132 (nI_1 k) rfl rfl ?_
                                refine ev_goto 31 dX7_most_135 (by decide) ?_
                                have e := ih (j - 1) (by omega) (k + 1) (by omega) S T
                                first | (simp only [upto, pickB, ownM, ho, hmk, c_47, if_true, if_false, Option.map_some, hbt] at e; exact e _ _) | (simp only [upto, pickB, ownM, ho, hmk, c_47, if_true, if_false, Option.map_some] at e; exact e _ _)
                              · have hbt : btW t k (wtF I t wi v) u b = true := by have : wd t k < wd t u := Nat.not_le.mp fun h => c_122 ((nI_leI (by omega) (by omega)).mpr h); simp [btW, c_101, c_108, this]
                                refine ev_iload (q := 127) dX7_most_125 rfl rfl ?_
                                refine ev_ist_3 (q := 128) dX7_most_127 rfl rfl ?_
                                refine ev_iload (q := 130) dX7_most_128 rfl rfl ?_
                                refine ev_ist_4 (q := 132) dX7_most_130 rfl rfl ?_
                                refine ev_inc_5 (q := 135) (nI (k + 1)) dX7_most_132 (nI_1 k) rfl rfl ?_
                                refine ev_goto 31 dX7_most_135 (by decide) ?_
                                have e := ih (j - 1) (by omega) (k + 1) (by omega) S T
                                first | (simp only [upto, pickB, ownM, ho, hmk, c_47, if_true, if_false, Option.map_some, hbt] at e; exact e _ _) | (simp only [upto, pickB, ownM, ho, hmk, c_47, if_true, if_false, Option.map_some] at e; exact e _ _)
                      )
                  )
    refine ev_iload_n (q := 1) dX7_most_0 rfl rfl ?_
    refine ev_iconst (q := 2) (0) dX7_most_1 (by decide) rfl ?_
    refine ev_bipush (q := 4) (6) dX7_most_2 (by decide) rfl ?_
    refine ev_callS3i (q := 7) dX7_most_4 ca_X7_99 (c_X7_in _ _ _) (Nat.le_of_ble_eq_true rfl) (Nat.le_of_ble_eq_true rfl) (by decide) (by decide) rfl ?_
    refine ev_if_eq (q := 10) 19 dX7_most_7 (by decide) rfl (fun c_7 => ?_) (fun c_7 => ?_)
    · exact absurd c_7 (b2i_n0.mpr hin.1)
    · refine ev_iload_n (q := 11) dX7_most_10 rfl rfl ?_
      refine ev_iconst (q := 12) (0) dX7_most_11 (by decide) rfl ?_
      refine ev_iconst (q := 13) (1) dX7_most_12 (by decide) rfl ?_
      refine ev_callS3i (q := 16) dX7_most_13 ca_X7_99 (c_X7_in _ _ _) (Nat.le_of_ble_eq_true rfl) (Nat.le_of_ble_eq_true rfl) (by decide) (by decide) rfl ?_
      refine ev_if_ne (q := 19) 22 dX7_most_16 (by decide) rfl (fun c_16 => ?_) (fun c_16 => ?_)
      · refine ev_bipush (q := 24) (-6) dX7_most_22 (by decide) rfl ?_
        refine ev_ist_3 (q := 25) dX7_most_24 rfl rfl ?_
        refine ev_iconst (q := 26) (0) dX7_most_25 (by decide) rfl ?_
        refine ev_ist_4 (q := 28) dX7_most_26 rfl rfl ?_
        refine ev_iconst (q := 29) (0) dX7_most_28 (by decide) rfl ?_
        refine ev_ist_5 (q := 31) dX7_most_29 rfl rfl ?_
        exact lp (3 ^ t) 0 (by omega) _ _ _ _
      · exact absurd c_16 (b2i_n0.mpr hin.2)
theorem s_X7_votesFor {w : Nat} (hn : 49 ≤ n) (hm : MI I t sl wy wi he) (hw : w < 64) : Rn xl xs 2 45 0 0 mX7_votesFor [.ref 33, .int (nI w)] n (sysH (ov I S) (ovJ J T) X) (some (.int (voF I t he w))) n (sysH (ov I S) (ovJ J T) X) := by
  intro Q hQ
  have hm' := hm
  obtain ⟨ht, ht2, h6, hs, hs6, hwy, h3, hwi, h4, hhe, hhl⟩ := hm'
  have h64 := p2_le h6
  show Ev xl xs 2 45 0 0 mX7_votesFor 0 [some (.ref 33), some (.int (nI w)), none, none] [] n (sysH (ov I S) (ovJ J T) X) Q
  have lp : ∀ j k, k + j = 4 → Ev xl xs 2 45 0 0 mX7_votesFor 4 [some (.ref 33), some (.int (nI w)), some (.int (upto (fun c s => s + if wtF I t c he < wtF I t c w then I 36 c else 0) k 0)), some (.int (nI k))] [] n (sysH (ov I S) (ovJ J T) X) Q := by
    intro j
    induction j using Nat.strongRecOn with
    | _ j ih =>
      intro k hk
      refine ev_iload_n (q := 5) dX7_votesFor_4 rfl rfl ?_
      refine ev_iconst (q := 6) (4) dX7_votesFor_5 (by decide) rfl ?_
      refine ev_icmp_ge (q := 9) 46 dX7_votesFor_6 (by decide) rfl (fun c_6 => ?_) (fun c_6 => ?_)
      · have c_6 : 4 ≤ k := (nI_leI (a := 4) (by omega) (by omega)).mp c_6
        refine ev_iload_n (q := 47) dX7_votesFor_46 rfl rfl ?_
        exact ev_iretE dX7_votesFor_47 rfl rfl (by rw [show k = 4 by omega]; rfl) rfl rfl hQ
      · have c_6 : ¬ 4 ≤ k := fun h => c_6 ((nI_leI (a := 4) (by omega) (by omega)).mpr h)
        refine ev_iload_n (q := 10) dX7_votesFor_9 rfl rfl ?_
        refine ev_aload_n (q := 11) dX7_votesFor_10 rfl rfl ?_
        refine ev_iload_n (q := 12) dX7_votesFor_11 rfl rfl ?_
        refine ev_iload_n (q := 13) dX7_votesFor_12 rfl rfl ?_
        refine ev_callV2i (q := 16) dX7_votesFor_13 ca_X7_117 (s_X7_worthTo hn hm (by omega) (by omega)) rfl (lt_n hn (by decide)) rfl rfl (Nat.le_of_ble_eq_true rfl) (Nat.le_of_ble_eq_true rfl) (by decide) (by decide) rfl ?_
        refine ev_aload_n (q := 17) dX7_votesFor_16 rfl rfl ?_
        refine ev_iload_n (q := 18) dX7_votesFor_17 rfl rfl ?_
        refine ev_aload_n (q := 19) dX7_votesFor_18 rfl rfl ?_
        refine ev_get (q := 22) dX7_votesFor_19 fr_X7_73 rfl (lt_n hn (by decide)) rfl rfl ?_
        rw [show ov I S 33 7 = nI he from hhe]
        refine ev_callV2i (q := 25) dX7_votesFor_22 ca_X7_117 (s_X7_worthTo hn hm (by omega) (by omega)) rfl (lt_n hn (by decide)) rfl rfl (Nat.le_of_ble_eq_true rfl) (Nat.le_of_ble_eq_true rfl) (by decide) (by decide) rfl ?_
        refine ev_icmp_le (q := 28) 37 dX7_votesFor_25 (by decide) rfl (fun c_25 => ?_) (fun c_25 => ?_)
        · have c_25 : ¬ wtF I t k he < wtF I t k w := fun h => absurd c_25 (by simp only [i_le, i_lt] at *; omega)
          refine ev_iconst (q := 38) (0) dX7_votesFor_37 (by decide) rfl ?_
          refine ev_iadd (q := 39) dX7_votesFor_38 rfl ?_
          refine ev_ist_2 (q := 40) dX7_votesFor_39 rfl rfl ?_
          refine ev_inc_3 (q := 43) (nI (k + 1)) dX7_votesFor_40 (nI_1 k) rfl rfl ?_
          refine ev_goto 4 dX7_votesFor_43 (by decide) ?_
          have e := ih (j - 1) (by omega) (k + 1) (by omega)
          simp only [upto, c_25, if_true, if_false] at e
          exact e
        · have c_25 : wtF I t k he < wtF I t k w := by simp only [i_le, i_lt] at *; omega
          refine ev_aload_n (q := 29) dX7_votesFor_28 rfl rfl ?_
          refine ev_get (q := 32) dX7_votesFor_29 fr_X7_20 rfl (lt_n hn (by decide)) rfl rfl ?_
          refine ev_iload_n (q := 33) dX7_votesFor_32 rfl rfl ?_
          refine ev_iaS (q := 34) _ dX7_votesFor_33 rfl rfl (by omega) (lt_n hn (by decide)) rfl ?_
          refine ev_goto 38 dX7_votesFor_34 (by decide) ?_
          refine ev_iadd (q := 39) dX7_votesFor_38 rfl ?_
          refine ev_ist_2 (q := 40) dX7_votesFor_39 rfl rfl ?_
          refine ev_inc_3 (q := 43) (nI (k + 1)) dX7_votesFor_40 (nI_1 k) rfl rfl ?_
          refine ev_goto 4 dX7_votesFor_43 (by decide) ?_
          have e := ih (j - 1) (by omega) (k + 1) (by omega)
          simp only [upto, c_25, if_true, if_false] at e
          exact e
  refine ev_iconst (q := 1) (0) dX7_votesFor_0 (by decide) rfl ?_
  refine ev_ist_2 (q := 2) dX7_votesFor_1 rfl rfl ?_
  refine ev_iconst (q := 3) (0) dX7_votesFor_2 (by decide) rfl ?_
  refine ev_ist_3 (q := 4) dX7_votesFor_3 rfl rfl ?_
  exact lp 4 0 (by omega)
theorem s_X7_worthToAll {w : Nat} (hn : 49 ≤ n) (hm : MI I t sl wy wi he) (hw : w < 64) : Rn xl xs 2 45 0 0 mX7_worthToAll [.ref 33, .int (nI w)] n (sysH (ov I S) (ovJ J T) X) (some (.int (waF I t w))) n (sysH (ov I S) (ovJ J T) X) := by
  intro Q hQ
  show Ev xl xs 2 45 0 0 mX7_worthToAll 0 [some (.ref 33), some (.int (nI w)), none, none] [] n (sysH (ov I S) (ovJ J T) X) Q
  have lp : ∀ j k, k + j = 4 → Ev xl xs 2 45 0 0 mX7_worthToAll 4 [some (.ref 33), some (.int (nI w)), some (.int (upto (fun c s => s + wtF I t c w) k 0)), some (.int (nI k))] [] n (sysH (ov I S) (ovJ J T) X) Q := by
    intro j
    induction j using Nat.strongRecOn with
    | _ j ih =>
      intro k hk
      refine ev_iload_n (q := 5) dX7_worthToAll_4 rfl rfl ?_
      refine ev_iconst (q := 6) (4) dX7_worthToAll_5 (by decide) rfl ?_
      refine ev_icmp_ge (q := 9) 24 dX7_worthToAll_6 (by decide) rfl (fun c_6 => ?_) (fun c_6 => ?_)
      · have c_6 : 4 ≤ k := (nI_leI (a := 4) (by omega) (by omega)).mp c_6
        refine ev_iload_n (q := 25) dX7_worthToAll_24 rfl rfl ?_
        exact ev_iretE dX7_worthToAll_25 rfl rfl (by rw [show k = 4 by omega]; rfl) rfl rfl hQ
      · have c_6 : ¬ 4 ≤ k := fun h => c_6 ((nI_leI (a := 4) (by omega) (by omega)).mpr h)
        refine ev_iload_n (q := 10) dX7_worthToAll_9 rfl rfl ?_
        refine ev_aload_n (q := 11) dX7_worthToAll_10 rfl rfl ?_
        refine ev_iload_n (q := 12) dX7_worthToAll_11 rfl rfl ?_
        refine ev_iload_n (q := 13) dX7_worthToAll_12 rfl rfl ?_
        refine ev_callV2i (q := 16) dX7_worthToAll_13 ca_X7_117 (s_X7_worthTo hn hm (by omega) (by omega)) rfl (lt_n hn (by decide)) rfl rfl (Nat.le_of_ble_eq_true rfl) (Nat.le_of_ble_eq_true rfl) (by decide) (by decide) rfl ?_
        refine ev_iadd (q := 17) dX7_worthToAll_16 rfl ?_
        refine ev_ist_2 (q := 18) dX7_worthToAll_17 rfl rfl ?_
        refine ev_inc_3 (q := 21) (nI (k + 1)) dX7_worthToAll_18 (nI_1 k) rfl rfl ?_
        refine ev_goto 4 dX7_worthToAll_21 (by decide) ?_
        exact ih (j - 1) (by omega) (k + 1) (by omega)
  refine ev_iconst (q := 1) (0) dX7_worthToAll_0 (by decide) rfl ?_
  refine ev_ist_2 (q := 2) dX7_worthToAll_1 rfl rfl ?_
  refine ev_iconst (q := 3) (0) dX7_worthToAll_2 (by decide) rfl ?_
  refine ev_ist_3 (q := 4) dX7_worthToAll_3 rfl rfl ?_
  exact lp 4 0 (by omega)
theorem s_X7_agreed (hn : 49 ≤ n) (hm : MI I t sl wy wi he) (what : Int32) : RnS xl xs 5 114 0 0 mX7_agreed [.ref 33, .int what] n I J X (some (.int (if inb what 0 1 then (match upto (pickB (fun _ o _ b => decide (b < o)) (ownA I J t sl wy wi he)) (3 ^ t) none with | none => -6 | some p => if what = 0 then nI p.1 else p.2 / 100000) else -2))) n I J X := by
  intro S T Q hQ
  have hm' := hm
  obtain ⟨ht, ht2, h6, hs, hs6, hwy, h3, hwi, h4, hhe, hhl⟩ := hm'
  have h64 := p2_le h6
  have h729 := p3_le h6
  show Ev xl xs 5 114 0 0 mX7_agreed 0 [some (.ref 33), some (.int what), none, none, none, none, none] [] n (sysH (ov I S) (ovJ J T) X) Q
  cases hin : inb what 0 1 with
  | false =>
    rw [hin] at hQ
    refine ev_iload_n (q := 1) dX7_agreed_0 rfl rfl ?_
    refine ev_iconst (q := 2) (0) dX7_agreed_1 (by decide) rfl ?_
    refine ev_iconst (q := 3) (1) dX7_agreed_2 (by decide) rfl ?_
    refine ev_callS3i (q := 6) dX7_agreed_3 ca_X7_99 (c_X7_in _ _ _) (Nat.le_of_ble_eq_true rfl) (Nat.le_of_ble_eq_true rfl) (by decide) (by decide) rfl ?_
    refine ev_if_ne (q := 9) 12 dX7_agreed_6 (by decide) rfl (fun c_6 => ?_) (fun c_6 => ?_)
    · exact absurd (b2i_ne.mp c_6) (by rw [hin]; decide)
    · refine ev_bipush (q := 11) (-2) dX7_agreed_9 (by decide) rfl ?_
      exact ev_iretE dX7_agreed_11 rfl rfl rfl rfl rfl (hQ _ _)
  | true =>
    rw [hin] at hQ
    have lp : ∀ j k, k + j = 3 ^ t → ∀ S T a5 a6, Ev xl xs 5 114 0 0 mX7_agreed 20 [some (.ref 33), some (.int what), some (.int (eoP (upto (pickB (fun _ o _ b => decide (b < o)) (ownA I J t sl wy wi he)) k none))), some (.int (bvP (upto (pickB (fun _ o _ b => decide (b < o)) (ownA I J t sl wy wi he)) k none))), some (.int (nI k)), a5, a6] [] n (sysH (ov I S) (ovJ J T) X) Q := by
      intro j
      induction j using Nat.strongRecOn with
      | _ j ih =>
        intro k hk S T a5 a6
        have hlt := pickB_lt (better := fun _ o _ b => decide (b < o)) (own := ownA I J t sl wy wi he) k
        cases ho : upto (pickB (fun _ o _ b => decide (b < o)) (ownA I J t sl wy wi he)) k none with
        | none =>
          cases hmk : mtF I J t sl wy wi k he with
          | none =>
            refine ev_iload (q := 22) dX7_agreed_20 rfl rfl ?_
            refine ev_aload_n (q := 23) dX7_agreed_22 rfl rfl ?_
            refine ev_callV0i (q := 26) dX7_agreed_23 ca_X7_201 (s_X7_terms hn hm) rfl (lt_n hn (by decide)) rfl rfl (Nat.le_of_ble_eq_true rfl) (Nat.le_of_ble_eq_true rfl) (by decide) (by decide) rfl ?_
            refine ev_icmp_ge (q := 29) 112 dX7_agreed_26 (by decide) rfl (fun c_26 => ?_) (fun c_26 => ?_)
            · have c_26 : 3 ^ t ≤ k := (nI_leI (by omega) (by omega)).mp c_26
              refine ev_iload_n (q := 113) dX7_agreed_112 rfl rfl ?_
              refine ev_if_lt (q := 116) 120 dX7_agreed_113 (by decide) rfl (fun c_113 => ?_) (fun c_113 => ?_)
              · refine ev_iload_n (q := 121) dX7_agreed_120 rfl rfl ?_
                refine ev_goto 128 dX7_agreed_121 (by decide) ?_
                exact ev_iretE dX7_agreed_128 rfl rfl (by rw [show 3 ^ t = k by omega, ho]; rfl) rfl rfl (hQ _ _)
              · exact absurd neg6 c_113
            · have c_26 : ¬ 3 ^ t ≤ k := fun h => c_26 ((nI_leI (by omega) (by omega)).mpr h)
              refine ev_aload_n (q := 30) dX7_agreed_29 rfl rfl ?_
              refine ev_iload (q := 32) dX7_agreed_30 rfl rfl ?_
              refine ev_aload_n (q := 33) dX7_agreed_32 rfl rfl ?_
              refine ev_get (q := 36) dX7_agreed_33 fr_X7_73 rfl (lt_n hn (by decide)) rfl rfl ?_
              rw [show ov I S 33 7 = nI he from hhe]
              refine ev_callV2iS (q := 39) dX7_agreed_36 ca_X7_204 (s_X7_madeOfTerm hn hm (by omega) (by omega)) rfl (lt_n hn (by decide)) rfl rfl (Nat.le_of_ble_eq_true rfl) (Nat.le_of_ble_eq_true rfl) (by decide) (by decide) rfl (fun S T => ?_)
              rw [hmk]
              refine ev_ist_5 (q := 41) dX7_agreed_39 rfl rfl ?_
              refine ev_iload (q := 43) dX7_agreed_41 rfl rfl ?_
              refine ev_if_ge (q := 46) 50 dX7_agreed_43 (by decide) rfl (fun c_43 => ?_) (fun c_43 => ?_)
              · exact absurd c_43 (by decide)
              · refine ev_iconst (q := 47) (0) dX7_agreed_46 (by decide) rfl ?_
                refine ev_goto 83 dX7_agreed_47 (by decide) ?_
                refine ev_ist_6 (q := 85) dX7_agreed_83 rfl rfl ?_
                refine ev_iload (q := 87) dX7_agreed_85 rfl rfl ?_
                refine ev_if_lt (q := 90) 106 dX7_agreed_87 (by decide) rfl (fun c_87 => ?_) (fun c_87 => ?_)
                · refine ev_inc_4 (q := 109) (nI (k + 1)) dX7_agreed_106 (nI_1 k) rfl rfl ?_
                  refine ev_goto 20 dX7_agreed_109 (by decide) ?_
                  have e := ih (j - 1) (by omega) (k + 1) (by omega) S T
                  simp only [upto, pickB, ownA, ho, hmk, Option.map_none] at e
                  exact e _ _
                · exact absurd neg6 c_87
          | some v =>
            have hv := mtF_lt hmk
            refine ev_iload (q := 22) dX7_agreed_20 rfl rfl ?_
            refine ev_aload_n (q := 23) dX7_agreed_22 rfl rfl ?_
            refine ev_callV0i (q := 26) dX7_agreed_23 ca_X7_201 (s_X7_terms hn hm) rfl (lt_n hn (by decide)) rfl rfl (Nat.le_of_ble_eq_true rfl) (Nat.le_of_ble_eq_true rfl) (by decide) (by decide) rfl ?_
            refine ev_icmp_ge (q := 29) 112 dX7_agreed_26 (by decide) rfl (fun c_26 => ?_) (fun c_26 => ?_)
            · have c_26 : 3 ^ t ≤ k := (nI_leI (by omega) (by omega)).mp c_26
              refine ev_iload_n (q := 113) dX7_agreed_112 rfl rfl ?_
              refine ev_if_lt (q := 116) 120 dX7_agreed_113 (by decide) rfl (fun c_113 => ?_) (fun c_113 => ?_)
              · refine ev_iload_n (q := 121) dX7_agreed_120 rfl rfl ?_
                refine ev_goto 128 dX7_agreed_121 (by decide) ?_
                exact ev_iretE dX7_agreed_128 rfl rfl (by rw [show 3 ^ t = k by omega, ho]; rfl) rfl rfl (hQ _ _)
              · exact absurd neg6 c_113
            · have c_26 : ¬ 3 ^ t ≤ k := fun h => c_26 ((nI_leI (by omega) (by omega)).mpr h)
              refine ev_aload_n (q := 30) dX7_agreed_29 rfl rfl ?_
              refine ev_iload (q := 32) dX7_agreed_30 rfl rfl ?_
              refine ev_aload_n (q := 33) dX7_agreed_32 rfl rfl ?_
              refine ev_get (q := 36) dX7_agreed_33 fr_X7_73 rfl (lt_n hn (by decide)) rfl rfl ?_
              rw [show ov I S 33 7 = nI he from hhe]
              refine ev_callV2iS (q := 39) dX7_agreed_36 ca_X7_204 (s_X7_madeOfTerm hn hm (by omega) (by omega)) rfl (lt_n hn (by decide)) rfl rfl (Nat.le_of_ble_eq_true rfl) (Nat.le_of_ble_eq_true rfl) (by decide) (by decide) rfl (fun S T => ?_)
              rw [hmk]
              refine ev_ist_5 (q := 41) dX7_agreed_39 rfl rfl ?_
              refine ev_iload (q := 43) dX7_agreed_41 rfl rfl ?_
              refine ev_if_ge (q := 46) 50 dX7_agreed_43 (by decide) rfl (fun c_43 => ?_) (fun c_43 => ?_)
              · refine ev_ldc (q := 52) co_X7_223 dX7_agreed_50 rfl ?_
                refine ev_aload_n (q := 53) dX7_agreed_52 rfl rfl ?_
                refine ev_iload (q := 55) dX7_agreed_53 rfl rfl ?_
                refine ev_callV1i (q := 58) dX7_agreed_55 ca_X7_220 (s_X7_votesFor (w := v) hn hm (by omega)) rfl (lt_n hn (by decide)) rfl rfl (Nat.le_of_ble_eq_true rfl) (Nat.le_of_ble_eq_true rfl) (by decide) (by decide) rfl ?_
                refine ev_imul (q := 59) dX7_agreed_58 rfl ?_
                refine ev_bipush (q := 61) (10) dX7_agreed_59 (by decide) rfl ?_
                refine ev_aload_n (q := 62) dX7_agreed_61 rfl rfl ?_
                refine ev_iload (q := 64) dX7_agreed_62 rfl rfl ?_
                refine ev_callV1i (q := 67) dX7_agreed_64 ca_X7_224 (s_X7_worthToAll (w := v) hn hm (by omega)) rfl (lt_n hn (by decide)) rfl rfl (Nat.le_of_ble_eq_true rfl) (Nat.le_of_ble_eq_true rfl) (by decide) (by decide) rfl ?_
                refine ev_sipush (q := 70) (500) dX7_agreed_67 (by decide) rfl ?_
                refine ev_iadd (q := 71) dX7_agreed_70 rfl ?_
                refine ev_imul (q := 72) dX7_agreed_71 rfl ?_
                refine ev_iadd (q := 73) dX7_agreed_72 rfl ?_
                refine ev_bipush (q := 75) (6) dX7_agreed_73 (by decide) rfl ?_
                refine ev_iadd (q := 76) dX7_agreed_75 rfl ?_
                refine ev_aload_n (q := 77) dX7_agreed_76 rfl rfl ?_
                refine ev_iload (q := 79) dX7_agreed_77 rfl rfl ?_
                refine ev_callV1i (q := 82) dX7_agreed_79 ca_X7_207 (s_X7_words hn hm (by omega)) rfl (lt_n hn (by decide)) rfl rfl (Nat.le_of_ble_eq_true rfl) (Nat.le_of_ble_eq_true rfl) (by decide) (by decide) rfl ?_
                refine ev_isub (q := 83) dX7_agreed_82 rfl ?_
                refine ev_ist_6 (q := 85) dX7_agreed_83 rfl rfl ?_
                refine ev_iload (q := 87) dX7_agreed_85 rfl rfl ?_
                refine ev_if_lt (q := 90) 106 dX7_agreed_87 (by decide) rfl (fun c_87 => ?_) (fun c_87 => ?_)
                · exact absurd c_87 (nI_pos (by omega))
                · refine ev_iload_n (q := 91) dX7_agreed_90 rfl rfl ?_
                  refine ev_if_lt (q := 94) 100 dX7_agreed_91 (by decide) rfl (fun c_91 => ?_) (fun c_91 => ?_)
                  · refine ev_iload (q := 102) dX7_agreed_100 rfl rfl ?_
                    refine ev_ist_2 (q := 103) dX7_agreed_102 rfl rfl ?_
                    refine ev_iload (q := 105) dX7_agreed_103 rfl rfl ?_
                    refine ev_ist_3 (q := 106) dX7_agreed_105 rfl rfl ?_
                    refine ev_inc_4 (q := 109) (nI (k + 1)) dX7_agreed_106 (nI_1 k) rfl rfl ?_
                    refine ev_goto 20 dX7_agreed_109 (by decide) ?_
                    have e := ih (j - 1) (by omega) (k + 1) (by omega) S T
                    simp only [upto, pickB, ownA, ho, hmk, Option.map_some] at e
                    exact e _ _
                  · exact absurd neg6 c_91
              · exact absurd (nI_pos' (by omega)) c_43
        | some p =>
          obtain ⟨u, b⟩ := p
          have hu := hlt u b ho
          cases hmk : mtF I J t sl wy wi k he with
          | none =>
            refine ev_iload (q := 22) dX7_agreed_20 rfl rfl ?_
            refine ev_aload_n (q := 23) dX7_agreed_22 rfl rfl ?_
            refine ev_callV0i (q := 26) dX7_agreed_23 ca_X7_201 (s_X7_terms hn hm) rfl (lt_n hn (by decide)) rfl rfl (Nat.le_of_ble_eq_true rfl) (Nat.le_of_ble_eq_true rfl) (by decide) (by decide) rfl ?_
            refine ev_icmp_ge (q := 29) 112 dX7_agreed_26 (by decide) rfl (fun c_26 => ?_) (fun c_26 => ?_)
            · have c_26 : 3 ^ t ≤ k := (nI_leI (by omega) (by omega)).mp c_26
              refine ev_iload_n (q := 113) dX7_agreed_112 rfl rfl ?_
              refine ev_if_lt (q := 116) 120 dX7_agreed_113 (by decide) rfl (fun c_113 => ?_) (fun c_113 => ?_)
              · exact absurd c_113 (nI_pos (by omega))
              · refine ev_iload_n (q := 117) dX7_agreed_116 rfl rfl ?_
                refine ev_if_ne (q := 120) 124 dX7_agreed_117 (by decide) rfl (fun c_117 => ?_) (fun c_117 => ?_)
                · refine ev_iload_n (q := 125) dX7_agreed_124 rfl rfl ?_
                  refine ev_ldc (q := 127) co_X7_223 dX7_agreed_125 rfl ?_
                  refine ev_idiv (q := 128) (by decide) dX7_agreed_127 rfl ?_
                  exact ev_iretE dX7_agreed_128 rfl rfl (by rw [show 3 ^ t = k by omega, ho]; first | (simp [c_117]; done) | (simp [c_117]; rfl)) rfl rfl (hQ _ _)
                · refine ev_iload_n (q := 121) dX7_agreed_120 rfl rfl ?_
                  refine ev_goto 128 dX7_agreed_121 (by decide) ?_
                  exact ev_iretE dX7_agreed_128 rfl rfl (by rw [show 3 ^ t = k by omega, ho]; first | (simp [c_117]; done) | (simp [c_117]; rfl)) rfl rfl (hQ _ _)
            · have c_26 : ¬ 3 ^ t ≤ k := fun h => c_26 ((nI_leI (by omega) (by omega)).mpr h)
              refine ev_aload_n (q := 30) dX7_agreed_29 rfl rfl ?_
              refine ev_iload (q := 32) dX7_agreed_30 rfl rfl ?_
              refine ev_aload_n (q := 33) dX7_agreed_32 rfl rfl ?_
              refine ev_get (q := 36) dX7_agreed_33 fr_X7_73 rfl (lt_n hn (by decide)) rfl rfl ?_
              rw [show ov I S 33 7 = nI he from hhe]
              refine ev_callV2iS (q := 39) dX7_agreed_36 ca_X7_204 (s_X7_madeOfTerm hn hm (by omega) (by omega)) rfl (lt_n hn (by decide)) rfl rfl (Nat.le_of_ble_eq_true rfl) (Nat.le_of_ble_eq_true rfl) (by decide) (by decide) rfl (fun S T => ?_)
              rw [hmk]
              refine ev_ist_5 (q := 41) dX7_agreed_39 rfl rfl ?_
              refine ev_iload (q := 43) dX7_agreed_41 rfl rfl ?_
              refine ev_if_ge (q := 46) 50 dX7_agreed_43 (by decide) rfl (fun c_43 => ?_) (fun c_43 => ?_)
              · exact absurd c_43 (by decide)
              · refine ev_iconst (q := 47) (0) dX7_agreed_46 (by decide) rfl ?_
                refine ev_goto 83 dX7_agreed_47 (by decide) ?_
                refine ev_ist_6 (q := 85) dX7_agreed_83 rfl rfl ?_
                refine ev_iload (q := 87) dX7_agreed_85 rfl rfl ?_
                refine ev_if_lt (q := 90) 106 dX7_agreed_87 (by decide) rfl (fun c_87 => ?_) (fun c_87 => ?_)
                · refine ev_inc_4 (q := 109) (nI (k + 1)) dX7_agreed_106 (nI_1 k) rfl rfl ?_
                  refine ev_goto 20 dX7_agreed_109 (by decide) ?_
                  have e := ih (j - 1) (by omega) (k + 1) (by omega) S T
                  simp only [upto, pickB, ownA, ho, hmk, Option.map_none] at e
                  exact e _ _
                · exact absurd neg6 c_87
          | some v =>
            have hv := mtF_lt hmk
            refine ev_iload (q := 22) dX7_agreed_20 rfl rfl ?_
            refine ev_aload_n (q := 23) dX7_agreed_22 rfl rfl ?_
            refine ev_callV0i (q := 26) dX7_agreed_23 ca_X7_201 (s_X7_terms hn hm) rfl (lt_n hn (by decide)) rfl rfl (Nat.le_of_ble_eq_true rfl) (Nat.le_of_ble_eq_true rfl) (by decide) (by decide) rfl ?_
            refine ev_icmp_ge (q := 29) 112 dX7_agreed_26 (by decide) rfl (fun c_26 => ?_) (fun c_26 => ?_)
            · have c_26 : 3 ^ t ≤ k := (nI_leI (by omega) (by omega)).mp c_26
              refine ev_iload_n (q := 113) dX7_agreed_112 rfl rfl ?_
              refine ev_if_lt (q := 116) 120 dX7_agreed_113 (by decide) rfl (fun c_113 => ?_) (fun c_113 => ?_)
              · exact absurd c_113 (nI_pos (by omega))
              · refine ev_iload_n (q := 117) dX7_agreed_116 rfl rfl ?_
                refine ev_if_ne (q := 120) 124 dX7_agreed_117 (by decide) rfl (fun c_117 => ?_) (fun c_117 => ?_)
                · refine ev_iload_n (q := 125) dX7_agreed_124 rfl rfl ?_
                  refine ev_ldc (q := 127) co_X7_223 dX7_agreed_125 rfl ?_
                  refine ev_idiv (q := 128) (by decide) dX7_agreed_127 rfl ?_
                  exact ev_iretE dX7_agreed_128 rfl rfl (by rw [show 3 ^ t = k by omega, ho]; first | (simp [c_117]; done) | (simp [c_117]; rfl)) rfl rfl (hQ _ _)
                · refine ev_iload_n (q := 121) dX7_agreed_120 rfl rfl ?_
                  refine ev_goto 128 dX7_agreed_121 (by decide) ?_
                  exact ev_iretE dX7_agreed_128 rfl rfl (by rw [show 3 ^ t = k by omega, ho]; first | (simp [c_117]; done) | (simp [c_117]; rfl)) rfl rfl (hQ _ _)
            · have c_26 : ¬ 3 ^ t ≤ k := fun h => c_26 ((nI_leI (by omega) (by omega)).mpr h)
              refine ev_aload_n (q := 30) dX7_agreed_29 rfl rfl ?_
              refine ev_iload (q := 32) dX7_agreed_30 rfl rfl ?_
              refine ev_aload_n (q := 33) dX7_agreed_32 rfl rfl ?_
              refine ev_get (q := 36) dX7_agreed_33 fr_X7_73 rfl (lt_n hn (by decide)) rfl rfl ?_
              rw [show ov I S 33 7 = nI he from hhe]
              refine ev_callV2iS (q := 39) dX7_agreed_36 ca_X7_204 (s_X7_madeOfTerm hn hm (by omega) (by omega)) rfl (lt_n hn (by decide)) rfl rfl (Nat.le_of_ble_eq_true rfl) (Nat.le_of_ble_eq_true rfl) (by decide) (by decide) rfl (fun S T => ?_)
              rw [hmk]
              refine ev_ist_5 (q := 41) dX7_agreed_39 rfl rfl ?_
              refine ev_iload (q := 43) dX7_agreed_41 rfl rfl ?_
              refine ev_if_ge (q := 46) 50 dX7_agreed_43 (by decide) rfl (fun c_43 => ?_) (fun c_43 => ?_)
              · refine ev_ldc (q := 52) co_X7_223 dX7_agreed_50 rfl ?_
                refine ev_aload_n (q := 53) dX7_agreed_52 rfl rfl ?_
                refine ev_iload (q := 55) dX7_agreed_53 rfl rfl ?_
                refine ev_callV1i (q := 58) dX7_agreed_55 ca_X7_220 (s_X7_votesFor (w := v) hn hm (by omega)) rfl (lt_n hn (by decide)) rfl rfl (Nat.le_of_ble_eq_true rfl) (Nat.le_of_ble_eq_true rfl) (by decide) (by decide) rfl ?_
                refine ev_imul (q := 59) dX7_agreed_58 rfl ?_
                refine ev_bipush (q := 61) (10) dX7_agreed_59 (by decide) rfl ?_
                refine ev_aload_n (q := 62) dX7_agreed_61 rfl rfl ?_
                refine ev_iload (q := 64) dX7_agreed_62 rfl rfl ?_
                refine ev_callV1i (q := 67) dX7_agreed_64 ca_X7_224 (s_X7_worthToAll (w := v) hn hm (by omega)) rfl (lt_n hn (by decide)) rfl rfl (Nat.le_of_ble_eq_true rfl) (Nat.le_of_ble_eq_true rfl) (by decide) (by decide) rfl ?_
                refine ev_sipush (q := 70) (500) dX7_agreed_67 (by decide) rfl ?_
                refine ev_iadd (q := 71) dX7_agreed_70 rfl ?_
                refine ev_imul (q := 72) dX7_agreed_71 rfl ?_
                refine ev_iadd (q := 73) dX7_agreed_72 rfl ?_
                refine ev_bipush (q := 75) (6) dX7_agreed_73 (by decide) rfl ?_
                refine ev_iadd (q := 76) dX7_agreed_75 rfl ?_
                refine ev_aload_n (q := 77) dX7_agreed_76 rfl rfl ?_
                refine ev_iload (q := 79) dX7_agreed_77 rfl rfl ?_
                refine ev_callV1i (q := 82) dX7_agreed_79 ca_X7_207 (s_X7_words hn hm (by omega)) rfl (lt_n hn (by decide)) rfl rfl (Nat.le_of_ble_eq_true rfl) (Nat.le_of_ble_eq_true rfl) (by decide) (by decide) rfl ?_
                refine ev_isub (q := 83) dX7_agreed_82 rfl ?_
                refine ev_ist_6 (q := 85) dX7_agreed_83 rfl rfl ?_
                refine ev_iload (q := 87) dX7_agreed_85 rfl rfl ?_
                refine ev_if_lt (q := 90) 106 dX7_agreed_87 (by decide) rfl (fun c_87 => ?_) (fun c_87 => ?_)
                · exact absurd c_87 (nI_pos (by omega))
                · refine ev_iload_n (q := 91) dX7_agreed_90 rfl rfl ?_
                  refine ev_if_lt (q := 94) 100 dX7_agreed_91 (by decide) rfl (fun c_91 => ?_) (fun c_91 => ?_)
                  · exact absurd c_91 (nI_pos (by omega))
                  · refine ev_iload (q := 96) dX7_agreed_94 rfl rfl ?_
                    refine ev_iload_n (q := 97) dX7_agreed_96 rfl rfl ?_
                    refine ev_icmp_le (q := 100) 106 dX7_agreed_97 (by decide) rfl (fun c_97 => ?_) (fun c_97 => ?_)
                    · have hbt : decide (b < 100000 * voF I t he v + 10 * (waF I t v + 500) + 6 - nI (wd t k)) = false := by rw [decide_eq_false_iff_not]; intro hz; exact absurd (show (100000 * voF I t he v + 10 * (waF I t v + 500) + 6 - nI (wd t k)) ≤ b from c_97) (by simp only [i_le, i_lt] at *; omega)
                      refine ev_inc_4 (q := 109) (nI (k + 1)) dX7_agreed_106 (nI_1 k) rfl rfl ?_
                      refine ev_goto 20 dX7_agreed_109 (by decide) ?_
                      have e := ih (j - 1) (by omega) (k + 1) (by omega) S T
                      simp only [upto, pickB, ownA, ho, hmk, Option.map_some, hbt, if_true, if_false] at e
                      exact e _ _
                    · have hbt : decide (b < 100000 * voF I t he v + 10 * (waF I t v + 500) + 6 - nI (wd t k)) = true := by rw [decide_eq_true_iff]; have c_97 : ¬ (100000 * voF I t he v + 10 * (waF I t v + 500) + 6 - nI (wd t k)) ≤ b := c_97; simp only [i_le, i_lt] at *; omega
                      refine ev_iload (q := 102) dX7_agreed_100 rfl rfl ?_
                      refine ev_ist_2 (q := 103) dX7_agreed_102 rfl rfl ?_
                      refine ev_iload (q := 105) dX7_agreed_103 rfl rfl ?_
                      refine ev_ist_3 (q := 106) dX7_agreed_105 rfl rfl ?_
                      refine ev_inc_4 (q := 109) (nI (k + 1)) dX7_agreed_106 (nI_1 k) rfl rfl ?_
                      refine ev_goto 20 dX7_agreed_109 (by decide) ?_
                      have e := ih (j - 1) (by omega) (k + 1) (by omega) S T
                      simp only [upto, pickB, ownA, ho, hmk, Option.map_some, hbt, if_true, if_false] at e
                      exact e _ _
              · exact absurd (nI_pos' (by omega)) c_43
    refine ev_iload_n (q := 1) dX7_agreed_0 rfl rfl ?_
    refine ev_iconst (q := 2) (0) dX7_agreed_1 (by decide) rfl ?_
    refine ev_iconst (q := 3) (1) dX7_agreed_2 (by decide) rfl ?_
    refine ev_callS3i (q := 6) dX7_agreed_3 ca_X7_99 (c_X7_in _ _ _) (Nat.le_of_ble_eq_true rfl) (Nat.le_of_ble_eq_true rfl) (by decide) (by decide) rfl ?_
    refine ev_if_ne (q := 9) 12 dX7_agreed_6 (by decide) rfl (fun c_6 => ?_) (fun c_6 => ?_)
    · refine ev_bipush (q := 14) (-6) dX7_agreed_12 (by decide) rfl ?_
      refine ev_ist_2 (q := 15) dX7_agreed_14 rfl rfl ?_
      refine ev_iconst (q := 16) (0) dX7_agreed_15 (by decide) rfl ?_
      refine ev_ist_3 (q := 17) dX7_agreed_16 rfl rfl ?_
      refine ev_iconst (q := 18) (0) dX7_agreed_17 (by decide) rfl ?_
      refine ev_ist_4 (q := 20) dX7_agreed_18 rfl rfl ?_
      exact lp (3 ^ t) 0 (by omega) _ _ _ _
    · exact absurd c_6 (b2i_n0.mpr hin)
end MODEL8
end
section
def RnP (xl : Nat) (xs : Nat → Int32) (F L : Nat) (M : Mt) (vs : List Value) (n : Nat) (I S : Nat → Nat → Int32) (J T : Nat → Nat → Int64) (X : Nat → Option Nat) (r : Option Value) (PS : (Nat → Nat → Int32) → (Nat → Nat → Int64) → Prop) : Prop :=
  ∀ Q : QT, (∀ S' T', PS S' T' → Q r n (sysH (ov I S') (ovJ J T') X)) → Ev xl xs F L 0 0 M 0 (ent vs M.2.2.1) [] n (sysH (ov I S) (ovJ J T) X) Q
section SCR2
variable {xl : Nat} {xs : Nat → Int32} {F L B1 B2 : Nat} {M : Mt} {pc : Nat} {lv : List (Option Value)} {st : List Value} {n : Nat} {Q : QT} {q : Nat} {I S I' : Nat → Nat → Int32} {J T J' : Nat → Nat → Int64} {X X' : Nat → Option Nat}
theorem ev_callV0iP {idx F' L' : Nat} {M' : Mt} {b ci : Nat} {fs : List Value} {cr : vw_C} {r : Int32} {PS : (Nat → Nat → Int32) → (Nat → Nat → Int64) → Prop} (d : decode M.2.1 pc = .ok (.invokevirtual idx, 3)) (ca : CV M.1.cls idx M' 0) (hR : RnP xl xs F' L' M' [.ref b] n I S J T X (some (.int r)) PS) (hc : sysH (ov I S) (ovJ J T) X b = .inr (ci, fs)) (hbn : b < n) (hcr : vwCl[ci]? = some cr) (hcl : cr.1 = M'.1.cls) (hlen : (entA [.ref b]).length ≤ M'.2.2.1) (hw : (st.map fun v => v.category).sum ≤ 8) (hF : F' + 1 ≤ F) (hL : 19 + M'.2.2.1 + L' ≤ L) (hq : pc + 3 = q) (k : ∀ S T, PS S T → Ev xl xs F L B1 B2 M q lv (.int r :: st) n (sysH (ov I S) (ovJ J T) X) Q) : Ev xl xs F L B1 B2 M pc lv (.ref b :: st) n (sysH (ov I S) (ovJ J T) X) Q :=
  ev_callQV (As := []) (rest := st) (b1 := 0) (b2 := 0) (P := fun r2 n2 h2 => r2 = (some (.int r)) ∧ n2 = n ∧ ∃ S2 T2, PS S2 T2 ∧ h2 = sysH (ov I S2) (ovJ J T2) X) d ca rfl hc hbn hcr hcl hlen hw hF hL (Nat.zero_le _) (Nat.zero_le _) (hR _ (fun S2 T2 h9 => ⟨rfl, rfl, S2, T2, h9, rfl⟩)) hq (fun r2 n2 h2 hz => by obtain ⟨rfl, rfl, S2, T2, h9, rfl⟩ := hz; exact k S2 T2 h9)
theorem ev_callV0lP {idx F' L' : Nat} {M' : Mt} {b ci : Nat} {fs : List Value} {cr : vw_C} {r : Int64} {PS : (Nat → Nat → Int32) → (Nat → Nat → Int64) → Prop} (d : decode M.2.1 pc = .ok (.invokevirtual idx, 3)) (ca : CV M.1.cls idx M' 0) (hR : RnP xl xs F' L' M' [.ref b] n I S J T X (some (.long r)) PS) (hc : sysH (ov I S) (ovJ J T) X b = .inr (ci, fs)) (hbn : b < n) (hcr : vwCl[ci]? = some cr) (hcl : cr.1 = M'.1.cls) (hlen : (entA [.ref b]).length ≤ M'.2.2.1) (hw : (st.map fun v => v.category).sum ≤ 8) (hF : F' + 1 ≤ F) (hL : 19 + M'.2.2.1 + L' ≤ L) (hq : pc + 3 = q) (k : ∀ S T, PS S T → Ev xl xs F L B1 B2 M q lv (.long r :: st) n (sysH (ov I S) (ovJ J T) X) Q) : Ev xl xs F L B1 B2 M pc lv (.ref b :: st) n (sysH (ov I S) (ovJ J T) X) Q :=
  ev_callQV (As := []) (rest := st) (b1 := 0) (b2 := 0) (P := fun r2 n2 h2 => r2 = (some (.long r)) ∧ n2 = n ∧ ∃ S2 T2, PS S2 T2 ∧ h2 = sysH (ov I S2) (ovJ J T2) X) d ca rfl hc hbn hcr hcl hlen hw hF hL (Nat.zero_le _) (Nat.zero_le _) (hR _ (fun S2 T2 h9 => ⟨rfl, rfl, S2, T2, h9, rfl⟩)) hq (fun r2 n2 h2 hz => by obtain ⟨rfl, rfl, S2, T2, h9, rfl⟩ := hz; exact k S2 T2 h9)
theorem ev_callV0vP {idx F' L' : Nat} {M' : Mt} {b ci : Nat} {fs : List Value} {cr : vw_C} {PS : (Nat → Nat → Int32) → (Nat → Nat → Int64) → Prop} (d : decode M.2.1 pc = .ok (.invokevirtual idx, 3)) (ca : CV M.1.cls idx M' 0) (hR : RnP xl xs F' L' M' [.ref b] n I S J T X none PS) (hc : sysH (ov I S) (ovJ J T) X b = .inr (ci, fs)) (hbn : b < n) (hcr : vwCl[ci]? = some cr) (hcl : cr.1 = M'.1.cls) (hlen : (entA [.ref b]).length ≤ M'.2.2.1) (hw : (st.map fun v => v.category).sum ≤ 8) (hF : F' + 1 ≤ F) (hL : 19 + M'.2.2.1 + L' ≤ L) (hq : pc + 3 = q) (k : ∀ S T, PS S T → Ev xl xs F L B1 B2 M q lv st n (sysH (ov I S) (ovJ J T) X) Q) : Ev xl xs F L B1 B2 M pc lv (.ref b :: st) n (sysH (ov I S) (ovJ J T) X) Q :=
  ev_callQV (As := []) (rest := st) (b1 := 0) (b2 := 0) (P := fun r2 n2 h2 => r2 = none ∧ n2 = n ∧ ∃ S2 T2, PS S2 T2 ∧ h2 = sysH (ov I S2) (ovJ J T2) X) d ca rfl hc hbn hcr hcl hlen hw hF hL (Nat.zero_le _) (Nat.zero_le _) (hR _ (fun S2 T2 h9 => ⟨rfl, rfl, S2, T2, h9, rfl⟩)) hq (fun r2 n2 h2 hz => by obtain ⟨rfl, rfl, S2, T2, h9, rfl⟩ := hz; exact k S2 T2 h9)
theorem ev_callV1iP {idx F' L' : Nat} {M' : Mt} {v0 : Value} {b ci : Nat} {fs : List Value} {cr : vw_C} {r : Int32} {PS : (Nat → Nat → Int32) → (Nat → Nat → Int64) → Prop} (d : decode M.2.1 pc = .ok (.invokevirtual idx, 3)) (ca : CV M.1.cls idx M' 1) (hR : RnP xl xs F' L' M' [.ref b, v0] n I S J T X (some (.int r)) PS) (hc : sysH (ov I S) (ovJ J T) X b = .inr (ci, fs)) (hbn : b < n) (hcr : vwCl[ci]? = some cr) (hcl : cr.1 = M'.1.cls) (hlen : (entA [.ref b, v0]).length ≤ M'.2.2.1) (hw : (st.map fun v => v.category).sum ≤ 8) (hF : F' + 1 ≤ F) (hL : 19 + M'.2.2.1 + L' ≤ L) (hq : pc + 3 = q) (k : ∀ S T, PS S T → Ev xl xs F L B1 B2 M q lv (.int r :: st) n (sysH (ov I S) (ovJ J T) X) Q) : Ev xl xs F L B1 B2 M pc lv (v0 :: .ref b :: st) n (sysH (ov I S) (ovJ J T) X) Q :=
  ev_callQV (As := [v0]) (rest := st) (b1 := 0) (b2 := 0) (P := fun r2 n2 h2 => r2 = (some (.int r)) ∧ n2 = n ∧ ∃ S2 T2, PS S2 T2 ∧ h2 = sysH (ov I S2) (ovJ J T2) X) d ca rfl hc hbn hcr hcl hlen hw hF hL (Nat.zero_le _) (Nat.zero_le _) (hR _ (fun S2 T2 h9 => ⟨rfl, rfl, S2, T2, h9, rfl⟩)) hq (fun r2 n2 h2 hz => by obtain ⟨rfl, rfl, S2, T2, h9, rfl⟩ := hz; exact k S2 T2 h9)
theorem ev_callV1lP {idx F' L' : Nat} {M' : Mt} {v0 : Value} {b ci : Nat} {fs : List Value} {cr : vw_C} {r : Int64} {PS : (Nat → Nat → Int32) → (Nat → Nat → Int64) → Prop} (d : decode M.2.1 pc = .ok (.invokevirtual idx, 3)) (ca : CV M.1.cls idx M' 1) (hR : RnP xl xs F' L' M' [.ref b, v0] n I S J T X (some (.long r)) PS) (hc : sysH (ov I S) (ovJ J T) X b = .inr (ci, fs)) (hbn : b < n) (hcr : vwCl[ci]? = some cr) (hcl : cr.1 = M'.1.cls) (hlen : (entA [.ref b, v0]).length ≤ M'.2.2.1) (hw : (st.map fun v => v.category).sum ≤ 8) (hF : F' + 1 ≤ F) (hL : 19 + M'.2.2.1 + L' ≤ L) (hq : pc + 3 = q) (k : ∀ S T, PS S T → Ev xl xs F L B1 B2 M q lv (.long r :: st) n (sysH (ov I S) (ovJ J T) X) Q) : Ev xl xs F L B1 B2 M pc lv (v0 :: .ref b :: st) n (sysH (ov I S) (ovJ J T) X) Q :=
  ev_callQV (As := [v0]) (rest := st) (b1 := 0) (b2 := 0) (P := fun r2 n2 h2 => r2 = (some (.long r)) ∧ n2 = n ∧ ∃ S2 T2, PS S2 T2 ∧ h2 = sysH (ov I S2) (ovJ J T2) X) d ca rfl hc hbn hcr hcl hlen hw hF hL (Nat.zero_le _) (Nat.zero_le _) (hR _ (fun S2 T2 h9 => ⟨rfl, rfl, S2, T2, h9, rfl⟩)) hq (fun r2 n2 h2 hz => by obtain ⟨rfl, rfl, S2, T2, h9, rfl⟩ := hz; exact k S2 T2 h9)
theorem ev_callV1vP {idx F' L' : Nat} {M' : Mt} {v0 : Value} {b ci : Nat} {fs : List Value} {cr : vw_C} {PS : (Nat → Nat → Int32) → (Nat → Nat → Int64) → Prop} (d : decode M.2.1 pc = .ok (.invokevirtual idx, 3)) (ca : CV M.1.cls idx M' 1) (hR : RnP xl xs F' L' M' [.ref b, v0] n I S J T X none PS) (hc : sysH (ov I S) (ovJ J T) X b = .inr (ci, fs)) (hbn : b < n) (hcr : vwCl[ci]? = some cr) (hcl : cr.1 = M'.1.cls) (hlen : (entA [.ref b, v0]).length ≤ M'.2.2.1) (hw : (st.map fun v => v.category).sum ≤ 8) (hF : F' + 1 ≤ F) (hL : 19 + M'.2.2.1 + L' ≤ L) (hq : pc + 3 = q) (k : ∀ S T, PS S T → Ev xl xs F L B1 B2 M q lv st n (sysH (ov I S) (ovJ J T) X) Q) : Ev xl xs F L B1 B2 M pc lv (v0 :: .ref b :: st) n (sysH (ov I S) (ovJ J T) X) Q :=
  ev_callQV (As := [v0]) (rest := st) (b1 := 0) (b2 := 0) (P := fun r2 n2 h2 => r2 = none ∧ n2 = n ∧ ∃ S2 T2, PS S2 T2 ∧ h2 = sysH (ov I S2) (ovJ J T2) X) d ca rfl hc hbn hcr hcl hlen hw hF hL (Nat.zero_le _) (Nat.zero_le _) (hR _ (fun S2 T2 h9 => ⟨rfl, rfl, S2, T2, h9, rfl⟩)) hq (fun r2 n2 h2 hz => by obtain ⟨rfl, rfl, S2, T2, h9, rfl⟩ := hz; exact k S2 T2 h9)
theorem ev_callV2iP {idx F' L' : Nat} {M' : Mt} {v0 v1 : Value} {b ci : Nat} {fs : List Value} {cr : vw_C} {r : Int32} {PS : (Nat → Nat → Int32) → (Nat → Nat → Int64) → Prop} (d : decode M.2.1 pc = .ok (.invokevirtual idx, 3)) (ca : CV M.1.cls idx M' 2) (hR : RnP xl xs F' L' M' [.ref b, v0, v1] n I S J T X (some (.int r)) PS) (hc : sysH (ov I S) (ovJ J T) X b = .inr (ci, fs)) (hbn : b < n) (hcr : vwCl[ci]? = some cr) (hcl : cr.1 = M'.1.cls) (hlen : (entA [.ref b, v0, v1]).length ≤ M'.2.2.1) (hw : (st.map fun v => v.category).sum ≤ 8) (hF : F' + 1 ≤ F) (hL : 19 + M'.2.2.1 + L' ≤ L) (hq : pc + 3 = q) (k : ∀ S T, PS S T → Ev xl xs F L B1 B2 M q lv (.int r :: st) n (sysH (ov I S) (ovJ J T) X) Q) : Ev xl xs F L B1 B2 M pc lv (v1 :: v0 :: .ref b :: st) n (sysH (ov I S) (ovJ J T) X) Q :=
  ev_callQV (As := [v0, v1]) (rest := st) (b1 := 0) (b2 := 0) (P := fun r2 n2 h2 => r2 = (some (.int r)) ∧ n2 = n ∧ ∃ S2 T2, PS S2 T2 ∧ h2 = sysH (ov I S2) (ovJ J T2) X) d ca rfl hc hbn hcr hcl hlen hw hF hL (Nat.zero_le _) (Nat.zero_le _) (hR _ (fun S2 T2 h9 => ⟨rfl, rfl, S2, T2, h9, rfl⟩)) hq (fun r2 n2 h2 hz => by obtain ⟨rfl, rfl, S2, T2, h9, rfl⟩ := hz; exact k S2 T2 h9)
theorem ev_callV2lP {idx F' L' : Nat} {M' : Mt} {v0 v1 : Value} {b ci : Nat} {fs : List Value} {cr : vw_C} {r : Int64} {PS : (Nat → Nat → Int32) → (Nat → Nat → Int64) → Prop} (d : decode M.2.1 pc = .ok (.invokevirtual idx, 3)) (ca : CV M.1.cls idx M' 2) (hR : RnP xl xs F' L' M' [.ref b, v0, v1] n I S J T X (some (.long r)) PS) (hc : sysH (ov I S) (ovJ J T) X b = .inr (ci, fs)) (hbn : b < n) (hcr : vwCl[ci]? = some cr) (hcl : cr.1 = M'.1.cls) (hlen : (entA [.ref b, v0, v1]).length ≤ M'.2.2.1) (hw : (st.map fun v => v.category).sum ≤ 8) (hF : F' + 1 ≤ F) (hL : 19 + M'.2.2.1 + L' ≤ L) (hq : pc + 3 = q) (k : ∀ S T, PS S T → Ev xl xs F L B1 B2 M q lv (.long r :: st) n (sysH (ov I S) (ovJ J T) X) Q) : Ev xl xs F L B1 B2 M pc lv (v1 :: v0 :: .ref b :: st) n (sysH (ov I S) (ovJ J T) X) Q :=
  ev_callQV (As := [v0, v1]) (rest := st) (b1 := 0) (b2 := 0) (P := fun r2 n2 h2 => r2 = (some (.long r)) ∧ n2 = n ∧ ∃ S2 T2, PS S2 T2 ∧ h2 = sysH (ov I S2) (ovJ J T2) X) d ca rfl hc hbn hcr hcl hlen hw hF hL (Nat.zero_le _) (Nat.zero_le _) (hR _ (fun S2 T2 h9 => ⟨rfl, rfl, S2, T2, h9, rfl⟩)) hq (fun r2 n2 h2 hz => by obtain ⟨rfl, rfl, S2, T2, h9, rfl⟩ := hz; exact k S2 T2 h9)
theorem ev_callV2vP {idx F' L' : Nat} {M' : Mt} {v0 v1 : Value} {b ci : Nat} {fs : List Value} {cr : vw_C} {PS : (Nat → Nat → Int32) → (Nat → Nat → Int64) → Prop} (d : decode M.2.1 pc = .ok (.invokevirtual idx, 3)) (ca : CV M.1.cls idx M' 2) (hR : RnP xl xs F' L' M' [.ref b, v0, v1] n I S J T X none PS) (hc : sysH (ov I S) (ovJ J T) X b = .inr (ci, fs)) (hbn : b < n) (hcr : vwCl[ci]? = some cr) (hcl : cr.1 = M'.1.cls) (hlen : (entA [.ref b, v0, v1]).length ≤ M'.2.2.1) (hw : (st.map fun v => v.category).sum ≤ 8) (hF : F' + 1 ≤ F) (hL : 19 + M'.2.2.1 + L' ≤ L) (hq : pc + 3 = q) (k : ∀ S T, PS S T → Ev xl xs F L B1 B2 M q lv st n (sysH (ov I S) (ovJ J T) X) Q) : Ev xl xs F L B1 B2 M pc lv (v1 :: v0 :: .ref b :: st) n (sysH (ov I S) (ovJ J T) X) Q :=
  ev_callQV (As := [v0, v1]) (rest := st) (b1 := 0) (b2 := 0) (P := fun r2 n2 h2 => r2 = none ∧ n2 = n ∧ ∃ S2 T2, PS S2 T2 ∧ h2 = sysH (ov I S2) (ovJ J T2) X) d ca rfl hc hbn hcr hcl hlen hw hF hL (Nat.zero_le _) (Nat.zero_le _) (hR _ (fun S2 T2 h9 => ⟨rfl, rfl, S2, T2, h9, rfl⟩)) hq (fun r2 n2 h2 hz => by obtain ⟨rfl, rfl, S2, T2, h9, rfl⟩ := hz; exact k S2 T2 h9)
theorem ev_callV3iP {idx F' L' : Nat} {M' : Mt} {v0 v1 v2 : Value} {b ci : Nat} {fs : List Value} {cr : vw_C} {r : Int32} {PS : (Nat → Nat → Int32) → (Nat → Nat → Int64) → Prop} (d : decode M.2.1 pc = .ok (.invokevirtual idx, 3)) (ca : CV M.1.cls idx M' 3) (hR : RnP xl xs F' L' M' [.ref b, v0, v1, v2] n I S J T X (some (.int r)) PS) (hc : sysH (ov I S) (ovJ J T) X b = .inr (ci, fs)) (hbn : b < n) (hcr : vwCl[ci]? = some cr) (hcl : cr.1 = M'.1.cls) (hlen : (entA [.ref b, v0, v1, v2]).length ≤ M'.2.2.1) (hw : (st.map fun v => v.category).sum ≤ 8) (hF : F' + 1 ≤ F) (hL : 19 + M'.2.2.1 + L' ≤ L) (hq : pc + 3 = q) (k : ∀ S T, PS S T → Ev xl xs F L B1 B2 M q lv (.int r :: st) n (sysH (ov I S) (ovJ J T) X) Q) : Ev xl xs F L B1 B2 M pc lv (v2 :: v1 :: v0 :: .ref b :: st) n (sysH (ov I S) (ovJ J T) X) Q :=
  ev_callQV (As := [v0, v1, v2]) (rest := st) (b1 := 0) (b2 := 0) (P := fun r2 n2 h2 => r2 = (some (.int r)) ∧ n2 = n ∧ ∃ S2 T2, PS S2 T2 ∧ h2 = sysH (ov I S2) (ovJ J T2) X) d ca rfl hc hbn hcr hcl hlen hw hF hL (Nat.zero_le _) (Nat.zero_le _) (hR _ (fun S2 T2 h9 => ⟨rfl, rfl, S2, T2, h9, rfl⟩)) hq (fun r2 n2 h2 hz => by obtain ⟨rfl, rfl, S2, T2, h9, rfl⟩ := hz; exact k S2 T2 h9)
theorem ev_callV3lP {idx F' L' : Nat} {M' : Mt} {v0 v1 v2 : Value} {b ci : Nat} {fs : List Value} {cr : vw_C} {r : Int64} {PS : (Nat → Nat → Int32) → (Nat → Nat → Int64) → Prop} (d : decode M.2.1 pc = .ok (.invokevirtual idx, 3)) (ca : CV M.1.cls idx M' 3) (hR : RnP xl xs F' L' M' [.ref b, v0, v1, v2] n I S J T X (some (.long r)) PS) (hc : sysH (ov I S) (ovJ J T) X b = .inr (ci, fs)) (hbn : b < n) (hcr : vwCl[ci]? = some cr) (hcl : cr.1 = M'.1.cls) (hlen : (entA [.ref b, v0, v1, v2]).length ≤ M'.2.2.1) (hw : (st.map fun v => v.category).sum ≤ 8) (hF : F' + 1 ≤ F) (hL : 19 + M'.2.2.1 + L' ≤ L) (hq : pc + 3 = q) (k : ∀ S T, PS S T → Ev xl xs F L B1 B2 M q lv (.long r :: st) n (sysH (ov I S) (ovJ J T) X) Q) : Ev xl xs F L B1 B2 M pc lv (v2 :: v1 :: v0 :: .ref b :: st) n (sysH (ov I S) (ovJ J T) X) Q :=
  ev_callQV (As := [v0, v1, v2]) (rest := st) (b1 := 0) (b2 := 0) (P := fun r2 n2 h2 => r2 = (some (.long r)) ∧ n2 = n ∧ ∃ S2 T2, PS S2 T2 ∧ h2 = sysH (ov I S2) (ovJ J T2) X) d ca rfl hc hbn hcr hcl hlen hw hF hL (Nat.zero_le _) (Nat.zero_le _) (hR _ (fun S2 T2 h9 => ⟨rfl, rfl, S2, T2, h9, rfl⟩)) hq (fun r2 n2 h2 hz => by obtain ⟨rfl, rfl, S2, T2, h9, rfl⟩ := hz; exact k S2 T2 h9)
theorem ev_callV3vP {idx F' L' : Nat} {M' : Mt} {v0 v1 v2 : Value} {b ci : Nat} {fs : List Value} {cr : vw_C} {PS : (Nat → Nat → Int32) → (Nat → Nat → Int64) → Prop} (d : decode M.2.1 pc = .ok (.invokevirtual idx, 3)) (ca : CV M.1.cls idx M' 3) (hR : RnP xl xs F' L' M' [.ref b, v0, v1, v2] n I S J T X none PS) (hc : sysH (ov I S) (ovJ J T) X b = .inr (ci, fs)) (hbn : b < n) (hcr : vwCl[ci]? = some cr) (hcl : cr.1 = M'.1.cls) (hlen : (entA [.ref b, v0, v1, v2]).length ≤ M'.2.2.1) (hw : (st.map fun v => v.category).sum ≤ 8) (hF : F' + 1 ≤ F) (hL : 19 + M'.2.2.1 + L' ≤ L) (hq : pc + 3 = q) (k : ∀ S T, PS S T → Ev xl xs F L B1 B2 M q lv st n (sysH (ov I S) (ovJ J T) X) Q) : Ev xl xs F L B1 B2 M pc lv (v2 :: v1 :: v0 :: .ref b :: st) n (sysH (ov I S) (ovJ J T) X) Q :=
  ev_callQV (As := [v0, v1, v2]) (rest := st) (b1 := 0) (b2 := 0) (P := fun r2 n2 h2 => r2 = none ∧ n2 = n ∧ ∃ S2 T2, PS S2 T2 ∧ h2 = sysH (ov I S2) (ovJ J T2) X) d ca rfl hc hbn hcr hcl hlen hw hF hL (Nat.zero_le _) (Nat.zero_le _) (hR _ (fun S2 T2 h9 => ⟨rfl, rfl, S2, T2, h9, rfl⟩)) hq (fun r2 n2 h2 hz => by obtain ⟨rfl, rfl, S2, T2, h9, rfl⟩ := hz; exact k S2 T2 h9)
theorem ev_callV4iP {idx F' L' : Nat} {M' : Mt} {v0 v1 v2 v3 : Value} {b ci : Nat} {fs : List Value} {cr : vw_C} {r : Int32} {PS : (Nat → Nat → Int32) → (Nat → Nat → Int64) → Prop} (d : decode M.2.1 pc = .ok (.invokevirtual idx, 3)) (ca : CV M.1.cls idx M' 4) (hR : RnP xl xs F' L' M' [.ref b, v0, v1, v2, v3] n I S J T X (some (.int r)) PS) (hc : sysH (ov I S) (ovJ J T) X b = .inr (ci, fs)) (hbn : b < n) (hcr : vwCl[ci]? = some cr) (hcl : cr.1 = M'.1.cls) (hlen : (entA [.ref b, v0, v1, v2, v3]).length ≤ M'.2.2.1) (hw : (st.map fun v => v.category).sum ≤ 8) (hF : F' + 1 ≤ F) (hL : 19 + M'.2.2.1 + L' ≤ L) (hq : pc + 3 = q) (k : ∀ S T, PS S T → Ev xl xs F L B1 B2 M q lv (.int r :: st) n (sysH (ov I S) (ovJ J T) X) Q) : Ev xl xs F L B1 B2 M pc lv (v3 :: v2 :: v1 :: v0 :: .ref b :: st) n (sysH (ov I S) (ovJ J T) X) Q :=
  ev_callQV (As := [v0, v1, v2, v3]) (rest := st) (b1 := 0) (b2 := 0) (P := fun r2 n2 h2 => r2 = (some (.int r)) ∧ n2 = n ∧ ∃ S2 T2, PS S2 T2 ∧ h2 = sysH (ov I S2) (ovJ J T2) X) d ca rfl hc hbn hcr hcl hlen hw hF hL (Nat.zero_le _) (Nat.zero_le _) (hR _ (fun S2 T2 h9 => ⟨rfl, rfl, S2, T2, h9, rfl⟩)) hq (fun r2 n2 h2 hz => by obtain ⟨rfl, rfl, S2, T2, h9, rfl⟩ := hz; exact k S2 T2 h9)
theorem ev_callV4lP {idx F' L' : Nat} {M' : Mt} {v0 v1 v2 v3 : Value} {b ci : Nat} {fs : List Value} {cr : vw_C} {r : Int64} {PS : (Nat → Nat → Int32) → (Nat → Nat → Int64) → Prop} (d : decode M.2.1 pc = .ok (.invokevirtual idx, 3)) (ca : CV M.1.cls idx M' 4) (hR : RnP xl xs F' L' M' [.ref b, v0, v1, v2, v3] n I S J T X (some (.long r)) PS) (hc : sysH (ov I S) (ovJ J T) X b = .inr (ci, fs)) (hbn : b < n) (hcr : vwCl[ci]? = some cr) (hcl : cr.1 = M'.1.cls) (hlen : (entA [.ref b, v0, v1, v2, v3]).length ≤ M'.2.2.1) (hw : (st.map fun v => v.category).sum ≤ 8) (hF : F' + 1 ≤ F) (hL : 19 + M'.2.2.1 + L' ≤ L) (hq : pc + 3 = q) (k : ∀ S T, PS S T → Ev xl xs F L B1 B2 M q lv (.long r :: st) n (sysH (ov I S) (ovJ J T) X) Q) : Ev xl xs F L B1 B2 M pc lv (v3 :: v2 :: v1 :: v0 :: .ref b :: st) n (sysH (ov I S) (ovJ J T) X) Q :=
  ev_callQV (As := [v0, v1, v2, v3]) (rest := st) (b1 := 0) (b2 := 0) (P := fun r2 n2 h2 => r2 = (some (.long r)) ∧ n2 = n ∧ ∃ S2 T2, PS S2 T2 ∧ h2 = sysH (ov I S2) (ovJ J T2) X) d ca rfl hc hbn hcr hcl hlen hw hF hL (Nat.zero_le _) (Nat.zero_le _) (hR _ (fun S2 T2 h9 => ⟨rfl, rfl, S2, T2, h9, rfl⟩)) hq (fun r2 n2 h2 hz => by obtain ⟨rfl, rfl, S2, T2, h9, rfl⟩ := hz; exact k S2 T2 h9)
theorem ev_callV4vP {idx F' L' : Nat} {M' : Mt} {v0 v1 v2 v3 : Value} {b ci : Nat} {fs : List Value} {cr : vw_C} {PS : (Nat → Nat → Int32) → (Nat → Nat → Int64) → Prop} (d : decode M.2.1 pc = .ok (.invokevirtual idx, 3)) (ca : CV M.1.cls idx M' 4) (hR : RnP xl xs F' L' M' [.ref b, v0, v1, v2, v3] n I S J T X none PS) (hc : sysH (ov I S) (ovJ J T) X b = .inr (ci, fs)) (hbn : b < n) (hcr : vwCl[ci]? = some cr) (hcl : cr.1 = M'.1.cls) (hlen : (entA [.ref b, v0, v1, v2, v3]).length ≤ M'.2.2.1) (hw : (st.map fun v => v.category).sum ≤ 8) (hF : F' + 1 ≤ F) (hL : 19 + M'.2.2.1 + L' ≤ L) (hq : pc + 3 = q) (k : ∀ S T, PS S T → Ev xl xs F L B1 B2 M q lv st n (sysH (ov I S) (ovJ J T) X) Q) : Ev xl xs F L B1 B2 M pc lv (v3 :: v2 :: v1 :: v0 :: .ref b :: st) n (sysH (ov I S) (ovJ J T) X) Q :=
  ev_callQV (As := [v0, v1, v2, v3]) (rest := st) (b1 := 0) (b2 := 0) (P := fun r2 n2 h2 => r2 = none ∧ n2 = n ∧ ∃ S2 T2, PS S2 T2 ∧ h2 = sysH (ov I S2) (ovJ J T2) X) d ca rfl hc hbn hcr hcl hlen hw hF hL (Nat.zero_le _) (Nat.zero_le _) (hR _ (fun S2 T2 h9 => ⟨rfl, rfl, S2, T2, h9, rfl⟩)) hq (fun r2 n2 h2 hz => by obtain ⟨rfl, rfl, S2, T2, h9, rfl⟩ := hz; exact k S2 T2 h9)
theorem ev_callS0iP {idx F' L' : Nat} {M' : Mt} {r : Int32} {PS : (Nat → Nat → Int32) → (Nat → Nat → Int64) → Prop} (d : decode M.2.1 pc = .ok (.invokestatic idx, 3)) (ca : CS M.1.cls idx M' 0) (hR : RnP xl xs F' L' M' [] n I S J T X (some (.int r)) PS) (hlen : (entA []).length ≤ M'.2.2.1) (hw : (st.map fun v => v.category).sum ≤ 8) (hF : F' + 1 ≤ F) (hL : 19 + M'.2.2.1 + L' ≤ L) (hq : pc + 3 = q) (k : ∀ S T, PS S T → Ev xl xs F L B1 B2 M q lv (.int r :: st) n (sysH (ov I S) (ovJ J T) X) Q) : Ev xl xs F L B1 B2 M pc lv st n (sysH (ov I S) (ovJ J T) X) Q :=
  ev_callQS (As := []) (rest := st) (b1 := 0) (b2 := 0) (P := fun r2 n2 h2 => r2 = (some (.int r)) ∧ n2 = n ∧ ∃ S2 T2, PS S2 T2 ∧ h2 = sysH (ov I S2) (ovJ J T2) X) d ca rfl hlen hw hF hL (Nat.zero_le _) (Nat.zero_le _) (hR _ (fun S2 T2 h9 => ⟨rfl, rfl, S2, T2, h9, rfl⟩)) hq (fun r2 n2 h2 hz => by obtain ⟨rfl, rfl, S2, T2, h9, rfl⟩ := hz; exact k S2 T2 h9)
theorem ev_callS0lP {idx F' L' : Nat} {M' : Mt} {r : Int64} {PS : (Nat → Nat → Int32) → (Nat → Nat → Int64) → Prop} (d : decode M.2.1 pc = .ok (.invokestatic idx, 3)) (ca : CS M.1.cls idx M' 0) (hR : RnP xl xs F' L' M' [] n I S J T X (some (.long r)) PS) (hlen : (entA []).length ≤ M'.2.2.1) (hw : (st.map fun v => v.category).sum ≤ 8) (hF : F' + 1 ≤ F) (hL : 19 + M'.2.2.1 + L' ≤ L) (hq : pc + 3 = q) (k : ∀ S T, PS S T → Ev xl xs F L B1 B2 M q lv (.long r :: st) n (sysH (ov I S) (ovJ J T) X) Q) : Ev xl xs F L B1 B2 M pc lv st n (sysH (ov I S) (ovJ J T) X) Q :=
  ev_callQS (As := []) (rest := st) (b1 := 0) (b2 := 0) (P := fun r2 n2 h2 => r2 = (some (.long r)) ∧ n2 = n ∧ ∃ S2 T2, PS S2 T2 ∧ h2 = sysH (ov I S2) (ovJ J T2) X) d ca rfl hlen hw hF hL (Nat.zero_le _) (Nat.zero_le _) (hR _ (fun S2 T2 h9 => ⟨rfl, rfl, S2, T2, h9, rfl⟩)) hq (fun r2 n2 h2 hz => by obtain ⟨rfl, rfl, S2, T2, h9, rfl⟩ := hz; exact k S2 T2 h9)
theorem ev_callS0vP {idx F' L' : Nat} {M' : Mt} {PS : (Nat → Nat → Int32) → (Nat → Nat → Int64) → Prop} (d : decode M.2.1 pc = .ok (.invokestatic idx, 3)) (ca : CS M.1.cls idx M' 0) (hR : RnP xl xs F' L' M' [] n I S J T X none PS) (hlen : (entA []).length ≤ M'.2.2.1) (hw : (st.map fun v => v.category).sum ≤ 8) (hF : F' + 1 ≤ F) (hL : 19 + M'.2.2.1 + L' ≤ L) (hq : pc + 3 = q) (k : ∀ S T, PS S T → Ev xl xs F L B1 B2 M q lv st n (sysH (ov I S) (ovJ J T) X) Q) : Ev xl xs F L B1 B2 M pc lv st n (sysH (ov I S) (ovJ J T) X) Q :=
  ev_callQS (As := []) (rest := st) (b1 := 0) (b2 := 0) (P := fun r2 n2 h2 => r2 = none ∧ n2 = n ∧ ∃ S2 T2, PS S2 T2 ∧ h2 = sysH (ov I S2) (ovJ J T2) X) d ca rfl hlen hw hF hL (Nat.zero_le _) (Nat.zero_le _) (hR _ (fun S2 T2 h9 => ⟨rfl, rfl, S2, T2, h9, rfl⟩)) hq (fun r2 n2 h2 hz => by obtain ⟨rfl, rfl, S2, T2, h9, rfl⟩ := hz; exact k S2 T2 h9)
theorem ev_callS1iP {idx F' L' : Nat} {M' : Mt} {v0 : Value} {r : Int32} {PS : (Nat → Nat → Int32) → (Nat → Nat → Int64) → Prop} (d : decode M.2.1 pc = .ok (.invokestatic idx, 3)) (ca : CS M.1.cls idx M' 1) (hR : RnP xl xs F' L' M' [v0] n I S J T X (some (.int r)) PS) (hlen : (entA [v0]).length ≤ M'.2.2.1) (hw : (st.map fun v => v.category).sum ≤ 8) (hF : F' + 1 ≤ F) (hL : 19 + M'.2.2.1 + L' ≤ L) (hq : pc + 3 = q) (k : ∀ S T, PS S T → Ev xl xs F L B1 B2 M q lv (.int r :: st) n (sysH (ov I S) (ovJ J T) X) Q) : Ev xl xs F L B1 B2 M pc lv (v0 :: st) n (sysH (ov I S) (ovJ J T) X) Q :=
  ev_callQS (As := [v0]) (rest := st) (b1 := 0) (b2 := 0) (P := fun r2 n2 h2 => r2 = (some (.int r)) ∧ n2 = n ∧ ∃ S2 T2, PS S2 T2 ∧ h2 = sysH (ov I S2) (ovJ J T2) X) d ca rfl hlen hw hF hL (Nat.zero_le _) (Nat.zero_le _) (hR _ (fun S2 T2 h9 => ⟨rfl, rfl, S2, T2, h9, rfl⟩)) hq (fun r2 n2 h2 hz => by obtain ⟨rfl, rfl, S2, T2, h9, rfl⟩ := hz; exact k S2 T2 h9)
theorem ev_callS1lP {idx F' L' : Nat} {M' : Mt} {v0 : Value} {r : Int64} {PS : (Nat → Nat → Int32) → (Nat → Nat → Int64) → Prop} (d : decode M.2.1 pc = .ok (.invokestatic idx, 3)) (ca : CS M.1.cls idx M' 1) (hR : RnP xl xs F' L' M' [v0] n I S J T X (some (.long r)) PS) (hlen : (entA [v0]).length ≤ M'.2.2.1) (hw : (st.map fun v => v.category).sum ≤ 8) (hF : F' + 1 ≤ F) (hL : 19 + M'.2.2.1 + L' ≤ L) (hq : pc + 3 = q) (k : ∀ S T, PS S T → Ev xl xs F L B1 B2 M q lv (.long r :: st) n (sysH (ov I S) (ovJ J T) X) Q) : Ev xl xs F L B1 B2 M pc lv (v0 :: st) n (sysH (ov I S) (ovJ J T) X) Q :=
  ev_callQS (As := [v0]) (rest := st) (b1 := 0) (b2 := 0) (P := fun r2 n2 h2 => r2 = (some (.long r)) ∧ n2 = n ∧ ∃ S2 T2, PS S2 T2 ∧ h2 = sysH (ov I S2) (ovJ J T2) X) d ca rfl hlen hw hF hL (Nat.zero_le _) (Nat.zero_le _) (hR _ (fun S2 T2 h9 => ⟨rfl, rfl, S2, T2, h9, rfl⟩)) hq (fun r2 n2 h2 hz => by obtain ⟨rfl, rfl, S2, T2, h9, rfl⟩ := hz; exact k S2 T2 h9)
theorem ev_callS1vP {idx F' L' : Nat} {M' : Mt} {v0 : Value} {PS : (Nat → Nat → Int32) → (Nat → Nat → Int64) → Prop} (d : decode M.2.1 pc = .ok (.invokestatic idx, 3)) (ca : CS M.1.cls idx M' 1) (hR : RnP xl xs F' L' M' [v0] n I S J T X none PS) (hlen : (entA [v0]).length ≤ M'.2.2.1) (hw : (st.map fun v => v.category).sum ≤ 8) (hF : F' + 1 ≤ F) (hL : 19 + M'.2.2.1 + L' ≤ L) (hq : pc + 3 = q) (k : ∀ S T, PS S T → Ev xl xs F L B1 B2 M q lv st n (sysH (ov I S) (ovJ J T) X) Q) : Ev xl xs F L B1 B2 M pc lv (v0 :: st) n (sysH (ov I S) (ovJ J T) X) Q :=
  ev_callQS (As := [v0]) (rest := st) (b1 := 0) (b2 := 0) (P := fun r2 n2 h2 => r2 = none ∧ n2 = n ∧ ∃ S2 T2, PS S2 T2 ∧ h2 = sysH (ov I S2) (ovJ J T2) X) d ca rfl hlen hw hF hL (Nat.zero_le _) (Nat.zero_le _) (hR _ (fun S2 T2 h9 => ⟨rfl, rfl, S2, T2, h9, rfl⟩)) hq (fun r2 n2 h2 hz => by obtain ⟨rfl, rfl, S2, T2, h9, rfl⟩ := hz; exact k S2 T2 h9)
theorem ev_callS2iP {idx F' L' : Nat} {M' : Mt} {v0 v1 : Value} {r : Int32} {PS : (Nat → Nat → Int32) → (Nat → Nat → Int64) → Prop} (d : decode M.2.1 pc = .ok (.invokestatic idx, 3)) (ca : CS M.1.cls idx M' 2) (hR : RnP xl xs F' L' M' [v0, v1] n I S J T X (some (.int r)) PS) (hlen : (entA [v0, v1]).length ≤ M'.2.2.1) (hw : (st.map fun v => v.category).sum ≤ 8) (hF : F' + 1 ≤ F) (hL : 19 + M'.2.2.1 + L' ≤ L) (hq : pc + 3 = q) (k : ∀ S T, PS S T → Ev xl xs F L B1 B2 M q lv (.int r :: st) n (sysH (ov I S) (ovJ J T) X) Q) : Ev xl xs F L B1 B2 M pc lv (v1 :: v0 :: st) n (sysH (ov I S) (ovJ J T) X) Q :=
  ev_callQS (As := [v0, v1]) (rest := st) (b1 := 0) (b2 := 0) (P := fun r2 n2 h2 => r2 = (some (.int r)) ∧ n2 = n ∧ ∃ S2 T2, PS S2 T2 ∧ h2 = sysH (ov I S2) (ovJ J T2) X) d ca rfl hlen hw hF hL (Nat.zero_le _) (Nat.zero_le _) (hR _ (fun S2 T2 h9 => ⟨rfl, rfl, S2, T2, h9, rfl⟩)) hq (fun r2 n2 h2 hz => by obtain ⟨rfl, rfl, S2, T2, h9, rfl⟩ := hz; exact k S2 T2 h9)
theorem ev_callS2lP {idx F' L' : Nat} {M' : Mt} {v0 v1 : Value} {r : Int64} {PS : (Nat → Nat → Int32) → (Nat → Nat → Int64) → Prop} (d : decode M.2.1 pc = .ok (.invokestatic idx, 3)) (ca : CS M.1.cls idx M' 2) (hR : RnP xl xs F' L' M' [v0, v1] n I S J T X (some (.long r)) PS) (hlen : (entA [v0, v1]).length ≤ M'.2.2.1) (hw : (st.map fun v => v.category).sum ≤ 8) (hF : F' + 1 ≤ F) (hL : 19 + M'.2.2.1 + L' ≤ L) (hq : pc + 3 = q) (k : ∀ S T, PS S T → Ev xl xs F L B1 B2 M q lv (.long r :: st) n (sysH (ov I S) (ovJ J T) X) Q) : Ev xl xs F L B1 B2 M pc lv (v1 :: v0 :: st) n (sysH (ov I S) (ovJ J T) X) Q :=
  ev_callQS (As := [v0, v1]) (rest := st) (b1 := 0) (b2 := 0) (P := fun r2 n2 h2 => r2 = (some (.long r)) ∧ n2 = n ∧ ∃ S2 T2, PS S2 T2 ∧ h2 = sysH (ov I S2) (ovJ J T2) X) d ca rfl hlen hw hF hL (Nat.zero_le _) (Nat.zero_le _) (hR _ (fun S2 T2 h9 => ⟨rfl, rfl, S2, T2, h9, rfl⟩)) hq (fun r2 n2 h2 hz => by obtain ⟨rfl, rfl, S2, T2, h9, rfl⟩ := hz; exact k S2 T2 h9)
theorem ev_callS2vP {idx F' L' : Nat} {M' : Mt} {v0 v1 : Value} {PS : (Nat → Nat → Int32) → (Nat → Nat → Int64) → Prop} (d : decode M.2.1 pc = .ok (.invokestatic idx, 3)) (ca : CS M.1.cls idx M' 2) (hR : RnP xl xs F' L' M' [v0, v1] n I S J T X none PS) (hlen : (entA [v0, v1]).length ≤ M'.2.2.1) (hw : (st.map fun v => v.category).sum ≤ 8) (hF : F' + 1 ≤ F) (hL : 19 + M'.2.2.1 + L' ≤ L) (hq : pc + 3 = q) (k : ∀ S T, PS S T → Ev xl xs F L B1 B2 M q lv st n (sysH (ov I S) (ovJ J T) X) Q) : Ev xl xs F L B1 B2 M pc lv (v1 :: v0 :: st) n (sysH (ov I S) (ovJ J T) X) Q :=
  ev_callQS (As := [v0, v1]) (rest := st) (b1 := 0) (b2 := 0) (P := fun r2 n2 h2 => r2 = none ∧ n2 = n ∧ ∃ S2 T2, PS S2 T2 ∧ h2 = sysH (ov I S2) (ovJ J T2) X) d ca rfl hlen hw hF hL (Nat.zero_le _) (Nat.zero_le _) (hR _ (fun S2 T2 h9 => ⟨rfl, rfl, S2, T2, h9, rfl⟩)) hq (fun r2 n2 h2 hz => by obtain ⟨rfl, rfl, S2, T2, h9, rfl⟩ := hz; exact k S2 T2 h9)
theorem ev_callS3iP {idx F' L' : Nat} {M' : Mt} {v0 v1 v2 : Value} {r : Int32} {PS : (Nat → Nat → Int32) → (Nat → Nat → Int64) → Prop} (d : decode M.2.1 pc = .ok (.invokestatic idx, 3)) (ca : CS M.1.cls idx M' 3) (hR : RnP xl xs F' L' M' [v0, v1, v2] n I S J T X (some (.int r)) PS) (hlen : (entA [v0, v1, v2]).length ≤ M'.2.2.1) (hw : (st.map fun v => v.category).sum ≤ 8) (hF : F' + 1 ≤ F) (hL : 19 + M'.2.2.1 + L' ≤ L) (hq : pc + 3 = q) (k : ∀ S T, PS S T → Ev xl xs F L B1 B2 M q lv (.int r :: st) n (sysH (ov I S) (ovJ J T) X) Q) : Ev xl xs F L B1 B2 M pc lv (v2 :: v1 :: v0 :: st) n (sysH (ov I S) (ovJ J T) X) Q :=
  ev_callQS (As := [v0, v1, v2]) (rest := st) (b1 := 0) (b2 := 0) (P := fun r2 n2 h2 => r2 = (some (.int r)) ∧ n2 = n ∧ ∃ S2 T2, PS S2 T2 ∧ h2 = sysH (ov I S2) (ovJ J T2) X) d ca rfl hlen hw hF hL (Nat.zero_le _) (Nat.zero_le _) (hR _ (fun S2 T2 h9 => ⟨rfl, rfl, S2, T2, h9, rfl⟩)) hq (fun r2 n2 h2 hz => by obtain ⟨rfl, rfl, S2, T2, h9, rfl⟩ := hz; exact k S2 T2 h9)
theorem ev_callS3lP {idx F' L' : Nat} {M' : Mt} {v0 v1 v2 : Value} {r : Int64} {PS : (Nat → Nat → Int32) → (Nat → Nat → Int64) → Prop} (d : decode M.2.1 pc = .ok (.invokestatic idx, 3)) (ca : CS M.1.cls idx M' 3) (hR : RnP xl xs F' L' M' [v0, v1, v2] n I S J T X (some (.long r)) PS) (hlen : (entA [v0, v1, v2]).length ≤ M'.2.2.1) (hw : (st.map fun v => v.category).sum ≤ 8) (hF : F' + 1 ≤ F) (hL : 19 + M'.2.2.1 + L' ≤ L) (hq : pc + 3 = q) (k : ∀ S T, PS S T → Ev xl xs F L B1 B2 M q lv (.long r :: st) n (sysH (ov I S) (ovJ J T) X) Q) : Ev xl xs F L B1 B2 M pc lv (v2 :: v1 :: v0 :: st) n (sysH (ov I S) (ovJ J T) X) Q :=
  ev_callQS (As := [v0, v1, v2]) (rest := st) (b1 := 0) (b2 := 0) (P := fun r2 n2 h2 => r2 = (some (.long r)) ∧ n2 = n ∧ ∃ S2 T2, PS S2 T2 ∧ h2 = sysH (ov I S2) (ovJ J T2) X) d ca rfl hlen hw hF hL (Nat.zero_le _) (Nat.zero_le _) (hR _ (fun S2 T2 h9 => ⟨rfl, rfl, S2, T2, h9, rfl⟩)) hq (fun r2 n2 h2 hz => by obtain ⟨rfl, rfl, S2, T2, h9, rfl⟩ := hz; exact k S2 T2 h9)
theorem ev_callS3vP {idx F' L' : Nat} {M' : Mt} {v0 v1 v2 : Value} {PS : (Nat → Nat → Int32) → (Nat → Nat → Int64) → Prop} (d : decode M.2.1 pc = .ok (.invokestatic idx, 3)) (ca : CS M.1.cls idx M' 3) (hR : RnP xl xs F' L' M' [v0, v1, v2] n I S J T X none PS) (hlen : (entA [v0, v1, v2]).length ≤ M'.2.2.1) (hw : (st.map fun v => v.category).sum ≤ 8) (hF : F' + 1 ≤ F) (hL : 19 + M'.2.2.1 + L' ≤ L) (hq : pc + 3 = q) (k : ∀ S T, PS S T → Ev xl xs F L B1 B2 M q lv st n (sysH (ov I S) (ovJ J T) X) Q) : Ev xl xs F L B1 B2 M pc lv (v2 :: v1 :: v0 :: st) n (sysH (ov I S) (ovJ J T) X) Q :=
  ev_callQS (As := [v0, v1, v2]) (rest := st) (b1 := 0) (b2 := 0) (P := fun r2 n2 h2 => r2 = none ∧ n2 = n ∧ ∃ S2 T2, PS S2 T2 ∧ h2 = sysH (ov I S2) (ovJ J T2) X) d ca rfl hlen hw hF hL (Nat.zero_le _) (Nat.zero_le _) (hR _ (fun S2 T2 h9 => ⟨rfl, rfl, S2, T2, h9, rfl⟩)) hq (fun r2 n2 h2 hz => by obtain ⟨rfl, rfl, S2, T2, h9, rfl⟩ := hz; exact k S2 T2 h9)
theorem ev_callS4iP {idx F' L' : Nat} {M' : Mt} {v0 v1 v2 v3 : Value} {r : Int32} {PS : (Nat → Nat → Int32) → (Nat → Nat → Int64) → Prop} (d : decode M.2.1 pc = .ok (.invokestatic idx, 3)) (ca : CS M.1.cls idx M' 4) (hR : RnP xl xs F' L' M' [v0, v1, v2, v3] n I S J T X (some (.int r)) PS) (hlen : (entA [v0, v1, v2, v3]).length ≤ M'.2.2.1) (hw : (st.map fun v => v.category).sum ≤ 8) (hF : F' + 1 ≤ F) (hL : 19 + M'.2.2.1 + L' ≤ L) (hq : pc + 3 = q) (k : ∀ S T, PS S T → Ev xl xs F L B1 B2 M q lv (.int r :: st) n (sysH (ov I S) (ovJ J T) X) Q) : Ev xl xs F L B1 B2 M pc lv (v3 :: v2 :: v1 :: v0 :: st) n (sysH (ov I S) (ovJ J T) X) Q :=
  ev_callQS (As := [v0, v1, v2, v3]) (rest := st) (b1 := 0) (b2 := 0) (P := fun r2 n2 h2 => r2 = (some (.int r)) ∧ n2 = n ∧ ∃ S2 T2, PS S2 T2 ∧ h2 = sysH (ov I S2) (ovJ J T2) X) d ca rfl hlen hw hF hL (Nat.zero_le _) (Nat.zero_le _) (hR _ (fun S2 T2 h9 => ⟨rfl, rfl, S2, T2, h9, rfl⟩)) hq (fun r2 n2 h2 hz => by obtain ⟨rfl, rfl, S2, T2, h9, rfl⟩ := hz; exact k S2 T2 h9)
theorem ev_callS4lP {idx F' L' : Nat} {M' : Mt} {v0 v1 v2 v3 : Value} {r : Int64} {PS : (Nat → Nat → Int32) → (Nat → Nat → Int64) → Prop} (d : decode M.2.1 pc = .ok (.invokestatic idx, 3)) (ca : CS M.1.cls idx M' 4) (hR : RnP xl xs F' L' M' [v0, v1, v2, v3] n I S J T X (some (.long r)) PS) (hlen : (entA [v0, v1, v2, v3]).length ≤ M'.2.2.1) (hw : (st.map fun v => v.category).sum ≤ 8) (hF : F' + 1 ≤ F) (hL : 19 + M'.2.2.1 + L' ≤ L) (hq : pc + 3 = q) (k : ∀ S T, PS S T → Ev xl xs F L B1 B2 M q lv (.long r :: st) n (sysH (ov I S) (ovJ J T) X) Q) : Ev xl xs F L B1 B2 M pc lv (v3 :: v2 :: v1 :: v0 :: st) n (sysH (ov I S) (ovJ J T) X) Q :=
  ev_callQS (As := [v0, v1, v2, v3]) (rest := st) (b1 := 0) (b2 := 0) (P := fun r2 n2 h2 => r2 = (some (.long r)) ∧ n2 = n ∧ ∃ S2 T2, PS S2 T2 ∧ h2 = sysH (ov I S2) (ovJ J T2) X) d ca rfl hlen hw hF hL (Nat.zero_le _) (Nat.zero_le _) (hR _ (fun S2 T2 h9 => ⟨rfl, rfl, S2, T2, h9, rfl⟩)) hq (fun r2 n2 h2 hz => by obtain ⟨rfl, rfl, S2, T2, h9, rfl⟩ := hz; exact k S2 T2 h9)
theorem ev_callS4vP {idx F' L' : Nat} {M' : Mt} {v0 v1 v2 v3 : Value} {PS : (Nat → Nat → Int32) → (Nat → Nat → Int64) → Prop} (d : decode M.2.1 pc = .ok (.invokestatic idx, 3)) (ca : CS M.1.cls idx M' 4) (hR : RnP xl xs F' L' M' [v0, v1, v2, v3] n I S J T X none PS) (hlen : (entA [v0, v1, v2, v3]).length ≤ M'.2.2.1) (hw : (st.map fun v => v.category).sum ≤ 8) (hF : F' + 1 ≤ F) (hL : 19 + M'.2.2.1 + L' ≤ L) (hq : pc + 3 = q) (k : ∀ S T, PS S T → Ev xl xs F L B1 B2 M q lv st n (sysH (ov I S) (ovJ J T) X) Q) : Ev xl xs F L B1 B2 M pc lv (v3 :: v2 :: v1 :: v0 :: st) n (sysH (ov I S) (ovJ J T) X) Q :=
  ev_callQS (As := [v0, v1, v2, v3]) (rest := st) (b1 := 0) (b2 := 0) (P := fun r2 n2 h2 => r2 = none ∧ n2 = n ∧ ∃ S2 T2, PS S2 T2 ∧ h2 = sysH (ov I S2) (ovJ J T2) X) d ca rfl hlen hw hF hL (Nat.zero_le _) (Nat.zero_le _) (hR _ (fun S2 T2 h9 => ⟨rfl, rfl, S2, T2, h9, rfl⟩)) hq (fun r2 n2 h2 hz => by obtain ⟨rfl, rfl, S2, T2, h9, rfl⟩ := hz; exact k S2 T2 h9)
theorem ev_callSn0iP {idx F' L' : Nat} {M' : Mt} {r : Int32} {PS : (Nat → Nat → Int32) → (Nat → Nat → Int64) → Prop} (d : decode M.2.1 pc = .ok (.invokestatic idx, 3)) (ca : CSn M.1.cls idx M' 0) (hR : RnP xl xs F' L' M' [] n I S J T X (some (.int r)) PS) (hlen : (entA []).length ≤ M'.2.2.1) (hw : (st.map fun v => v.category).sum ≤ 8) (hF : F' + 1 ≤ F) (hL : 19 + M'.2.2.1 + L' ≤ L) (hq : pc + 3 = q) (k : ∀ S T, PS S T → Ev xl xs F L B1 B2 M q lv (.int r :: st) n (sysH (ov I S) (ovJ J T) X) Q) : Ev xl xs F L B1 B2 M pc lv st n (sysH (ov I S) (ovJ J T) X) Q :=
  ev_callQSn (As := []) (rest := st) (b1 := 0) (b2 := 0) (P := fun r2 n2 h2 => r2 = (some (.int r)) ∧ n2 = n ∧ ∃ S2 T2, PS S2 T2 ∧ h2 = sysH (ov I S2) (ovJ J T2) X) d ca rfl hlen hw hF hL (Nat.zero_le _) (Nat.zero_le _) (hR _ (fun S2 T2 h9 => ⟨rfl, rfl, S2, T2, h9, rfl⟩)) hq (fun r2 n2 h2 hz => by obtain ⟨rfl, rfl, S2, T2, h9, rfl⟩ := hz; exact k S2 T2 h9)
theorem ev_callSn0lP {idx F' L' : Nat} {M' : Mt} {r : Int64} {PS : (Nat → Nat → Int32) → (Nat → Nat → Int64) → Prop} (d : decode M.2.1 pc = .ok (.invokestatic idx, 3)) (ca : CSn M.1.cls idx M' 0) (hR : RnP xl xs F' L' M' [] n I S J T X (some (.long r)) PS) (hlen : (entA []).length ≤ M'.2.2.1) (hw : (st.map fun v => v.category).sum ≤ 8) (hF : F' + 1 ≤ F) (hL : 19 + M'.2.2.1 + L' ≤ L) (hq : pc + 3 = q) (k : ∀ S T, PS S T → Ev xl xs F L B1 B2 M q lv (.long r :: st) n (sysH (ov I S) (ovJ J T) X) Q) : Ev xl xs F L B1 B2 M pc lv st n (sysH (ov I S) (ovJ J T) X) Q :=
  ev_callQSn (As := []) (rest := st) (b1 := 0) (b2 := 0) (P := fun r2 n2 h2 => r2 = (some (.long r)) ∧ n2 = n ∧ ∃ S2 T2, PS S2 T2 ∧ h2 = sysH (ov I S2) (ovJ J T2) X) d ca rfl hlen hw hF hL (Nat.zero_le _) (Nat.zero_le _) (hR _ (fun S2 T2 h9 => ⟨rfl, rfl, S2, T2, h9, rfl⟩)) hq (fun r2 n2 h2 hz => by obtain ⟨rfl, rfl, S2, T2, h9, rfl⟩ := hz; exact k S2 T2 h9)
theorem ev_callSn0vP {idx F' L' : Nat} {M' : Mt} {PS : (Nat → Nat → Int32) → (Nat → Nat → Int64) → Prop} (d : decode M.2.1 pc = .ok (.invokestatic idx, 3)) (ca : CSn M.1.cls idx M' 0) (hR : RnP xl xs F' L' M' [] n I S J T X none PS) (hlen : (entA []).length ≤ M'.2.2.1) (hw : (st.map fun v => v.category).sum ≤ 8) (hF : F' + 1 ≤ F) (hL : 19 + M'.2.2.1 + L' ≤ L) (hq : pc + 3 = q) (k : ∀ S T, PS S T → Ev xl xs F L B1 B2 M q lv st n (sysH (ov I S) (ovJ J T) X) Q) : Ev xl xs F L B1 B2 M pc lv st n (sysH (ov I S) (ovJ J T) X) Q :=
  ev_callQSn (As := []) (rest := st) (b1 := 0) (b2 := 0) (P := fun r2 n2 h2 => r2 = none ∧ n2 = n ∧ ∃ S2 T2, PS S2 T2 ∧ h2 = sysH (ov I S2) (ovJ J T2) X) d ca rfl hlen hw hF hL (Nat.zero_le _) (Nat.zero_le _) (hR _ (fun S2 T2 h9 => ⟨rfl, rfl, S2, T2, h9, rfl⟩)) hq (fun r2 n2 h2 hz => by obtain ⟨rfl, rfl, S2, T2, h9, rfl⟩ := hz; exact k S2 T2 h9)
theorem ev_callSn1iP {idx F' L' : Nat} {M' : Mt} {v0 : Value} {r : Int32} {PS : (Nat → Nat → Int32) → (Nat → Nat → Int64) → Prop} (d : decode M.2.1 pc = .ok (.invokestatic idx, 3)) (ca : CSn M.1.cls idx M' 1) (hR : RnP xl xs F' L' M' [v0] n I S J T X (some (.int r)) PS) (hlen : (entA [v0]).length ≤ M'.2.2.1) (hw : (st.map fun v => v.category).sum ≤ 8) (hF : F' + 1 ≤ F) (hL : 19 + M'.2.2.1 + L' ≤ L) (hq : pc + 3 = q) (k : ∀ S T, PS S T → Ev xl xs F L B1 B2 M q lv (.int r :: st) n (sysH (ov I S) (ovJ J T) X) Q) : Ev xl xs F L B1 B2 M pc lv (v0 :: st) n (sysH (ov I S) (ovJ J T) X) Q :=
  ev_callQSn (As := [v0]) (rest := st) (b1 := 0) (b2 := 0) (P := fun r2 n2 h2 => r2 = (some (.int r)) ∧ n2 = n ∧ ∃ S2 T2, PS S2 T2 ∧ h2 = sysH (ov I S2) (ovJ J T2) X) d ca rfl hlen hw hF hL (Nat.zero_le _) (Nat.zero_le _) (hR _ (fun S2 T2 h9 => ⟨rfl, rfl, S2, T2, h9, rfl⟩)) hq (fun r2 n2 h2 hz => by obtain ⟨rfl, rfl, S2, T2, h9, rfl⟩ := hz; exact k S2 T2 h9)
theorem ev_callSn1lP {idx F' L' : Nat} {M' : Mt} {v0 : Value} {r : Int64} {PS : (Nat → Nat → Int32) → (Nat → Nat → Int64) → Prop} (d : decode M.2.1 pc = .ok (.invokestatic idx, 3)) (ca : CSn M.1.cls idx M' 1) (hR : RnP xl xs F' L' M' [v0] n I S J T X (some (.long r)) PS) (hlen : (entA [v0]).length ≤ M'.2.2.1) (hw : (st.map fun v => v.category).sum ≤ 8) (hF : F' + 1 ≤ F) (hL : 19 + M'.2.2.1 + L' ≤ L) (hq : pc + 3 = q) (k : ∀ S T, PS S T → Ev xl xs F L B1 B2 M q lv (.long r :: st) n (sysH (ov I S) (ovJ J T) X) Q) : Ev xl xs F L B1 B2 M pc lv (v0 :: st) n (sysH (ov I S) (ovJ J T) X) Q :=
  ev_callQSn (As := [v0]) (rest := st) (b1 := 0) (b2 := 0) (P := fun r2 n2 h2 => r2 = (some (.long r)) ∧ n2 = n ∧ ∃ S2 T2, PS S2 T2 ∧ h2 = sysH (ov I S2) (ovJ J T2) X) d ca rfl hlen hw hF hL (Nat.zero_le _) (Nat.zero_le _) (hR _ (fun S2 T2 h9 => ⟨rfl, rfl, S2, T2, h9, rfl⟩)) hq (fun r2 n2 h2 hz => by obtain ⟨rfl, rfl, S2, T2, h9, rfl⟩ := hz; exact k S2 T2 h9)
theorem ev_callSn1vP {idx F' L' : Nat} {M' : Mt} {v0 : Value} {PS : (Nat → Nat → Int32) → (Nat → Nat → Int64) → Prop} (d : decode M.2.1 pc = .ok (.invokestatic idx, 3)) (ca : CSn M.1.cls idx M' 1) (hR : RnP xl xs F' L' M' [v0] n I S J T X none PS) (hlen : (entA [v0]).length ≤ M'.2.2.1) (hw : (st.map fun v => v.category).sum ≤ 8) (hF : F' + 1 ≤ F) (hL : 19 + M'.2.2.1 + L' ≤ L) (hq : pc + 3 = q) (k : ∀ S T, PS S T → Ev xl xs F L B1 B2 M q lv st n (sysH (ov I S) (ovJ J T) X) Q) : Ev xl xs F L B1 B2 M pc lv (v0 :: st) n (sysH (ov I S) (ovJ J T) X) Q :=
  ev_callQSn (As := [v0]) (rest := st) (b1 := 0) (b2 := 0) (P := fun r2 n2 h2 => r2 = none ∧ n2 = n ∧ ∃ S2 T2, PS S2 T2 ∧ h2 = sysH (ov I S2) (ovJ J T2) X) d ca rfl hlen hw hF hL (Nat.zero_le _) (Nat.zero_le _) (hR _ (fun S2 T2 h9 => ⟨rfl, rfl, S2, T2, h9, rfl⟩)) hq (fun r2 n2 h2 hz => by obtain ⟨rfl, rfl, S2, T2, h9, rfl⟩ := hz; exact k S2 T2 h9)
theorem ev_callSn2iP {idx F' L' : Nat} {M' : Mt} {v0 v1 : Value} {r : Int32} {PS : (Nat → Nat → Int32) → (Nat → Nat → Int64) → Prop} (d : decode M.2.1 pc = .ok (.invokestatic idx, 3)) (ca : CSn M.1.cls idx M' 2) (hR : RnP xl xs F' L' M' [v0, v1] n I S J T X (some (.int r)) PS) (hlen : (entA [v0, v1]).length ≤ M'.2.2.1) (hw : (st.map fun v => v.category).sum ≤ 8) (hF : F' + 1 ≤ F) (hL : 19 + M'.2.2.1 + L' ≤ L) (hq : pc + 3 = q) (k : ∀ S T, PS S T → Ev xl xs F L B1 B2 M q lv (.int r :: st) n (sysH (ov I S) (ovJ J T) X) Q) : Ev xl xs F L B1 B2 M pc lv (v1 :: v0 :: st) n (sysH (ov I S) (ovJ J T) X) Q :=
  ev_callQSn (As := [v0, v1]) (rest := st) (b1 := 0) (b2 := 0) (P := fun r2 n2 h2 => r2 = (some (.int r)) ∧ n2 = n ∧ ∃ S2 T2, PS S2 T2 ∧ h2 = sysH (ov I S2) (ovJ J T2) X) d ca rfl hlen hw hF hL (Nat.zero_le _) (Nat.zero_le _) (hR _ (fun S2 T2 h9 => ⟨rfl, rfl, S2, T2, h9, rfl⟩)) hq (fun r2 n2 h2 hz => by obtain ⟨rfl, rfl, S2, T2, h9, rfl⟩ := hz; exact k S2 T2 h9)
theorem ev_callSn2lP {idx F' L' : Nat} {M' : Mt} {v0 v1 : Value} {r : Int64} {PS : (Nat → Nat → Int32) → (Nat → Nat → Int64) → Prop} (d : decode M.2.1 pc = .ok (.invokestatic idx, 3)) (ca : CSn M.1.cls idx M' 2) (hR : RnP xl xs F' L' M' [v0, v1] n I S J T X (some (.long r)) PS) (hlen : (entA [v0, v1]).length ≤ M'.2.2.1) (hw : (st.map fun v => v.category).sum ≤ 8) (hF : F' + 1 ≤ F) (hL : 19 + M'.2.2.1 + L' ≤ L) (hq : pc + 3 = q) (k : ∀ S T, PS S T → Ev xl xs F L B1 B2 M q lv (.long r :: st) n (sysH (ov I S) (ovJ J T) X) Q) : Ev xl xs F L B1 B2 M pc lv (v1 :: v0 :: st) n (sysH (ov I S) (ovJ J T) X) Q :=
  ev_callQSn (As := [v0, v1]) (rest := st) (b1 := 0) (b2 := 0) (P := fun r2 n2 h2 => r2 = (some (.long r)) ∧ n2 = n ∧ ∃ S2 T2, PS S2 T2 ∧ h2 = sysH (ov I S2) (ovJ J T2) X) d ca rfl hlen hw hF hL (Nat.zero_le _) (Nat.zero_le _) (hR _ (fun S2 T2 h9 => ⟨rfl, rfl, S2, T2, h9, rfl⟩)) hq (fun r2 n2 h2 hz => by obtain ⟨rfl, rfl, S2, T2, h9, rfl⟩ := hz; exact k S2 T2 h9)
theorem ev_callSn2vP {idx F' L' : Nat} {M' : Mt} {v0 v1 : Value} {PS : (Nat → Nat → Int32) → (Nat → Nat → Int64) → Prop} (d : decode M.2.1 pc = .ok (.invokestatic idx, 3)) (ca : CSn M.1.cls idx M' 2) (hR : RnP xl xs F' L' M' [v0, v1] n I S J T X none PS) (hlen : (entA [v0, v1]).length ≤ M'.2.2.1) (hw : (st.map fun v => v.category).sum ≤ 8) (hF : F' + 1 ≤ F) (hL : 19 + M'.2.2.1 + L' ≤ L) (hq : pc + 3 = q) (k : ∀ S T, PS S T → Ev xl xs F L B1 B2 M q lv st n (sysH (ov I S) (ovJ J T) X) Q) : Ev xl xs F L B1 B2 M pc lv (v1 :: v0 :: st) n (sysH (ov I S) (ovJ J T) X) Q :=
  ev_callQSn (As := [v0, v1]) (rest := st) (b1 := 0) (b2 := 0) (P := fun r2 n2 h2 => r2 = none ∧ n2 = n ∧ ∃ S2 T2, PS S2 T2 ∧ h2 = sysH (ov I S2) (ovJ J T2) X) d ca rfl hlen hw hF hL (Nat.zero_le _) (Nat.zero_le _) (hR _ (fun S2 T2 h9 => ⟨rfl, rfl, S2, T2, h9, rfl⟩)) hq (fun r2 n2 h2 hz => by obtain ⟨rfl, rfl, S2, T2, h9, rfl⟩ := hz; exact k S2 T2 h9)
theorem ev_callSn3iP {idx F' L' : Nat} {M' : Mt} {v0 v1 v2 : Value} {r : Int32} {PS : (Nat → Nat → Int32) → (Nat → Nat → Int64) → Prop} (d : decode M.2.1 pc = .ok (.invokestatic idx, 3)) (ca : CSn M.1.cls idx M' 3) (hR : RnP xl xs F' L' M' [v0, v1, v2] n I S J T X (some (.int r)) PS) (hlen : (entA [v0, v1, v2]).length ≤ M'.2.2.1) (hw : (st.map fun v => v.category).sum ≤ 8) (hF : F' + 1 ≤ F) (hL : 19 + M'.2.2.1 + L' ≤ L) (hq : pc + 3 = q) (k : ∀ S T, PS S T → Ev xl xs F L B1 B2 M q lv (.int r :: st) n (sysH (ov I S) (ovJ J T) X) Q) : Ev xl xs F L B1 B2 M pc lv (v2 :: v1 :: v0 :: st) n (sysH (ov I S) (ovJ J T) X) Q :=
  ev_callQSn (As := [v0, v1, v2]) (rest := st) (b1 := 0) (b2 := 0) (P := fun r2 n2 h2 => r2 = (some (.int r)) ∧ n2 = n ∧ ∃ S2 T2, PS S2 T2 ∧ h2 = sysH (ov I S2) (ovJ J T2) X) d ca rfl hlen hw hF hL (Nat.zero_le _) (Nat.zero_le _) (hR _ (fun S2 T2 h9 => ⟨rfl, rfl, S2, T2, h9, rfl⟩)) hq (fun r2 n2 h2 hz => by obtain ⟨rfl, rfl, S2, T2, h9, rfl⟩ := hz; exact k S2 T2 h9)
theorem ev_callSn3lP {idx F' L' : Nat} {M' : Mt} {v0 v1 v2 : Value} {r : Int64} {PS : (Nat → Nat → Int32) → (Nat → Nat → Int64) → Prop} (d : decode M.2.1 pc = .ok (.invokestatic idx, 3)) (ca : CSn M.1.cls idx M' 3) (hR : RnP xl xs F' L' M' [v0, v1, v2] n I S J T X (some (.long r)) PS) (hlen : (entA [v0, v1, v2]).length ≤ M'.2.2.1) (hw : (st.map fun v => v.category).sum ≤ 8) (hF : F' + 1 ≤ F) (hL : 19 + M'.2.2.1 + L' ≤ L) (hq : pc + 3 = q) (k : ∀ S T, PS S T → Ev xl xs F L B1 B2 M q lv (.long r :: st) n (sysH (ov I S) (ovJ J T) X) Q) : Ev xl xs F L B1 B2 M pc lv (v2 :: v1 :: v0 :: st) n (sysH (ov I S) (ovJ J T) X) Q :=
  ev_callQSn (As := [v0, v1, v2]) (rest := st) (b1 := 0) (b2 := 0) (P := fun r2 n2 h2 => r2 = (some (.long r)) ∧ n2 = n ∧ ∃ S2 T2, PS S2 T2 ∧ h2 = sysH (ov I S2) (ovJ J T2) X) d ca rfl hlen hw hF hL (Nat.zero_le _) (Nat.zero_le _) (hR _ (fun S2 T2 h9 => ⟨rfl, rfl, S2, T2, h9, rfl⟩)) hq (fun r2 n2 h2 hz => by obtain ⟨rfl, rfl, S2, T2, h9, rfl⟩ := hz; exact k S2 T2 h9)
theorem ev_callSn3vP {idx F' L' : Nat} {M' : Mt} {v0 v1 v2 : Value} {PS : (Nat → Nat → Int32) → (Nat → Nat → Int64) → Prop} (d : decode M.2.1 pc = .ok (.invokestatic idx, 3)) (ca : CSn M.1.cls idx M' 3) (hR : RnP xl xs F' L' M' [v0, v1, v2] n I S J T X none PS) (hlen : (entA [v0, v1, v2]).length ≤ M'.2.2.1) (hw : (st.map fun v => v.category).sum ≤ 8) (hF : F' + 1 ≤ F) (hL : 19 + M'.2.2.1 + L' ≤ L) (hq : pc + 3 = q) (k : ∀ S T, PS S T → Ev xl xs F L B1 B2 M q lv st n (sysH (ov I S) (ovJ J T) X) Q) : Ev xl xs F L B1 B2 M pc lv (v2 :: v1 :: v0 :: st) n (sysH (ov I S) (ovJ J T) X) Q :=
  ev_callQSn (As := [v0, v1, v2]) (rest := st) (b1 := 0) (b2 := 0) (P := fun r2 n2 h2 => r2 = none ∧ n2 = n ∧ ∃ S2 T2, PS S2 T2 ∧ h2 = sysH (ov I S2) (ovJ J T2) X) d ca rfl hlen hw hF hL (Nat.zero_le _) (Nat.zero_le _) (hR _ (fun S2 T2 h9 => ⟨rfl, rfl, S2, T2, h9, rfl⟩)) hq (fun r2 n2 h2 hz => by obtain ⟨rfl, rfl, S2, T2, h9, rfl⟩ := hz; exact k S2 T2 h9)
theorem ev_callSn4iP {idx F' L' : Nat} {M' : Mt} {v0 v1 v2 v3 : Value} {r : Int32} {PS : (Nat → Nat → Int32) → (Nat → Nat → Int64) → Prop} (d : decode M.2.1 pc = .ok (.invokestatic idx, 3)) (ca : CSn M.1.cls idx M' 4) (hR : RnP xl xs F' L' M' [v0, v1, v2, v3] n I S J T X (some (.int r)) PS) (hlen : (entA [v0, v1, v2, v3]).length ≤ M'.2.2.1) (hw : (st.map fun v => v.category).sum ≤ 8) (hF : F' + 1 ≤ F) (hL : 19 + M'.2.2.1 + L' ≤ L) (hq : pc + 3 = q) (k : ∀ S T, PS S T → Ev xl xs F L B1 B2 M q lv (.int r :: st) n (sysH (ov I S) (ovJ J T) X) Q) : Ev xl xs F L B1 B2 M pc lv (v3 :: v2 :: v1 :: v0 :: st) n (sysH (ov I S) (ovJ J T) X) Q :=
  ev_callQSn (As := [v0, v1, v2, v3]) (rest := st) (b1 := 0) (b2 := 0) (P := fun r2 n2 h2 => r2 = (some (.int r)) ∧ n2 = n ∧ ∃ S2 T2, PS S2 T2 ∧ h2 = sysH (ov I S2) (ovJ J T2) X) d ca rfl hlen hw hF hL (Nat.zero_le _) (Nat.zero_le _) (hR _ (fun S2 T2 h9 => ⟨rfl, rfl, S2, T2, h9, rfl⟩)) hq (fun r2 n2 h2 hz => by obtain ⟨rfl, rfl, S2, T2, h9, rfl⟩ := hz; exact k S2 T2 h9)
theorem ev_callSn4lP {idx F' L' : Nat} {M' : Mt} {v0 v1 v2 v3 : Value} {r : Int64} {PS : (Nat → Nat → Int32) → (Nat → Nat → Int64) → Prop} (d : decode M.2.1 pc = .ok (.invokestatic idx, 3)) (ca : CSn M.1.cls idx M' 4) (hR : RnP xl xs F' L' M' [v0, v1, v2, v3] n I S J T X (some (.long r)) PS) (hlen : (entA [v0, v1, v2, v3]).length ≤ M'.2.2.1) (hw : (st.map fun v => v.category).sum ≤ 8) (hF : F' + 1 ≤ F) (hL : 19 + M'.2.2.1 + L' ≤ L) (hq : pc + 3 = q) (k : ∀ S T, PS S T → Ev xl xs F L B1 B2 M q lv (.long r :: st) n (sysH (ov I S) (ovJ J T) X) Q) : Ev xl xs F L B1 B2 M pc lv (v3 :: v2 :: v1 :: v0 :: st) n (sysH (ov I S) (ovJ J T) X) Q :=
  ev_callQSn (As := [v0, v1, v2, v3]) (rest := st) (b1 := 0) (b2 := 0) (P := fun r2 n2 h2 => r2 = (some (.long r)) ∧ n2 = n ∧ ∃ S2 T2, PS S2 T2 ∧ h2 = sysH (ov I S2) (ovJ J T2) X) d ca rfl hlen hw hF hL (Nat.zero_le _) (Nat.zero_le _) (hR _ (fun S2 T2 h9 => ⟨rfl, rfl, S2, T2, h9, rfl⟩)) hq (fun r2 n2 h2 hz => by obtain ⟨rfl, rfl, S2, T2, h9, rfl⟩ := hz; exact k S2 T2 h9)
theorem ev_callSn4vP {idx F' L' : Nat} {M' : Mt} {v0 v1 v2 v3 : Value} {PS : (Nat → Nat → Int32) → (Nat → Nat → Int64) → Prop} (d : decode M.2.1 pc = .ok (.invokestatic idx, 3)) (ca : CSn M.1.cls idx M' 4) (hR : RnP xl xs F' L' M' [v0, v1, v2, v3] n I S J T X none PS) (hlen : (entA [v0, v1, v2, v3]).length ≤ M'.2.2.1) (hw : (st.map fun v => v.category).sum ≤ 8) (hF : F' + 1 ≤ F) (hL : 19 + M'.2.2.1 + L' ≤ L) (hq : pc + 3 = q) (k : ∀ S T, PS S T → Ev xl xs F L B1 B2 M q lv st n (sysH (ov I S) (ovJ J T) X) Q) : Ev xl xs F L B1 B2 M pc lv (v3 :: v2 :: v1 :: v0 :: st) n (sysH (ov I S) (ovJ J T) X) Q :=
  ev_callQSn (As := [v0, v1, v2, v3]) (rest := st) (b1 := 0) (b2 := 0) (P := fun r2 n2 h2 => r2 = none ∧ n2 = n ∧ ∃ S2 T2, PS S2 T2 ∧ h2 = sysH (ov I S2) (ovJ J T2) X) d ca rfl hlen hw hF hL (Nat.zero_le _) (Nat.zero_le _) (hR _ (fun S2 T2 h9 => ⟨rfl, rfl, S2, T2, h9, rfl⟩)) hq (fun r2 n2 h2 hz => by obtain ⟨rfl, rfl, S2, T2, h9, rfl⟩ := hz; exact k S2 T2 h9)
end SCR2
end
section
theorem dX7_letters_0 : decode cX7_letters 0 = .ok (.iload_n 1, 1) := by decide +kernel
theorem dX7_letters_1 : decode cX7_letters 1 = .ok (.iconst 0, 1) := by decide +kernel
theorem dX7_letters_2 : decode cX7_letters 2 = .ok (.iconst 1, 1) := by decide +kernel
theorem dX7_letters_3 : decode cX7_letters 3 = .ok (.invokestatic 99, 3) := by decide +kernel
theorem dX7_letters_6 : decode cX7_letters 6 = .ok (.ifCond .ne 6, 3) := by decide +kernel
theorem dX7_letters_9 : decode cX7_letters 9 = .ok (.bipush (-2), 2) := by decide +kernel
theorem dX7_letters_11 : decode cX7_letters 11 = .ok (.ireturn, 1) := by decide +kernel
theorem dX7_letters_12 : decode cX7_letters 12 = .ok (.iconst 0, 1) := by decide +kernel
theorem dX7_letters_13 : decode cX7_letters 13 = .ok (.istore_n 2, 1) := by decide +kernel
theorem dX7_letters_14 : decode cX7_letters 14 = .ok (.bipush (-6), 2) := by decide +kernel
theorem dX7_letters_16 : decode cX7_letters 16 = .ok (.istore_n 3, 1) := by decide +kernel
theorem dX7_letters_17 : decode cX7_letters 17 = .ok (.iconst 0, 1) := by decide +kernel
theorem dX7_letters_18 : decode cX7_letters 18 = .ok (.istore 4, 2) := by decide +kernel
theorem dX7_letters_20 : decode cX7_letters 20 = .ok (.iload 4, 2) := by decide +kernel
theorem dX7_letters_22 : decode cX7_letters 22 = .ok (.aload_n 0, 1) := by decide +kernel
theorem dX7_letters_23 : decode cX7_letters 23 = .ok (.invokevirtual 201, 3) := by decide +kernel
theorem dX7_letters_26 : decode cX7_letters 26 = .ok (.if_icmp .ge 114, 3) := by decide +kernel
theorem dX7_letters_29 : decode cX7_letters 29 = .ok (.iconst 1, 1) := by decide +kernel
theorem dX7_letters_30 : decode cX7_letters 30 = .ok (.istore 5, 2) := by decide +kernel
theorem dX7_letters_32 : decode cX7_letters 32 = .ok (.iconst 0, 1) := by decide +kernel
theorem dX7_letters_33 : decode cX7_letters 33 = .ok (.istore 6, 2) := by decide +kernel
theorem dX7_letters_35 : decode cX7_letters 35 = .ok (.iload 6, 2) := by decide +kernel
theorem dX7_letters_37 : decode cX7_letters 37 = .ok (.aload_n 0, 1) := by decide +kernel
theorem dX7_letters_38 : decode cX7_letters 38 = .ok (.getfield 90, 3) := by decide +kernel
theorem dX7_letters_41 : decode cX7_letters 41 = .ok (.if_icmp .ge 50, 3) := by decide +kernel
theorem dX7_letters_44 : decode cX7_letters 44 = .ok (.iload 5, 2) := by decide +kernel
theorem dX7_letters_46 : decode cX7_letters 46 = .ok (.ifCond .eq 45, 3) := by decide +kernel
theorem dX7_letters_49 : decode cX7_letters 49 = .ok (.aload_n 0, 1) := by decide +kernel
theorem dX7_letters_50 : decode cX7_letters 50 = .ok (.iload 4, 2) := by decide +kernel
theorem dX7_letters_52 : decode cX7_letters 52 = .ok (.aload_n 0, 1) := by decide +kernel
theorem dX7_letters_53 : decode cX7_letters 53 = .ok (.getfield 33, 3) := by decide +kernel
theorem dX7_letters_56 : decode cX7_letters 56 = .ok (.iconst 2, 1) := by decide +kernel
theorem dX7_letters_57 : decode cX7_letters 57 = .ok (.iload 6, 2) := by decide +kernel
theorem dX7_letters_59 : decode cX7_letters 59 = .ok (.imul, 1) := by decide +kernel
theorem dX7_letters_60 : decode cX7_letters 60 = .ok (.iaload, 1) := by decide +kernel
theorem dX7_letters_61 : decode cX7_letters 61 = .ok (.invokevirtual 204, 3) := by decide +kernel
theorem dX7_letters_64 : decode cX7_letters 64 = .ok (.aload_n 0, 1) := by decide +kernel
theorem dX7_letters_65 : decode cX7_letters 65 = .ok (.getfield 33, 3) := by decide +kernel
theorem dX7_letters_68 : decode cX7_letters 68 = .ok (.iconst 2, 1) := by decide +kernel
theorem dX7_letters_69 : decode cX7_letters 69 = .ok (.iload 6, 2) := by decide +kernel
theorem dX7_letters_71 : decode cX7_letters 71 = .ok (.imul, 1) := by decide +kernel
theorem dX7_letters_72 : decode cX7_letters 72 = .ok (.iconst 1, 1) := by decide +kernel
theorem dX7_letters_73 : decode cX7_letters 73 = .ok (.iadd, 1) := by decide +kernel
theorem dX7_letters_74 : decode cX7_letters 74 = .ok (.iaload, 1) := by decide +kernel
theorem dX7_letters_75 : decode cX7_letters 75 = .ok (.if_icmp .ne 7, 3) := by decide +kernel
theorem dX7_letters_78 : decode cX7_letters 78 = .ok (.iconst 1, 1) := by decide +kernel
theorem dX7_letters_79 : decode cX7_letters 79 = .ok (.goto 4, 3) := by decide +kernel
theorem dX7_letters_82 : decode cX7_letters 82 = .ok (.iconst 0, 1) := by decide +kernel
theorem dX7_letters_83 : decode cX7_letters 83 = .ok (.istore 5, 2) := by decide +kernel
theorem dX7_letters_85 : decode cX7_letters 85 = .ok (.iinc 6 1, 3) := by decide +kernel
theorem dX7_letters_88 : decode cX7_letters 88 = .ok (.goto (-53), 3) := by decide +kernel
theorem dX7_letters_91 : decode cX7_letters 91 = .ok (.iload 5, 2) := by decide +kernel
theorem dX7_letters_93 : decode cX7_letters 93 = .ok (.ifCond .eq 26, 3) := by decide +kernel
theorem dX7_letters_96 : decode cX7_letters 96 = .ok (.iload_n 3, 1) := by decide +kernel
theorem dX7_letters_97 : decode cX7_letters 97 = .ok (.ifCond .lt 17, 3) := by decide +kernel
theorem dX7_letters_100 : decode cX7_letters 100 = .ok (.aload_n 0, 1) := by decide +kernel
theorem dX7_letters_101 : decode cX7_letters 101 = .ok (.iload 4, 2) := by decide +kernel
theorem dX7_letters_103 : decode cX7_letters 103 = .ok (.invokevirtual 207, 3) := by decide +kernel
theorem dX7_letters_106 : decode cX7_letters 106 = .ok (.aload_n 0, 1) := by decide +kernel
theorem dX7_letters_107 : decode cX7_letters 107 = .ok (.iload_n 3, 1) := by decide +kernel
theorem dX7_letters_108 : decode cX7_letters 108 = .ok (.invokevirtual 207, 3) := by decide +kernel
theorem dX7_letters_111 : decode cX7_letters 111 = .ok (.if_icmp .ge 8, 3) := by decide +kernel
theorem dX7_letters_114 : decode cX7_letters 114 = .ok (.iload 4, 2) := by decide +kernel
theorem dX7_letters_116 : decode cX7_letters 116 = .ok (.goto 4, 3) := by decide +kernel
theorem dX7_letters_119 : decode cX7_letters 119 = .ok (.iload_n 3, 1) := by decide +kernel
theorem dX7_letters_120 : decode cX7_letters 120 = .ok (.istore_n 3, 1) := by decide +kernel
theorem dX7_letters_121 : decode cX7_letters 121 = .ok (.iload_n 2, 1) := by decide +kernel
theorem dX7_letters_122 : decode cX7_letters 122 = .ok (.iload 5, 2) := by decide +kernel
theorem dX7_letters_124 : decode cX7_letters 124 = .ok (.ifCond .eq 7, 3) := by decide +kernel
theorem dX7_letters_127 : decode cX7_letters 127 = .ok (.iconst 1, 1) := by decide +kernel
theorem dX7_letters_128 : decode cX7_letters 128 = .ok (.goto 4, 3) := by decide +kernel
theorem dX7_letters_131 : decode cX7_letters 131 = .ok (.iconst 0, 1) := by decide +kernel
theorem dX7_letters_132 : decode cX7_letters 132 = .ok (.iadd, 1) := by decide +kernel
theorem dX7_letters_133 : decode cX7_letters 133 = .ok (.istore_n 2, 1) := by decide +kernel
theorem dX7_letters_134 : decode cX7_letters 134 = .ok (.iinc 4 1, 3) := by decide +kernel
theorem dX7_letters_137 : decode cX7_letters 137 = .ok (.goto (-117), 3) := by decide +kernel
theorem dX7_letters_140 : decode cX7_letters 140 = .ok (.iload_n 1, 1) := by decide +kernel
theorem dX7_letters_141 : decode cX7_letters 141 = .ok (.ifCond .ne 7, 3) := by decide +kernel
theorem dX7_letters_144 : decode cX7_letters 144 = .ok (.iload_n 2, 1) := by decide +kernel
theorem dX7_letters_145 : decode cX7_letters 145 = .ok (.goto 4, 3) := by decide +kernel
theorem dX7_letters_148 : decode cX7_letters 148 = .ok (.iload_n 3, 1) := by decide +kernel
theorem dX7_letters_149 : decode cX7_letters 149 = .ok (.ireturn, 1) := by decide +kernel
theorem dX7_year_0 : decode cX7_year 0 = .ok (.iload_n 1, 1) := by decide +kernel
theorem dX7_year_1 : decode cX7_year 1 = .ok (.iconst 0, 1) := by decide +kernel
theorem dX7_year_2 : decode cX7_year 2 = .ok (.sipush 9999, 3) := by decide +kernel
theorem dX7_year_5 : decode cX7_year 5 = .ok (.invokestatic 99, 3) := by decide +kernel
theorem dX7_year_8 : decode cX7_year 8 = .ok (.ifCond .eq 22, 3) := by decide +kernel
theorem dX7_year_11 : decode cX7_year 11 = .ok (.iload_n 2, 1) := by decide +kernel
theorem dX7_year_12 : decode cX7_year 12 = .ok (.iconst 1, 1) := by decide +kernel
theorem dX7_year_13 : decode cX7_year 13 = .ok (.bipush 99, 2) := by decide +kernel
theorem dX7_year_15 : decode cX7_year 15 = .ok (.invokestatic 99, 3) := by decide +kernel
theorem dX7_year_18 : decode cX7_year 18 = .ok (.ifCond .eq 12, 3) := by decide +kernel
theorem dX7_year_21 : decode cX7_year 21 = .ok (.iload_n 3, 1) := by decide +kernel
theorem dX7_year_22 : decode cX7_year 22 = .ok (.iconst 0, 1) := by decide +kernel
theorem dX7_year_23 : decode cX7_year 23 = .ok (.iconst 2, 1) := by decide +kernel
theorem dX7_year_24 : decode cX7_year 24 = .ok (.invokestatic 99, 3) := by decide +kernel
theorem dX7_year_27 : decode cX7_year 27 = .ok (.ifCond .ne 6, 3) := by decide +kernel
theorem dX7_year_30 : decode cX7_year 30 = .ok (.bipush (-2), 2) := by decide +kernel
theorem dX7_year_32 : decode cX7_year 32 = .ok (.ireturn, 1) := by decide +kernel
theorem dX7_year_33 : decode cX7_year 33 = .ok (.iload_n 1, 1) := by decide +kernel
theorem dX7_year_34 : decode cX7_year 34 = .ok (.istore 4, 2) := by decide +kernel
theorem dX7_year_36 : decode cX7_year 36 = .ok (.aload_n 0, 1) := by decide +kernel
theorem dX7_year_37 : decode cX7_year 37 = .ok (.getfield 73, 3) := by decide +kernel
theorem dX7_year_40 : decode cX7_year 40 = .ok (.istore 5, 2) := by decide +kernel
theorem dX7_year_42 : decode cX7_year 42 = .ok (.iconst 0, 1) := by decide +kernel
theorem dX7_year_43 : decode cX7_year 43 = .ok (.istore 6, 2) := by decide +kernel
theorem dX7_year_45 : decode cX7_year 45 = .ok (.iconst 0, 1) := by decide +kernel
theorem dX7_year_46 : decode cX7_year 46 = .ok (.istore 7, 2) := by decide +kernel
theorem dX7_year_48 : decode cX7_year 48 = .ok (.iconst 0, 1) := by decide +kernel
theorem dX7_year_49 : decode cX7_year 49 = .ok (.istore 8, 2) := by decide +kernel
theorem dX7_year_51 : decode cX7_year 51 = .ok (.iload 8, 2) := by decide +kernel
theorem dX7_year_53 : decode cX7_year 53 = .ok (.iload_n 2, 1) := by decide +kernel
theorem dX7_year_54 : decode cX7_year 54 = .ok (.if_icmp .ge 94, 3) := by decide +kernel
theorem dX7_year_57 : decode cX7_year 57 = .ok (.bipush 75, 2) := by decide +kernel
theorem dX7_year_59 : decode cX7_year 59 = .ok (.iload 4, 2) := by decide +kernel
theorem dX7_year_61 : decode cX7_year 61 = .ok (.imul, 1) := by decide +kernel
theorem dX7_year_62 : decode cX7_year 62 = .ok (.bipush 74, 2) := by decide +kernel
theorem dX7_year_64 : decode cX7_year 64 = .ok (.iadd, 1) := by decide +kernel
theorem dX7_year_65 : decode cX7_year 65 = .ok (.ldc 243, 2) := by decide +kernel
theorem dX7_year_67 : decode cX7_year 67 = .ok (.irem, 1) := by decide +kernel
theorem dX7_year_68 : decode cX7_year 68 = .ok (.istore 4, 2) := by decide +kernel
theorem dX7_year_70 : decode cX7_year 70 = .ok (.aload_n 0, 1) := by decide +kernel
theorem dX7_year_71 : decode cX7_year 71 = .ok (.iload 4, 2) := by decide +kernel
theorem dX7_year_73 : decode cX7_year 73 = .ok (.aload_n 0, 1) := by decide +kernel
theorem dX7_year_74 : decode cX7_year 74 = .ok (.invokevirtual 201, 3) := by decide +kernel
theorem dX7_year_77 : decode cX7_year 77 = .ok (.irem, 1) := by decide +kernel
theorem dX7_year_78 : decode cX7_year 78 = .ok (.iload 5, 2) := by decide +kernel
theorem dX7_year_80 : decode cX7_year 80 = .ok (.invokevirtual 204, 3) := by decide +kernel
theorem dX7_year_83 : decode cX7_year 83 = .ok (.istore 9, 2) := by decide +kernel
theorem dX7_year_85 : decode cX7_year 85 = .ok (.iload 6, 2) := by decide +kernel
theorem dX7_year_87 : decode cX7_year 87 = .ok (.iload 9, 2) := by decide +kernel
theorem dX7_year_89 : decode cX7_year 89 = .ok (.ifCond .ge 7, 3) := by decide +kernel
theorem dX7_year_92 : decode cX7_year 92 = .ok (.iconst 1, 1) := by decide +kernel
theorem dX7_year_93 : decode cX7_year 93 = .ok (.goto 4, 3) := by decide +kernel
theorem dX7_year_96 : decode cX7_year 96 = .ok (.iconst 0, 1) := by decide +kernel
theorem dX7_year_97 : decode cX7_year 97 = .ok (.iadd, 1) := by decide +kernel
theorem dX7_year_98 : decode cX7_year 98 = .ok (.istore 6, 2) := by decide +kernel
theorem dX7_year_100 : decode cX7_year 100 = .ok (.iload 9, 2) := by decide +kernel
theorem dX7_year_102 : decode cX7_year 102 = .ok (.ifCond .lt 40, 3) := by decide +kernel
theorem dX7_year_105 : decode cX7_year 105 = .ok (.iload 7, 2) := by decide +kernel
theorem dX7_year_107 : decode cX7_year 107 = .ok (.aload_n 0, 1) := by decide +kernel
theorem dX7_year_108 : decode cX7_year 108 = .ok (.aload_n 0, 1) := by decide +kernel
theorem dX7_year_109 : decode cX7_year 109 = .ok (.getfield 67, 3) := by decide +kernel
theorem dX7_year_112 : decode cX7_year 112 = .ok (.iload 9, 2) := by decide +kernel
theorem dX7_year_114 : decode cX7_year 114 = .ok (.invokevirtual 117, 3) := by decide +kernel
theorem dX7_year_117 : decode cX7_year 117 = .ok (.aload_n 0, 1) := by decide +kernel
theorem dX7_year_118 : decode cX7_year 118 = .ok (.aload_n 0, 1) := by decide +kernel
theorem dX7_year_119 : decode cX7_year 119 = .ok (.getfield 67, 3) := by decide +kernel
theorem dX7_year_122 : decode cX7_year 122 = .ok (.iload 5, 2) := by decide +kernel
theorem dX7_year_124 : decode cX7_year 124 = .ok (.invokevirtual 117, 3) := by decide +kernel
theorem dX7_year_127 : decode cX7_year 127 = .ok (.if_icmp .ge 7, 3) := by decide +kernel
theorem dX7_year_130 : decode cX7_year 130 = .ok (.iconst 1, 1) := by decide +kernel
theorem dX7_year_131 : decode cX7_year 131 = .ok (.goto 4, 3) := by decide +kernel
theorem dX7_year_134 : decode cX7_year 134 = .ok (.iconst 0, 1) := by decide +kernel
theorem dX7_year_135 : decode cX7_year 135 = .ok (.iadd, 1) := by decide +kernel
theorem dX7_year_136 : decode cX7_year 136 = .ok (.istore 7, 2) := by decide +kernel
theorem dX7_year_138 : decode cX7_year 138 = .ok (.iload 9, 2) := by decide +kernel
theorem dX7_year_140 : decode cX7_year 140 = .ok (.istore 5, 2) := by decide +kernel
theorem dX7_year_142 : decode cX7_year 142 = .ok (.iinc 8 1, 3) := by decide +kernel
theorem dX7_year_145 : decode cX7_year 145 = .ok (.goto (-94), 3) := by decide +kernel
theorem dX7_year_148 : decode cX7_year 148 = .ok (.iload_n 3, 1) := by decide +kernel
theorem dX7_year_149 : decode cX7_year 149 = .ok (.ifCond .ne 8, 3) := by decide +kernel
theorem dX7_year_152 : decode cX7_year 152 = .ok (.iload 6, 2) := by decide +kernel
theorem dX7_year_154 : decode cX7_year 154 = .ok (.goto 15, 3) := by decide +kernel
theorem dX7_year_157 : decode cX7_year 157 = .ok (.iload_n 3, 1) := by decide +kernel
theorem dX7_year_158 : decode cX7_year 158 = .ok (.iconst 1, 1) := by decide +kernel
theorem dX7_year_159 : decode cX7_year 159 = .ok (.if_icmp .ne 8, 3) := by decide +kernel
theorem dX7_year_162 : decode cX7_year 162 = .ok (.iload 5, 2) := by decide +kernel
theorem dX7_year_164 : decode cX7_year 164 = .ok (.goto 5, 3) := by decide +kernel
theorem dX7_year_167 : decode cX7_year 167 = .ok (.iload 7, 2) := by decide +kernel
theorem dX7_year_169 : decode cX7_year 169 = .ok (.ireturn, 1) := by decide +kernel
theorem dX7_layAhead_0 : decode cX7_layAhead 0 = .ok (.iconst 0, 1) := by decide +kernel
theorem dX7_layAhead_1 : decode cX7_layAhead 1 = .ok (.istore_n 2, 1) := by decide +kernel
theorem dX7_layAhead_2 : decode cX7_layAhead 2 = .ok (.iload_n 2, 1) := by decide +kernel
theorem dX7_layAhead_3 : decode cX7_layAhead 3 = .ok (.aload_n 0, 1) := by decide +kernel
theorem dX7_layAhead_4 : decode cX7_layAhead 4 = .ok (.invokevirtual 95, 3) := by decide +kernel
theorem dX7_layAhead_7 : decode cX7_layAhead 7 = .ok (.if_icmp .ge 21, 3) := by decide +kernel
theorem dX7_layAhead_10 : decode cX7_layAhead 10 = .ok (.aload_n 0, 1) := by decide +kernel
theorem dX7_layAhead_11 : decode cX7_layAhead 11 = .ok (.getfield 49, 3) := by decide +kernel
theorem dX7_layAhead_14 : decode cX7_layAhead 14 = .ok (.iload_n 2, 1) := by decide +kernel
theorem dX7_layAhead_15 : decode cX7_layAhead 15 = .ok (.aload_n 0, 1) := by decide +kernel
theorem dX7_layAhead_16 : decode cX7_layAhead 16 = .ok (.iload_n 1, 1) := by decide +kernel
theorem dX7_layAhead_17 : decode cX7_layAhead 17 = .ok (.iload_n 2, 1) := by decide +kernel
theorem dX7_layAhead_18 : decode cX7_layAhead 18 = .ok (.invokevirtual 117, 3) := by decide +kernel
theorem dX7_layAhead_21 : decode cX7_layAhead 21 = .ok (.iastore, 1) := by decide +kernel
theorem dX7_layAhead_22 : decode cX7_layAhead 22 = .ok (.iinc 2 1, 3) := by decide +kernel
theorem dX7_layAhead_25 : decode cX7_layAhead 25 = .ok (.goto (-23), 3) := by decide +kernel
theorem dX7_layAhead_28 : decode cX7_layAhead 28 = .ok (.return_, 1) := by decide +kernel
theorem dX7_bestFrom_0 : decode cX7_bestFrom 0 = .ok (.aload_n 0, 1) := by decide +kernel
theorem dX7_bestFrom_1 : decode cX7_bestFrom 1 = .ok (.bipush (-6), 2) := by decide +kernel
theorem dX7_bestFrom_3 : decode cX7_bestFrom 3 = .ok (.putfield 210, 3) := by decide +kernel
theorem dX7_bestFrom_6 : decode cX7_bestFrom 6 = .ok (.aload_n 0, 1) := by decide +kernel
theorem dX7_bestFrom_7 : decode cX7_bestFrom 7 = .ok (.getfield 49, 3) := by decide +kernel
theorem dX7_bestFrom_10 : decode cX7_bestFrom 10 = .ok (.iload_n 1, 1) := by decide +kernel
theorem dX7_bestFrom_11 : decode cX7_bestFrom 11 = .ok (.iaload, 1) := by decide +kernel
theorem dX7_bestFrom_12 : decode cX7_bestFrom 12 = .ok (.istore_n 3, 1) := by decide +kernel
theorem dX7_bestFrom_13 : decode cX7_bestFrom 13 = .ok (.iconst 0, 1) := by decide +kernel
theorem dX7_bestFrom_14 : decode cX7_bestFrom 14 = .ok (.istore 4, 2) := by decide +kernel
theorem dX7_bestFrom_16 : decode cX7_bestFrom 16 = .ok (.iload 4, 2) := by decide +kernel
theorem dX7_bestFrom_18 : decode cX7_bestFrom 18 = .ok (.aload_n 0, 1) := by decide +kernel
theorem dX7_bestFrom_19 : decode cX7_bestFrom 19 = .ok (.invokevirtual 201, 3) := by decide +kernel
theorem dX7_bestFrom_22 : decode cX7_bestFrom 22 = .ok (.if_icmp .ge 147, 3) := by decide +kernel
theorem dX7_bestFrom_25 : decode cX7_bestFrom 25 = .ok (.aload_n 0, 1) := by decide +kernel
theorem dX7_bestFrom_26 : decode cX7_bestFrom 26 = .ok (.iload 4, 2) := by decide +kernel
theorem dX7_bestFrom_28 : decode cX7_bestFrom 28 = .ok (.invokevirtual 207, 3) := by decide +kernel
theorem dX7_bestFrom_31 : decode cX7_bestFrom 31 = .ok (.iload_n 2, 1) := by decide +kernel
theorem dX7_bestFrom_32 : decode cX7_bestFrom 32 = .ok (.if_icmp .gt 131, 3) := by decide +kernel
theorem dX7_bestFrom_35 : decode cX7_bestFrom 35 = .ok (.aload_n 0, 1) := by decide +kernel
theorem dX7_bestFrom_36 : decode cX7_bestFrom 36 = .ok (.iload 4, 2) := by decide +kernel
theorem dX7_bestFrom_38 : decode cX7_bestFrom 38 = .ok (.invokevirtual 190, 3) := by decide +kernel
theorem dX7_bestFrom_41 : decode cX7_bestFrom 41 = .ok (.ldc 213, 2) := by decide +kernel
theorem dX7_bestFrom_43 : decode cX7_bestFrom 43 = .ok (.istore 5, 2) := by decide +kernel
theorem dX7_bestFrom_45 : decode cX7_bestFrom 45 = .ok (.iconst 0, 1) := by decide +kernel
theorem dX7_bestFrom_46 : decode cX7_bestFrom 46 = .ok (.istore 6, 2) := by decide +kernel
theorem dX7_bestFrom_48 : decode cX7_bestFrom 48 = .ok (.iload 6, 2) := by decide +kernel
theorem dX7_bestFrom_50 : decode cX7_bestFrom 50 = .ok (.aload_n 0, 1) := by decide +kernel
theorem dX7_bestFrom_51 : decode cX7_bestFrom 51 = .ok (.invokevirtual 95, 3) := by decide +kernel
theorem dX7_bestFrom_54 : decode cX7_bestFrom 54 = .ok (.if_icmp .ge 45, 3) := by decide +kernel
theorem dX7_bestFrom_57 : decode cX7_bestFrom 57 = .ok (.aload_n 0, 1) := by decide +kernel
theorem dX7_bestFrom_58 : decode cX7_bestFrom 58 = .ok (.iload 6, 2) := by decide +kernel
theorem dX7_bestFrom_60 : decode cX7_bestFrom 60 = .ok (.iload_n 1, 1) := by decide +kernel
theorem dX7_bestFrom_61 : decode cX7_bestFrom 61 = .ok (.invokevirtual 194, 3) := by decide +kernel
theorem dX7_bestFrom_64 : decode cX7_bestFrom 64 = .ok (.ifCond .eq 25, 3) := by decide +kernel
theorem dX7_bestFrom_67 : decode cX7_bestFrom 67 = .ok (.aload_n 0, 1) := by decide +kernel
theorem dX7_bestFrom_68 : decode cX7_bestFrom 68 = .ok (.getfield 49, 3) := by decide +kernel
theorem dX7_bestFrom_71 : decode cX7_bestFrom 71 = .ok (.iload 6, 2) := by decide +kernel
theorem dX7_bestFrom_73 : decode cX7_bestFrom 73 = .ok (.iaload, 1) := by decide +kernel
theorem dX7_bestFrom_74 : decode cX7_bestFrom 74 = .ok (.iload 5, 2) := by decide +kernel
theorem dX7_bestFrom_76 : decode cX7_bestFrom 76 = .ok (.if_icmp .ge 13, 3) := by decide +kernel
theorem dX7_bestFrom_79 : decode cX7_bestFrom 79 = .ok (.aload_n 0, 1) := by decide +kernel
theorem dX7_bestFrom_80 : decode cX7_bestFrom 80 = .ok (.getfield 49, 3) := by decide +kernel
theorem dX7_bestFrom_83 : decode cX7_bestFrom 83 = .ok (.iload 6, 2) := by decide +kernel
theorem dX7_bestFrom_85 : decode cX7_bestFrom 85 = .ok (.iaload, 1) := by decide +kernel
theorem dX7_bestFrom_86 : decode cX7_bestFrom 86 = .ok (.goto 5, 3) := by decide +kernel
theorem dX7_bestFrom_89 : decode cX7_bestFrom 89 = .ok (.iload 5, 2) := by decide +kernel
theorem dX7_bestFrom_91 : decode cX7_bestFrom 91 = .ok (.istore 5, 2) := by decide +kernel
theorem dX7_bestFrom_93 : decode cX7_bestFrom 93 = .ok (.iinc 6 1, 3) := by decide +kernel
theorem dX7_bestFrom_96 : decode cX7_bestFrom 96 = .ok (.goto (-48), 3) := by decide +kernel
theorem dX7_bestFrom_99 : decode cX7_bestFrom 99 = .ok (.aload_n 0, 1) := by decide +kernel
theorem dX7_bestFrom_100 : decode cX7_bestFrom 100 = .ok (.getfield 210, 3) := by decide +kernel
theorem dX7_bestFrom_103 : decode cX7_bestFrom 103 = .ok (.ifCond .lt 32, 3) := by decide +kernel
theorem dX7_bestFrom_106 : decode cX7_bestFrom 106 = .ok (.iload 5, 2) := by decide +kernel
theorem dX7_bestFrom_108 : decode cX7_bestFrom 108 = .ok (.iload_n 3, 1) := by decide +kernel
theorem dX7_bestFrom_109 : decode cX7_bestFrom 109 = .ok (.if_icmp .gt 26, 3) := by decide +kernel
theorem dX7_bestFrom_112 : decode cX7_bestFrom 112 = .ok (.iload 5, 2) := by decide +kernel
theorem dX7_bestFrom_114 : decode cX7_bestFrom 114 = .ok (.iload_n 3, 1) := by decide +kernel
theorem dX7_bestFrom_115 : decode cX7_bestFrom 115 = .ok (.if_icmp .ne 24, 3) := by decide +kernel
theorem dX7_bestFrom_118 : decode cX7_bestFrom 118 = .ok (.aload_n 0, 1) := by decide +kernel
theorem dX7_bestFrom_119 : decode cX7_bestFrom 119 = .ok (.iload 4, 2) := by decide +kernel
theorem dX7_bestFrom_121 : decode cX7_bestFrom 121 = .ok (.invokevirtual 207, 3) := by decide +kernel
theorem dX7_bestFrom_124 : decode cX7_bestFrom 124 = .ok (.aload_n 0, 1) := by decide +kernel
theorem dX7_bestFrom_125 : decode cX7_bestFrom 125 = .ok (.aload_n 0, 1) := by decide +kernel
theorem dX7_bestFrom_126 : decode cX7_bestFrom 126 = .ok (.getfield 210, 3) := by decide +kernel
theorem dX7_bestFrom_129 : decode cX7_bestFrom 129 = .ok (.invokevirtual 207, 3) := by decide +kernel
theorem dX7_bestFrom_132 : decode cX7_bestFrom 132 = .ok (.if_icmp .ge 7, 3) := by decide +kernel
theorem dX7_bestFrom_135 : decode cX7_bestFrom 135 = .ok (.iconst 1, 1) := by decide +kernel
theorem dX7_bestFrom_136 : decode cX7_bestFrom 136 = .ok (.goto 4, 3) := by decide +kernel
theorem dX7_bestFrom_139 : decode cX7_bestFrom 139 = .ok (.iconst 0, 1) := by decide +kernel
theorem dX7_bestFrom_140 : decode cX7_bestFrom 140 = .ok (.istore 6, 2) := by decide +kernel
theorem dX7_bestFrom_142 : decode cX7_bestFrom 142 = .ok (.iload 5, 2) := by decide +kernel
theorem dX7_bestFrom_144 : decode cX7_bestFrom 144 = .ok (.ldc 213, 2) := by decide +kernel
theorem dX7_bestFrom_146 : decode cX7_bestFrom 146 = .ok (.if_icmp .ge 17, 3) := by decide +kernel
theorem dX7_bestFrom_149 : decode cX7_bestFrom 149 = .ok (.iload 6, 2) := by decide +kernel
theorem dX7_bestFrom_151 : decode cX7_bestFrom 151 = .ok (.ifCond .eq 12, 3) := by decide +kernel
theorem dX7_bestFrom_154 : decode cX7_bestFrom 154 = .ok (.iload 5, 2) := by decide +kernel
theorem dX7_bestFrom_156 : decode cX7_bestFrom 156 = .ok (.istore_n 3, 1) := by decide +kernel
theorem dX7_bestFrom_157 : decode cX7_bestFrom 157 = .ok (.aload_n 0, 1) := by decide +kernel
theorem dX7_bestFrom_158 : decode cX7_bestFrom 158 = .ok (.iload 4, 2) := by decide +kernel
theorem dX7_bestFrom_160 : decode cX7_bestFrom 160 = .ok (.putfield 210, 3) := by decide +kernel
theorem dX7_bestFrom_163 : decode cX7_bestFrom 163 = .ok (.iinc 4 1, 3) := by decide +kernel
theorem dX7_bestFrom_166 : decode cX7_bestFrom 166 = .ok (.goto (-150), 3) := by decide +kernel
theorem dX7_bestFrom_169 : decode cX7_bestFrom 169 = .ok (.iload_n 3, 1) := by decide +kernel
theorem dX7_bestFrom_170 : decode cX7_bestFrom 170 = .ok (.ireturn, 1) := by decide +kernel
theorem dX7_row_0 : decode cX7_row 0 = .ok (.iload_n 1, 1) := by decide +kernel
theorem dX7_row_1 : decode cX7_row 1 = .ok (.iconst 1, 1) := by decide +kernel
theorem dX7_row_2 : decode cX7_row 2 = .ok (.iconst 3, 1) := by decide +kernel
theorem dX7_row_3 : decode cX7_row 3 = .ok (.invokestatic 99, 3) := by decide +kernel
theorem dX7_row_6 : decode cX7_row 6 = .ok (.ifCond .eq 22, 3) := by decide +kernel
theorem dX7_row_9 : decode cX7_row 9 = .ok (.iload_n 2, 1) := by decide +kernel
theorem dX7_row_10 : decode cX7_row 10 = .ok (.iconst 0, 1) := by decide +kernel
theorem dX7_row_11 : decode cX7_row 11 = .ok (.bipush 6, 2) := by decide +kernel
theorem dX7_row_13 : decode cX7_row 13 = .ok (.invokestatic 99, 3) := by decide +kernel
theorem dX7_row_16 : decode cX7_row 16 = .ok (.ifCond .eq 12, 3) := by decide +kernel
theorem dX7_row_19 : decode cX7_row 19 = .ok (.iload_n 3, 1) := by decide +kernel
theorem dX7_row_20 : decode cX7_row 20 = .ok (.iconst 0, 1) := by decide +kernel
theorem dX7_row_21 : decode cX7_row 21 = .ok (.iconst 1, 1) := by decide +kernel
theorem dX7_row_22 : decode cX7_row 22 = .ok (.invokestatic 99, 3) := by decide +kernel
theorem dX7_row_25 : decode cX7_row 25 = .ok (.ifCond .ne 6, 3) := by decide +kernel
theorem dX7_row_28 : decode cX7_row 28 = .ok (.bipush (-2), 2) := by decide +kernel
theorem dX7_row_30 : decode cX7_row 30 = .ok (.ireturn, 1) := by decide +kernel
theorem dX7_row_31 : decode cX7_row 31 = .ok (.aload_n 0, 1) := by decide +kernel
theorem dX7_row_32 : decode cX7_row 32 = .ok (.aload_n 0, 1) := by decide +kernel
theorem dX7_row_33 : decode cX7_row 33 = .ok (.getfield 67, 3) := by decide +kernel
theorem dX7_row_36 : decode cX7_row 36 = .ok (.invokevirtual 214, 3) := by decide +kernel
theorem dX7_row_39 : decode cX7_row 39 = .ok (.iconst 1, 1) := by decide +kernel
theorem dX7_row_40 : decode cX7_row 40 = .ok (.istore 4, 2) := by decide +kernel
theorem dX7_row_42 : decode cX7_row 42 = .ok (.iload 4, 2) := by decide +kernel
theorem dX7_row_44 : decode cX7_row 44 = .ok (.iload_n 1, 1) := by decide +kernel
theorem dX7_row_45 : decode cX7_row 45 = .ok (.if_icmp .ge 73, 3) := by decide +kernel
theorem dX7_row_48 : decode cX7_row 48 = .ok (.iconst 0, 1) := by decide +kernel
theorem dX7_row_49 : decode cX7_row 49 = .ok (.istore 5, 2) := by decide +kernel
theorem dX7_row_51 : decode cX7_row 51 = .ok (.iload 5, 2) := by decide +kernel
theorem dX7_row_53 : decode cX7_row 53 = .ok (.aload_n 0, 1) := by decide +kernel
theorem dX7_row_54 : decode cX7_row 54 = .ok (.invokevirtual 95, 3) := by decide +kernel
theorem dX7_row_57 : decode cX7_row 57 = .ok (.if_icmp .ge 23, 3) := by decide +kernel
theorem dX7_row_60 : decode cX7_row 60 = .ok (.aload_n 0, 1) := by decide +kernel
theorem dX7_row_61 : decode cX7_row 61 = .ok (.getfield 46, 3) := by decide +kernel
theorem dX7_row_64 : decode cX7_row 64 = .ok (.iload 5, 2) := by decide +kernel
theorem dX7_row_66 : decode cX7_row 66 = .ok (.aload_n 0, 1) := by decide +kernel
theorem dX7_row_67 : decode cX7_row 67 = .ok (.iload 5, 2) := by decide +kernel
theorem dX7_row_69 : decode cX7_row 69 = .ok (.iload_n 2, 1) := by decide +kernel
theorem dX7_row_70 : decode cX7_row 70 = .ok (.invokevirtual 217, 3) := by decide +kernel
theorem dX7_row_73 : decode cX7_row 73 = .ok (.iastore, 1) := by decide +kernel
theorem dX7_row_74 : decode cX7_row 74 = .ok (.iinc 5 1, 3) := by decide +kernel
theorem dX7_row_77 : decode cX7_row 77 = .ok (.goto (-26), 3) := by decide +kernel
theorem dX7_row_80 : decode cX7_row 80 = .ok (.iconst 0, 1) := by decide +kernel
theorem dX7_row_81 : decode cX7_row 81 = .ok (.istore 5, 2) := by decide +kernel
theorem dX7_row_83 : decode cX7_row 83 = .ok (.iload 5, 2) := by decide +kernel
theorem dX7_row_85 : decode cX7_row 85 = .ok (.aload_n 0, 1) := by decide +kernel
theorem dX7_row_86 : decode cX7_row 86 = .ok (.invokevirtual 95, 3) := by decide +kernel
theorem dX7_row_89 : decode cX7_row 89 = .ok (.if_icmp .ge 23, 3) := by decide +kernel
theorem dX7_row_92 : decode cX7_row 92 = .ok (.aload_n 0, 1) := by decide +kernel
theorem dX7_row_93 : decode cX7_row 93 = .ok (.getfield 49, 3) := by decide +kernel
theorem dX7_row_96 : decode cX7_row 96 = .ok (.iload 5, 2) := by decide +kernel
theorem dX7_row_98 : decode cX7_row 98 = .ok (.aload_n 0, 1) := by decide +kernel
theorem dX7_row_99 : decode cX7_row 99 = .ok (.getfield 46, 3) := by decide +kernel
theorem dX7_row_102 : decode cX7_row 102 = .ok (.iload 5, 2) := by decide +kernel
theorem dX7_row_104 : decode cX7_row 104 = .ok (.iaload, 1) := by decide +kernel
theorem dX7_row_105 : decode cX7_row 105 = .ok (.iastore, 1) := by decide +kernel
theorem dX7_row_106 : decode cX7_row 106 = .ok (.iinc 5 1, 3) := by decide +kernel
theorem dX7_row_109 : decode cX7_row 109 = .ok (.goto (-26), 3) := by decide +kernel
theorem dX7_row_112 : decode cX7_row 112 = .ok (.iinc 4 1, 3) := by decide +kernel
theorem dX7_row_115 : decode cX7_row 115 = .ok (.goto (-73), 3) := by decide +kernel
theorem dX7_row_118 : decode cX7_row 118 = .ok (.aload_n 0, 1) := by decide +kernel
theorem dX7_row_119 : decode cX7_row 119 = .ok (.aload_n 0, 1) := by decide +kernel
theorem dX7_row_120 : decode cX7_row 120 = .ok (.getfield 73, 3) := by decide +kernel
theorem dX7_row_123 : decode cX7_row 123 = .ok (.iload_n 2, 1) := by decide +kernel
theorem dX7_row_124 : decode cX7_row 124 = .ok (.invokevirtual 217, 3) := by decide +kernel
theorem dX7_row_127 : decode cX7_row 127 = .ok (.istore 4, 2) := by decide +kernel
theorem dX7_row_129 : decode cX7_row 129 = .ok (.iload_n 3, 1) := by decide +kernel
theorem dX7_row_130 : decode cX7_row 130 = .ok (.ifCond .ne 12, 3) := by decide +kernel
theorem dX7_row_133 : decode cX7_row 133 = .ok (.iload 4, 2) := by decide +kernel
theorem dX7_row_135 : decode cX7_row 135 = .ok (.sipush 1000, 3) := by decide +kernel
theorem dX7_row_138 : decode cX7_row 138 = .ok (.iadd, 1) := by decide +kernel
theorem dX7_row_139 : decode cX7_row 139 = .ok (.goto 7, 3) := by decide +kernel
theorem dX7_row_142 : decode cX7_row 142 = .ok (.aload_n 0, 1) := by decide +kernel
theorem dX7_row_143 : decode cX7_row 143 = .ok (.getfield 210, 3) := by decide +kernel
theorem dX7_row_146 : decode cX7_row 146 = .ok (.ireturn, 1) := by decide +kernel
theorem dX7_lamps_0 : decode cX7_lamps 0 = .ok (.iload_n 1, 1) := by decide +kernel
theorem dX7_lamps_1 : decode cX7_lamps 1 = .ok (.invokestatic 103, 3) := by decide +kernel
theorem dX7_lamps_4 : decode cX7_lamps 4 = .ok (.ifCond .eq 11, 3) := by decide +kernel
theorem dX7_lamps_7 : decode cX7_lamps 7 = .ok (.iload_n 1, 1) := by decide +kernel
theorem dX7_lamps_8 : decode cX7_lamps 8 = .ok (.aload_n 0, 1) := by decide +kernel
theorem dX7_lamps_9 : decode cX7_lamps 9 = .ok (.getfield 67, 3) := by decide +kernel
theorem dX7_lamps_12 : decode cX7_lamps 12 = .ok (.if_icmp .ne 5, 3) := by decide +kernel
theorem dX7_lamps_15 : decode cX7_lamps 15 = .ok (.iconst (-1), 1) := by decide +kernel
theorem dX7_lamps_16 : decode cX7_lamps 16 = .ok (.ireturn, 1) := by decide +kernel
theorem dX7_lamps_17 : decode cX7_lamps 17 = .ok (.iload_n 2, 1) := by decide +kernel
theorem dX7_lamps_18 : decode cX7_lamps 18 = .ok (.iconst 0, 1) := by decide +kernel
theorem dX7_lamps_19 : decode cX7_lamps 19 = .ok (.bipush 6, 2) := by decide +kernel
theorem dX7_lamps_21 : decode cX7_lamps 21 = .ok (.invokestatic 99, 3) := by decide +kernel
theorem dX7_lamps_24 : decode cX7_lamps 24 = .ok (.ifCond .eq 12, 3) := by decide +kernel
theorem dX7_lamps_27 : decode cX7_lamps 27 = .ok (.iload_n 3, 1) := by decide +kernel
theorem dX7_lamps_28 : decode cX7_lamps 28 = .ok (.iconst 0, 1) := by decide +kernel
theorem dX7_lamps_29 : decode cX7_lamps 29 = .ok (.iconst 1, 1) := by decide +kernel
theorem dX7_lamps_30 : decode cX7_lamps 30 = .ok (.invokestatic 99, 3) := by decide +kernel
theorem dX7_lamps_33 : decode cX7_lamps 33 = .ok (.ifCond .ne 6, 3) := by decide +kernel
theorem dX7_lamps_36 : decode cX7_lamps 36 = .ok (.bipush (-2), 2) := by decide +kernel
theorem dX7_lamps_38 : decode cX7_lamps 38 = .ok (.ireturn, 1) := by decide +kernel
theorem dX7_lamps_39 : decode cX7_lamps 39 = .ok (.aload_n 0, 1) := by decide +kernel
theorem dX7_lamps_40 : decode cX7_lamps 40 = .ok (.iload_n 1, 1) := by decide +kernel
theorem dX7_lamps_41 : decode cX7_lamps 41 = .ok (.invokevirtual 214, 3) := by decide +kernel
theorem dX7_lamps_44 : decode cX7_lamps 44 = .ok (.iconst 0, 1) := by decide +kernel
theorem dX7_lamps_45 : decode cX7_lamps 45 = .ok (.istore 4, 2) := by decide +kernel
theorem dX7_lamps_47 : decode cX7_lamps 47 = .ok (.iload 4, 2) := by decide +kernel
theorem dX7_lamps_49 : decode cX7_lamps 49 = .ok (.aload_n 0, 1) := by decide +kernel
theorem dX7_lamps_50 : decode cX7_lamps 50 = .ok (.invokevirtual 95, 3) := by decide +kernel
theorem dX7_lamps_53 : decode cX7_lamps 53 = .ok (.if_icmp .ge 113, 3) := by decide +kernel
theorem dX7_lamps_56 : decode cX7_lamps 56 = .ok (.aload_n 0, 1) := by decide +kernel
theorem dX7_lamps_57 : decode cX7_lamps 57 = .ok (.iload 4, 2) := by decide +kernel
theorem dX7_lamps_59 : decode cX7_lamps 59 = .ok (.iload_n 2, 1) := by decide +kernel
theorem dX7_lamps_60 : decode cX7_lamps 60 = .ok (.invokevirtual 217, 3) := by decide +kernel
theorem dX7_lamps_63 : decode cX7_lamps 63 = .ok (.istore 5, 2) := by decide +kernel
theorem dX7_lamps_65 : decode cX7_lamps 65 = .ok (.iload 4, 2) := by decide +kernel
theorem dX7_lamps_67 : decode cX7_lamps 67 = .ok (.istore 6, 2) := by decide +kernel
theorem dX7_lamps_69 : decode cX7_lamps 69 = .ok (.aload_n 0, 1) := by decide +kernel
theorem dX7_lamps_70 : decode cX7_lamps 70 = .ok (.getfield 210, 3) := by decide +kernel
theorem dX7_lamps_73 : decode cX7_lamps 73 = .ok (.ifCond .lt 70, 3) := by decide +kernel
theorem dX7_lamps_76 : decode cX7_lamps 76 = .ok (.aload_n 0, 1) := by decide +kernel
theorem dX7_lamps_77 : decode cX7_lamps 77 = .ok (.aload_n 0, 1) := by decide +kernel
theorem dX7_lamps_78 : decode cX7_lamps 78 = .ok (.getfield 210, 3) := by decide +kernel
theorem dX7_lamps_81 : decode cX7_lamps 81 = .ok (.invokevirtual 190, 3) := by decide +kernel
theorem dX7_lamps_84 : decode cX7_lamps 84 = .ok (.bipush (-6), 2) := by decide +kernel
theorem dX7_lamps_86 : decode cX7_lamps 86 = .ok (.istore 6, 2) := by decide +kernel
theorem dX7_lamps_88 : decode cX7_lamps 88 = .ok (.iconst 0, 1) := by decide +kernel
theorem dX7_lamps_89 : decode cX7_lamps 89 = .ok (.istore 7, 2) := by decide +kernel
theorem dX7_lamps_91 : decode cX7_lamps 91 = .ok (.iload 7, 2) := by decide +kernel
theorem dX7_lamps_93 : decode cX7_lamps 93 = .ok (.aload_n 0, 1) := by decide +kernel
theorem dX7_lamps_94 : decode cX7_lamps 94 = .ok (.invokevirtual 95, 3) := by decide +kernel
theorem dX7_lamps_97 : decode cX7_lamps 97 = .ok (.if_icmp .ge 46, 3) := by decide +kernel
theorem dX7_lamps_100 : decode cX7_lamps 100 = .ok (.iload 6, 2) := by decide +kernel
theorem dX7_lamps_102 : decode cX7_lamps 102 = .ok (.ifCond .ge 31, 3) := by decide +kernel
theorem dX7_lamps_105 : decode cX7_lamps 105 = .ok (.aload_n 0, 1) := by decide +kernel
theorem dX7_lamps_106 : decode cX7_lamps 106 = .ok (.iload 7, 2) := by decide +kernel
theorem dX7_lamps_108 : decode cX7_lamps 108 = .ok (.iload 4, 2) := by decide +kernel
theorem dX7_lamps_110 : decode cX7_lamps 110 = .ok (.invokevirtual 194, 3) := by decide +kernel
theorem dX7_lamps_113 : decode cX7_lamps 113 = .ok (.ifCond .eq 20, 3) := by decide +kernel
theorem dX7_lamps_116 : decode cX7_lamps 116 = .ok (.aload_n 0, 1) := by decide +kernel
theorem dX7_lamps_117 : decode cX7_lamps 117 = .ok (.getfield 49, 3) := by decide +kernel
theorem dX7_lamps_120 : decode cX7_lamps 120 = .ok (.iload 7, 2) := by decide +kernel
theorem dX7_lamps_122 : decode cX7_lamps 122 = .ok (.iaload, 1) := by decide +kernel
theorem dX7_lamps_123 : decode cX7_lamps 123 = .ok (.iload 5, 2) := by decide +kernel
theorem dX7_lamps_125 : decode cX7_lamps 125 = .ok (.if_icmp .ne 8, 3) := by decide +kernel
theorem dX7_lamps_128 : decode cX7_lamps 128 = .ok (.iload 7, 2) := by decide +kernel
theorem dX7_lamps_130 : decode cX7_lamps 130 = .ok (.goto 5, 3) := by decide +kernel
theorem dX7_lamps_133 : decode cX7_lamps 133 = .ok (.iload 6, 2) := by decide +kernel
theorem dX7_lamps_135 : decode cX7_lamps 135 = .ok (.istore 6, 2) := by decide +kernel
theorem dX7_lamps_137 : decode cX7_lamps 137 = .ok (.iinc 7 1, 3) := by decide +kernel
theorem dX7_lamps_140 : decode cX7_lamps 140 = .ok (.goto (-49), 3) := by decide +kernel
theorem dX7_lamps_143 : decode cX7_lamps 143 = .ok (.aload_n 0, 1) := by decide +kernel
theorem dX7_lamps_144 : decode cX7_lamps 144 = .ok (.getfield 46, 3) := by decide +kernel
theorem dX7_lamps_147 : decode cX7_lamps 147 = .ok (.iload 4, 2) := by decide +kernel
theorem dX7_lamps_149 : decode cX7_lamps 149 = .ok (.aload_n 0, 1) := by decide +kernel
theorem dX7_lamps_150 : decode cX7_lamps 150 = .ok (.aload_n 0, 1) := by decide +kernel
theorem dX7_lamps_151 : decode cX7_lamps 151 = .ok (.getfield 67, 3) := by decide +kernel
theorem dX7_lamps_154 : decode cX7_lamps 154 = .ok (.iload 6, 2) := by decide +kernel
theorem dX7_lamps_156 : decode cX7_lamps 156 = .ok (.invokevirtual 117, 3) := by decide +kernel
theorem dX7_lamps_159 : decode cX7_lamps 159 = .ok (.iastore, 1) := by decide +kernel
theorem dX7_lamps_160 : decode cX7_lamps 160 = .ok (.iinc 4 1, 3) := by decide +kernel
theorem dX7_lamps_163 : decode cX7_lamps 163 = .ok (.goto (-116), 3) := by decide +kernel
theorem dX7_lamps_166 : decode cX7_lamps 166 = .ok (.iconst 0, 1) := by decide +kernel
theorem dX7_lamps_167 : decode cX7_lamps 167 = .ok (.istore 4, 2) := by decide +kernel
theorem dX7_lamps_169 : decode cX7_lamps 169 = .ok (.iload 4, 2) := by decide +kernel
theorem dX7_lamps_171 : decode cX7_lamps 171 = .ok (.aload_n 0, 1) := by decide +kernel
theorem dX7_lamps_172 : decode cX7_lamps 172 = .ok (.invokevirtual 95, 3) := by decide +kernel
theorem dX7_lamps_175 : decode cX7_lamps 175 = .ok (.if_icmp .ge 23, 3) := by decide +kernel
theorem dX7_lamps_178 : decode cX7_lamps 178 = .ok (.aload_n 0, 1) := by decide +kernel
theorem dX7_lamps_179 : decode cX7_lamps 179 = .ok (.getfield 49, 3) := by decide +kernel
theorem dX7_lamps_182 : decode cX7_lamps 182 = .ok (.iload 4, 2) := by decide +kernel
theorem dX7_lamps_184 : decode cX7_lamps 184 = .ok (.aload_n 0, 1) := by decide +kernel
theorem dX7_lamps_185 : decode cX7_lamps 185 = .ok (.getfield 46, 3) := by decide +kernel
theorem dX7_lamps_188 : decode cX7_lamps 188 = .ok (.iload 4, 2) := by decide +kernel
theorem dX7_lamps_190 : decode cX7_lamps 190 = .ok (.iaload, 1) := by decide +kernel
theorem dX7_lamps_191 : decode cX7_lamps 191 = .ok (.iastore, 1) := by decide +kernel
theorem dX7_lamps_192 : decode cX7_lamps 192 = .ok (.iinc 4 1, 3) := by decide +kernel
theorem dX7_lamps_195 : decode cX7_lamps 195 = .ok (.goto (-26), 3) := by decide +kernel
theorem dX7_lamps_198 : decode cX7_lamps 198 = .ok (.aload_n 0, 1) := by decide +kernel
theorem dX7_lamps_199 : decode cX7_lamps 199 = .ok (.aload_n 0, 1) := by decide +kernel
theorem dX7_lamps_200 : decode cX7_lamps 200 = .ok (.getfield 73, 3) := by decide +kernel
theorem dX7_lamps_203 : decode cX7_lamps 203 = .ok (.iload_n 2, 1) := by decide +kernel
theorem dX7_lamps_204 : decode cX7_lamps 204 = .ok (.invokevirtual 217, 3) := by decide +kernel
theorem dX7_lamps_207 : decode cX7_lamps 207 = .ok (.istore 4, 2) := by decide +kernel
theorem dX7_lamps_209 : decode cX7_lamps 209 = .ok (.iload_n 3, 1) := by decide +kernel
theorem dX7_lamps_210 : decode cX7_lamps 210 = .ok (.ifCond .ne 12, 3) := by decide +kernel
theorem dX7_lamps_213 : decode cX7_lamps 213 = .ok (.iload 4, 2) := by decide +kernel
theorem dX7_lamps_215 : decode cX7_lamps 215 = .ok (.sipush 1000, 3) := by decide +kernel
theorem dX7_lamps_218 : decode cX7_lamps 218 = .ok (.iadd, 1) := by decide +kernel
theorem dX7_lamps_219 : decode cX7_lamps 219 = .ok (.goto 7, 3) := by decide +kernel
theorem dX7_lamps_222 : decode cX7_lamps 222 = .ok (.aload_n 0, 1) := by decide +kernel
theorem dX7_lamps_223 : decode cX7_lamps 223 = .ok (.getfield 210, 3) := by decide +kernel
theorem dX7_lamps_226 : decode cX7_lamps 226 = .ok (.ireturn, 1) := by decide +kernel
def fillA (S : Nat → Nat → Int32) (p N : Nat) (f : Nat → Int32) : Nat → Nat → Int32 := setI S p (fun j => if j < N then f j else S p j)
theorem fillA_0 (S : Nat → Nat → Int32) (p : Nat) (f : Nat → Int32) : fillA S p 0 f = S := by
  funext a b
  by_cases ha : a = p
  · subst ha; simp [fillA, setI]
  · simp [fillA, setI, ha]
theorem fillA_s (S : Nat → Nat → Int32) (p k : Nat) (f : Nat → Int32) : setI (fillA S p k f) p (upd (fillA S p k f p) k (f k)) = fillA S p (k + 1) f := by
  funext a b
  by_cases ha : a = p
  · subst ha
    by_cases hb : b = k
    · subst hb; simp [fillA, setI, upd]
    · by_cases h1 : b < k
      · simp [fillA, setI, upd, hb, h1, show b < k + 1 by omega]
      · simp [fillA, setI, upd, hb, h1, show ¬ b < k + 1 by omega]
  · simp [fillA, setI, ha]
theorem fillA_at {S : Nat → Nat → Int32} {p N j : Nat} {f : Nat → Int32} (h : j < N) : fillA S p N f p j = f j := by simp [fillA, setI, h]
theorem fillA_ne {S : Nat → Nat → Int32} {p N q : Nat} {f : Nat → Int32} (h : q ≠ p) : fillA S p N f q = S q := by simp [fillA, setI, h]
/-- the worst of what keeps a term -/
def woF (J : Nat → Nat → Int64) (t sl a : Nat) (f : Nat → Int32) (num : Nat) : Int32 := upto (fun w x => if ktT J t sl num a w && decide (f w < x) then f w else x) (2 ^ t) 1000000
def ownB (J : Nat → Nat → Int64) (t sl a : Nat) (f : Nat → Int32) (most : Int32) : Nat → Option Int32 := fun k => if nI (wd t k) ≤ most then (if woF J t sl a f k < 1000000 then some (woF J t sl a f k) else none) else none
def bsP (J : Nat → Nat → Int64) (t sl : Nat) (most : Int32) (f : Nat → Int32) (a : Nat) : Option (Nat × Int32) := upto (pickB (btW t) (ownB J t sl a f most)) (3 ^ t) none
def bsV (J : Nat → Nat → Int64) (t sl : Nat) (most : Int32) (f : Nat → Int32) (a : Nat) : Int32 := match bsP J t sl most f a with
  | none => f a
  | some p => p.2
def bvA (x : Int32) : Option (Nat × Int32) → Int32
  | none => x
  | some p => p.2
theorem upto_congr {α : Type} {f g : Nat → α → α} {a : α} : ∀ {N : Nat}, (∀ k, k < N → ∀ x, f k x = g k x) → upto f N a = upto g N a
  | 0, _ => rfl
  | N + 1, h => by
    show f N (upto f N a) = g N (upto g N a)
    rw [upto_congr (fun k hk => h k (by omega)), h N (by omega)]
theorem woF_congr {J : Nat → Nat → Int64} {t sl a num : Nat} {f g : Nat → Int32} (h : ∀ w, w < 2 ^ t → f w = g w) : woF J t sl a f num = woF J t sl a g num := upto_congr (fun w hw x => by rw [h w hw])
theorem bsP_congr {J : Nat → Nat → Int64} {t sl a : Nat} {most : Int32} {f g : Nat → Int32} (h : ∀ w, w < 2 ^ t → f w = g w) : bsP J t sl most f a = bsP J t sl most g a := upto_congr (fun k _ x => by simp only [pickB, ownB, woF_congr h])
theorem bsV_congr {J : Nat → Nat → Int64} {t sl a : Nat} {most : Int32} {f g : Nat → Int32} (h : ∀ w, w < 2 ^ t → f w = g w) (ha : a < 2 ^ t) : bsV J t sl most f a = bsV J t sl most g a := by simp only [bsV, bsP_congr h, h a ha]
section MODEL9
variable {xl : Nat} {xs : Nat → Int32} {n : Nat} {h : Nat → PC} {I S : Nat → Nat → Int32} {J T : Nat → Nat → Int64} {X : Nat → Option Nat} {t sl wy wi he : Nat}
theorem s_X7_layAhead {c : Nat} (hn : 49 ≤ n) (hm : MI I t sl wy wi he) (hc : c < 4) : Rn xl xs 2 45 0 0 mX7_layAhead [.ref 33, .int (nI c)] n (sysH (ov I S) (ovJ J T) X) none n (sysH (ov I (fillA S 45 (2 ^ t) (wtF I t c))) (ovJ J T) X) := by
  intro Q hQ
  have h64 := p2_le hm.2.2.1
  show Ev xl xs 2 45 0 0 mX7_layAhead 0 [some (.ref 33), some (.int (nI c)), none] [] n (sysH (ov I S) (ovJ J T) X) Q
  have lp : ∀ j k, k + j = 2 ^ t → Ev xl xs 2 45 0 0 mX7_layAhead 2 [some (.ref 33), some (.int (nI c)), some (.int (nI k))] [] n (sysH (ov I (fillA S 45 k (wtF I t c))) (ovJ J T) X) Q := by
    intro j
    induction j using Nat.strongRecOn with
    | _ j ih =>
      intro k hk
      refine ev_iload_n (q := 3) dX7_layAhead_2 rfl rfl ?_
      refine ev_aload_n (q := 4) dX7_layAhead_3 rfl rfl ?_
      refine ev_callV0i (q := 7) dX7_layAhead_4 ca_X7_95 (s_X7_worlds hn hm) rfl (lt_n hn (by decide)) rfl rfl (Nat.le_of_ble_eq_true rfl) (Nat.le_of_ble_eq_true rfl) (by decide) (by decide) rfl ?_
      refine ev_icmp_ge (q := 10) 28 dX7_layAhead_7 (by decide) rfl (fun c_7 => ?_) (fun c_7 => ?_)
      · have c_7 : 2 ^ t ≤ k := (nI_leI (by omega) (by omega)).mp c_7
        exact ev_retE dX7_layAhead_28 rfl rfl (by rw [show k = 2 ^ t by omega]) hQ
      · have c_7 : ¬ 2 ^ t ≤ k := fun h => c_7 ((nI_leI (by omega) (by omega)).mpr h)
        refine ev_aload_n (q := 11) dX7_layAhead_10 rfl rfl ?_
        refine ev_get (q := 14) dX7_layAhead_11 fr_X7_49 rfl (lt_n hn (by decide)) rfl rfl ?_
        refine ev_iload_n (q := 15) dX7_layAhead_14 rfl rfl ?_
        refine ev_aload_n (q := 16) dX7_layAhead_15 rfl rfl ?_
        refine ev_iload_n (q := 17) dX7_layAhead_16 rfl rfl ?_
        refine ev_iload_n (q := 18) dX7_layAhead_17 rfl rfl ?_
        refine ev_callV2i (q := 21) dX7_layAhead_18 ca_X7_117 (s_X7_worthTo hn hm (by omega) (by omega)) rfl (lt_n hn (by decide)) rfl rfl (Nat.le_of_ble_eq_true rfl) (Nat.le_of_ble_eq_true rfl) (by decide) (by decide) rfl ?_
        refine ev_isS (q := 22) _ dX7_layAhead_21 rfl rfl (by omega) (lt_n hn (by decide)) rfl ?_
        rw [ovf (p := 45) rfl, fillA_s]
        refine ev_inc_2 (q := 25) (nI (k + 1)) dX7_layAhead_22 (nI_1 k) rfl rfl ?_
        refine ev_goto 2 dX7_layAhead_25 (by decide) ?_
        exact ih (j - 1) (by omega) (k + 1) (by omega)
  refine ev_iconst (q := 1) (0) dX7_layAhead_0 (by decide) rfl ?_
  refine ev_ist_2 (q := 2) dX7_layAhead_1 rfl rfl ?_
  have e := lp (2 ^ t) 0 (by omega)
  rw [fillA_0] at e
  exact e
theorem s_X7_bestFrom {a : Nat} {most : Int32} (hn : 49 ≤ n) (hm : MI I t sl wy wi he) (ha : a < 2 ^ t) : RnP xl xs 2 47 mX7_bestFrom [.ref 33, .int (nI a), .int most] n I S J T X (some (.int (bsV J t sl most (S 45) a))) (fun S' T' => T' = T ∧ S' 44 = S 44 ∧ S' 45 = S 45 ∧ S' 33 25 = eoP (bsP J t sl most (S 45) a)) := by
  intro Q hQ
  have hm' := hm
  obtain ⟨ht, ht2, h6, hs, hs6, hwy, h3, hwi, h4, hhe, hhl⟩ := hm'
  have h64 := p2_le h6
  have h729 := p3_le h6
  show Ev xl xs 2 47 0 0 mX7_bestFrom 0 [some (.ref 33), some (.int (nI a)), some (.int most), none, none, none, none] [] n (sysH (ov I S) (ovJ J T) X) Q
  have inner : ∀ (num : Nat) (a3 : Int32) (S' : Nat → Nat → Int32), num < 3 ^ t → S' 45 = S 45 → S' 33 21 = nI (tmask 1 t num t) → S' 33 22 = nI (tmask 2 t num t) → (∀ x, x = woF J t sl a (S 45) num → Ev xl xs 2 47 0 0 mX7_bestFrom 99 [some (.ref 33), some (.int (nI a)), some (.int most), some (.int a3), some (.int (nI num)), some (.int x), some (.int (nI (2 ^ t)))] [] n (sysH (ov I S') (ovJ J T) X) Q) → ∀ j k, k + j = 2 ^ t → Ev xl xs 2 47 0 0 mX7_bestFrom 48 [some (.ref 33), some (.int (nI a)), some (.int most), some (.int a3), some (.int (nI num)), some (.int (upto (fun w x => if ktT J t sl num a w && decide (S 45 w < x) then S 45 w else x) k 1000000)), some (.int (nI k))] [] n (sysH (ov I S') (ovJ J T) X) Q := by
    intro num a3 S' hnum e45 e21 e22 hout j
    have hy6 := tmask_lt 1 t num h6 t (by omega)
    have hz6 := tmask_lt 2 t num h6 t (by omega)
    induction j using Nat.strongRecOn with
    | _ j ih =>
      intro k hk
      refine ev_iload (q := 50) dX7_bestFrom_48 rfl rfl ?_
      refine ev_aload_n (q := 51) dX7_bestFrom_50 rfl rfl ?_
      refine ev_callV0i (q := 54) dX7_bestFrom_51 ca_X7_95 (s_X7_worlds hn hm) rfl (lt_n hn (by decide)) rfl rfl (Nat.le_of_ble_eq_true rfl) (Nat.le_of_ble_eq_true rfl) (by decide) (by decide) rfl ?_
      refine ev_icmp_ge (q := 57) 99 dX7_bestFrom_54 (by decide) rfl (fun c_54 => ?_) (fun c_54 => ?_)
      · have c_54 : 2 ^ t ≤ k := (nI_leI (by omega) (by omega)).mp c_54
        have hk2 : k = 2 ^ t := by omega
        subst hk2
        exact hout _ rfl
      · have c_54 : ¬ 2 ^ t ≤ k := fun h => c_54 ((nI_leI (by omega) (by omega)).mpr h)
        refine ev_aload_n (q := 58) dX7_bestFrom_57 rfl rfl ?_
        refine ev_iload (q := 60) dX7_bestFrom_58 rfl rfl ?_
        refine ev_iload_n (q := 61) dX7_bestFrom_60 rfl rfl ?_
        refine ev_callV2i (q := 64) dX7_bestFrom_61 ca_X7_194 (c_X7_keepsTerm (I := ov I S') (y := tmask 1 t num t) (z := tmask 2 t num t) (sl := sl) hn e21 e22 hs hy6 hz6 hs6 (by omega) (by omega)) rfl (lt_n hn (by decide)) rfl rfl (Nat.le_of_ble_eq_true rfl) (Nat.le_of_ble_eq_true rfl) (by decide) (by decide) rfl ?_
        refine ev_if_eq (q := 67) 89 dX7_bestFrom_64 (by decide) rfl (fun c_64 => ?_) (fun c_64 => ?_)
        · have c_64 : ktT J t sl num a k = false := b2i_0.mp c_64
          refine ev_iload (q := 91) dX7_bestFrom_89 rfl rfl ?_
          refine ev_ist_5 (q := 93) dX7_bestFrom_91 rfl rfl ?_
          refine ev_inc_6 (q := 96) (nI (k + 1)) dX7_bestFrom_93 (nI_1 k) rfl rfl ?_
          refine ev_goto 48 dX7_bestFrom_96 (by decide) ?_
          have e := ih (j - 1) (by omega) (k + 1) (by omega)
          first | (simp only [upto, c_64, c_76, decide_true, decide_false, Bool.and_true, Bool.and_false, if_true, if_false, Bool.true_and, Bool.false_and, Bool.false_eq_true] at e; exact e) | (simp only [upto, c_64, Bool.false_and, Bool.false_eq_true, if_false] at e; exact e)
        · have c_64 : ktT J t sl num a k = true := b2i_n0.mp c_64
          refine ev_aload_n (q := 68) dX7_bestFrom_67 rfl rfl ?_
          refine ev_get (q := 71) dX7_bestFrom_68 fr_X7_49 rfl (lt_n hn (by decide)) rfl rfl ?_
          refine ev_iload (q := 73) dX7_bestFrom_71 rfl rfl ?_
          refine ev_iaS (q := 74) _ dX7_bestFrom_73 rfl rfl (by omega) (lt_n hn (by decide)) rfl ?_
          rw [show ov I S' 45 k = S 45 k from congrFun e45 k]
          refine ev_iload (q := 76) dX7_bestFrom_74 rfl rfl ?_
          refine ev_icmp_ge (q := 79) 89 dX7_bestFrom_76 (by decide) rfl (fun c_76 => ?_) (fun c_76 => ?_)
          · have c_76 : ¬ S 45 k < upto (fun w x => if ktT J t sl num a w && decide (S 45 w < x) then S 45 w else x) k 1000000 := fun h => absurd c_76 (by simp only [i_le, i_lt] at *; omega)
            refine ev_iload (q := 91) dX7_bestFrom_89 rfl rfl ?_
            refine ev_ist_5 (q := 93) dX7_bestFrom_91 rfl rfl ?_
            refine ev_inc_6 (q := 96) (nI (k + 1)) dX7_bestFrom_93 (nI_1 k) rfl rfl ?_
            refine ev_goto 48 dX7_bestFrom_96 (by decide) ?_
            have e := ih (j - 1) (by omega) (k + 1) (by omega)
            first | (simp only [upto, c_64, c_76, decide_true, decide_false, Bool.and_true, Bool.and_false, if_true, if_false, Bool.true_and, Bool.false_and, Bool.false_eq_true] at e; exact e) | (simp only [upto, c_64, Bool.false_and, Bool.false_eq_true, if_false] at e; exact e)
          · have c_76 : S 45 k < upto (fun w x => if ktT J t sl num a w && decide (S 45 w < x) then S 45 w else x) k 1000000 := by simp only [i_le, i_lt] at *; omega
            refine ev_aload_n (q := 80) dX7_bestFrom_79 rfl rfl ?_
            refine ev_get (q := 83) dX7_bestFrom_80 fr_X7_49 rfl (lt_n hn (by decide)) rfl rfl ?_
            refine ev_iload (q := 85) dX7_bestFrom_83 rfl rfl ?_
            refine ev_iaS (q := 86) _ dX7_bestFrom_85 rfl rfl (by omega) (lt_n hn (by decide)) rfl ?_
            rw [show ov I S' 45 k = S 45 k from congrFun e45 k]
            refine ev_goto 91 dX7_bestFrom_86 (by decide) ?_
            refine ev_ist_5 (q := 93) dX7_bestFrom_91 rfl rfl ?_
            refine ev_inc_6 (q := 96) (nI (k + 1)) dX7_bestFrom_93 (nI_1 k) rfl rfl ?_
            refine ev_goto 48 dX7_bestFrom_96 (by decide) ?_
            have e := ih (j - 1) (by omega) (k + 1) (by omega)
            first | (simp only [upto, c_64, c_76, decide_true, decide_false, Bool.and_true, Bool.and_false, if_true, if_false, Bool.true_and, Bool.false_and, Bool.false_eq_true] at e; exact e) | (simp only [upto, c_64, Bool.false_and, Bool.false_eq_true, if_false] at e; exact e)
  have lp : ∀ j k, k + j = 3 ^ t → ∀ S', S' 44 = S 44 → S' 45 = S 45 → S' 33 25 = eoP (upto (pickB (btW t) (ownB J t sl a (S 45) most)) k none) → ∀ a5 a6, Ev xl xs 2 47 0 0 mX7_bestFrom 16 [some (.ref 33), some (.int (nI a)), some (.int most), some (.int (bvA (S 45 a) (upto (pickB (btW t) (ownB J t sl a (S 45) most)) k none))), some (.int (nI k)), a5, a6] [] n (sysH (ov I S') (ovJ J T) X) Q := by
    intro j
    induction j using Nat.strongRecOn with
    | _ j ih =>
      intro k hk S' e44 e45 e25 a5 a6
      have hlt := pickB_lt (better := btW t) (own := ownB J t sl a (S 45) most) k
      have hwk := wd_le (num := k) h6
      have tl : nI (wd t k) ≤ most → ¬ 3 ^ t ≤ k → ∀ x, x = woF J t sl a (S 45) k → Ev xl xs 2 47 0 0 mX7_bestFrom 99 [some (.ref 33), some (.int (nI a)), some (.int most), some (.int (bvA (S 45 a) (upto (pickB (btW t) (ownB J t sl a (S 45) most)) k none))), some (.int (nI k)), some (.int x), some (.int (nI (2 ^ t)))] [] n (sysH (ov I (lyS S' t k)) (ovJ J T) X) Q := by
        intro hwm hkt x hx
        have e25' : ov I (lyS S' t k) 33 25 = eoP (upto (pickB (btW t) (ownB J t sl a (S 45) most)) k none) := e25
        cases ho : upto (pickB (btW t) (ownB J t sl a (S 45) most)) k none with
        | none =>
          rw [ho] at e25'
          refine ev_aload_n (q := 100) dX7_bestFrom_99 rfl rfl ?_
          refine ev_get (q := 103) dX7_bestFrom_100 fr_X7_210 rfl (lt_n hn (by decide)) rfl rfl ?_
          rw [e25']
          refine ev_if_lt (q := 106) 135 dX7_bestFrom_103 (by decide) rfl (fun c_103 => ?_) (fun c_103 => ?_)
          · refine ev_iconst (q := 136) (1) dX7_bestFrom_135 (by decide) rfl ?_
            refine ev_goto 140 dX7_bestFrom_136 (by decide) ?_
            refine ev_ist_6 (q := 142) dX7_bestFrom_140 rfl rfl ?_
            refine ev_iload (q := 144) dX7_bestFrom_142 rfl rfl ?_
            refine ev_ldc (q := 146) co_X7_213 dX7_bestFrom_144 rfl ?_
            refine ev_icmp_ge (q := 149) 163 dX7_bestFrom_146 (by decide) rfl (fun c_146 => ?_) (fun c_146 => ?_)
            · have c_146 : ¬ woF J t sl a (S 45) k < 1000000 := fun h => absurd c_146 (by rw [hx]; simp only [i_le, i_lt] at *; omega)
              refine ev_inc_4 (q := 166) (nI (k + 1)) dX7_bestFrom_163 (nI_1 k) rfl rfl ?_
              refine ev_goto 16 dX7_bestFrom_166 (by decide) ?_
              have e := ih (j - 1) (by omega) (k + 1) (by omega)
              simp only [upto, pickB, ownB, ho, hwm, c_146, if_true, if_false] at e
              first | exact e _ (by exact e44) (by exact e45) (by exact e25') _ _ | (rw [hx]; exact e _ (by exact e44) (by exact e45) (by rfl) _ _)
            · have c_146 : woF J t sl a (S 45) k < 1000000 := by rw [hx] at c_146; simp only [i_le, i_lt] at *; omega
              refine ev_iload (q := 151) dX7_bestFrom_149 rfl rfl ?_
              refine ev_if_eq (q := 154) 163 dX7_bestFrom_151 (by decide) rfl (fun c_151 => ?_) (fun c_151 => ?_)
              · exact absurd c_151 (by decide)
              · refine ev_iload (q := 156) dX7_bestFrom_154 rfl rfl ?_
                refine ev_ist_3 (q := 157) dX7_bestFrom_156 rfl rfl ?_
                refine ev_aload_n (q := 158) dX7_bestFrom_157 rfl rfl ?_
                refine ev_iload (q := 160) dX7_bestFrom_158 rfl rfl ?_
                first | refine ev_putIK (q := 163) dX7_bestFrom_160 fa_X7_210 rfl (by decide) (lt_n hn (by decide)) (Nat.le_of_ble_eq_true rfl) ⟨rfl, rfl⟩ rfl rfl rfl ?_ | refine ev_putIR (q := 163) dX7_bestFrom_160 fa_X7_210 rfl (by decide) (lt_n hn (by decide)) (Nat.le_of_ble_eq_true rfl) ⟨rfl, rfl⟩ rfl rfl rfl ?_
                refine ev_inc_4 (q := 166) (nI (k + 1)) dX7_bestFrom_163 (nI_1 k) rfl rfl ?_
                refine ev_goto 16 dX7_bestFrom_166 (by decide) ?_
                have e := ih (j - 1) (by omega) (k + 1) (by omega)
                simp only [upto, pickB, ownB, ho, hwm, c_146, if_true, if_false] at e
                first | exact e _ (by exact e44) (by exact e45) (by exact e25') _ _ | (rw [hx]; exact e _ (by exact e44) (by exact e45) (by rfl) _ _)
          · exact absurd neg6 c_103
        | some p =>
          obtain ⟨u, b⟩ := p
          have hu := hlt u b ho
          have hwu := wd_le (num := u) h6
          rw [ho] at e25'
          refine ev_aload_n (q := 100) dX7_bestFrom_99 rfl rfl ?_
          refine ev_get (q := 103) dX7_bestFrom_100 fr_X7_210 rfl (lt_n hn (by decide)) rfl rfl ?_
          rw [e25']
          refine ev_if_lt (q := 106) 135 dX7_bestFrom_103 (by decide) rfl (fun c_103 => ?_) (fun c_103 => ?_)
          · exact absurd c_103 (nI_pos (by omega))
          · refine ev_iload (q := 108) dX7_bestFrom_106 rfl rfl ?_
            refine ev_iload_n (q := 109) dX7_bestFrom_108 rfl rfl ?_
            refine ev_icmp_gt (q := 112) 135 dX7_bestFrom_109 (by decide) rfl (fun c_109 => ?_) (fun c_109 => ?_)
            · have hbt : btW t k (woF J t sl a (S 45) k) u b = true := by rw [hx] at c_109; simp [btW, show b < woF J t sl a (S 45) k from c_109]
              refine ev_iconst (q := 136) (1) dX7_bestFrom_135 (by decide) rfl ?_
              refine ev_goto 140 dX7_bestFrom_136 (by decide) ?_
              refine ev_ist_6 (q := 142) dX7_bestFrom_140 rfl rfl ?_
              refine ev_iload (q := 144) dX7_bestFrom_142 rfl rfl ?_
              refine ev_ldc (q := 146) co_X7_213 dX7_bestFrom_144 rfl ?_
              refine ev_icmp_ge (q := 149) 163 dX7_bestFrom_146 (by decide) rfl (fun c_146 => ?_) (fun c_146 => ?_)
              · have c_146 : ¬ woF J t sl a (S 45) k < 1000000 := fun h => absurd c_146 (by rw [hx]; simp only [i_le, i_lt] at *; omega)
                refine ev_inc_4 (q := 166) (nI (k + 1)) dX7_bestFrom_163 (nI_1 k) rfl rfl ?_
                refine ev_goto 16 dX7_bestFrom_166 (by decide) ?_
                have e := ih (j - 1) (by omega) (k + 1) (by omega)
                simp only [upto, pickB, ownB, ho, hwm, c_146, hbt, if_true, if_false, Bool.false_eq_true] at e
                first | exact e _ (by exact e44) (by exact e45) (by exact e25') _ _ | (rw [hx]; exact e _ (by exact e44) (by exact e45) (by rfl) _ _)
              · have c_146 : woF J t sl a (S 45) k < 1000000 := by rw [hx] at c_146; simp only [i_le, i_lt] at *; omega
                refine ev_iload (q := 151) dX7_bestFrom_149 rfl rfl ?_
                refine ev_if_eq (q := 154) 163 dX7_bestFrom_151 (by decide) rfl (fun c_151 => ?_) (fun c_151 => ?_)
                · try (exact absurd c_151 (by decide))
                  all_goals (
                    refine ev_inc_4 (q := 166) (nI (k + 1)) dX7_bestFrom_163 (nI_1 k) rfl rfl ?_
                    refine ev_goto 16 dX7_bestFrom_166 (by decide) ?_
                    have e := ih (j - 1) (by omega) (k + 1) (by omega)
                    simp only [upto, pickB, ownB, ho, hwm, c_146, hbt, if_true, if_false, Bool.false_eq_true] at e
                    first | exact e _ (by exact e44) (by exact e45) (by exact e25') _ _ | (rw [hx]; exact e _ (by exact e44) (by exact e45) (by rfl) _ _)
                  )
                · try (exact absurd rfl c_151)
                  all_goals (
                    refine ev_iload (q := 156) dX7_bestFrom_154 rfl rfl ?_
                    refine ev_ist_3 (q := 157) dX7_bestFrom_156 rfl rfl ?_
                    refine ev_aload_n (q := 158) dX7_bestFrom_157 rfl rfl ?_
                    refine ev_iload (q := 160) dX7_bestFrom_158 rfl rfl ?_
                    first | refine ev_putIK (q := 163) dX7_bestFrom_160 fa_X7_210 rfl (by decide) (lt_n hn (by decide)) (Nat.le_of_ble_eq_true rfl) ⟨rfl, rfl⟩ rfl rfl rfl ?_ | refine ev_putIR (q := 163) dX7_bestFrom_160 fa_X7_210 rfl (by decide) (lt_n hn (by decide)) (Nat.le_of_ble_eq_true rfl) ⟨rfl, rfl⟩ rfl rfl rfl ?_
                    refine ev_inc_4 (q := 166) (nI (k + 1)) dX7_bestFrom_163 (nI_1 k) rfl rfl ?_
                    refine ev_goto 16 dX7_bestFrom_166 (by decide) ?_
                    have e := ih (j - 1) (by omega) (k + 1) (by omega)
                    simp only [upto, pickB, ownB, ho, hwm, c_146, hbt, if_true, if_false, Bool.false_eq_true] at e
                    first | exact e _ (by exact e44) (by exact e45) (by exact e25') _ _ | (rw [hx]; exact e _ (by exact e44) (by exact e45) (by rfl) _ _)
                  )
            · have c_109 : ¬ b < woF J t sl a (S 45) k := by rw [hx] at c_109; exact c_109
              refine ev_iload (q := 114) dX7_bestFrom_112 rfl rfl ?_
              refine ev_iload_n (q := 115) dX7_bestFrom_114 rfl rfl ?_
              refine ev_icmp_ne (q := 118) 139 dX7_bestFrom_115 (by decide) rfl (fun c_115 => ?_) (fun c_115 => ?_)
              · have hbt : btW t k (woF J t sl a (S 45) k) u b = false := by rw [hx] at c_115; simp [btW, c_109, show ¬ woF J t sl a (S 45) k = b from c_115]
                refine ev_iconst (q := 140) (0) dX7_bestFrom_139 (by decide) rfl ?_
                refine ev_ist_6 (q := 142) dX7_bestFrom_140 rfl rfl ?_
                refine ev_iload (q := 144) dX7_bestFrom_142 rfl rfl ?_
                refine ev_ldc (q := 146) co_X7_213 dX7_bestFrom_144 rfl ?_
                refine ev_icmp_ge (q := 149) 163 dX7_bestFrom_146 (by decide) rfl (fun c_146 => ?_) (fun c_146 => ?_)
                · have c_146 : ¬ woF J t sl a (S 45) k < 1000000 := fun h => absurd c_146 (by rw [hx]; simp only [i_le, i_lt] at *; omega)
                  refine ev_inc_4 (q := 166) (nI (k + 1)) dX7_bestFrom_163 (nI_1 k) rfl rfl ?_
                  refine ev_goto 16 dX7_bestFrom_166 (by decide) ?_
                  have e := ih (j - 1) (by omega) (k + 1) (by omega)
                  simp only [upto, pickB, ownB, ho, hwm, c_146, hbt, if_true, if_false, Bool.false_eq_true] at e
                  first | exact e _ (by exact e44) (by exact e45) (by exact e25') _ _ | (rw [hx]; exact e _ (by exact e44) (by exact e45) (by rfl) _ _)
                · have c_146 : woF J t sl a (S 45) k < 1000000 := by rw [hx] at c_146; simp only [i_le, i_lt] at *; omega
                  refine ev_iload (q := 151) dX7_bestFrom_149 rfl rfl ?_
                  refine ev_if_eq (q := 154) 163 dX7_bestFrom_151 (by decide) rfl (fun c_151 => ?_) (fun c_151 => ?_)
                  · try (exact absurd c_151 (by decide))
                    all_goals (
                      refine ev_inc_4 (q := 166) (nI (k + 1)) dX7_bestFrom_163 (nI_1 k) rfl rfl ?_
                      refine ev_goto 16 dX7_bestFrom_166 (by decide) ?_
                      have e := ih (j - 1) (by omega) (k + 1) (by omega)
                      simp only [upto, pickB, ownB, ho, hwm, c_146, hbt, if_true, if_false, Bool.false_eq_true] at e
                      first | exact e _ (by exact e44) (by exact e45) (by exact e25') _ _ | (rw [hx]; exact e _ (by exact e44) (by exact e45) (by rfl) _ _)
                    )
                  · try (exact absurd rfl c_151)
                    all_goals (
                      refine ev_iload (q := 156) dX7_bestFrom_154 rfl rfl ?_
                      refine ev_ist_3 (q := 157) dX7_bestFrom_156 rfl rfl ?_
                      refine ev_aload_n (q := 158) dX7_bestFrom_157 rfl rfl ?_
                      refine ev_iload (q := 160) dX7_bestFrom_158 rfl rfl ?_
                      first | refine ev_putIK (q := 163) dX7_bestFrom_160 fa_X7_210 rfl (by decide) (lt_n hn (by decide)) (Nat.le_of_ble_eq_true rfl) ⟨rfl, rfl⟩ rfl rfl rfl ?_ | refine ev_putIR (q := 163) dX7_bestFrom_160 fa_X7_210 rfl (by decide) (lt_n hn (by decide)) (Nat.le_of_ble_eq_true rfl) ⟨rfl, rfl⟩ rfl rfl rfl ?_
                      refine ev_inc_4 (q := 166) (nI (k + 1)) dX7_bestFrom_163 (nI_1 k) rfl rfl ?_
                      refine ev_goto 16 dX7_bestFrom_166 (by decide) ?_
                      have e := ih (j - 1) (by omega) (k + 1) (by omega)
                      simp only [upto, pickB, ownB, ho, hwm, c_146, hbt, if_true, if_false, Bool.false_eq_true] at e
                      first | exact e _ (by exact e44) (by exact e45) (by exact e25') _ _ | (rw [hx]; exact e _ (by exact e44) (by exact e45) (by rfl) _ _)
                    )
              · have c_115 : woF J t sl a (S 45) k = b := by rw [hx] at c_115; exact c_115
                refine ev_aload_n (q := 119) dX7_bestFrom_118 rfl rfl ?_
                refine ev_iload (q := 121) dX7_bestFrom_119 rfl rfl ?_
                refine ev_callV1i (q := 124) dX7_bestFrom_121 ca_X7_207 (s_X7_words hn hm (by omega)) rfl (lt_n hn (by decide)) rfl rfl (Nat.le_of_ble_eq_true rfl) (Nat.le_of_ble_eq_true rfl) (by decide) (by decide) rfl ?_
                refine ev_aload_n (q := 125) dX7_bestFrom_124 rfl rfl ?_
                refine ev_aload_n (q := 126) dX7_bestFrom_125 rfl rfl ?_
                refine ev_get (q := 129) dX7_bestFrom_126 fr_X7_210 rfl (lt_n hn (by decide)) rfl rfl ?_
                rw [e25']
                refine ev_callV1i (q := 132) dX7_bestFrom_129 ca_X7_207 (s_X7_words (num := u) hn hm (by omega)) rfl (lt_n hn (by decide)) rfl rfl (Nat.le_of_ble_eq_true rfl) (Nat.le_of_ble_eq_true rfl) (by decide) (by decide) rfl ?_
                refine ev_icmp_ge (q := 135) 139 dX7_bestFrom_132 (by decide) rfl (fun c_132 => ?_) (fun c_132 => ?_)
                · have hbt : btW t k (woF J t sl a (S 45) k) u b = false := by have : ¬ wd t k < wd t u := Nat.not_lt.mpr ((nI_leI (by omega) (by omega)).mp c_132); simp [btW, c_109, this]
                  refine ev_iconst (q := 140) (0) dX7_bestFrom_139 (by decide) rfl ?_
                  refine ev_ist_6 (q := 142) dX7_bestFrom_140 rfl rfl ?_
                  refine ev_iload (q := 144) dX7_bestFrom_142 rfl rfl ?_
                  refine ev_ldc (q := 146) co_X7_213 dX7_bestFrom_144 rfl ?_
                  refine ev_icmp_ge (q := 149) 163 dX7_bestFrom_146 (by decide) rfl (fun c_146 => ?_) (fun c_146 => ?_)
                  · have c_146 : ¬ woF J t sl a (S 45) k < 1000000 := fun h => absurd c_146 (by rw [hx]; simp only [i_le, i_lt] at *; omega)
                    refine ev_inc_4 (q := 166) (nI (k + 1)) dX7_bestFrom_163 (nI_1 k) rfl rfl ?_
                    refine ev_goto 16 dX7_bestFrom_166 (by decide) ?_
                    have e := ih (j - 1) (by omega) (k + 1) (by omega)
                    simp only [upto, pickB, ownB, ho, hwm, c_146, hbt, if_true, if_false, Bool.false_eq_true] at e
                    first | exact e _ (by exact e44) (by exact e45) (by exact e25') _ _ | (rw [hx]; exact e _ (by exact e44) (by exact e45) (by rfl) _ _)
                  · have c_146 : woF J t sl a (S 45) k < 1000000 := by rw [hx] at c_146; simp only [i_le, i_lt] at *; omega
                    refine ev_iload (q := 151) dX7_bestFrom_149 rfl rfl ?_
                    refine ev_if_eq (q := 154) 163 dX7_bestFrom_151 (by decide) rfl (fun c_151 => ?_) (fun c_151 => ?_)
                    · try (exact absurd c_151 (by decide))
                      all_goals (
                        refine ev_inc_4 (q := 166) (nI (k + 1)) dX7_bestFrom_163 (nI_1 k) rfl rfl ?_
                        refine ev_goto 16 dX7_bestFrom_166 (by decide) ?_
                        have e := ih (j - 1) (by omega) (k + 1) (by omega)
                        simp only [upto, pickB, ownB, ho, hwm, c_146, hbt, if_true, if_false, Bool.false_eq_true] at e
                        first | exact e _ (by exact e44) (by exact e45) (by exact e25') _ _ | (rw [hx]; exact e _ (by exact e44) (by exact e45) (by rfl) _ _)
                      )
                    · try (exact absurd rfl c_151)
                      all_goals (
                        refine ev_iload (q := 156) dX7_bestFrom_154 rfl rfl ?_
                        refine ev_ist_3 (q := 157) dX7_bestFrom_156 rfl rfl ?_
                        refine ev_aload_n (q := 158) dX7_bestFrom_157 rfl rfl ?_
                        refine ev_iload (q := 160) dX7_bestFrom_158 rfl rfl ?_
                        first | refine ev_putIK (q := 163) dX7_bestFrom_160 fa_X7_210 rfl (by decide) (lt_n hn (by decide)) (Nat.le_of_ble_eq_true rfl) ⟨rfl, rfl⟩ rfl rfl rfl ?_ | refine ev_putIR (q := 163) dX7_bestFrom_160 fa_X7_210 rfl (by decide) (lt_n hn (by decide)) (Nat.le_of_ble_eq_true rfl) ⟨rfl, rfl⟩ rfl rfl rfl ?_
                        refine ev_inc_4 (q := 166) (nI (k + 1)) dX7_bestFrom_163 (nI_1 k) rfl rfl ?_
                        refine ev_goto 16 dX7_bestFrom_166 (by decide) ?_
                        have e := ih (j - 1) (by omega) (k + 1) (by omega)
                        simp only [upto, pickB, ownB, ho, hwm, c_146, hbt, if_true, if_false, Bool.false_eq_true] at e
                        first | exact e _ (by exact e44) (by exact e45) (by exact e25') _ _ | (rw [hx]; exact e _ (by exact e44) (by exact e45) (by rfl) _ _)
                      )
                · have hbt : btW t k (woF J t sl a (S 45) k) u b = true := by have : wd t k < wd t u := Nat.not_le.mp fun h => c_132 ((nI_leI (by omega) (by omega)).mpr h); simp [btW, c_109, c_115, this]
                  refine ev_iconst (q := 136) (1) dX7_bestFrom_135 (by decide) rfl ?_
                  refine ev_goto 140 dX7_bestFrom_136 (by decide) ?_
                  refine ev_ist_6 (q := 142) dX7_bestFrom_140 rfl rfl ?_
                  refine ev_iload (q := 144) dX7_bestFrom_142 rfl rfl ?_
                  refine ev_ldc (q := 146) co_X7_213 dX7_bestFrom_144 rfl ?_
                  refine ev_icmp_ge (q := 149) 163 dX7_bestFrom_146 (by decide) rfl (fun c_146 => ?_) (fun c_146 => ?_)
                  · have c_146 : ¬ woF J t sl a (S 45) k < 1000000 := fun h => absurd c_146 (by rw [hx]; simp only [i_le, i_lt] at *; omega)
                    refine ev_inc_4 (q := 166) (nI (k + 1)) dX7_bestFrom_163 (nI_1 k) rfl rfl ?_
                    refine ev_goto 16 dX7_bestFrom_166 (by decide) ?_
                    have e := ih (j - 1) (by omega) (k + 1) (by omega)
                    simp only [upto, pickB, ownB, ho, hwm, c_146, hbt, if_true, if_false, Bool.false_eq_true] at e
                    first | exact e _ (by exact e44) (by exact e45) (by exact e25') _ _ | (rw [hx]; exact e _ (by exact e44) (by exact e45) (by rfl) _ _)
                  · have c_146 : woF J t sl a (S 45) k < 1000000 := by rw [hx] at c_146; simp only [i_le, i_lt] at *; omega
                    refine ev_iload (q := 151) dX7_bestFrom_149 rfl rfl ?_
                    refine ev_if_eq (q := 154) 163 dX7_bestFrom_151 (by decide) rfl (fun c_151 => ?_) (fun c_151 => ?_)
                    · try (exact absurd c_151 (by decide))
                      all_goals (
                        refine ev_inc_4 (q := 166) (nI (k + 1)) dX7_bestFrom_163 (nI_1 k) rfl rfl ?_
                        refine ev_goto 16 dX7_bestFrom_166 (by decide) ?_
                        have e := ih (j - 1) (by omega) (k + 1) (by omega)
                        simp only [upto, pickB, ownB, ho, hwm, c_146, hbt, if_true, if_false, Bool.false_eq_true] at e
                        first | exact e _ (by exact e44) (by exact e45) (by exact e25') _ _ | (rw [hx]; exact e _ (by exact e44) (by exact e45) (by rfl) _ _)
                      )
                    · try (exact absurd rfl c_151)
                      all_goals (
                        refine ev_iload (q := 156) dX7_bestFrom_154 rfl rfl ?_
                        refine ev_ist_3 (q := 157) dX7_bestFrom_156 rfl rfl ?_
                        refine ev_aload_n (q := 158) dX7_bestFrom_157 rfl rfl ?_
                        refine ev_iload (q := 160) dX7_bestFrom_158 rfl rfl ?_
                        first | refine ev_putIK (q := 163) dX7_bestFrom_160 fa_X7_210 rfl (by decide) (lt_n hn (by decide)) (Nat.le_of_ble_eq_true rfl) ⟨rfl, rfl⟩ rfl rfl rfl ?_ | refine ev_putIR (q := 163) dX7_bestFrom_160 fa_X7_210 rfl (by decide) (lt_n hn (by decide)) (Nat.le_of_ble_eq_true rfl) ⟨rfl, rfl⟩ rfl rfl rfl ?_
                        refine ev_inc_4 (q := 166) (nI (k + 1)) dX7_bestFrom_163 (nI_1 k) rfl rfl ?_
                        refine ev_goto 16 dX7_bestFrom_166 (by decide) ?_
                        have e := ih (j - 1) (by omega) (k + 1) (by omega)
                        simp only [upto, pickB, ownB, ho, hwm, c_146, hbt, if_true, if_false, Bool.false_eq_true] at e
                        first | exact e _ (by exact e44) (by exact e45) (by exact e25') _ _ | (rw [hx]; exact e _ (by exact e44) (by exact e45) (by rfl) _ _)
                      )
      refine ev_iload (q := 18) dX7_bestFrom_16 rfl rfl ?_
      refine ev_aload_n (q := 19) dX7_bestFrom_18 rfl rfl ?_
      refine ev_callV0i (q := 22) dX7_bestFrom_19 ca_X7_201 (s_X7_terms hn hm) rfl (lt_n hn (by decide)) rfl rfl (Nat.le_of_ble_eq_true rfl) (Nat.le_of_ble_eq_true rfl) (by decide) (by decide) rfl ?_
      refine ev_icmp_ge (q := 25) 169 dX7_bestFrom_22 (by decide) rfl (fun c_22 => ?_) (fun c_22 => ?_)
      · have c_22 : 3 ^ t ≤ k := (nI_leI (by omega) (by omega)).mp c_22
        refine ev_iload_n (q := 170) dX7_bestFrom_169 rfl rfl ?_
        have hk2 : k = 3 ^ t := by omega
        subst hk2
        refine ev_iretE dX7_bestFrom_170 rfl rfl (w := bsV J t sl most (S 45) a) ?_ rfl rfl (hQ _ _ ⟨rfl, e44, e45, e25⟩)
        unfold bsV bsP
        cases upto (pickB (btW t) (ownB J t sl a (S 45) most)) (3 ^ t) none <;> rfl
      · have c_22 : ¬ 3 ^ t ≤ k := fun h => c_22 ((nI_leI (by omega) (by omega)).mpr h)
        refine ev_aload_n (q := 26) dX7_bestFrom_25 rfl rfl ?_
        refine ev_iload (q := 28) dX7_bestFrom_26 rfl rfl ?_
        refine ev_callV1i (q := 31) dX7_bestFrom_28 ca_X7_207 (s_X7_words hn hm (by omega)) rfl (lt_n hn (by decide)) rfl rfl (Nat.le_of_ble_eq_true rfl) (Nat.le_of_ble_eq_true rfl) (by decide) (by decide) rfl ?_
        refine ev_iload_n (q := 32) dX7_bestFrom_31 rfl rfl ?_
        refine ev_icmp_gt (q := 35) 163 dX7_bestFrom_32 (by decide) rfl (fun c_32 => ?_) (fun c_32 => ?_)
        · have c_32 : ¬ nI (wd t k) ≤ most := fun h => absurd c_32 (by simp only [i_le, i_lt] at *; omega)
          refine ev_inc_4 (q := 166) (nI (k + 1)) dX7_bestFrom_163 (nI_1 k) rfl rfl ?_
          refine ev_goto 16 dX7_bestFrom_166 (by decide) ?_
          have e := ih (j - 1) (by omega) (k + 1) (by omega)
          have e0 : upto (pickB (btW t) (ownB J t sl a (S 45) most)) (k + 1) none = upto (pickB (btW t) (ownB J t sl a (S 45) most)) k none := by simp only [upto, pickB, ownB, c_32, if_false]
          rw [e0] at e
          exact e _ (by exact e44) (by exact e45) (by exact e25) _ _
        · have c_32 : nI (wd t k) ≤ most := by simp only [i_le, i_lt] at *; omega
          refine ev_aload_n (q := 36) dX7_bestFrom_35 rfl rfl ?_
          refine ev_iload (q := 38) dX7_bestFrom_36 rfl rfl ?_
          refine ev_callV1v (q := 41) dX7_bestFrom_38 ca_X7_190 (s_X7_layTerm hn hm (by omega)) rfl (lt_n hn (by decide)) rfl rfl (Nat.le_of_ble_eq_true rfl) (Nat.le_of_ble_eq_true rfl) (by decide) (by decide) rfl ?_
          refine ev_ldc (q := 43) co_X7_213 dX7_bestFrom_41 rfl ?_
          refine ev_ist_5 (q := 45) dX7_bestFrom_43 rfl rfl ?_
          refine ev_iconst (q := 46) (0) dX7_bestFrom_45 (by decide) rfl ?_
          refine ev_ist_6 (q := 48) dX7_bestFrom_46 rfl rfl ?_
          exact inner k _ (lyS S' t k) (by omega) e45 rfl rfl (tl c_32 c_22) (2 ^ t) 0 (by omega)
  refine ev_aload_n (q := 1) dX7_bestFrom_0 rfl rfl ?_
  refine ev_bipush (q := 3) (-6) dX7_bestFrom_1 (by decide) rfl ?_
  first | refine ev_putIK (q := 6) dX7_bestFrom_3 fa_X7_210 rfl (by decide) (lt_n hn (by decide)) (Nat.le_of_ble_eq_true rfl) ⟨rfl, rfl⟩ rfl rfl rfl ?_ | refine ev_putIR (q := 6) dX7_bestFrom_3 fa_X7_210 rfl (by decide) (lt_n hn (by decide)) (Nat.le_of_ble_eq_true rfl) ⟨rfl, rfl⟩ rfl rfl rfl ?_
  refine ev_aload_n (q := 7) dX7_bestFrom_6 rfl rfl ?_
  refine ev_get (q := 10) dX7_bestFrom_7 fr_X7_49 rfl (lt_n hn (by decide)) rfl rfl ?_
  refine ev_iload_n (q := 11) dX7_bestFrom_10 rfl rfl ?_
  refine ev_iaS (q := 12) a dX7_bestFrom_11 rfl rfl (by omega) (lt_n hn (by decide)) rfl ?_
  refine ev_ist_3 (q := 13) dX7_bestFrom_12 rfl rfl ?_
  refine ev_iconst (q := 14) (0) dX7_bestFrom_13 (by decide) rfl ?_
  refine ev_ist_4 (q := 16) dX7_bestFrom_14 rfl rfl ?_
  exact lp (3 ^ t) 0 (by omega) _ (by rfl) (by rfl) (by rfl) _ _
end MODEL9
end
section
def rowF (J : Nat → Nat → Int64) (t sl : Nat) (most : Int32) (f0 : Nat → Int32) : Nat → Nat → Int32
  | 0 => f0
  | i + 1 => fun w => bsV J t sl most (rowF J t sl most f0 i) w
def lastA (J : Nat → Nat → Int64) (t sl : Nat) (most what : Int32) (f : Nat → Int32) (he : Nat) : Int32 := if what = 0 then bsV J t sl most f he + 1000 else eoP (bsP J t sl most f he)
section MODEL10
variable {xl : Nat} {xs : Nat → Int32} {n : Nat} {h : Nat → PC} {I S : Nat → Nat → Int32} {J T : Nat → Nat → Int64} {X : Nat → Option Nat} {t sl wy wi he : Nat}
theorem inb_lo {v : Int32} {lo hi : Nat} (hh : hi < 2 ^ 30) (h : inb v (nI lo) (nI hi) = true) (hl : lo ≤ hi) : ∃ k, lo ≤ k ∧ k ≤ hi ∧ v = nI k := by
  simp only [inb, Bool.and_eq_true, decide_eq_true_eq] at h
  have h1 : (0 : Int32) ≤ nI lo := nI_pos' (by omega)
  obtain ⟨j, hj, e⟩ := nI_of (x := v) (by simp only [i_le, i_lt] at *; omega)
  refine ⟨j, ?_, ?_, e⟩
  · rw [e] at h; exact (nI_leI (by omega) hj).mp h.1
  · rw [e] at h; exact (nI_leI hj (by omega)).mp h.2
theorem s_X7_row (hn : 49 ≤ n) (hm : MI I t sl wy wi he) (kk most what : Int32) : RnS xl xs 3 73 0 0 mX7_row [.ref 33, .int kk, .int most, .int what] n I J X (some (.int (if inb kk 1 3 && (inb most 0 6 && inb what 0 1) then lastA J t sl most what (rowF J t sl most (wtF I t wi) (kk.toNatClampNeg - 1)) he else -2))) n I J X := by
  intro S T Q hQ
  have hm' := hm
  obtain ⟨ht, ht2, h6, hs, hs6, hwy, h3, hwi, h4, hhe, hhl⟩ := hm'
  have h64 := p2_le h6
  have h729 := p3_le h6
  show Ev xl xs 3 73 0 0 mX7_row 0 [some (.ref 33), some (.int kk), some (.int most), some (.int what), none, none] [] n (sysH (ov I S) (ovJ J T) X) Q
  cases hin : (inb kk 1 3 && (inb most 0 6 && inb what 0 1)) with
  | false =>
    rw [hin] at hQ
    refine ev_iload_n (q := 1) dX7_row_0 rfl rfl ?_
    refine ev_iconst (q := 2) (1) dX7_row_1 (by decide) rfl ?_
    refine ev_iconst (q := 3) (3) dX7_row_2 (by decide) rfl ?_
    refine ev_callS3i (q := 6) dX7_row_3 ca_X7_99 (c_X7_in _ _ _) (Nat.le_of_ble_eq_true rfl) (Nat.le_of_ble_eq_true rfl) (by decide) (by decide) rfl ?_
    refine ev_if_eq (q := 9) 28 dX7_row_6 (by decide) rfl (fun c_6 => ?_) (fun c_6 => ?_)
    · have c_6 := b2i_0.mp c_6
      refine ev_bipush (q := 30) (-2) dX7_row_28 (by decide) rfl ?_
      exact ev_iretE dX7_row_30 rfl rfl rfl rfl rfl (hQ _ _)
    · have c_6 := b2i_n0.mp c_6
      refine ev_iload_n (q := 10) dX7_row_9 rfl rfl ?_
      refine ev_iconst (q := 11) (0) dX7_row_10 (by decide) rfl ?_
      refine ev_bipush (q := 13) (6) dX7_row_11 (by decide) rfl ?_
      refine ev_callS3i (q := 16) dX7_row_13 ca_X7_99 (c_X7_in _ _ _) (Nat.le_of_ble_eq_true rfl) (Nat.le_of_ble_eq_true rfl) (by decide) (by decide) rfl ?_
      refine ev_if_eq (q := 19) 28 dX7_row_16 (by decide) rfl (fun c_16 => ?_) (fun c_16 => ?_)
      · have c_16 := b2i_0.mp c_16
        refine ev_bipush (q := 30) (-2) dX7_row_28 (by decide) rfl ?_
        exact ev_iretE dX7_row_30 rfl rfl rfl rfl rfl (hQ _ _)
      · have c_16 := b2i_n0.mp c_16
        refine ev_iload_n (q := 20) dX7_row_19 rfl rfl ?_
        refine ev_iconst (q := 21) (0) dX7_row_20 (by decide) rfl ?_
        refine ev_iconst (q := 22) (1) dX7_row_21 (by decide) rfl ?_
        refine ev_callS3i (q := 25) dX7_row_22 ca_X7_99 (c_X7_in _ _ _) (Nat.le_of_ble_eq_true rfl) (Nat.le_of_ble_eq_true rfl) (by decide) (by decide) rfl ?_
        refine ev_if_ne (q := 28) 31 dX7_row_25 (by decide) rfl (fun c_25 => ?_) (fun c_25 => ?_)
        · exact absurd (b2i_ne.mp c_25) (by rw [c_6, c_16, Bool.true_and, Bool.true_and] at hin; rw [hin]; decide)
        · refine ev_bipush (q := 30) (-2) dX7_row_28 (by decide) rfl ?_
          exact ev_iretE dX7_row_30 rfl rfl rfl rfl rfl (hQ _ _)
  | true =>
    rw [hin] at hQ
    have hin := Bool.and_eq_true_iff.mp hin
    have hin2 := Bool.and_eq_true_iff.mp hin.2
    obtain ⟨K, hK1, hK3, rfl⟩ := inb_lo (lo := 1) (hi := 3) (by decide) hin.1 (by decide)
    rw [nI_clamp (by omega)] at hQ
    have endL : ∀ S T a5, (∀ w, w < 2 ^ t → S 45 w = rowF J t sl most (wtF I t wi) (K - 1) w) → Ev xl xs 3 73 0 0 mX7_row 118 [some (.ref 33), some (.int (nI K)), some (.int most), some (.int what), some (.int (nI K)), a5] [] n (sysH (ov I S) (ovJ J T) X) Q := by
      intro S T a5 h45
      have e1 := bsV_congr (J := J) (t := t) (sl := sl) (a := he) (most := most) h45 hhl
      have e2 := bsP_congr (J := J) (t := t) (sl := sl) (a := he) (most := most) h45
      refine ev_aload_n (q := 119) dX7_row_118 rfl rfl ?_
      refine ev_aload_n (q := 120) dX7_row_119 rfl rfl ?_
      refine ev_get (q := 123) dX7_row_120 fr_X7_73 rfl (lt_n hn (by decide)) rfl rfl ?_
      rw [show ov I S 33 7 = nI he from hhe]
      refine ev_iload_n (q := 124) dX7_row_123 rfl rfl ?_
      refine ev_callV2iP (q := 127) dX7_row_124 ca_X7_217 (s_X7_bestFrom hn hm (by omega)) rfl (lt_n hn (by decide)) rfl rfl (Nat.le_of_ble_eq_true rfl) (Nat.le_of_ble_eq_true rfl) (by decide) (by decide) rfl (fun S T hp_124 => ?_)
      refine ev_ist_4 (q := 129) dX7_row_127 rfl rfl ?_
      obtain ⟨-, -, -, hb⟩ := hp_124
      refine ev_iload_n (q := 130) dX7_row_129 rfl rfl ?_
      refine ev_if_ne (q := 133) 142 dX7_row_130 (by decide) rfl (fun c_130 => ?_) (fun c_130 => ?_)
      · have c_130 : ¬ what = 0 := c_130
        refine ev_aload_n (q := 143) dX7_row_142 rfl rfl ?_
        refine ev_get (q := 146) dX7_row_143 fr_X7_210 rfl (lt_n hn (by decide)) rfl rfl ?_
        exact ev_iretE dX7_row_146 rfl rfl (by first | (simp only [lastA, c_130, if_true, if_false, e1]; done) | (simp only [lastA, c_130, if_true, if_false, ← e2]; exact hb)) rfl rfl (hQ _ _)
      · refine ev_iload (q := 135) dX7_row_133 rfl rfl ?_
        refine ev_sipush (q := 138) (1000) dX7_row_135 (by decide) rfl ?_
        refine ev_iadd (q := 139) dX7_row_138 rfl ?_
        refine ev_goto 146 dX7_row_139 (by decide) ?_
        exact ev_iretE dX7_row_146 rfl rfl (by first | (simp only [lastA, c_130, if_true, if_false, e1]; done) | (simp only [lastA, c_130, if_true, if_false, ← e2]; exact hb)) rfl rfl (hQ _ _)
    have in2 : ∀ i, (∀ S T a5, (∀ w, w < 2 ^ t → S 45 w = rowF J t sl most (wtF I t wi) i w) → Ev xl xs 3 73 0 0 mX7_row 112 [some (.ref 33), some (.int (nI K)), some (.int most), some (.int what), some (.int (nI i)), a5] [] n (sysH (ov I S) (ovJ J T) X) Q) → ∀ j k, k + j = 2 ^ t → ∀ S T, (∀ w, w < 2 ^ t → S 44 w = rowF J t sl most (wtF I t wi) i w) → (∀ w, w < k → S 45 w = rowF J t sl most (wtF I t wi) i w) → Ev xl xs 3 73 0 0 mX7_row 83 [some (.ref 33), some (.int (nI K)), some (.int most), some (.int what), some (.int (nI i)), some (.int (nI k))] [] n (sysH (ov I S) (ovJ J T) X) Q := by
      intro i hout j
      induction j using Nat.strongRecOn with
      | _ j ih =>
        intro k hk S T e44 e45
        refine ev_iload (q := 85) dX7_row_83 rfl rfl ?_
        refine ev_aload_n (q := 86) dX7_row_85 rfl rfl ?_
        refine ev_callV0i (q := 89) dX7_row_86 ca_X7_95 (s_X7_worlds hn hm) rfl (lt_n hn (by decide)) rfl rfl (Nat.le_of_ble_eq_true rfl) (Nat.le_of_ble_eq_true rfl) (by decide) (by decide) rfl ?_
        refine ev_icmp_ge (q := 92) 112 dX7_row_89 (by decide) rfl (fun c_89 => ?_) (fun c_89 => ?_)
        · have c_89 : 2 ^ t ≤ k := (nI_leI (by omega) (by omega)).mp c_89
          exact hout S T _ (fun w hw => e45 w (by omega))
        · have c_89 : ¬ 2 ^ t ≤ k := fun h => c_89 ((nI_leI (by omega) (by omega)).mpr h)
          refine ev_aload_n (q := 93) dX7_row_92 rfl rfl ?_
          refine ev_get (q := 96) dX7_row_93 fr_X7_49 rfl (lt_n hn (by decide)) rfl rfl ?_
          refine ev_iload (q := 98) dX7_row_96 rfl rfl ?_
          refine ev_aload_n (q := 99) dX7_row_98 rfl rfl ?_
          refine ev_get (q := 102) dX7_row_99 fr_X7_46 rfl (lt_n hn (by decide)) rfl rfl ?_
          refine ev_iload (q := 104) dX7_row_102 rfl rfl ?_
          refine ev_iaS (q := 105) _ dX7_row_104 rfl rfl (by omega) (lt_n hn (by decide)) rfl ?_
          first | refine ev_isK (q := 106) _ dX7_row_105 rfl rfl (by omega) (lt_n hn (by decide)) rfl rfl ?_ | refine ev_isR (q := 106) _ dX7_row_105 rfl rfl (by omega) (lt_n hn (by decide)) rfl rfl ?_
          refine ev_inc_5 (q := 109) (nI (k + 1)) dX7_row_106 (nI_1 k) rfl rfl ?_
          refine ev_goto 83 dX7_row_109 (by decide) ?_
          exact ih (j - 1) (by omega) (k + 1) (by omega) _ _ (by exact e44) (by intro w hw; by_cases hwk : w = k; (subst hwk; exact (pk_us).trans (e44 w (by omega))); exact (pk_un hwk).trans (e45 w (by omega)))
    have in1 : ∀ i, (∀ S T a5, (∀ w, w < 2 ^ t → S 45 w = rowF J t sl most (wtF I t wi) i w) → Ev xl xs 3 73 0 0 mX7_row 112 [some (.ref 33), some (.int (nI K)), some (.int most), some (.int what), some (.int (nI i)), a5] [] n (sysH (ov I S) (ovJ J T) X) Q) → 1 ≤ i → ∀ j k, k + j = 2 ^ t → ∀ S T, (∀ w, w < 2 ^ t → S 45 w = rowF J t sl most (wtF I t wi) (i - 1) w) → (∀ w, w < k → S 44 w = rowF J t sl most (wtF I t wi) i w) → Ev xl xs 3 73 0 0 mX7_row 51 [some (.ref 33), some (.int (nI K)), some (.int most), some (.int what), some (.int (nI i)), some (.int (nI k))] [] n (sysH (ov I S) (ovJ J T) X) Q := by
      intro i hout hi j
      induction j using Nat.strongRecOn with
      | _ j ih =>
        intro k hk S T e45 e44
        refine ev_iload (q := 53) dX7_row_51 rfl rfl ?_
        refine ev_aload_n (q := 54) dX7_row_53 rfl rfl ?_
        refine ev_callV0i (q := 57) dX7_row_54 ca_X7_95 (s_X7_worlds hn hm) rfl (lt_n hn (by decide)) rfl rfl (Nat.le_of_ble_eq_true rfl) (Nat.le_of_ble_eq_true rfl) (by decide) (by decide) rfl ?_
        refine ev_icmp_ge (q := 60) 80 dX7_row_57 (by decide) rfl (fun c_57 => ?_) (fun c_57 => ?_)
        · have c_57 : 2 ^ t ≤ k := (nI_leI (by omega) (by omega)).mp c_57
          refine ev_iconst (q := 81) (0) dX7_row_80 (by decide) rfl ?_
          refine ev_ist_5 (q := 83) dX7_row_81 rfl rfl ?_
          exact in2 i hout (2 ^ t) 0 (by omega) _ _ (fun w hw => e44 w (by omega)) (fun w hw => absurd hw (by omega))
        · have c_57 : ¬ 2 ^ t ≤ k := fun h => c_57 ((nI_leI (by omega) (by omega)).mpr h)
          refine ev_aload_n (q := 61) dX7_row_60 rfl rfl ?_
          refine ev_get (q := 64) dX7_row_61 fr_X7_46 rfl (lt_n hn (by decide)) rfl rfl ?_
          refine ev_iload (q := 66) dX7_row_64 rfl rfl ?_
          refine ev_aload_n (q := 67) dX7_row_66 rfl rfl ?_
          refine ev_iload (q := 69) dX7_row_67 rfl rfl ?_
          refine ev_iload_n (q := 70) dX7_row_69 rfl rfl ?_
          have hbv := bsV_congr (J := J) (t := t) (sl := sl) (a := k) (most := most) e45 (by omega)
          refine ev_callV2iP (q := 73) dX7_row_70 ca_X7_217 (s_X7_bestFrom hn hm (by omega)) rfl (lt_n hn (by decide)) rfl rfl (Nat.le_of_ble_eq_true rfl) (Nat.le_of_ble_eq_true rfl) (by decide) (by decide) rfl (fun S T hp_70 => ?_)
          obtain ⟨-, g44, g45, -⟩ := hp_70
          first | refine ev_isK (q := 74) _ dX7_row_73 rfl rfl (by omega) (lt_n hn (by decide)) rfl rfl ?_ | refine ev_isR (q := 74) _ dX7_row_73 rfl rfl (by omega) (lt_n hn (by decide)) rfl rfl ?_
          refine ev_inc_5 (q := 77) (nI (k + 1)) dX7_row_74 (nI_1 k) rfl rfl ?_
          refine ev_goto 51 dX7_row_77 (by decide) ?_
          exact ih (j - 1) (by omega) (k + 1) (by omega) _ _ (by intro w hw; exact (congrFun g45 w).trans (e45 w hw)) (by intro w hw; by_cases hwk : w = k; (subst hwk; refine (pk_us).trans (hbv.trans ?_); obtain ⟨i', rfl⟩ : ∃ i', i = i' + 1 := ⟨i - 1, by omega⟩; rfl); exact (pk_un hwk).trans ((congrFun g44 w).trans (e44 w (by omega))))
    have lp : ∀ j i, i + j = K → 1 ≤ i → ∀ S T a5, (∀ w, w < 2 ^ t → S 45 w = rowF J t sl most (wtF I t wi) (i - 1) w) → Ev xl xs 3 73 0 0 mX7_row 42 [some (.ref 33), some (.int (nI K)), some (.int most), some (.int what), some (.int (nI i)), a5] [] n (sysH (ov I S) (ovJ J T) X) Q := by
      intro j
      induction j using Nat.strongRecOn with
      | _ j ih =>
        intro i hi hi1 S T a5 e45
        have nx : ¬ K ≤ i → ∀ S T a5, (∀ w, w < 2 ^ t → S 45 w = rowF J t sl most (wtF I t wi) i w) → Ev xl xs 3 73 0 0 mX7_row 112 [some (.ref 33), some (.int (nI K)), some (.int most), some (.int what), some (.int (nI i)), a5] [] n (sysH (ov I S) (ovJ J T) X) Q := by
          intro hKi S T a5 e45
          refine ev_inc_4 (q := 115) (nI (i + 1)) dX7_row_112 (nI_1 i) rfl rfl ?_
          refine ev_goto 42 dX7_row_115 (by decide) ?_
          exact ih (j - 1) (by omega) (i + 1) (by omega) (by omega) _ _ _ (by exact e45)
        refine ev_iload (q := 44) dX7_row_42 rfl rfl ?_
        refine ev_iload_n (q := 45) dX7_row_44 rfl rfl ?_
        refine ev_icmp_ge (q := 48) 118 dX7_row_45 (by decide) rfl (fun c_45 => ?_) (fun c_45 => ?_)
        · have c_45 : K ≤ i := (nI_leI (by omega) (by omega)).mp c_45
          rw [show i = K by omega]
          exact endL _ _ _ (by rw [← show i = K by omega]; exact e45)
        · have c_45 : ¬ K ≤ i := fun h => c_45 ((nI_leI (by omega) (by omega)).mpr h)
          refine ev_iconst (q := 49) (0) dX7_row_48 (by decide) rfl ?_
          refine ev_ist_5 (q := 51) dX7_row_49 rfl rfl ?_
          exact in1 i (nx c_45) hi1 (2 ^ t) 0 (by omega) _ _ (by exact e45) (fun w hw => absurd hw (by omega))
    refine ev_iload_n (q := 1) dX7_row_0 rfl rfl ?_
    refine ev_iconst (q := 2) (1) dX7_row_1 (by decide) rfl ?_
    refine ev_iconst (q := 3) (3) dX7_row_2 (by decide) rfl ?_
    refine ev_callS3i (q := 6) dX7_row_3 ca_X7_99 (c_X7_in _ _ _) (Nat.le_of_ble_eq_true rfl) (Nat.le_of_ble_eq_true rfl) (by decide) (by decide) rfl ?_
    refine ev_if_eq (q := 9) 28 dX7_row_6 (by decide) rfl (fun c_6 => ?_) (fun c_6 => ?_)
    · exact absurd c_6 (b2i_n0.mpr hin.1)
    · refine ev_iload_n (q := 10) dX7_row_9 rfl rfl ?_
      refine ev_iconst (q := 11) (0) dX7_row_10 (by decide) rfl ?_
      refine ev_bipush (q := 13) (6) dX7_row_11 (by decide) rfl ?_
      refine ev_callS3i (q := 16) dX7_row_13 ca_X7_99 (c_X7_in _ _ _) (Nat.le_of_ble_eq_true rfl) (Nat.le_of_ble_eq_true rfl) (by decide) (by decide) rfl ?_
      refine ev_if_eq (q := 19) 28 dX7_row_16 (by decide) rfl (fun c_16 => ?_) (fun c_16 => ?_)
      · exact absurd c_16 (b2i_n0.mpr hin2.1)
      · refine ev_iload_n (q := 20) dX7_row_19 rfl rfl ?_
        refine ev_iconst (q := 21) (0) dX7_row_20 (by decide) rfl ?_
        refine ev_iconst (q := 22) (1) dX7_row_21 (by decide) rfl ?_
        refine ev_callS3i (q := 25) dX7_row_22 ca_X7_99 (c_X7_in _ _ _) (Nat.le_of_ble_eq_true rfl) (Nat.le_of_ble_eq_true rfl) (by decide) (by decide) rfl ?_
        refine ev_if_ne (q := 28) 31 dX7_row_25 (by decide) rfl (fun c_25 => ?_) (fun c_25 => ?_)
        · refine ev_aload_n (q := 32) dX7_row_31 rfl rfl ?_
          refine ev_aload_n (q := 33) dX7_row_32 rfl rfl ?_
          refine ev_get (q := 36) dX7_row_33 fr_X7_67 rfl (lt_n hn (by decide)) rfl rfl ?_
          rw [show ov I S 33 5 = nI wi from hwi]
          refine ev_callV1v (q := 39) dX7_row_36 ca_X7_214 (s_X7_layAhead hn hm (by omega)) rfl (lt_n hn (by decide)) rfl rfl (Nat.le_of_ble_eq_true rfl) (Nat.le_of_ble_eq_true rfl) (by decide) (by decide) rfl ?_
          refine ev_iconst (q := 40) (1) dX7_row_39 (by decide) rfl ?_
          refine ev_ist_4 (q := 42) dX7_row_40 rfl rfl ?_
          exact lp (K - 1) 1 (by omega) (by omega) _ _ _ (fun w hw => fillA_at hw)
        · exact absurd c_25 (b2i_n0.mpr hin2.2)
end MODEL10
end
section
theorem woF_at {J : Nat → Nat → Int64} {t sl a num : Nat} {f : Nat → Int32} : ∀ N, (upto (fun w x => if ktT J t sl num a w && decide (f w < x) then f w else x) N 1000000) = 1000000 ∨ ∃ w, w < N ∧ ktT J t sl num a w = true ∧ f w = upto (fun w x => if ktT J t sl num a w && decide (f w < x) then f w else x) N 1000000
  | 0 => Or.inl rfl
  | N + 1 => by
    have ih := woF_at (J := J) (t := t) (sl := sl) (a := a) (num := num) (f := f) N
    show (if ktT J t sl num a N && decide (f N < upto (fun w x => if ktT J t sl num a w && decide (f w < x) then f w else x) N 1000000) then f N else upto (fun w x => if ktT J t sl num a w && decide (f w < x) then f w else x) N 1000000) = 1000000 ∨ ∃ w, w < N + 1 ∧ ktT J t sl num a w = true ∧ f w = (if ktT J t sl num a N && decide (f N < upto (fun w x => if ktT J t sl num a w && decide (f w < x) then f w else x) N 1000000) then f N else upto (fun w x => if ktT J t sl num a w && decide (f w < x) then f w else x) N 1000000)
    split
    · rename_i hc
      exact Or.inr ⟨N, by omega, (Bool.and_eq_true_iff.mp hc).1, rfl⟩
    · rcases ih with h | ⟨w, h1, h2, h3⟩
      · exact Or.inl h
      · exact Or.inr ⟨w, by omega, h2, h3⟩
theorem pickB_own {better : Nat → Int32 → Nat → Int32 → Bool} {own : Nat → Option Int32} : ∀ k v b, upto (pickB better own) k none = some (v, b) → own v = some b
  | 0, v, b, h => by cases h
  | k + 1, v, b, h => by
    have ih := pickB_own (better := better) (own := own) k
    have h : pickB better own k (upto (pickB better own) k none) = some (v, b) := h
    generalize upto (pickB better own) k none = o at h ih
    unfold pickB at h
    split at h
    · exact ih v b h
    · rename_i o' ho'
      cases o with
      | none => cases h; exact ho'
      | some u =>
        obtain ⟨u, c⟩ := u
        dsimp only at h
        split at h
        · cases h; exact ho'
        · cases h; exact ih _ _ rfl
theorem bsP_own {J : Nat → Nat → Int64} {t sl a u : Nat} {most b : Int32} {f : Nat → Int32} (h : bsP J t sl most f a = some (u, b)) : u < 3 ^ t ∧ ∃ w, w < 2 ^ t ∧ ktT J t sl u a w = true ∧ f w = b := by
  refine ⟨pickB_lt _ _ _ h, ?_⟩
  have ho := pickB_own _ _ _ h
  unfold ownB at ho
  split at ho
  · split at ho
    · rename_i hlt
      cases ho
      rcases woF_at (J := J) (t := t) (sl := sl) (a := a) (num := u) (f := f) (2 ^ t) with e | e
      · exact absurd hlt (by unfold woF; rw [e]; decide)
      · exact e
    · cases ho
  · cases ho
/-- the first world that keeps the term and is worth so much -/
def fiF (J : Nat → Nat → Int64) (t sl a u : Nat) (b : Int32) (f : Nat → Int32) : Nat → Option Nat → Option Nat := fun w o => match o with
  | none => if ktT J t sl u a w && decide (f w = b) then some w else none
  | some v => some v
theorem fiF_lt {J : Nat → Nat → Int64} {t sl a u : Nat} {b : Int32} {f : Nat → Int32} : ∀ N v, upto (fiF J t sl a u b f) N none = some v → v < N
  | 0, v, h => by cases h
  | N + 1, v, h => by
    have ih := fiF_lt (J := J) (t := t) (sl := sl) (a := a) (u := u) (b := b) (f := f) N
    have h : fiF J t sl a u b f N (upto (fiF J t sl a u b f) N none) = some v := h
    generalize upto (fiF J t sl a u b f) N none = o at h ih
    cases o with
    | none =>
      unfold fiF at h
      dsimp only at h
      split at h
      · cases h; omega
      · cases h
    | some w =>
      cases h
      have := ih _ rfl
      omega
theorem fiF_some {J : Nat → Nat → Int64} {t sl a u : Nat} {b : Int32} {f : Nat → Int32} : ∀ N w, w < N → ktT J t sl u a w = true → f w = b → upto (fiF J t sl a u b f) N none ≠ none
  | 0, w, h, _, _ => absurd h (by omega)
  | N + 1, w, h, h1, h2 => by
    have ih := fiF_some (J := J) (t := t) (sl := sl) (a := a) (u := u) (b := b) (f := f) N w
    show fiF J t sl a u b f N (upto (fiF J t sl a u b f) N none) ≠ none
    cases ho : upto (fiF J t sl a u b f) N none with
    | some v => simp [fiF]
    | none =>
      have : w = N := by
        by_cases hw : w < N
        · exact absurd ho (ih hw h1 h2)
        · omega
      subst this
      simp [fiF, h1, h2]
theorem fiF_congr {J : Nat → Nat → Int64} {t sl a u : Nat} {b : Int32} {f g : Nat → Int32} {N : Nat} (h : ∀ w, w < N → f w = g w) : upto (fiF J t sl a u b f) N none = upto (fiF J t sl a u b g) N none := upto_congr (fun w hw x => by simp only [fiF, h w hw])
/-- where the other's wish ends -/
def toF (J : Nat → Nat → Int64) (t sl : Nat) (most : Int32) (f : Nat → Int32) (a : Nat) : Nat := match bsP J t sl most f a with
  | none => a
  | some p => (upto (fiF J t sl a p.1 p.2 f) (2 ^ t) none).getD 0
section MODEL11
variable {xl : Nat} {xs : Nat → Int32} {n : Nat} {h : Nat → PC} {I S : Nat → Nat → Int32} {J T : Nat → Nat → Int64} {X : Nat → Option Nat} {t sl wy wi he : Nat}
theorem s_X7_lamps (hn : 49 ≤ n) (hm : MI I t sl wy wi he) (c most what : Int32) : RnS xl xs 3 73 0 0 mX7_lamps [.ref 33, .int c, .int most, .int what] n I J X (some (.int (if inb c 0 3 && decide (c ≠ nI wi) then (if inb most 0 6 && inb what 0 1 then lastA J t sl most what (fun w => wtF I t wi (toF J t sl most (wtF I t c.toNatClampNeg) w)) he else -2) else -1))) n I J X := by
  intro S T Q hQ
  have hm' := hm
  obtain ⟨ht, ht2, h6, hs, hs6, hwy, h3, hwi, h4, hhe, hhl⟩ := hm'
  have h64 := p2_le h6
  have h729 := p3_le h6
  show Ev xl xs 3 73 0 0 mX7_lamps 0 [some (.ref 33), some (.int c), some (.int most), some (.int what), none, none, none, none] [] n (sysH (ov I S) (ovJ J T) X) Q
  cases hin0 : (inb c 0 3 && decide (c ≠ nI wi)) with
  | false =>
    rw [hin0] at hQ
    refine ev_iload_n (q := 1) dX7_lamps_0 rfl rfl ?_
    refine ev_callS1i (q := 4) dX7_lamps_1 ca_X7_103 (c_X7_isCousin _) (Nat.le_of_ble_eq_true rfl) (Nat.le_of_ble_eq_true rfl) (by decide) (by decide) rfl ?_
    refine ev_if_eq (q := 7) 15 dX7_lamps_4 (by decide) rfl (fun c_4 => ?_) (fun c_4 => ?_)
    · have c_4 := b2i_0.mp c_4
      refine ev_iconst (q := 16) (-1) dX7_lamps_15 (by decide) rfl ?_
      exact ev_iretE dX7_lamps_16 rfl rfl rfl rfl rfl (hQ _ _)
    · have c_4 := b2i_n0.mp c_4
      refine ev_iload_n (q := 8) dX7_lamps_7 rfl rfl ?_
      refine ev_aload_n (q := 9) dX7_lamps_8 rfl rfl ?_
      refine ev_get (q := 12) dX7_lamps_9 fr_X7_67 rfl (lt_n hn (by decide)) rfl rfl ?_
      rw [show ov I S 33 5 = nI wi from hwi]
      refine ev_icmp_ne (q := 15) 17 dX7_lamps_12 (by decide) rfl (fun c_12 => ?_) (fun c_12 => ?_)
      · exact absurd hin0 (by rw [c_4, Bool.true_and]; simp [show ¬ c = nI wi from c_12])
      · refine ev_iconst (q := 16) (-1) dX7_lamps_15 (by decide) rfl ?_
        exact ev_iretE dX7_lamps_16 rfl rfl rfl rfl rfl (hQ _ _)
  | true =>
    rw [hin0] at hQ
    have hin0 := Bool.and_eq_true_iff.mp hin0
    have hcw : c ≠ nI wi := of_decide_eq_true hin0.2
    cases hin : (inb most 0 6 && inb what 0 1) with
    | false =>
      rw [hin] at hQ
      refine ev_iload_n (q := 1) dX7_lamps_0 rfl rfl ?_
      refine ev_callS1i (q := 4) dX7_lamps_1 ca_X7_103 (c_X7_isCousin _) (Nat.le_of_ble_eq_true rfl) (Nat.le_of_ble_eq_true rfl) (by decide) (by decide) rfl ?_
      refine ev_if_eq (q := 7) 15 dX7_lamps_4 (by decide) rfl (fun c_4 => ?_) (fun c_4 => ?_)
      · exact absurd c_4 (b2i_n0.mpr hin0.1)
      · refine ev_iload_n (q := 8) dX7_lamps_7 rfl rfl ?_
        refine ev_aload_n (q := 9) dX7_lamps_8 rfl rfl ?_
        refine ev_get (q := 12) dX7_lamps_9 fr_X7_67 rfl (lt_n hn (by decide)) rfl rfl ?_
        rw [show ov I S 33 5 = nI wi from hwi]
        refine ev_icmp_ne (q := 15) 17 dX7_lamps_12 (by decide) rfl (fun c_12 => ?_) (fun c_12 => ?_)
        · refine ev_iload_n (q := 18) dX7_lamps_17 rfl rfl ?_
          refine ev_iconst (q := 19) (0) dX7_lamps_18 (by decide) rfl ?_
          refine ev_bipush (q := 21) (6) dX7_lamps_19 (by decide) rfl ?_
          refine ev_callS3i (q := 24) dX7_lamps_21 ca_X7_99 (c_X7_in _ _ _) (Nat.le_of_ble_eq_true rfl) (Nat.le_of_ble_eq_true rfl) (by decide) (by decide) rfl ?_
          refine ev_if_eq (q := 27) 36 dX7_lamps_24 (by decide) rfl (fun c_24 => ?_) (fun c_24 => ?_)
          · have c_24 := b2i_0.mp c_24
            refine ev_bipush (q := 38) (-2) dX7_lamps_36 (by decide) rfl ?_
            exact ev_iretE dX7_lamps_38 rfl rfl rfl rfl rfl (hQ _ _)
          · have c_24 := b2i_n0.mp c_24
            refine ev_iload_n (q := 28) dX7_lamps_27 rfl rfl ?_
            refine ev_iconst (q := 29) (0) dX7_lamps_28 (by decide) rfl ?_
            refine ev_iconst (q := 30) (1) dX7_lamps_29 (by decide) rfl ?_
            refine ev_callS3i (q := 33) dX7_lamps_30 ca_X7_99 (c_X7_in _ _ _) (Nat.le_of_ble_eq_true rfl) (Nat.le_of_ble_eq_true rfl) (by decide) (by decide) rfl ?_
            refine ev_if_ne (q := 36) 39 dX7_lamps_33 (by decide) rfl (fun c_33 => ?_) (fun c_33 => ?_)
            · exact absurd (b2i_ne.mp c_33) (by rw [c_24, Bool.true_and] at hin; rw [hin]; decide)
            · refine ev_bipush (q := 38) (-2) dX7_lamps_36 (by decide) rfl ?_
              exact ev_iretE dX7_lamps_38 rfl rfl rfl rfl rfl (hQ _ _)
        · exact absurd c_12 hcw
    | true =>
      rw [hin] at hQ
      have hin := Bool.and_eq_true_iff.mp hin
      obtain ⟨C, -, hC3, rfl⟩ := inb_lo (lo := 0) (hi := 3) (by decide) hin0.1 (by decide)
      rw [nI_clamp (by omega)] at hQ
      have endL : ∀ S T a4 a5 a6 a7, (∀ w, w < 2 ^ t → S 45 w = wtF I t wi (toF J t sl most (wtF I t C) w)) → Ev xl xs 3 73 0 0 mX7_lamps 198 [some (.ref 33), some (.int (nI C)), some (.int most), some (.int what), a4, a5, a6, a7] [] n (sysH (ov I S) (ovJ J T) X) Q := by
        intro S T a4 a5 a6 a7 h45
        have e1 := bsV_congr (J := J) (t := t) (sl := sl) (a := he) (most := most) h45 hhl
        have e2 := bsP_congr (J := J) (t := t) (sl := sl) (a := he) (most := most) h45
        refine ev_aload_n (q := 199) dX7_lamps_198 rfl rfl ?_
        refine ev_aload_n (q := 200) dX7_lamps_199 rfl rfl ?_
        refine ev_get (q := 203) dX7_lamps_200 fr_X7_73 rfl (lt_n hn (by decide)) rfl rfl ?_
        rw [show ov I S 33 7 = nI he from hhe]
        refine ev_iload_n (q := 204) dX7_lamps_203 rfl rfl ?_
        refine ev_callV2iP (q := 207) dX7_lamps_204 ca_X7_217 (s_X7_bestFrom hn hm (by omega)) rfl (lt_n hn (by decide)) rfl rfl (Nat.le_of_ble_eq_true rfl) (Nat.le_of_ble_eq_true rfl) (by decide) (by decide) rfl (fun S T hp_204 => ?_)
        refine ev_ist_4 (q := 209) dX7_lamps_207 rfl rfl ?_
        obtain ⟨-, -, -, hb⟩ := hp_204
        refine ev_iload_n (q := 210) dX7_lamps_209 rfl rfl ?_
        refine ev_if_ne (q := 213) 222 dX7_lamps_210 (by decide) rfl (fun c_210 => ?_) (fun c_210 => ?_)
        · have c_210 : ¬ what = 0 := c_210
          refine ev_aload_n (q := 223) dX7_lamps_222 rfl rfl ?_
          refine ev_get (q := 226) dX7_lamps_223 fr_X7_210 rfl (lt_n hn (by decide)) rfl rfl ?_
          exact ev_iretE dX7_lamps_226 rfl rfl (by first | (simp only [lastA, c_210, if_true, if_false, e1]; done) | (simp only [lastA, c_210, if_true, if_false, ← e2]; exact hb)) rfl rfl (hQ _ _)
        · refine ev_iload (q := 215) dX7_lamps_213 rfl rfl ?_
          refine ev_sipush (q := 218) (1000) dX7_lamps_215 (by decide) rfl ?_
          refine ev_iadd (q := 219) dX7_lamps_218 rfl ?_
          refine ev_goto 226 dX7_lamps_219 (by decide) ?_
          exact ev_iretE dX7_lamps_226 rfl rfl (by first | (simp only [lastA, c_210, if_true, if_false, e1]; done) | (simp only [lastA, c_210, if_true, if_false, ← e2]; exact hb)) rfl rfl (hQ _ _)
      have in2 : ∀ j k, k + j = 2 ^ t → ∀ S T a5 a6 a7, (∀ w, w < 2 ^ t → S 44 w = wtF I t wi (toF J t sl most (wtF I t C) w)) → (∀ w, w < k → S 45 w = wtF I t wi (toF J t sl most (wtF I t C) w)) → Ev xl xs 3 73 0 0 mX7_lamps 169 [some (.ref 33), some (.int (nI C)), some (.int most), some (.int what), some (.int (nI k)), a5, a6, a7] [] n (sysH (ov I S) (ovJ J T) X) Q := by
        intro j
        induction j using Nat.strongRecOn with
        | _ j ih =>
          intro k hk S T a5 a6 a7 e44 e45
          refine ev_iload (q := 171) dX7_lamps_169 rfl rfl ?_
          refine ev_aload_n (q := 172) dX7_lamps_171 rfl rfl ?_
          refine ev_callV0i (q := 175) dX7_lamps_172 ca_X7_95 (s_X7_worlds hn hm) rfl (lt_n hn (by decide)) rfl rfl (Nat.le_of_ble_eq_true rfl) (Nat.le_of_ble_eq_true rfl) (by decide) (by decide) rfl ?_
          refine ev_icmp_ge (q := 178) 198 dX7_lamps_175 (by decide) rfl (fun c_175 => ?_) (fun c_175 => ?_)
          · have c_175 : 2 ^ t ≤ k := (nI_leI (by omega) (by omega)).mp c_175
            exact endL S T _ _ _ _ (fun w hw => e45 w (by omega))
          · have c_175 : ¬ 2 ^ t ≤ k := fun h => c_175 ((nI_leI (by omega) (by omega)).mpr h)
            refine ev_aload_n (q := 179) dX7_lamps_178 rfl rfl ?_
            refine ev_get (q := 182) dX7_lamps_179 fr_X7_49 rfl (lt_n hn (by decide)) rfl rfl ?_
            refine ev_iload (q := 184) dX7_lamps_182 rfl rfl ?_
            refine ev_aload_n (q := 185) dX7_lamps_184 rfl rfl ?_
            refine ev_get (q := 188) dX7_lamps_185 fr_X7_46 rfl (lt_n hn (by decide)) rfl rfl ?_
            refine ev_iload (q := 190) dX7_lamps_188 rfl rfl ?_
            refine ev_iaS (q := 191) _ dX7_lamps_190 rfl rfl (by omega) (lt_n hn (by decide)) rfl ?_
            first | refine ev_isK (q := 192) _ dX7_lamps_191 rfl rfl (by omega) (lt_n hn (by decide)) rfl rfl ?_ | refine ev_isR (q := 192) _ dX7_lamps_191 rfl rfl (by omega) (lt_n hn (by decide)) rfl rfl ?_
            refine ev_inc_4 (q := 195) (nI (k + 1)) dX7_lamps_192 (nI_1 k) rfl rfl ?_
            refine ev_goto 169 dX7_lamps_195 (by decide) ?_
            exact ih (j - 1) (by omega) (k + 1) (by omega) _ _ _ _ _ (by exact e44) (by intro w hw; by_cases hwk : w = k; (subst hwk; exact (pk_us).trans (e44 w (by omega))); exact (pk_un hwk).trans (e45 w (by omega)))
      have in0 : ∀ (k u : Nat) (b : Int32) (S' : Nat → Nat → Int32) (T' : Nat → Nat → Int64), k < 2 ^ t → u < 3 ^ t → (∀ w, w < 2 ^ t → S' 45 w = wtF I t C w) → S' 33 21 = nI (tmask 1 t u t) → S' 33 22 = nI (tmask 2 t u t) → (∀ a7, Ev xl xs 3 73 0 0 mX7_lamps 143 [some (.ref 33), some (.int (nI C)), some (.int most), some (.int what), some (.int (nI k)), some (.int b), some (.int (eo (upto (fiF J t sl k u b (wtF I t C)) (2 ^ t) none))), a7] [] n (sysH (ov I S') (ovJ J T') X) Q) → ∀ j w, w + j = 2 ^ t → Ev xl xs 3 73 0 0 mX7_lamps 91 [some (.ref 33), some (.int (nI C)), some (.int most), some (.int what), some (.int (nI k)), some (.int b), some (.int (eo (upto (fiF J t sl k u b (wtF I t C)) w none))), some (.int (nI w))] [] n (sysH (ov I S') (ovJ J T') X) Q := by
        intro k u b S' T' hk hu e45 e21 e22 hout j
        have hy6 := tmask_lt 1 t u h6 t (by omega)
        have hz6 := tmask_lt 2 t u h6 t (by omega)
        induction j using Nat.strongRecOn with
        | _ j ih =>
          intro w hw
          have hlt := fiF_lt (J := J) (t := t) (sl := sl) (a := k) (u := u) (b := b) (f := wtF I t C) w
          cases ho : upto (fiF J t sl k u b (wtF I t C)) w none with
          | none =>
            refine ev_iload (q := 93) dX7_lamps_91 rfl rfl ?_
            refine ev_aload_n (q := 94) dX7_lamps_93 rfl rfl ?_
            refine ev_callV0i (q := 97) dX7_lamps_94 ca_X7_95 (s_X7_worlds hn hm) rfl (lt_n hn (by decide)) rfl rfl (Nat.le_of_ble_eq_true rfl) (Nat.le_of_ble_eq_true rfl) (by decide) (by decide) rfl ?_
            refine ev_icmp_ge (q := 100) 143 dX7_lamps_97 (by decide) rfl (fun c_97 => ?_) (fun c_97 => ?_)
            · have c_97 : 2 ^ t ≤ w := (nI_leI (by omega) (by omega)).mp c_97
              have hk2 : w = 2 ^ t := by omega
              subst hk2
              have e := hout (some (.int (nI (2 ^ t))))
              rw [ho] at e
              exact e
            · have c_97 : ¬ 2 ^ t ≤ w := fun h => c_97 ((nI_leI (by omega) (by omega)).mpr h)
              refine ev_iload (q := 102) dX7_lamps_100 rfl rfl ?_
              refine ev_if_ge (q := 105) 133 dX7_lamps_102 (by decide) rfl (fun c_102 => ?_) (fun c_102 => ?_)
              · exact absurd c_102 (by decide)
              · refine ev_aload_n (q := 106) dX7_lamps_105 rfl rfl ?_
                refine ev_iload (q := 108) dX7_lamps_106 rfl rfl ?_
                refine ev_iload (q := 110) dX7_lamps_108 rfl rfl ?_
                refine ev_callV2i (q := 113) dX7_lamps_110 ca_X7_194 (c_X7_keepsTerm (I := ov I S') (y := tmask 1 t u t) (z := tmask 2 t u t) (sl := sl) hn e21 e22 hs hy6 hz6 hs6 (by omega) (by omega)) rfl (lt_n hn (by decide)) rfl rfl (Nat.le_of_ble_eq_true rfl) (Nat.le_of_ble_eq_true rfl) (by decide) (by decide) rfl ?_
                refine ev_if_eq (q := 116) 133 dX7_lamps_113 (by decide) rfl (fun c_113 => ?_) (fun c_113 => ?_)
                · have c_113 : ktT J t sl u k w = false := b2i_0.mp c_113
                  refine ev_iload (q := 135) dX7_lamps_133 rfl rfl ?_
                  refine ev_ist_6 (q := 137) dX7_lamps_135 rfl rfl ?_
                  refine ev_inc_7 (q := 140) (nI (w + 1)) dX7_lamps_137 (nI_1 w) rfl rfl ?_
                  refine ev_goto 91 dX7_lamps_140 (by decide) ?_
                  have e := ih (j - 1) (by omega) (w + 1) (by omega)
                  first | (simp only [upto, ho, fiF, c_113, c_125, decide_true, decide_false, Bool.and_true, Bool.and_false, if_true, if_false, Bool.false_eq_true] at e; exact e) | (simp only [upto, ho, fiF, c_113, Bool.false_and, if_false, Bool.false_eq_true] at e; exact e)
                · have c_113 : ktT J t sl u k w = true := b2i_n0.mp c_113
                  refine ev_aload_n (q := 117) dX7_lamps_116 rfl rfl ?_
                  refine ev_get (q := 120) dX7_lamps_117 fr_X7_49 rfl (lt_n hn (by decide)) rfl rfl ?_
                  refine ev_iload (q := 122) dX7_lamps_120 rfl rfl ?_
                  refine ev_iaS (q := 123) _ dX7_lamps_122 rfl rfl (by omega) (lt_n hn (by decide)) rfl ?_
                  rw [show ov I S' 45 w = wtF I t C w from e45 w (by omega)]
                  refine ev_iload (q := 125) dX7_lamps_123 rfl rfl ?_
                  refine ev_icmp_ne (q := 128) 133 dX7_lamps_125 (by decide) rfl (fun c_125 => ?_) (fun c_125 => ?_)
                  · have c_125 : ¬ wtF I t C w = b := c_125
                    refine ev_iload (q := 135) dX7_lamps_133 rfl rfl ?_
                    refine ev_ist_6 (q := 137) dX7_lamps_135 rfl rfl ?_
                    refine ev_inc_7 (q := 140) (nI (w + 1)) dX7_lamps_137 (nI_1 w) rfl rfl ?_
                    refine ev_goto 91 dX7_lamps_140 (by decide) ?_
                    have e := ih (j - 1) (by omega) (w + 1) (by omega)
                    first | (simp only [upto, ho, fiF, c_113, c_125, decide_true, decide_false, Bool.and_true, Bool.and_false, if_true, if_false, Bool.false_eq_true] at e; exact e) | (simp only [upto, ho, fiF, c_113, Bool.false_and, if_false, Bool.false_eq_true] at e; exact e)
                  · have c_125 : wtF I t C w = b := c_125
                    refine ev_iload (q := 130) dX7_lamps_128 rfl rfl ?_
                    refine ev_goto 135 dX7_lamps_130 (by decide) ?_
                    refine ev_ist_6 (q := 137) dX7_lamps_135 rfl rfl ?_
                    refine ev_inc_7 (q := 140) (nI (w + 1)) dX7_lamps_137 (nI_1 w) rfl rfl ?_
                    refine ev_goto 91 dX7_lamps_140 (by decide) ?_
                    have e := ih (j - 1) (by omega) (w + 1) (by omega)
                    first | (simp only [upto, ho, fiF, c_113, c_125, decide_true, decide_false, Bool.and_true, Bool.and_false, if_true, if_false, Bool.false_eq_true] at e; exact e) | (simp only [upto, ho, fiF, c_113, Bool.false_and, if_false, Bool.false_eq_true] at e; exact e)
          | some v =>
            have hv := hlt v ho
            refine ev_iload (q := 93) dX7_lamps_91 rfl rfl ?_
            refine ev_aload_n (q := 94) dX7_lamps_93 rfl rfl ?_
            refine ev_callV0i (q := 97) dX7_lamps_94 ca_X7_95 (s_X7_worlds hn hm) rfl (lt_n hn (by decide)) rfl rfl (Nat.le_of_ble_eq_true rfl) (Nat.le_of_ble_eq_true rfl) (by decide) (by decide) rfl ?_
            refine ev_icmp_ge (q := 100) 143 dX7_lamps_97 (by decide) rfl (fun c_97 => ?_) (fun c_97 => ?_)
            · have c_97 : 2 ^ t ≤ w := (nI_leI (by omega) (by omega)).mp c_97
              have hk2 : w = 2 ^ t := by omega
              subst hk2
              have e := hout (some (.int (nI (2 ^ t))))
              rw [ho] at e
              exact e
            · have c_97 : ¬ 2 ^ t ≤ w := fun h => c_97 ((nI_leI (by omega) (by omega)).mpr h)
              refine ev_iload (q := 102) dX7_lamps_100 rfl rfl ?_
              refine ev_if_ge (q := 105) 133 dX7_lamps_102 (by decide) rfl (fun c_102 => ?_) (fun c_102 => ?_)
              · refine ev_iload (q := 135) dX7_lamps_133 rfl rfl ?_
                refine ev_ist_6 (q := 137) dX7_lamps_135 rfl rfl ?_
                refine ev_inc_7 (q := 140) (nI (w + 1)) dX7_lamps_137 (nI_1 w) rfl rfl ?_
                refine ev_goto 91 dX7_lamps_140 (by decide) ?_
                have e := ih (j - 1) (by omega) (w + 1) (by omega)
                simp only [upto, ho, fiF] at e
                exact e
              · exact absurd (nI_pos' (by omega)) c_102
      have lp : ∀ j k, k + j = 2 ^ t → ∀ S T a5 a6 a7, (∀ w, w < 2 ^ t → S 45 w = wtF I t C w) → (∀ w, w < k → S 44 w = wtF I t wi (toF J t sl most (wtF I t C) w)) → Ev xl xs 3 73 0 0 mX7_lamps 47 [some (.ref 33), some (.int (nI C)), some (.int most), some (.int what), some (.int (nI k)), a5, a6, a7] [] n (sysH (ov I S) (ovJ J T) X) Q := by
        intro j
        induction j using Nat.strongRecOn with
        | _ j ih =>
          intro k hk S T a5 a6 a7 e45 e44
          have tl : ¬ 2 ^ t ≤ k → ∀ S T a5 a7 v, v = toF J t sl most (wtF I t C) k → v < 2 ^ t → (∀ w, w < 2 ^ t → S 45 w = wtF I t C w) → (∀ w, w < k → S 44 w = wtF I t wi (toF J t sl most (wtF I t C) w)) → Ev xl xs 3 73 0 0 mX7_lamps 143 [some (.ref 33), some (.int (nI C)), some (.int most), some (.int what), some (.int (nI k)), a5, some (.int (nI v)), a7] [] n (sysH (ov I S) (ovJ J T) X) Q := by
            intro hkt S T a5 a7 v hv hvt e45 e44
            refine ev_aload_n (q := 144) dX7_lamps_143 rfl rfl ?_
            refine ev_get (q := 147) dX7_lamps_144 fr_X7_46 rfl (lt_n hn (by decide)) rfl rfl ?_
            refine ev_iload (q := 149) dX7_lamps_147 rfl rfl ?_
            refine ev_aload_n (q := 150) dX7_lamps_149 rfl rfl ?_
            refine ev_aload_n (q := 151) dX7_lamps_150 rfl rfl ?_
            refine ev_get (q := 154) dX7_lamps_151 fr_X7_67 rfl (lt_n hn (by decide)) rfl rfl ?_
            rw [show ov I S 33 5 = nI wi from hwi]
            refine ev_iload (q := 156) dX7_lamps_154 rfl rfl ?_
            refine ev_callV2i (q := 159) dX7_lamps_156 ca_X7_117 (s_X7_worthTo hn hm (by omega) (by omega)) rfl (lt_n hn (by decide)) rfl rfl (Nat.le_of_ble_eq_true rfl) (Nat.le_of_ble_eq_true rfl) (by decide) (by decide) rfl ?_
            first | refine ev_isK (q := 160) _ dX7_lamps_159 rfl rfl (by omega) (lt_n hn (by decide)) rfl rfl ?_ | refine ev_isR (q := 160) _ dX7_lamps_159 rfl rfl (by omega) (lt_n hn (by decide)) rfl rfl ?_
            refine ev_inc_4 (q := 163) (nI (k + 1)) dX7_lamps_160 (nI_1 k) rfl rfl ?_
            refine ev_goto 47 dX7_lamps_163 (by decide) ?_
            exact ih (j - 1) (by omega) (k + 1) (by omega) _ _ _ _ _ (by exact e45) (by intro w hw; by_cases hwk : w = k; (subst hwk; refine (pk_us).trans ?_; rw [hv]); exact (pk_un hwk).trans (e44 w (by omega)))
          have hbp := bsP_congr (J := J) (t := t) (sl := sl) (a := k) (most := most) e45
          cases hb : bsP J t sl most (wtF I t C) k with
          | none =>
            rw [hb] at hbp
            refine ev_iload (q := 49) dX7_lamps_47 rfl rfl ?_
            refine ev_aload_n (q := 50) dX7_lamps_49 rfl rfl ?_
            refine ev_callV0i (q := 53) dX7_lamps_50 ca_X7_95 (s_X7_worlds hn hm) rfl (lt_n hn (by decide)) rfl rfl (Nat.le_of_ble_eq_true rfl) (Nat.le_of_ble_eq_true rfl) (by decide) (by decide) rfl ?_
            refine ev_icmp_ge (q := 56) 166 dX7_lamps_53 (by decide) rfl (fun c_53 => ?_) (fun c_53 => ?_)
            · have c_53 : 2 ^ t ≤ k := (nI_leI (by omega) (by omega)).mp c_53
              refine ev_iconst (q := 167) (0) dX7_lamps_166 (by decide) rfl ?_
              refine ev_ist_4 (q := 169) dX7_lamps_167 rfl rfl ?_
              exact in2 (2 ^ t) 0 (by omega) _ _ _ _ _ (fun w hw => e44 w (by omega)) (fun w hw => absurd hw (by omega))
            · have c_53 : ¬ 2 ^ t ≤ k := fun h => c_53 ((nI_leI (by omega) (by omega)).mpr h)
              refine ev_aload_n (q := 57) dX7_lamps_56 rfl rfl ?_
              refine ev_iload (q := 59) dX7_lamps_57 rfl rfl ?_
              refine ev_iload_n (q := 60) dX7_lamps_59 rfl rfl ?_
              refine ev_callV2iP (q := 63) dX7_lamps_60 ca_X7_217 (s_X7_bestFrom hn hm (by omega)) rfl (lt_n hn (by decide)) rfl rfl (Nat.le_of_ble_eq_true rfl) (Nat.le_of_ble_eq_true rfl) (by decide) (by decide) rfl (fun S T hp_60 => ?_)
              obtain ⟨-, g44, g45, g25⟩ := hp_60
              rw [hbp] at g25
              refine ev_ist_5 (q := 65) dX7_lamps_63 rfl rfl ?_
              refine ev_iload (q := 67) dX7_lamps_65 rfl rfl ?_
              refine ev_ist_6 (q := 69) dX7_lamps_67 rfl rfl ?_
              refine ev_aload_n (q := 70) dX7_lamps_69 rfl rfl ?_
              refine ev_get (q := 73) dX7_lamps_70 fr_X7_210 rfl (lt_n hn (by decide)) rfl rfl ?_
              rw [show ov I S 33 25 = -6 from g25]
              refine ev_if_lt (q := 76) 143 dX7_lamps_73 (by decide) rfl (fun c_73 => ?_) (fun c_73 => ?_)
              · exact tl c_53 S T _ _ k (by simp only [toF, hb]) (by omega) (by intro w hw; exact (congrFun g45 w).trans (e45 w hw)) (by intro w hw; exact (congrFun g44 w).trans (e44 w hw))
              · exact absurd neg6 c_73
          | some p =>
            obtain ⟨u, b⟩ := p
            obtain ⟨hu, w0, hw0, hk0, hf0⟩ := bsP_own hb
            have hns := fiF_some (J := J) (t := t) (sl := sl) (a := k) (u := u) (b := b) (f := wtF I t C) (2 ^ t) w0 hw0 hk0 hf0
            obtain ⟨v, hv⟩ := Option.ne_none_iff_exists'.mp hns
            have hvt := fiF_lt _ _ hv
            have htf : v = toF J t sl most (wtF I t C) k := by simp only [toF, hb, hv, Option.getD_some]
            have hbv : bsV J t sl most (S 45) k = b := by simp only [bsV, hbp, hb]
            rw [hb] at hbp
            refine ev_iload (q := 49) dX7_lamps_47 rfl rfl ?_
            refine ev_aload_n (q := 50) dX7_lamps_49 rfl rfl ?_
            refine ev_callV0i (q := 53) dX7_lamps_50 ca_X7_95 (s_X7_worlds hn hm) rfl (lt_n hn (by decide)) rfl rfl (Nat.le_of_ble_eq_true rfl) (Nat.le_of_ble_eq_true rfl) (by decide) (by decide) rfl ?_
            refine ev_icmp_ge (q := 56) 166 dX7_lamps_53 (by decide) rfl (fun c_53 => ?_) (fun c_53 => ?_)
            · have c_53 : 2 ^ t ≤ k := (nI_leI (by omega) (by omega)).mp c_53
              refine ev_iconst (q := 167) (0) dX7_lamps_166 (by decide) rfl ?_
              refine ev_ist_4 (q := 169) dX7_lamps_167 rfl rfl ?_
              exact in2 (2 ^ t) 0 (by omega) _ _ _ _ _ (fun w hw => e44 w (by omega)) (fun w hw => absurd hw (by omega))
            · have c_53 : ¬ 2 ^ t ≤ k := fun h => c_53 ((nI_leI (by omega) (by omega)).mpr h)
              refine ev_aload_n (q := 57) dX7_lamps_56 rfl rfl ?_
              refine ev_iload (q := 59) dX7_lamps_57 rfl rfl ?_
              refine ev_iload_n (q := 60) dX7_lamps_59 rfl rfl ?_
              refine ev_callV2iP (q := 63) dX7_lamps_60 ca_X7_217 (s_X7_bestFrom hn hm (by omega)) rfl (lt_n hn (by decide)) rfl rfl (Nat.le_of_ble_eq_true rfl) (Nat.le_of_ble_eq_true rfl) (by decide) (by decide) rfl (fun S T hp_60 => ?_)
              obtain ⟨-, g44, g45, g25⟩ := hp_60
              rw [hbp] at g25
              rw [hbv]
              refine ev_ist_5 (q := 65) dX7_lamps_63 rfl rfl ?_
              refine ev_iload (q := 67) dX7_lamps_65 rfl rfl ?_
              refine ev_ist_6 (q := 69) dX7_lamps_67 rfl rfl ?_
              refine ev_aload_n (q := 70) dX7_lamps_69 rfl rfl ?_
              refine ev_get (q := 73) dX7_lamps_70 fr_X7_210 rfl (lt_n hn (by decide)) rfl rfl ?_
              rw [show ov I S 33 25 = nI u from g25]
              refine ev_if_lt (q := 76) 143 dX7_lamps_73 (by decide) rfl (fun c_73 => ?_) (fun c_73 => ?_)
              · exact absurd c_73 (nI_pos (by omega))
              · refine ev_aload_n (q := 77) dX7_lamps_76 rfl rfl ?_
                refine ev_aload_n (q := 78) dX7_lamps_77 rfl rfl ?_
                refine ev_get (q := 81) dX7_lamps_78 fr_X7_210 rfl (lt_n hn (by decide)) rfl rfl ?_
                rw [show ov I S 33 25 = nI u from g25]
                refine ev_callV1v (q := 84) dX7_lamps_81 ca_X7_190 (s_X7_layTerm hn hm (by omega)) rfl (lt_n hn (by decide)) rfl rfl (Nat.le_of_ble_eq_true rfl) (Nat.le_of_ble_eq_true rfl) (by decide) (by decide) rfl ?_
                refine ev_bipush (q := 86) (-6) dX7_lamps_84 (by decide) rfl ?_
                refine ev_ist_6 (q := 88) dX7_lamps_86 rfl rfl ?_
                refine ev_iconst (q := 89) (0) dX7_lamps_88 (by decide) rfl ?_
                refine ev_ist_7 (q := 91) dX7_lamps_89 rfl rfl ?_
                refine in0 k u b _ _ (by omega) hu ?_ (by rfl) (by rfl) ?_ (2 ^ t) 0 (by omega)
                · intro w hw; exact (congrFun g45 w).trans (e45 w hw)
                · intro a7
                  rw [hv]
                  exact tl c_53 _ _ _ _ v htf hvt (by intro w hw; exact (congrFun g45 w).trans (e45 w hw)) (by intro w hw; exact (congrFun g44 w).trans (e44 w hw))
      refine ev_iload_n (q := 1) dX7_lamps_0 rfl rfl ?_
      refine ev_callS1i (q := 4) dX7_lamps_1 ca_X7_103 (c_X7_isCousin _) (Nat.le_of_ble_eq_true rfl) (Nat.le_of_ble_eq_true rfl) (by decide) (by decide) rfl ?_
      refine ev_if_eq (q := 7) 15 dX7_lamps_4 (by decide) rfl (fun c_4 => ?_) (fun c_4 => ?_)
      · exact absurd c_4 (b2i_n0.mpr hin0.1)
      · refine ev_iload_n (q := 8) dX7_lamps_7 rfl rfl ?_
        refine ev_aload_n (q := 9) dX7_lamps_8 rfl rfl ?_
        refine ev_get (q := 12) dX7_lamps_9 fr_X7_67 rfl (lt_n hn (by decide)) rfl rfl ?_
        rw [show ov I S 33 5 = nI wi from hwi]
        refine ev_icmp_ne (q := 15) 17 dX7_lamps_12 (by decide) rfl (fun c_12 => ?_) (fun c_12 => ?_)
        · refine ev_iload_n (q := 18) dX7_lamps_17 rfl rfl ?_
          refine ev_iconst (q := 19) (0) dX7_lamps_18 (by decide) rfl ?_
          refine ev_bipush (q := 21) (6) dX7_lamps_19 (by decide) rfl ?_
          refine ev_callS3i (q := 24) dX7_lamps_21 ca_X7_99 (c_X7_in _ _ _) (Nat.le_of_ble_eq_true rfl) (Nat.le_of_ble_eq_true rfl) (by decide) (by decide) rfl ?_
          refine ev_if_eq (q := 27) 36 dX7_lamps_24 (by decide) rfl (fun c_24 => ?_) (fun c_24 => ?_)
          · exact absurd c_24 (b2i_n0.mpr hin.1)
          · refine ev_iload_n (q := 28) dX7_lamps_27 rfl rfl ?_
            refine ev_iconst (q := 29) (0) dX7_lamps_28 (by decide) rfl ?_
            refine ev_iconst (q := 30) (1) dX7_lamps_29 (by decide) rfl ?_
            refine ev_callS3i (q := 33) dX7_lamps_30 ca_X7_99 (c_X7_in _ _ _) (Nat.le_of_ble_eq_true rfl) (Nat.le_of_ble_eq_true rfl) (by decide) (by decide) rfl ?_
            refine ev_if_ne (q := 36) 39 dX7_lamps_33 (by decide) rfl (fun c_33 => ?_) (fun c_33 => ?_)
            · refine ev_aload_n (q := 40) dX7_lamps_39 rfl rfl ?_
              refine ev_iload_n (q := 41) dX7_lamps_40 rfl rfl ?_
              refine ev_callV1v (q := 44) dX7_lamps_41 ca_X7_214 (s_X7_layAhead hn hm (by omega)) rfl (lt_n hn (by decide)) rfl rfl (Nat.le_of_ble_eq_true rfl) (Nat.le_of_ble_eq_true rfl) (by decide) (by decide) rfl ?_
              refine ev_iconst (q := 45) (0) dX7_lamps_44 (by decide) rfl ?_
              refine ev_ist_4 (q := 47) dX7_lamps_45 rfl rfl ?_
              exact lp (2 ^ t) 0 (by omega) _ _ _ _ _ (fun w hw => fillA_at hw) (fun w hw => absurd hw (by omega))
            · exact absurd c_33 (b2i_n0.mpr hin.2)
        · exact absurd c_12 hcw
end MODEL11
end
section
/-- a term did all that came -/
def gdL (I : Nat → Nat → Int32) (J : Nat → Nat → Int64) (t sl wy wi : Nat) (cf : Nat → Nat) (c : Nat) (num : Nat) : Bool := upto (fun i b => b && decide (eo (mtF I J t sl wy wi num (cf i)) = I 40 (2 * i + 1))) c true
abbrev YS : Type := Nat × Nat × Int32 × Int32
def yrF (I : Nat → Nat → Int32) (J : Nat → Nat → Int64) (t sl wy wi : Nat) : Nat → YS → YS := fun _ s => match mtF I J t sl wy wi ((75 * s.1 + 74) % 65537 % 3 ^ t) s.2.1 with
  | none => ((75 * s.1 + 74) % 65537, s.2.1, s.2.2.1 + 1, s.2.2.2)
  | some w => ((75 * s.1 + 74) % 65537, w, s.2.2.1, s.2.2.2 + if wtF I t wi w < wtF I t wi s.2.1 then 1 else 0)
theorem gdL_f {I : Nat → Nat → Int32} {J : Nat → Nat → Int64} {t sl wy wi num : Nat} {cf : Nat → Nat} (k : Nat) (h : upto (fun i b => b && decide (eo (mtF I J t sl wy wi num (cf i)) = I 40 (2 * i + 1))) k true = false) : ∀ j, upto (fun i b => b && decide (eo (mtF I J t sl wy wi num (cf i)) = I 40 (2 * i + 1))) (k + j) true = false
  | 0 => h
  | j + 1 => by
    show (upto (fun i b => b && decide (eo (mtF I J t sl wy wi num (cf i)) = I 40 (2 * i + 1))) (k + j) true && _) = false
    rw [gdL_f k h j, Bool.false_and]
theorem yr_ok {I : Nat → Nat → Int32} {J : Nat → Nat → Int64} {t sl wy wi : Nat} (s0 : YS) (h1 : s0.1 < 65537) (h2 : s0.2.1 < 2 ^ t) : ∀ k, (upto (yrF I J t sl wy wi) k s0).1 < 65537 ∧ (upto (yrF I J t sl wy wi) k s0).2.1 < 2 ^ t
  | 0 => ⟨h1, h2⟩
  | k + 1 => by
    obtain ⟨e1, e2⟩ := yr_ok (I := I) (J := J) (t := t) (sl := sl) (wy := wy) (wi := wi) s0 h1 h2 k
    show (yrF I J t sl wy wi k (upto (yrF I J t sl wy wi) k s0)).1 < 65537 ∧ (yrF I J t sl wy wi k (upto (yrF I J t sl wy wi) k s0)).2.1 < 2 ^ t
    generalize upto (yrF I J t sl wy wi) k s0 = s at e1 e2
    unfold yrF
    split
    · exact ⟨Nat.mod_lt _ (by decide), e2⟩
    · rename_i w hw
      exact ⟨Nat.mod_lt _ (by decide), mtF_lt hw⟩
section MODEL12
variable {xl : Nat} {xs : Nat → Int32} {n : Nat} {h : Nat → PC} {I S : Nat → Nat → Int32} {J T : Nat → Nat → Int64} {X : Nat → Option Nat} {t sl wy wi he : Nat}
theorem s_X7_letters {c : Nat} {cf : Nat → Nat} (hn : 49 ≤ n) (hm : MI I t sl wy wi he) (hc : I 33 14 = nI c) (hc6 : c ≤ 6) (hcf : ∀ i, i < c → I 40 (2 * i) = nI (cf i) ∧ cf i < 2 ^ t) (what : Int32) : RnS xl xs 5 114 0 0 mX7_letters [.ref 33, .int what] n I J X (some (.int (if inb what 0 1 then (if what = 0 then upto (fun k s => s + b2i (gdL I J t sl wy wi cf c k)) (3 ^ t) 0 else eo (upto (pickW t (gdL I J t sl wy wi cf c)) (3 ^ t) none)) else -2))) n I J X := by
  intro S T Q hQ
  have hm' := hm
  obtain ⟨ht, ht2, h6, hs, hs6, hwy, h3, hwi, h4, hhe, hhl⟩ := hm'
  have h64 := p2_le h6
  have h729 := p3_le h6
  show Ev xl xs 5 114 0 0 mX7_letters 0 [some (.ref 33), some (.int what), none, none, none, none, none] [] n (sysH (ov I S) (ovJ J T) X) Q
  cases hin : inb what 0 1 with
  | false =>
    rw [hin] at hQ
    refine ev_iload_n (q := 1) dX7_letters_0 rfl rfl ?_
    refine ev_iconst (q := 2) (0) dX7_letters_1 (by decide) rfl ?_
    refine ev_iconst (q := 3) (1) dX7_letters_2 (by decide) rfl ?_
    refine ev_callS3i (q := 6) dX7_letters_3 ca_X7_99 (c_X7_in _ _ _) (Nat.le_of_ble_eq_true rfl) (Nat.le_of_ble_eq_true rfl) (by decide) (by decide) rfl ?_
    refine ev_if_ne (q := 9) 12 dX7_letters_6 (by decide) rfl (fun c_6 => ?_) (fun c_6 => ?_)
    · exact absurd (b2i_ne.mp c_6) (by rw [hin]; decide)
    · refine ev_bipush (q := 11) (-2) dX7_letters_9 (by decide) rfl ?_
      exact ev_iretE dX7_letters_11 rfl rfl rfl rfl rfl (hQ _ _)
  | true =>
    rw [hin] at hQ
    have inn : ∀ num, num < 3 ^ t → ∀ x2 x3, (∀ S T a6, Ev xl xs 5 114 0 0 mX7_letters 91 [some (.ref 33), some (.int what), some (.int x2), some (.int x3), some (.int (nI num)), some (.int (b2i (gdL I J t sl wy wi cf c num))), a6] [] n (sysH (ov I S) (ovJ J T) X) Q) → ∀ j k, k + j = c → ∀ S T, Ev xl xs 5 114 0 0 mX7_letters 35 [some (.ref 33), some (.int what), some (.int x2), some (.int x3), some (.int (nI num)), some (.int (b2i (upto (fun i b => b && decide (eo (mtF I J t sl wy wi num (cf i)) = I 40 (2 * i + 1))) k true))), some (.int (nI k))] [] n (sysH (ov I S) (ovJ J T) X) Q := by
      intro num hnum x2 x3 hout j
      induction j using Nat.strongRecOn with
      | _ j ih =>
        intro k hk S T
        refine ev_iload (q := 37) dX7_letters_35 rfl rfl ?_
        refine ev_aload_n (q := 38) dX7_letters_37 rfl rfl ?_
        refine ev_get (q := 41) dX7_letters_38 fr_X7_90 rfl (lt_n hn (by decide)) rfl rfl ?_
        rw [show ov I S 33 14 = nI c from hc]
        refine ev_icmp_ge (q := 44) 91 dX7_letters_41 (by decide) rfl (fun c_41 => ?_) (fun c_41 => ?_)
        · have c_41 : c ≤ k := (nI_leI (by omega) (by omega)).mp c_41
          have hkc : k = c := by omega
          first | (have e := gdL_f k c_46 (c - k); rw [show k + (c - k) = c by omega] at e; have e2 : gdL I J t sl wy wi cf c num = false := e; rw [c_46, ← e2]; exact hout S T _) | (subst hkc; exact hout S T _)
        · have c_41 : ¬ c ≤ k := fun h => c_41 ((nI_leI (by omega) (by omega)).mpr h)
          obtain ⟨hcf1, hcf2⟩ := hcf k (by omega)
          refine ev_iload (q := 46) dX7_letters_44 rfl rfl ?_
          refine ev_if_eq (q := 49) 91 dX7_letters_46 (by decide) rfl (fun c_46 => ?_) (fun c_46 => ?_)
          · have c_46 := b2i_0.mp c_46
            first | (have e := gdL_f k c_46 (c - k); rw [show k + (c - k) = c by omega] at e; have e2 : gdL I J t sl wy wi cf c num = false := e; rw [c_46, ← e2]; exact hout S T _) | (subst hkc; exact hout S T _)
          · have c_46 := b2i_n0.mp c_46
            refine ev_aload_n (q := 50) dX7_letters_49 rfl rfl ?_
            refine ev_iload (q := 52) dX7_letters_50 rfl rfl ?_
            refine ev_aload_n (q := 53) dX7_letters_52 rfl rfl ?_
            refine ev_get (q := 56) dX7_letters_53 fr_X7_33 rfl (lt_n hn (by decide)) rfl rfl ?_
            refine ev_iconst (q := 57) (2) dX7_letters_56 (by decide) rfl ?_
            refine ev_iload (q := 59) dX7_letters_57 rfl rfl ?_
            refine ev_imul (q := 60) dX7_letters_59 rfl ?_
            refine ev_iaS (q := 61) (2 * k) dX7_letters_60 (by rw [show (2 : Int32) = nI 2 from rfl, pk_mul]) rfl (by omega) (lt_n hn (by decide)) rfl ?_
            rw [show ov I S 40 (2 * k) = nI (cf k) from hcf1]
            refine ev_callV2iS (q := 64) dX7_letters_61 ca_X7_204 (s_X7_madeOfTerm hn hm (by omega) (by omega)) rfl (lt_n hn (by decide)) rfl rfl (Nat.le_of_ble_eq_true rfl) (Nat.le_of_ble_eq_true rfl) (by decide) (by decide) rfl (fun S T => ?_)
            refine ev_aload_n (q := 65) dX7_letters_64 rfl rfl ?_
            refine ev_get (q := 68) dX7_letters_65 fr_X7_33 rfl (lt_n hn (by decide)) rfl rfl ?_
            refine ev_iconst (q := 69) (2) dX7_letters_68 (by decide) rfl ?_
            refine ev_iload (q := 71) dX7_letters_69 rfl rfl ?_
            refine ev_imul (q := 72) dX7_letters_71 rfl ?_
            refine ev_iconst (q := 73) (1) dX7_letters_72 (by decide) rfl ?_
            refine ev_iadd (q := 74) dX7_letters_73 rfl ?_
            refine ev_iaS (q := 75) (2 * k + 1) dX7_letters_74 (by rw [show (2 : Int32) = nI 2 from rfl, pk_mul]; exact nI_1 _) rfl (by omega) (lt_n hn (by decide)) rfl ?_
            refine ev_icmp_ne (q := 78) 82 dX7_letters_75 (by decide) rfl (fun c_75 => ?_) (fun c_75 => ?_)
            · have c_75 : ¬ eo (mtF I J t sl wy wi num (cf k)) = I 40 (2 * k + 1) := c_75
              refine ev_iconst (q := 83) (0) dX7_letters_82 (by decide) rfl ?_
              refine ev_ist_5 (q := 85) dX7_letters_83 rfl rfl ?_
              refine ev_inc_6 (q := 88) (nI (k + 1)) dX7_letters_85 (nI_1 k) rfl rfl ?_
              refine ev_goto 35 dX7_letters_88 (by decide) ?_
              have e := ih (j - 1) (by omega) (k + 1) (by omega)
              simp only [upto, c_46, c_75, decide_true, decide_false, Bool.and_true, Bool.and_false] at e
              exact e _ _
            · have c_75 : eo (mtF I J t sl wy wi num (cf k)) = I 40 (2 * k + 1) := c_75
              refine ev_iconst (q := 79) (1) dX7_letters_78 (by decide) rfl ?_
              refine ev_goto 83 dX7_letters_79 (by decide) ?_
              refine ev_ist_5 (q := 85) dX7_letters_83 rfl rfl ?_
              refine ev_inc_6 (q := 88) (nI (k + 1)) dX7_letters_85 (nI_1 k) rfl rfl ?_
              refine ev_goto 35 dX7_letters_88 (by decide) ?_
              have e := ih (j - 1) (by omega) (k + 1) (by omega)
              simp only [upto, c_46, c_75, decide_true, decide_false, Bool.and_true, Bool.and_false] at e
              exact e _ _
    have lp : ∀ j k, k + j = 3 ^ t → ∀ S T a5 a6, Ev xl xs 5 114 0 0 mX7_letters 20 [some (.ref 33), some (.int what), some (.int (upto (fun k s => s + b2i (gdL I J t sl wy wi cf c k)) k 0)), some (.int (eo (upto (pickW t (gdL I J t sl wy wi cf c)) k none))), some (.int (nI k)), a5, a6] [] n (sysH (ov I S) (ovJ J T) X) Q := by
      intro j
      induction j using Nat.strongRecOn with
      | _ j ih =>
        intro k hk S T a5 a6
        have hlt := pickW_lt (t := t) (good := gdL I J t sl wy wi cf c) k
        have hwk := wd_le (num := k) h6
        have tl : ¬ 3 ^ t ≤ k → ∀ S T a6, Ev xl xs 5 114 0 0 mX7_letters 91 [some (.ref 33), some (.int what), some (.int (upto (fun k s => s + b2i (gdL I J t sl wy wi cf c k)) k 0)), some (.int (eo (upto (pickW t (gdL I J t sl wy wi cf c)) k none))), some (.int (nI k)), some (.int (b2i (gdL I J t sl wy wi cf c k))), a6] [] n (sysH (ov I S) (ovJ J T) X) Q := by
          intro hkt S T a6
          have e := ih (j - 1) (by omega) (k + 1) (by omega)
          cases hg : gdL I J t sl wy wi cf c k with
          | false =>
            simp only [upto, pickW, hg, Bool.false_eq_true, if_false] at e
            refine ev_iload (q := 93) dX7_letters_91 rfl rfl ?_
            refine ev_if_eq (q := 96) 119 dX7_letters_93 (by decide) rfl (fun c_93 => ?_) (fun c_93 => ?_)
            · refine ev_iload_n (q := 120) dX7_letters_119 rfl rfl ?_
              refine ev_ist_3 (q := 121) dX7_letters_120 rfl rfl ?_
              refine ev_iload_n (q := 122) dX7_letters_121 rfl rfl ?_
              refine ev_iload (q := 124) dX7_letters_122 rfl rfl ?_
              refine ev_if_eq (q := 127) 131 dX7_letters_124 (by decide) rfl (fun c_124 => ?_) (fun c_124 => ?_)
              · refine ev_iconst (q := 132) (0) dX7_letters_131 (by decide) rfl ?_
                refine ev_iadd (q := 133) dX7_letters_132 rfl ?_
                refine ev_ist_2 (q := 134) dX7_letters_133 rfl rfl ?_
                refine ev_inc_4 (q := 137) (nI (k + 1)) dX7_letters_134 (nI_1 k) rfl rfl ?_
                refine ev_goto 20 dX7_letters_137 (by decide) ?_
                exact e _ _ _ _
              · exact absurd rfl c_124
            · exact absurd rfl c_93
          | true =>
            cases ho : upto (pickW t (gdL I J t sl wy wi cf c)) k none with
            | none =>
              simp only [upto, pickW, hg, ho, if_true] at e
              refine ev_iload (q := 93) dX7_letters_91 rfl rfl ?_
              refine ev_if_eq (q := 96) 119 dX7_letters_93 (by decide) rfl (fun c_93 => ?_) (fun c_93 => ?_)
              · exact absurd c_93 (by decide)
              · refine ev_iload_n (q := 97) dX7_letters_96 rfl rfl ?_
                refine ev_if_lt (q := 100) 114 dX7_letters_97 (by decide) rfl (fun c_97 => ?_) (fun c_97 => ?_)
                · refine ev_iload (q := 116) dX7_letters_114 rfl rfl ?_
                  refine ev_goto 120 dX7_letters_116 (by decide) ?_
                  refine ev_ist_3 (q := 121) dX7_letters_120 rfl rfl ?_
                  refine ev_iload_n (q := 122) dX7_letters_121 rfl rfl ?_
                  refine ev_iload (q := 124) dX7_letters_122 rfl rfl ?_
                  refine ev_if_eq (q := 127) 131 dX7_letters_124 (by decide) rfl (fun c_124 => ?_) (fun c_124 => ?_)
                  · exact absurd c_124 (by decide)
                  · refine ev_iconst (q := 128) (1) dX7_letters_127 (by decide) rfl ?_
                    refine ev_goto 132 dX7_letters_128 (by decide) ?_
                    refine ev_iadd (q := 133) dX7_letters_132 rfl ?_
                    refine ev_ist_2 (q := 134) dX7_letters_133 rfl rfl ?_
                    refine ev_inc_4 (q := 137) (nI (k + 1)) dX7_letters_134 (nI_1 k) rfl rfl ?_
                    refine ev_goto 20 dX7_letters_137 (by decide) ?_
                    exact e _ _ _ _
                · exact absurd neg6 c_97
            | some u =>
              have hu := hlt u ho
              have hwu := wd_le (num := u) h6
              simp only [upto, pickW, hg, ho, if_true] at e
              refine ev_iload (q := 93) dX7_letters_91 rfl rfl ?_
              refine ev_if_eq (q := 96) 119 dX7_letters_93 (by decide) rfl (fun c_93 => ?_) (fun c_93 => ?_)
              · exact absurd c_93 (by decide)
              · refine ev_iload_n (q := 97) dX7_letters_96 rfl rfl ?_
                refine ev_if_lt (q := 100) 114 dX7_letters_97 (by decide) rfl (fun c_97 => ?_) (fun c_97 => ?_)
                · exact absurd c_97 (nI_pos (by omega))
                · refine ev_aload_n (q := 101) dX7_letters_100 rfl rfl ?_
                  refine ev_iload (q := 103) dX7_letters_101 rfl rfl ?_
                  refine ev_callV1i (q := 106) dX7_letters_103 ca_X7_207 (s_X7_words hn hm (by omega)) rfl (lt_n hn (by decide)) rfl rfl (Nat.le_of_ble_eq_true rfl) (Nat.le_of_ble_eq_true rfl) (by decide) (by decide) rfl ?_
                  refine ev_aload_n (q := 107) dX7_letters_106 rfl rfl ?_
                  refine ev_iload_n (q := 108) dX7_letters_107 rfl rfl ?_
                  refine ev_callV1i (q := 111) dX7_letters_108 ca_X7_207 (s_X7_words (num := u) hn hm (by omega)) rfl (lt_n hn (by decide)) rfl rfl (Nat.le_of_ble_eq_true rfl) (Nat.le_of_ble_eq_true rfl) (by decide) (by decide) rfl ?_
                  refine ev_icmp_ge (q := 114) 119 dX7_letters_111 (by decide) rfl (fun c_111 => ?_) (fun c_111 => ?_)
                  · have c_111 : ¬ wd t k < wd t u := Nat.not_lt.mpr ((nI_leI (by omega) (by omega)).mp c_111)
                    simp only [c_111, if_false] at e
                    refine ev_iload_n (q := 120) dX7_letters_119 rfl rfl ?_
                    refine ev_ist_3 (q := 121) dX7_letters_120 rfl rfl ?_
                    refine ev_iload_n (q := 122) dX7_letters_121 rfl rfl ?_
                    refine ev_iload (q := 124) dX7_letters_122 rfl rfl ?_
                    refine ev_if_eq (q := 127) 131 dX7_letters_124 (by decide) rfl (fun c_124 => ?_) (fun c_124 => ?_)
                    · exact absurd c_124 (by decide)
                    · refine ev_iconst (q := 128) (1) dX7_letters_127 (by decide) rfl ?_
                      refine ev_goto 132 dX7_letters_128 (by decide) ?_
                      refine ev_iadd (q := 133) dX7_letters_132 rfl ?_
                      refine ev_ist_2 (q := 134) dX7_letters_133 rfl rfl ?_
                      refine ev_inc_4 (q := 137) (nI (k + 1)) dX7_letters_134 (nI_1 k) rfl rfl ?_
                      refine ev_goto 20 dX7_letters_137 (by decide) ?_
                      exact e _ _ _ _
                  · have c_111 : wd t k < wd t u := Nat.not_le.mp fun h => c_111 ((nI_leI (by omega) (by omega)).mpr h)
                    simp only [c_111, if_true] at e
                    refine ev_iload (q := 116) dX7_letters_114 rfl rfl ?_
                    refine ev_goto 120 dX7_letters_116 (by decide) ?_
                    refine ev_ist_3 (q := 121) dX7_letters_120 rfl rfl ?_
                    refine ev_iload_n (q := 122) dX7_letters_121 rfl rfl ?_
                    refine ev_iload (q := 124) dX7_letters_122 rfl rfl ?_
                    refine ev_if_eq (q := 127) 131 dX7_letters_124 (by decide) rfl (fun c_124 => ?_) (fun c_124 => ?_)
                    · exact absurd c_124 (by decide)
                    · refine ev_iconst (q := 128) (1) dX7_letters_127 (by decide) rfl ?_
                      refine ev_goto 132 dX7_letters_128 (by decide) ?_
                      refine ev_iadd (q := 133) dX7_letters_132 rfl ?_
                      refine ev_ist_2 (q := 134) dX7_letters_133 rfl rfl ?_
                      refine ev_inc_4 (q := 137) (nI (k + 1)) dX7_letters_134 (nI_1 k) rfl rfl ?_
                      refine ev_goto 20 dX7_letters_137 (by decide) ?_
                      exact e _ _ _ _
        refine ev_iload (q := 22) dX7_letters_20 rfl rfl ?_
        refine ev_aload_n (q := 23) dX7_letters_22 rfl rfl ?_
        refine ev_callV0i (q := 26) dX7_letters_23 ca_X7_201 (s_X7_terms hn hm) rfl (lt_n hn (by decide)) rfl rfl (Nat.le_of_ble_eq_true rfl) (Nat.le_of_ble_eq_true rfl) (by decide) (by decide) rfl ?_
        refine ev_icmp_ge (q := 29) 140 dX7_letters_26 (by decide) rfl (fun c_26 => ?_) (fun c_26 => ?_)
        · have c_26 : 3 ^ t ≤ k := (nI_leI (by omega) (by omega)).mp c_26
          refine ev_iload_n (q := 141) dX7_letters_140 rfl rfl ?_
          refine ev_if_ne (q := 144) 148 dX7_letters_141 (by decide) rfl (fun c_141 => ?_) (fun c_141 => ?_)
          · have c_141 : ¬ what = 0 := c_141
            refine ev_iload_n (q := 149) dX7_letters_148 rfl rfl ?_
            exact ev_iretE dX7_letters_149 rfl rfl (by rw [show k = 3 ^ t by omega]; simp only [c_141, if_true, if_false]) rfl rfl (hQ _ _)
          · refine ev_iload_n (q := 145) dX7_letters_144 rfl rfl ?_
            refine ev_goto 149 dX7_letters_145 (by decide) ?_
            exact ev_iretE dX7_letters_149 rfl rfl (by rw [show k = 3 ^ t by omega]; simp only [c_141, if_true, if_false]) rfl rfl (hQ _ _)
        · have c_26 : ¬ 3 ^ t ≤ k := fun h => c_26 ((nI_leI (by omega) (by omega)).mpr h)
          refine ev_iconst (q := 30) (1) dX7_letters_29 (by decide) rfl ?_
          refine ev_ist_5 (q := 32) dX7_letters_30 rfl rfl ?_
          refine ev_iconst (q := 33) (0) dX7_letters_32 (by decide) rfl ?_
          refine ev_ist_6 (q := 35) dX7_letters_33 rfl rfl ?_
          exact inn k (by omega) _ _ (tl c_26) c 0 (by omega) _ _
    refine ev_iload_n (q := 1) dX7_letters_0 rfl rfl ?_
    refine ev_iconst (q := 2) (0) dX7_letters_1 (by decide) rfl ?_
    refine ev_iconst (q := 3) (1) dX7_letters_2 (by decide) rfl ?_
    refine ev_callS3i (q := 6) dX7_letters_3 ca_X7_99 (c_X7_in _ _ _) (Nat.le_of_ble_eq_true rfl) (Nat.le_of_ble_eq_true rfl) (by decide) (by decide) rfl ?_
    refine ev_if_ne (q := 9) 12 dX7_letters_6 (by decide) rfl (fun c_6 => ?_) (fun c_6 => ?_)
    · refine ev_iconst (q := 13) (0) dX7_letters_12 (by decide) rfl ?_
      refine ev_ist_2 (q := 14) dX7_letters_13 rfl rfl ?_
      refine ev_bipush (q := 16) (-6) dX7_letters_14 (by decide) rfl ?_
      refine ev_ist_3 (q := 17) dX7_letters_16 rfl rfl ?_
      refine ev_iconst (q := 18) (0) dX7_letters_17 (by decide) rfl ?_
      refine ev_ist_4 (q := 20) dX7_letters_18 rfl rfl ?_
      exact lp (3 ^ t) 0 (by omega) _ _ _ _
    · exact absurd c_6 (b2i_n0.mpr hin)
theorem s_X7_year (hn : 49 ≤ n) (hm : MI I t sl wy wi he) (seed m what : Int32) : RnS xl xs 5 114 0 0 mX7_year [.ref 33, .int seed, .int m, .int what] n I J X (some (.int (if inb seed 0 9999 && (inb m 1 99 && inb what 0 2) then (if what = 0 then (upto (yrF I J t sl wy wi) m.toNatClampNeg (seed.toNatClampNeg, he, 0, 0)).2.2.1 else if what = 1 then nI (upto (yrF I J t sl wy wi) m.toNatClampNeg (seed.toNatClampNeg, he, 0, 0)).2.1 else (upto (yrF I J t sl wy wi) m.toNatClampNeg (seed.toNatClampNeg, he, 0, 0)).2.2.2) else -2))) n I J X := by
  intro S T Q hQ
  have hm' := hm
  obtain ⟨ht, ht2, h6, hs, hs6, hwy, h3, hwi, h4, hhe, hhl⟩ := hm'
  have h64 := p2_le h6
  have h729 := p3_le h6
  have hpos : 0 < 3 ^ t := Nat.pow_pos (by decide)
  show Ev xl xs 5 114 0 0 mX7_year 0 [some (.ref 33), some (.int seed), some (.int m), some (.int what), none, none, none, none, none, none] [] n (sysH (ov I S) (ovJ J T) X) Q
  cases hin : (inb seed 0 9999 && (inb m 1 99 && inb what 0 2)) with
  | false =>
    rw [hin] at hQ
    refine ev_iload_n (q := 1) dX7_year_0 rfl rfl ?_
    refine ev_iconst (q := 2) (0) dX7_year_1 (by decide) rfl ?_
    refine ev_sipush (q := 5) (9999) dX7_year_2 (by decide) rfl ?_
    refine ev_callS3i (q := 8) dX7_year_5 ca_X7_99 (c_X7_in _ _ _) (Nat.le_of_ble_eq_true rfl) (Nat.le_of_ble_eq_true rfl) (by decide) (by decide) rfl ?_
    refine ev_if_eq (q := 11) 30 dX7_year_8 (by decide) rfl (fun c_8 => ?_) (fun c_8 => ?_)
    · have c_8 := b2i_0.mp c_8
      refine ev_bipush (q := 32) (-2) dX7_year_30 (by decide) rfl ?_
      exact ev_iretE dX7_year_32 rfl rfl rfl rfl rfl (hQ _ _)
    · have c_8 := b2i_n0.mp c_8
      refine ev_iload_n (q := 12) dX7_year_11 rfl rfl ?_
      refine ev_iconst (q := 13) (1) dX7_year_12 (by decide) rfl ?_
      refine ev_bipush (q := 15) (99) dX7_year_13 (by decide) rfl ?_
      refine ev_callS3i (q := 18) dX7_year_15 ca_X7_99 (c_X7_in _ _ _) (Nat.le_of_ble_eq_true rfl) (Nat.le_of_ble_eq_true rfl) (by decide) (by decide) rfl ?_
      refine ev_if_eq (q := 21) 30 dX7_year_18 (by decide) rfl (fun c_18 => ?_) (fun c_18 => ?_)
      · have c_18 := b2i_0.mp c_18
        refine ev_bipush (q := 32) (-2) dX7_year_30 (by decide) rfl ?_
        exact ev_iretE dX7_year_32 rfl rfl rfl rfl rfl (hQ _ _)
      · have c_18 := b2i_n0.mp c_18
        refine ev_iload_n (q := 22) dX7_year_21 rfl rfl ?_
        refine ev_iconst (q := 23) (0) dX7_year_22 (by decide) rfl ?_
        refine ev_iconst (q := 24) (2) dX7_year_23 (by decide) rfl ?_
        refine ev_callS3i (q := 27) dX7_year_24 ca_X7_99 (c_X7_in _ _ _) (Nat.le_of_ble_eq_true rfl) (Nat.le_of_ble_eq_true rfl) (by decide) (by decide) rfl ?_
        refine ev_if_ne (q := 30) 33 dX7_year_27 (by decide) rfl (fun c_27 => ?_) (fun c_27 => ?_)
        · exact absurd (b2i_ne.mp c_27) (by rw [c_8, c_18, Bool.true_and, Bool.true_and] at hin; rw [hin]; decide)
        · refine ev_bipush (q := 32) (-2) dX7_year_30 (by decide) rfl ?_
          exact ev_iretE dX7_year_32 rfl rfl rfl rfl rfl (hQ _ _)
  | true =>
    rw [hin] at hQ
    have hin := Bool.and_eq_true_iff.mp hin
    have hin2 := Bool.and_eq_true_iff.mp hin.2
    obtain ⟨x0, -, hx0, rfl⟩ := inb_lo (lo := 0) (hi := 9999) (by decide) hin.1 (by decide)
    obtain ⟨mm, hm1, hm99, rfl⟩ := inb_lo (lo := 1) (hi := 99) (by decide) hin2.1 (by decide)
    rw [nI_clamp (by omega), nI_clamp (by omega)] at hQ
    have lp : ∀ j k, k + j = mm → ∀ S T a9, Ev xl xs 5 114 0 0 mX7_year 51 [some (.ref 33), some (.int (nI x0)), some (.int (nI mm)), some (.int what), some (.int (nI (upto (yrF I J t sl wy wi) k (x0, he, 0, 0)).1)), some (.int (nI (upto (yrF I J t sl wy wi) k (x0, he, 0, 0)).2.1)), some (.int (upto (yrF I J t sl wy wi) k (x0, he, 0, 0)).2.2.1), some (.int (upto (yrF I J t sl wy wi) k (x0, he, 0, 0)).2.2.2), some (.int (nI k)), a9] [] n (sysH (ov I S) (ovJ J T) X) Q := by
      intro j
      induction j using Nat.strongRecOn with
      | _ j ih =>
        intro k hk S T a9
        obtain ⟨hx1, hx2⟩ := yr_ok (I := I) (J := J) (t := t) (sl := sl) (wy := wy) (wi := wi) (x0, he, 0, 0) (show x0 < 65537 by omega) hhl k
        have e := ih (j - 1)
        have e := fun h1 => e h1 (k + 1)
        simp only [upto] at e
        by_cases hkm : k = mm
        · subst hkm
          refine ev_iload (q := 53) dX7_year_51 rfl rfl ?_
          refine ev_iload_n (q := 54) dX7_year_53 rfl rfl ?_
          refine ev_icmp_ge (q := 57) 148 dX7_year_54 (by decide) rfl (fun c_54 => ?_) (fun c_54 => ?_)
          · refine ev_iload_n (q := 149) dX7_year_148 rfl rfl ?_
            refine ev_if_ne (q := 152) 157 dX7_year_149 (by decide) rfl (fun c_149 => ?_) (fun c_149 => ?_)
            · have c_149 : ¬ what = 0 := c_149
              refine ev_iload_n (q := 158) dX7_year_157 rfl rfl ?_
              refine ev_iconst (q := 159) (1) dX7_year_158 (by decide) rfl ?_
              refine ev_icmp_ne (q := 162) 167 dX7_year_159 (by decide) rfl (fun c_159 => ?_) (fun c_159 => ?_)
              · have c_159 : ¬ what = 1 := c_159
                refine ev_iload (q := 169) dX7_year_167 rfl rfl ?_
                exact ev_iretE dX7_year_169 rfl rfl (by first | (simp only [c_149, if_true]; done) | (rw [if_pos rfl, if_neg c_149, if_pos c_159]; done) | (rw [if_pos rfl, if_neg c_149, if_neg c_159]; done)) rfl rfl (hQ _ _)
              · refine ev_iload (q := 164) dX7_year_162 rfl rfl ?_
                refine ev_goto 169 dX7_year_164 (by decide) ?_
                exact ev_iretE dX7_year_169 rfl rfl (by first | (simp only [c_149, if_true]; done) | (rw [if_pos rfl, if_neg c_149, if_pos c_159]; done) | (rw [if_pos rfl, if_neg c_149, if_neg c_159]; done)) rfl rfl (hQ _ _)
            · refine ev_iload (q := 154) dX7_year_152 rfl rfl ?_
              refine ev_goto 169 dX7_year_154 (by decide) ?_
              exact ev_iretE dX7_year_169 rfl rfl (by first | (simp only [c_149, if_true]; done) | (rw [if_pos rfl, if_neg c_149, if_pos c_159]; done) | (rw [if_pos rfl, if_neg c_149, if_neg c_159]; done)) rfl rfl (hQ _ _)
          · exact absurd ((nI_leI (by omega) (by omega)).mpr (Nat.le_refl _)) c_54
        · generalize upto (yrF I J t sl wy wi) k (x0, he, 0, 0) = s at hx1 hx2 e ⊢
          obtain ⟨x, a, em, ha⟩ := s
          dsimp only at hx1 hx2 e ⊢
          have hq1 : nI (75 * x + 74) - nI (75 * x + 74) / 65537 * 65537 = nI ((75 * x + 74) % 65537) := pk_rem (by omega) (d := 65537) (by decide) (by decide)
          have hxl : (75 * x + 74) % 65537 < 65537 := Nat.mod_lt _ (by decide)
          have hq2 : nI ((75 * x + 74) % 65537) - nI ((75 * x + 74) % 65537) / nI (3 ^ t) * nI (3 ^ t) = nI ((75 * x + 74) % 65537 % 3 ^ t) := pk_rem (by omega) hpos (by omega)
          have hml : (75 * x + 74) % 65537 % 3 ^ t < 3 ^ t := Nat.mod_lt _ hpos
          have hne : ¬ nI (3 ^ t) = 0 := nI_ne0 hpos (by omega)
          cases hmk : mtF I J t sl wy wi ((75 * x + 74) % 65537 % 3 ^ t) a with
          | none =>
            simp only [yrF, hmk] at e
            refine ev_iload (q := 53) dX7_year_51 rfl rfl ?_
            refine ev_iload_n (q := 54) dX7_year_53 rfl rfl ?_
            refine ev_icmp_ge (q := 57) 148 dX7_year_54 (by decide) rfl (fun c_54 => ?_) (fun c_54 => ?_)
            · exact absurd ((nI_leI (by omega) (by omega)).mp c_54) (by omega)
            · refine ev_bipush (q := 59) (75) dX7_year_57 (by decide) rfl ?_
              refine ev_iload (q := 61) dX7_year_59 rfl rfl ?_
              refine ev_imul (q := 62) dX7_year_61 rfl ?_
              refine ev_bipush (q := 64) (74) dX7_year_62 (by decide) rfl ?_
              refine ev_iadd (q := 65) dX7_year_64 rfl ?_
              refine ev_ldc (q := 67) co_X7_243 dX7_year_65 rfl ?_
              refine ev_irem (q := 68) (by decide) dX7_year_67 rfl ?_
              rw [show (75 : Int32) = nI 75 from rfl, pk_mul, show (74 : Int32) = nI 74 from rfl, nI_add, hq1]
              refine ev_ist_4 (q := 70) dX7_year_68 rfl rfl ?_
              refine ev_aload_n (q := 71) dX7_year_70 rfl rfl ?_
              refine ev_iload (q := 73) dX7_year_71 rfl rfl ?_
              refine ev_aload_n (q := 74) dX7_year_73 rfl rfl ?_
              refine ev_callV0i (q := 77) dX7_year_74 ca_X7_201 (s_X7_terms hn hm) rfl (lt_n hn (by decide)) rfl rfl (Nat.le_of_ble_eq_true rfl) (Nat.le_of_ble_eq_true rfl) (by decide) (by decide) rfl ?_
              refine ev_irem (q := 78) hne dX7_year_77 rfl ?_
              rw [hq2]
              refine ev_iload (q := 80) dX7_year_78 rfl rfl ?_
              refine ev_callV2iS (q := 83) dX7_year_80 ca_X7_204 (s_X7_madeOfTerm hn hm (by omega) (by omega)) rfl (lt_n hn (by decide)) rfl rfl (Nat.le_of_ble_eq_true rfl) (Nat.le_of_ble_eq_true rfl) (by decide) (by decide) rfl (fun S T => ?_)
              rw [hmk]
              refine ev_ist_9 (q := 85) dX7_year_83 rfl rfl ?_
              refine ev_iload (q := 87) dX7_year_85 rfl rfl ?_
              refine ev_iload (q := 89) dX7_year_87 rfl rfl ?_
              refine ev_if_ge (q := 92) 96 dX7_year_89 (by decide) rfl (fun c_89 => ?_) (fun c_89 => ?_)
              · exact absurd c_89 (by decide)
              · refine ev_iconst (q := 93) (1) dX7_year_92 (by decide) rfl ?_
                refine ev_goto 97 dX7_year_93 (by decide) ?_
                refine ev_iadd (q := 98) dX7_year_97 rfl ?_
                refine ev_ist_6 (q := 100) dX7_year_98 rfl rfl ?_
                refine ev_iload (q := 102) dX7_year_100 rfl rfl ?_
                refine ev_if_lt (q := 105) 142 dX7_year_102 (by decide) rfl (fun c_102 => ?_) (fun c_102 => ?_)
                · refine ev_inc_8 (q := 145) (nI (k + 1)) dX7_year_142 (nI_1 k) rfl rfl ?_
                  refine ev_goto 51 dX7_year_145 (by decide) ?_
                  exact e (by omega) (by omega) _ _ _
                · exact absurd neg6 c_102
          | some w =>
            have hwl := mtF_lt hmk
            simp only [yrF, hmk] at e
            refine ev_iload (q := 53) dX7_year_51 rfl rfl ?_
            refine ev_iload_n (q := 54) dX7_year_53 rfl rfl ?_
            refine ev_icmp_ge (q := 57) 148 dX7_year_54 (by decide) rfl (fun c_54 => ?_) (fun c_54 => ?_)
            · exact absurd ((nI_leI (by omega) (by omega)).mp c_54) (by omega)
            · refine ev_bipush (q := 59) (75) dX7_year_57 (by decide) rfl ?_
              refine ev_iload (q := 61) dX7_year_59 rfl rfl ?_
              refine ev_imul (q := 62) dX7_year_61 rfl ?_
              refine ev_bipush (q := 64) (74) dX7_year_62 (by decide) rfl ?_
              refine ev_iadd (q := 65) dX7_year_64 rfl ?_
              refine ev_ldc (q := 67) co_X7_243 dX7_year_65 rfl ?_
              refine ev_irem (q := 68) (by decide) dX7_year_67 rfl ?_
              rw [show (75 : Int32) = nI 75 from rfl, pk_mul, show (74 : Int32) = nI 74 from rfl, nI_add, hq1]
              refine ev_ist_4 (q := 70) dX7_year_68 rfl rfl ?_
              refine ev_aload_n (q := 71) dX7_year_70 rfl rfl ?_
              refine ev_iload (q := 73) dX7_year_71 rfl rfl ?_
              refine ev_aload_n (q := 74) dX7_year_73 rfl rfl ?_
              refine ev_callV0i (q := 77) dX7_year_74 ca_X7_201 (s_X7_terms hn hm) rfl (lt_n hn (by decide)) rfl rfl (Nat.le_of_ble_eq_true rfl) (Nat.le_of_ble_eq_true rfl) (by decide) (by decide) rfl ?_
              refine ev_irem (q := 78) hne dX7_year_77 rfl ?_
              rw [hq2]
              refine ev_iload (q := 80) dX7_year_78 rfl rfl ?_
              refine ev_callV2iS (q := 83) dX7_year_80 ca_X7_204 (s_X7_madeOfTerm hn hm (by omega) (by omega)) rfl (lt_n hn (by decide)) rfl rfl (Nat.le_of_ble_eq_true rfl) (Nat.le_of_ble_eq_true rfl) (by decide) (by decide) rfl (fun S T => ?_)
              rw [hmk]
              refine ev_ist_9 (q := 85) dX7_year_83 rfl rfl ?_
              refine ev_iload (q := 87) dX7_year_85 rfl rfl ?_
              refine ev_iload (q := 89) dX7_year_87 rfl rfl ?_
              refine ev_if_ge (q := 92) 96 dX7_year_89 (by decide) rfl (fun c_89 => ?_) (fun c_89 => ?_)
              · refine ev_iconst (q := 97) (0) dX7_year_96 (by decide) rfl ?_
                refine ev_iadd (q := 98) dX7_year_97 rfl ?_
                refine ev_ist_6 (q := 100) dX7_year_98 rfl rfl ?_
                refine ev_iload (q := 102) dX7_year_100 rfl rfl ?_
                refine ev_if_lt (q := 105) 142 dX7_year_102 (by decide) rfl (fun c_102 => ?_) (fun c_102 => ?_)
                · exact absurd c_102 (nI_pos (by omega))
                · refine ev_iload (q := 107) dX7_year_105 rfl rfl ?_
                  refine ev_aload_n (q := 108) dX7_year_107 rfl rfl ?_
                  refine ev_aload_n (q := 109) dX7_year_108 rfl rfl ?_
                  refine ev_get (q := 112) dX7_year_109 fr_X7_67 rfl (lt_n hn (by decide)) rfl rfl ?_
                  rw [show ov I S 33 5 = nI wi from hwi]
                  refine ev_iload (q := 114) dX7_year_112 rfl rfl ?_
                  refine ev_callV2i (q := 117) dX7_year_114 ca_X7_117 (s_X7_worthTo (w := w) hn hm (by omega) (by omega)) rfl (lt_n hn (by decide)) rfl rfl (Nat.le_of_ble_eq_true rfl) (Nat.le_of_ble_eq_true rfl) (by decide) (by decide) rfl ?_
                  refine ev_aload_n (q := 118) dX7_year_117 rfl rfl ?_
                  refine ev_aload_n (q := 119) dX7_year_118 rfl rfl ?_
                  refine ev_get (q := 122) dX7_year_119 fr_X7_67 rfl (lt_n hn (by decide)) rfl rfl ?_
                  rw [show ov I S 33 5 = nI wi from hwi]
                  refine ev_iload (q := 124) dX7_year_122 rfl rfl ?_
                  refine ev_callV2i (q := 127) dX7_year_124 ca_X7_117 (s_X7_worthTo hn hm (by omega) (by omega)) rfl (lt_n hn (by decide)) rfl rfl (Nat.le_of_ble_eq_true rfl) (Nat.le_of_ble_eq_true rfl) (by decide) (by decide) rfl ?_
                  refine ev_icmp_ge (q := 130) 134 dX7_year_127 (by decide) rfl (fun c_127 => ?_) (fun c_127 => ?_)
                  · have c_127 : ¬ wtF I t wi w < wtF I t wi a := fun h => absurd c_127 (by simp only [i_le, i_lt] at *; omega)
                    simp only [c_127, if_false] at e
                    refine ev_iconst (q := 135) (0) dX7_year_134 (by decide) rfl ?_
                    refine ev_iadd (q := 136) dX7_year_135 rfl ?_
                    refine ev_ist_7 (q := 138) dX7_year_136 rfl rfl ?_
                    refine ev_iload (q := 140) dX7_year_138 rfl rfl ?_
                    refine ev_ist_5 (q := 142) dX7_year_140 rfl rfl ?_
                    refine ev_inc_8 (q := 145) (nI (k + 1)) dX7_year_142 (nI_1 k) rfl rfl ?_
                    refine ev_goto 51 dX7_year_145 (by decide) ?_
                    rw [show em + 0 = em by simp]
                    exact e (by omega) (by omega) _ _ _
                  · have c_127 : wtF I t wi w < wtF I t wi a := by simp only [i_le, i_lt] at *; omega
                    simp only [c_127, if_true] at e
                    refine ev_iconst (q := 131) (1) dX7_year_130 (by decide) rfl ?_
                    refine ev_goto 135 dX7_year_131 (by decide) ?_
                    refine ev_iadd (q := 136) dX7_year_135 rfl ?_
                    refine ev_ist_7 (q := 138) dX7_year_136 rfl rfl ?_
                    refine ev_iload (q := 140) dX7_year_138 rfl rfl ?_
                    refine ev_ist_5 (q := 142) dX7_year_140 rfl rfl ?_
                    refine ev_inc_8 (q := 145) (nI (k + 1)) dX7_year_142 (nI_1 k) rfl rfl ?_
                    refine ev_goto 51 dX7_year_145 (by decide) ?_
                    rw [show em + 0 = em by simp]
                    exact e (by omega) (by omega) _ _ _
              · exact absurd (nI_pos' (by omega)) c_89
    refine ev_iload_n (q := 1) dX7_year_0 rfl rfl ?_
    refine ev_iconst (q := 2) (0) dX7_year_1 (by decide) rfl ?_
    refine ev_sipush (q := 5) (9999) dX7_year_2 (by decide) rfl ?_
    refine ev_callS3i (q := 8) dX7_year_5 ca_X7_99 (c_X7_in _ _ _) (Nat.le_of_ble_eq_true rfl) (Nat.le_of_ble_eq_true rfl) (by decide) (by decide) rfl ?_
    refine ev_if_eq (q := 11) 30 dX7_year_8 (by decide) rfl (fun c_8 => ?_) (fun c_8 => ?_)
    · exact absurd c_8 (b2i_n0.mpr hin.1)
    · refine ev_iload_n (q := 12) dX7_year_11 rfl rfl ?_
      refine ev_iconst (q := 13) (1) dX7_year_12 (by decide) rfl ?_
      refine ev_bipush (q := 15) (99) dX7_year_13 (by decide) rfl ?_
      refine ev_callS3i (q := 18) dX7_year_15 ca_X7_99 (c_X7_in _ _ _) (Nat.le_of_ble_eq_true rfl) (Nat.le_of_ble_eq_true rfl) (by decide) (by decide) rfl ?_
      refine ev_if_eq (q := 21) 30 dX7_year_18 (by decide) rfl (fun c_18 => ?_) (fun c_18 => ?_)
      · exact absurd c_18 (b2i_n0.mpr hin2.1)
      · refine ev_iload_n (q := 22) dX7_year_21 rfl rfl ?_
        refine ev_iconst (q := 23) (0) dX7_year_22 (by decide) rfl ?_
        refine ev_iconst (q := 24) (2) dX7_year_23 (by decide) rfl ?_
        refine ev_callS3i (q := 27) dX7_year_24 ca_X7_99 (c_X7_in _ _ _) (Nat.le_of_ble_eq_true rfl) (Nat.le_of_ble_eq_true rfl) (by decide) (by decide) rfl ?_
        refine ev_if_ne (q := 30) 33 dX7_year_27 (by decide) rfl (fun c_27 => ?_) (fun c_27 => ?_)
        · refine ev_iload_n (q := 34) dX7_year_33 rfl rfl ?_
          refine ev_ist_4 (q := 36) dX7_year_34 rfl rfl ?_
          refine ev_aload_n (q := 37) dX7_year_36 rfl rfl ?_
          refine ev_get (q := 40) dX7_year_37 fr_X7_73 rfl (lt_n hn (by decide)) rfl rfl ?_
          rw [show ov I S 33 7 = nI he from hhe]
          refine ev_ist_5 (q := 42) dX7_year_40 rfl rfl ?_
          refine ev_iconst (q := 43) (0) dX7_year_42 (by decide) rfl ?_
          refine ev_ist_6 (q := 45) dX7_year_43 rfl rfl ?_
          refine ev_iconst (q := 46) (0) dX7_year_45 (by decide) rfl ?_
          refine ev_ist_7 (q := 48) dX7_year_46 rfl rfl ?_
          refine ev_iconst (q := 49) (0) dX7_year_48 (by decide) rfl ?_
          refine ev_ist_8 (q := 51) dX7_year_49 rfl rfl ?_
          exact lp mm 0 (by omega) _ _ _
        · exact absurd c_27 (b2i_n0.mpr hin2.2)
end MODEL12
end
section
theorem dX7_isPair_0 : decode cX7_isPair 0 = .ok (.iload_n 0, 1) := by decide +kernel
theorem dX7_isPair_1 : decode cX7_isPair 1 = .ok (.bipush 38, 2) := by decide +kernel
theorem dX7_isPair_3 : decode cX7_isPair 3 = .ok (.if_icmp .eq 27, 3) := by decide +kernel
theorem dX7_isPair_6 : decode cX7_isPair 6 = .ok (.iload_n 0, 1) := by decide +kernel
theorem dX7_isPair_7 : decode cX7_isPair 7 = .ok (.bipush 124, 2) := by decide +kernel
theorem dX7_isPair_9 : decode cX7_isPair 9 = .ok (.if_icmp .eq 21, 3) := by decide +kernel
theorem dX7_isPair_12 : decode cX7_isPair 12 = .ok (.iload_n 0, 1) := by decide +kernel
theorem dX7_isPair_13 : decode cX7_isPair 13 = .ok (.bipush 62, 2) := by decide +kernel
theorem dX7_isPair_15 : decode cX7_isPair 15 = .ok (.if_icmp .eq 15, 3) := by decide +kernel
theorem dX7_isPair_18 : decode cX7_isPair 18 = .ok (.iload_n 0, 1) := by decide +kernel
theorem dX7_isPair_19 : decode cX7_isPair 19 = .ok (.bipush 61, 2) := by decide +kernel
theorem dX7_isPair_21 : decode cX7_isPair 21 = .ok (.if_icmp .eq 9, 3) := by decide +kernel
theorem dX7_isPair_24 : decode cX7_isPair 24 = .ok (.iload_n 0, 1) := by decide +kernel
theorem dX7_isPair_25 : decode cX7_isPair 25 = .ok (.bipush 94, 2) := by decide +kernel
theorem dX7_isPair_27 : decode cX7_isPair 27 = .ok (.if_icmp .ne 7, 3) := by decide +kernel
theorem dX7_isPair_30 : decode cX7_isPair 30 = .ok (.iconst 1, 1) := by decide +kernel
theorem dX7_isPair_31 : decode cX7_isPair 31 = .ok (.goto 4, 3) := by decide +kernel
theorem dX7_isPair_34 : decode cX7_isPair 34 = .ok (.iconst 0, 1) := by decide +kernel
theorem dX7_isPair_35 : decode cX7_isPair 35 = .ok (.ireturn, 1) := by decide +kernel
theorem dX7_isLetter_0 : decode cX7_isLetter 0 = .ok (.iload_n 1, 1) := by decide +kernel
theorem dX7_isLetter_1 : decode cX7_isLetter 1 = .ok (.bipush 97, 2) := by decide +kernel
theorem dX7_isLetter_3 : decode cX7_isLetter 3 = .ok (.bipush 97, 2) := by decide +kernel
theorem dX7_isLetter_5 : decode cX7_isLetter 5 = .ok (.aload_n 0, 1) := by decide +kernel
theorem dX7_isLetter_6 : decode cX7_isLetter 6 = .ok (.getfield 7, 3) := by decide +kernel
theorem dX7_isLetter_9 : decode cX7_isLetter 9 = .ok (.iadd, 1) := by decide +kernel
theorem dX7_isLetter_10 : decode cX7_isLetter 10 = .ok (.iconst 1, 1) := by decide +kernel
theorem dX7_isLetter_11 : decode cX7_isLetter 11 = .ok (.isub, 1) := by decide +kernel
theorem dX7_isLetter_12 : decode cX7_isLetter 12 = .ok (.invokestatic 99, 3) := by decide +kernel
theorem dX7_isLetter_15 : decode cX7_isLetter 15 = .ok (.ireturn, 1) := by decide +kernel
theorem dX7_faultOf_0 : decode cX7_faultOf 0 = .ok (.iconst 1, 1) := by decide +kernel
theorem dX7_faultOf_1 : decode cX7_faultOf 1 = .ok (.istore_n 1, 1) := by decide +kernel
theorem dX7_faultOf_2 : decode cX7_faultOf 2 = .ok (.iconst 0, 1) := by decide +kernel
theorem dX7_faultOf_3 : decode cX7_faultOf 3 = .ok (.istore_n 2, 1) := by decide +kernel
theorem dX7_faultOf_4 : decode cX7_faultOf 4 = .ok (.iconst 0, 1) := by decide +kernel
theorem dX7_faultOf_5 : decode cX7_faultOf 5 = .ok (.istore_n 3, 1) := by decide +kernel
theorem dX7_faultOf_6 : decode cX7_faultOf 6 = .ok (.iload_n 3, 1) := by decide +kernel
theorem dX7_faultOf_7 : decode cX7_faultOf 7 = .ok (.aload_n 0, 1) := by decide +kernel
theorem dX7_faultOf_8 : decode cX7_faultOf 8 = .ok (.getfield 121, 3) := by decide +kernel
theorem dX7_faultOf_11 : decode cX7_faultOf 11 = .ok (.if_icmp .ge 152, 3) := by decide +kernel
theorem dX7_faultOf_14 : decode cX7_faultOf 14 = .ok (.aload_n 0, 1) := by decide +kernel
theorem dX7_faultOf_15 : decode cX7_faultOf 15 = .ok (.getfield 36, 3) := by decide +kernel
theorem dX7_faultOf_18 : decode cX7_faultOf 18 = .ok (.iload_n 3, 1) := by decide +kernel
theorem dX7_faultOf_19 : decode cX7_faultOf 19 = .ok (.iaload, 1) := by decide +kernel
theorem dX7_faultOf_20 : decode cX7_faultOf 20 = .ok (.istore 4, 2) := by decide +kernel
theorem dX7_faultOf_22 : decode cX7_faultOf 22 = .ok (.aload_n 0, 1) := by decide +kernel
theorem dX7_faultOf_23 : decode cX7_faultOf 23 = .ok (.iload 4, 2) := by decide +kernel
theorem dX7_faultOf_25 : decode cX7_faultOf 25 = .ok (.invokevirtual 124, 3) := by decide +kernel
theorem dX7_faultOf_28 : decode cX7_faultOf 28 = .ok (.ifCond .ne 21, 3) := by decide +kernel
theorem dX7_faultOf_31 : decode cX7_faultOf 31 = .ok (.iload_n 2, 1) := by decide +kernel
theorem dX7_faultOf_32 : decode cX7_faultOf 32 = .ok (.ifCond .ne 21, 3) := by decide +kernel
theorem dX7_faultOf_35 : decode cX7_faultOf 35 = .ok (.iload 4, 2) := by decide +kernel
theorem dX7_faultOf_37 : decode cX7_faultOf 37 = .ok (.bipush 48, 2) := by decide +kernel
theorem dX7_faultOf_39 : decode cX7_faultOf 39 = .ok (.if_icmp .eq 10, 3) := by decide +kernel
theorem dX7_faultOf_42 : decode cX7_faultOf 42 = .ok (.iload 4, 2) := by decide +kernel
theorem dX7_faultOf_44 : decode cX7_faultOf 44 = .ok (.bipush 49, 2) := by decide +kernel
theorem dX7_faultOf_46 : decode cX7_faultOf 46 = .ok (.if_icmp .ne 7, 3) := by decide +kernel
theorem dX7_faultOf_49 : decode cX7_faultOf 49 = .ok (.iconst 1, 1) := by decide +kernel
theorem dX7_faultOf_50 : decode cX7_faultOf 50 = .ok (.goto 4, 3) := by decide +kernel
theorem dX7_faultOf_53 : decode cX7_faultOf 53 = .ok (.iconst 0, 1) := by decide +kernel
theorem dX7_faultOf_54 : decode cX7_faultOf 54 = .ok (.istore 5, 2) := by decide +kernel
theorem dX7_faultOf_56 : decode cX7_faultOf 56 = .ok (.iload_n 3, 1) := by decide +kernel
theorem dX7_faultOf_57 : decode cX7_faultOf 57 = .ok (.bipush 24, 2) := by decide +kernel
theorem dX7_faultOf_59 : decode cX7_faultOf 59 = .ok (.if_icmp .ge 50, 3) := by decide +kernel
theorem dX7_faultOf_62 : decode cX7_faultOf 62 = .ok (.iload_n 2, 1) := by decide +kernel
theorem dX7_faultOf_63 : decode cX7_faultOf 63 = .ok (.ifCond .eq 11, 3) := by decide +kernel
theorem dX7_faultOf_66 : decode cX7_faultOf 66 = .ok (.iload 5, 2) := by decide +kernel
theorem dX7_faultOf_68 : decode cX7_faultOf 68 = .ok (.ifCond .eq 41, 3) := by decide +kernel
theorem dX7_faultOf_71 : decode cX7_faultOf 71 = .ok (.goto 34, 3) := by decide +kernel
theorem dX7_faultOf_74 : decode cX7_faultOf 74 = .ok (.iload_n 1, 1) := by decide +kernel
theorem dX7_faultOf_75 : decode cX7_faultOf 75 = .ok (.ifCond .le 34, 3) := by decide +kernel
theorem dX7_faultOf_78 : decode cX7_faultOf 78 = .ok (.iload 5, 2) := by decide +kernel
theorem dX7_faultOf_80 : decode cX7_faultOf 80 = .ok (.ifCond .ne 25, 3) := by decide +kernel
theorem dX7_faultOf_83 : decode cX7_faultOf 83 = .ok (.iload 4, 2) := by decide +kernel
theorem dX7_faultOf_85 : decode cX7_faultOf 85 = .ok (.bipush 126, 2) := by decide +kernel
theorem dX7_faultOf_87 : decode cX7_faultOf 87 = .ok (.if_icmp .eq 18, 3) := by decide +kernel
theorem dX7_faultOf_90 : decode cX7_faultOf 90 = .ok (.iload 4, 2) := by decide +kernel
theorem dX7_faultOf_92 : decode cX7_faultOf 92 = .ok (.bipush 45, 2) := by decide +kernel
theorem dX7_faultOf_94 : decode cX7_faultOf 94 = .ok (.if_icmp .eq 11, 3) := by decide +kernel
theorem dX7_faultOf_97 : decode cX7_faultOf 97 = .ok (.iload 4, 2) := by decide +kernel
theorem dX7_faultOf_99 : decode cX7_faultOf 99 = .ok (.invokestatic 127, 3) := by decide +kernel
theorem dX7_faultOf_102 : decode cX7_faultOf 102 = .ok (.ifCond .eq 7, 3) := by decide +kernel
theorem dX7_faultOf_105 : decode cX7_faultOf 105 = .ok (.iconst 1, 1) := by decide +kernel
theorem dX7_faultOf_106 : decode cX7_faultOf 106 = .ok (.goto 4, 3) := by decide +kernel
theorem dX7_faultOf_109 : decode cX7_faultOf 109 = .ok (.iconst 0, 1) := by decide +kernel
theorem dX7_faultOf_110 : decode cX7_faultOf 110 = .ok (.istore 6, 2) := by decide +kernel
theorem dX7_faultOf_112 : decode cX7_faultOf 112 = .ok (.iload 6, 2) := by decide +kernel
theorem dX7_faultOf_114 : decode cX7_faultOf 114 = .ok (.ifCond .ne 5, 3) := by decide +kernel
theorem dX7_faultOf_117 : decode cX7_faultOf 117 = .ok (.iload_n 3, 1) := by decide +kernel
theorem dX7_faultOf_118 : decode cX7_faultOf 118 = .ok (.ireturn, 1) := by decide +kernel
theorem dX7_faultOf_119 : decode cX7_faultOf 119 = .ok (.iload 4, 2) := by decide +kernel
theorem dX7_faultOf_121 : decode cX7_faultOf 121 = .ok (.bipush 126, 2) := by decide +kernel
theorem dX7_faultOf_123 : decode cX7_faultOf 123 = .ok (.if_icmp .ne 7, 3) := by decide +kernel
theorem dX7_faultOf_126 : decode cX7_faultOf 126 = .ok (.iconst 1, 1) := by decide +kernel
theorem dX7_faultOf_127 : decode cX7_faultOf 127 = .ok (.goto 4, 3) := by decide +kernel
theorem dX7_faultOf_130 : decode cX7_faultOf 130 = .ok (.iconst 0, 1) := by decide +kernel
theorem dX7_faultOf_131 : decode cX7_faultOf 131 = .ok (.istore_n 2, 1) := by decide +kernel
theorem dX7_faultOf_132 : decode cX7_faultOf 132 = .ok (.iload_n 1, 1) := by decide +kernel
theorem dX7_faultOf_133 : decode cX7_faultOf 133 = .ok (.iload 5, 2) := by decide +kernel
theorem dX7_faultOf_135 : decode cX7_faultOf 135 = .ok (.ifCond .eq 7, 3) := by decide +kernel
theorem dX7_faultOf_138 : decode cX7_faultOf 138 = .ok (.iconst (-1), 1) := by decide +kernel
theorem dX7_faultOf_139 : decode cX7_faultOf 139 = .ok (.goto 16, 3) := by decide +kernel
theorem dX7_faultOf_142 : decode cX7_faultOf 142 = .ok (.iload 4, 2) := by decide +kernel
theorem dX7_faultOf_144 : decode cX7_faultOf 144 = .ok (.invokestatic 127, 3) := by decide +kernel
theorem dX7_faultOf_147 : decode cX7_faultOf 147 = .ok (.ifCond .eq 7, 3) := by decide +kernel
theorem dX7_faultOf_150 : decode cX7_faultOf 150 = .ok (.iconst 1, 1) := by decide +kernel
theorem dX7_faultOf_151 : decode cX7_faultOf 151 = .ok (.goto 4, 3) := by decide +kernel
theorem dX7_faultOf_154 : decode cX7_faultOf 154 = .ok (.iconst 0, 1) := by decide +kernel
theorem dX7_faultOf_155 : decode cX7_faultOf 155 = .ok (.iadd, 1) := by decide +kernel
theorem dX7_faultOf_156 : decode cX7_faultOf 156 = .ok (.istore_n 1, 1) := by decide +kernel
theorem dX7_faultOf_157 : decode cX7_faultOf 157 = .ok (.iinc 3 1, 3) := by decide +kernel
theorem dX7_faultOf_160 : decode cX7_faultOf 160 = .ok (.goto (-154), 3) := by decide +kernel
theorem dX7_faultOf_163 : decode cX7_faultOf 163 = .ok (.iload_n 1, 1) := by decide +kernel
theorem dX7_faultOf_164 : decode cX7_faultOf 164 = .ok (.ifCond .ne 8, 3) := by decide +kernel
theorem dX7_faultOf_167 : decode cX7_faultOf 167 = .ok (.bipush (-6), 2) := by decide +kernel
theorem dX7_faultOf_169 : decode cX7_faultOf 169 = .ok (.goto 7, 3) := by decide +kernel
theorem dX7_faultOf_172 : decode cX7_faultOf 172 = .ok (.aload_n 0, 1) := by decide +kernel
theorem dX7_faultOf_173 : decode cX7_faultOf 173 = .ok (.getfield 121, 3) := by decide +kernel
theorem dX7_faultOf_176 : decode cX7_faultOf 176 = .ok (.ireturn, 1) := by decide +kernel
theorem dX7_fault_0 : decode cX7_fault 0 = .ok (.aload_n 0, 1) := by decide +kernel
theorem dX7_fault_1 : decode cX7_fault 1 = .ok (.invokevirtual 130, 3) := by decide +kernel
theorem dX7_fault_4 : decode cX7_fault 4 = .ok (.ireturn, 1) := by decide +kernel
theorem dX7_layPad_0 : decode cX7_layPad 0 = .ok (.aload_n 0, 1) := by decide +kernel
theorem dX7_layPad_1 : decode cX7_layPad 1 = .ok (.aload_n 0, 1) := by decide +kernel
theorem dX7_layPad_2 : decode cX7_layPad 2 = .ok (.getfield 121, 3) := by decide +kernel
theorem dX7_layPad_5 : decode cX7_layPad 5 = .ok (.putfield 133, 3) := by decide +kernel
theorem dX7_layPad_8 : decode cX7_layPad 8 = .ok (.iconst 0, 1) := by decide +kernel
theorem dX7_layPad_9 : decode cX7_layPad 9 = .ok (.istore_n 1, 1) := by decide +kernel
theorem dX7_layPad_10 : decode cX7_layPad 10 = .ok (.iload_n 1, 1) := by decide +kernel
theorem dX7_layPad_11 : decode cX7_layPad 11 = .ok (.aload_n 0, 1) := by decide +kernel
theorem dX7_layPad_12 : decode cX7_layPad 12 = .ok (.getfield 121, 3) := by decide +kernel
theorem dX7_layPad_15 : decode cX7_layPad 15 = .ok (.if_icmp .ge 21, 3) := by decide +kernel
theorem dX7_layPad_18 : decode cX7_layPad 18 = .ok (.aload_n 0, 1) := by decide +kernel
theorem dX7_layPad_19 : decode cX7_layPad 19 = .ok (.getfield 39, 3) := by decide +kernel
theorem dX7_layPad_22 : decode cX7_layPad 22 = .ok (.iload_n 1, 1) := by decide +kernel
theorem dX7_layPad_23 : decode cX7_layPad 23 = .ok (.aload_n 0, 1) := by decide +kernel
theorem dX7_layPad_24 : decode cX7_layPad 24 = .ok (.getfield 36, 3) := by decide +kernel
theorem dX7_layPad_27 : decode cX7_layPad 27 = .ok (.iload_n 1, 1) := by decide +kernel
theorem dX7_layPad_28 : decode cX7_layPad 28 = .ok (.iaload, 1) := by decide +kernel
theorem dX7_layPad_29 : decode cX7_layPad 29 = .ok (.iastore, 1) := by decide +kernel
theorem dX7_layPad_30 : decode cX7_layPad 30 = .ok (.iinc 1 1, 3) := by decide +kernel
theorem dX7_layPad_33 : decode cX7_layPad 33 = .ok (.goto (-23), 3) := by decide +kernel
theorem dX7_layPad_36 : decode cX7_layPad 36 = .ok (.return_, 1) := by decide +kernel
theorem dX7_pairOf_0 : decode cX7_pairOf 0 = .ok (.iload_n 1, 1) := by decide +kernel
theorem dX7_pairOf_1 : decode cX7_pairOf 1 = .ok (.lookupswitch 96 #[(38, 43), (61, 85), (62, 71), (124, 57)], 43) := by decide +kernel
theorem dX7_pairOf_44 : decode cX7_pairOf 44 = .ok (.iload_n 2, 1) := by decide +kernel
theorem dX7_pairOf_45 : decode cX7_pairOf 45 = .ok (.ifCond .eq 11, 3) := by decide +kernel
theorem dX7_pairOf_48 : decode cX7_pairOf 48 = .ok (.iload_n 3, 1) := by decide +kernel
theorem dX7_pairOf_49 : decode cX7_pairOf 49 = .ok (.ifCond .eq 7, 3) := by decide +kernel
theorem dX7_pairOf_52 : decode cX7_pairOf 52 = .ok (.iconst 1, 1) := by decide +kernel
theorem dX7_pairOf_53 : decode cX7_pairOf 53 = .ok (.goto 4, 3) := by decide +kernel
theorem dX7_pairOf_56 : decode cX7_pairOf 56 = .ok (.iconst 0, 1) := by decide +kernel
theorem dX7_pairOf_57 : decode cX7_pairOf 57 = .ok (.ireturn, 1) := by decide +kernel
theorem dX7_pairOf_58 : decode cX7_pairOf 58 = .ok (.iload_n 2, 1) := by decide +kernel
theorem dX7_pairOf_59 : decode cX7_pairOf 59 = .ok (.ifCond .ne 7, 3) := by decide +kernel
theorem dX7_pairOf_62 : decode cX7_pairOf 62 = .ok (.iload_n 3, 1) := by decide +kernel
theorem dX7_pairOf_63 : decode cX7_pairOf 63 = .ok (.ifCond .eq 7, 3) := by decide +kernel
theorem dX7_pairOf_66 : decode cX7_pairOf 66 = .ok (.iconst 1, 1) := by decide +kernel
theorem dX7_pairOf_67 : decode cX7_pairOf 67 = .ok (.goto 4, 3) := by decide +kernel
theorem dX7_pairOf_70 : decode cX7_pairOf 70 = .ok (.iconst 0, 1) := by decide +kernel
theorem dX7_pairOf_71 : decode cX7_pairOf 71 = .ok (.ireturn, 1) := by decide +kernel
theorem dX7_pairOf_72 : decode cX7_pairOf 72 = .ok (.iload_n 2, 1) := by decide +kernel
theorem dX7_pairOf_73 : decode cX7_pairOf 73 = .ok (.ifCond .eq 7, 3) := by decide +kernel
theorem dX7_pairOf_76 : decode cX7_pairOf 76 = .ok (.iload_n 3, 1) := by decide +kernel
theorem dX7_pairOf_77 : decode cX7_pairOf 77 = .ok (.ifCond .eq 7, 3) := by decide +kernel
theorem dX7_pairOf_80 : decode cX7_pairOf 80 = .ok (.iconst 1, 1) := by decide +kernel
theorem dX7_pairOf_81 : decode cX7_pairOf 81 = .ok (.goto 4, 3) := by decide +kernel
theorem dX7_pairOf_84 : decode cX7_pairOf 84 = .ok (.iconst 0, 1) := by decide +kernel
theorem dX7_pairOf_85 : decode cX7_pairOf 85 = .ok (.ireturn, 1) := by decide +kernel
theorem dX7_pairOf_86 : decode cX7_pairOf 86 = .ok (.iload_n 2, 1) := by decide +kernel
theorem dX7_pairOf_87 : decode cX7_pairOf 87 = .ok (.iload_n 3, 1) := by decide +kernel
theorem dX7_pairOf_88 : decode cX7_pairOf 88 = .ok (.if_icmp .ne 7, 3) := by decide +kernel
theorem dX7_pairOf_91 : decode cX7_pairOf 91 = .ok (.iconst 1, 1) := by decide +kernel
theorem dX7_pairOf_92 : decode cX7_pairOf 92 = .ok (.goto 4, 3) := by decide +kernel
theorem dX7_pairOf_95 : decode cX7_pairOf 95 = .ok (.iconst 0, 1) := by decide +kernel
theorem dX7_pairOf_96 : decode cX7_pairOf 96 = .ok (.ireturn, 1) := by decide +kernel
theorem dX7_pairOf_97 : decode cX7_pairOf 97 = .ok (.iload_n 2, 1) := by decide +kernel
theorem dX7_pairOf_98 : decode cX7_pairOf 98 = .ok (.iload_n 3, 1) := by decide +kernel
theorem dX7_pairOf_99 : decode cX7_pairOf 99 = .ok (.if_icmp .eq 7, 3) := by decide +kernel
theorem dX7_pairOf_102 : decode cX7_pairOf 102 = .ok (.iconst 1, 1) := by decide +kernel
theorem dX7_pairOf_103 : decode cX7_pairOf 103 = .ok (.goto 4, 3) := by decide +kernel
theorem dX7_pairOf_106 : decode cX7_pairOf 106 = .ok (.iconst 0, 1) := by decide +kernel
theorem dX7_pairOf_107 : decode cX7_pairOf 107 = .ok (.ireturn, 1) := by decide +kernel
theorem dX7_isSo_0 : decode cX7_isSo 0 = .ok (.iconst 0, 1) := by decide +kernel
theorem dX7_isSo_1 : decode cX7_isSo 1 = .ok (.istore_n 3, 1) := by decide +kernel
theorem dX7_isSo_2 : decode cX7_isSo 2 = .ok (.aload_n 0, 1) := by decide +kernel
theorem dX7_isSo_3 : decode cX7_isSo 3 = .ok (.getfield 133, 3) := by decide +kernel
theorem dX7_isSo_6 : decode cX7_isSo 6 = .ok (.iconst 1, 1) := by decide +kernel
theorem dX7_isSo_7 : decode cX7_isSo 7 = .ok (.isub, 1) := by decide +kernel
theorem dX7_isSo_8 : decode cX7_isSo 8 = .ok (.istore 4, 2) := by decide +kernel
theorem dX7_isSo_10 : decode cX7_isSo 10 = .ok (.iload 4, 2) := by decide +kernel
theorem dX7_isSo_12 : decode cX7_isSo 12 = .ok (.ifCond .lt 205, 3) := by decide +kernel
theorem dX7_isSo_15 : decode cX7_isSo 15 = .ok (.aload_n 0, 1) := by decide +kernel
theorem dX7_isSo_16 : decode cX7_isSo 16 = .ok (.getfield 39, 3) := by decide +kernel
theorem dX7_isSo_19 : decode cX7_isSo 19 = .ok (.iload 4, 2) := by decide +kernel
theorem dX7_isSo_21 : decode cX7_isSo 21 = .ok (.iaload, 1) := by decide +kernel
theorem dX7_isSo_22 : decode cX7_isSo 22 = .ok (.istore 5, 2) := by decide +kernel
theorem dX7_isSo_24 : decode cX7_isSo 24 = .ok (.aload_n 0, 1) := by decide +kernel
theorem dX7_isSo_25 : decode cX7_isSo 25 = .ok (.iload 5, 2) := by decide +kernel
theorem dX7_isSo_27 : decode cX7_isSo 27 = .ok (.invokevirtual 124, 3) := by decide +kernel
theorem dX7_isSo_30 : decode cX7_isSo 30 = .ok (.ifCond .eq 69, 3) := by decide +kernel
theorem dX7_isSo_33 : decode cX7_isSo 33 = .ok (.iload_n 1, 1) := by decide +kernel
theorem dX7_isSo_34 : decode cX7_isSo 34 = .ok (.iload 5, 2) := by decide +kernel
theorem dX7_isSo_36 : decode cX7_isSo 36 = .ok (.bipush 97, 2) := by decide +kernel
theorem dX7_isSo_38 : decode cX7_isSo 38 = .ok (.isub, 1) := by decide +kernel
theorem dX7_isSo_39 : decode cX7_isSo 39 = .ok (.invokestatic 113, 3) := by decide +kernel
theorem dX7_isSo_42 : decode cX7_isSo 42 = .ok (.istore 6, 2) := by decide +kernel
theorem dX7_isSo_44 : decode cX7_isSo 44 = .ok (.aload_n 0, 1) := by decide +kernel
theorem dX7_isSo_45 : decode cX7_isSo 45 = .ok (.getfield 42, 3) := by decide +kernel
theorem dX7_isSo_48 : decode cX7_isSo 48 = .ok (.iload_n 3, 1) := by decide +kernel
theorem dX7_isSo_49 : decode cX7_isSo 49 = .ok (.iload 4, 2) := by decide +kernel
theorem dX7_isSo_51 : decode cX7_isSo 51 = .ok (.ifCond .le 39, 3) := by decide +kernel
theorem dX7_isSo_54 : decode cX7_isSo 54 = .ok (.aload_n 0, 1) := by decide +kernel
theorem dX7_isSo_55 : decode cX7_isSo 55 = .ok (.getfield 39, 3) := by decide +kernel
theorem dX7_isSo_58 : decode cX7_isSo 58 = .ok (.iload 4, 2) := by decide +kernel
theorem dX7_isSo_60 : decode cX7_isSo 60 = .ok (.iconst 1, 1) := by decide +kernel
theorem dX7_isSo_61 : decode cX7_isSo 61 = .ok (.isub, 1) := by decide +kernel
theorem dX7_isSo_62 : decode cX7_isSo 62 = .ok (.iaload, 1) := by decide +kernel
theorem dX7_isSo_63 : decode cX7_isSo 63 = .ok (.bipush 126, 2) := by decide +kernel
theorem dX7_isSo_65 : decode cX7_isSo 65 = .ok (.if_icmp .ne 25, 3) := by decide +kernel
theorem dX7_isSo_68 : decode cX7_isSo 68 = .ok (.iload 6, 2) := by decide +kernel
theorem dX7_isSo_70 : decode cX7_isSo 70 = .ok (.iload_n 2, 1) := by decide +kernel
theorem dX7_isSo_71 : decode cX7_isSo 71 = .ok (.iload 5, 2) := by decide +kernel
theorem dX7_isSo_73 : decode cX7_isSo 73 = .ok (.bipush 97, 2) := by decide +kernel
theorem dX7_isSo_75 : decode cX7_isSo 75 = .ok (.isub, 1) := by decide +kernel
theorem dX7_isSo_76 : decode cX7_isSo 76 = .ok (.invokestatic 113, 3) := by decide +kernel
theorem dX7_isSo_79 : decode cX7_isSo 79 = .ok (.if_icmp .ne 7, 3) := by decide +kernel
theorem dX7_isSo_82 : decode cX7_isSo 82 = .ok (.iconst 1, 1) := by decide +kernel
theorem dX7_isSo_83 : decode cX7_isSo 83 = .ok (.goto 9, 3) := by decide +kernel
theorem dX7_isSo_86 : decode cX7_isSo 86 = .ok (.iconst 0, 1) := by decide +kernel
theorem dX7_isSo_87 : decode cX7_isSo 87 = .ok (.goto 5, 3) := by decide +kernel
theorem dX7_isSo_90 : decode cX7_isSo 90 = .ok (.iload 6, 2) := by decide +kernel
theorem dX7_isSo_92 : decode cX7_isSo 92 = .ok (.bastore, 1) := by decide +kernel
theorem dX7_isSo_93 : decode cX7_isSo 93 = .ok (.iinc 3 1, 3) := by decide +kernel
theorem dX7_isSo_96 : decode cX7_isSo 96 = .ok (.goto 115, 3) := by decide +kernel
theorem dX7_isSo_99 : decode cX7_isSo 99 = .ok (.iload 5, 2) := by decide +kernel
theorem dX7_isSo_101 : decode cX7_isSo 101 = .ok (.bipush 48, 2) := by decide +kernel
theorem dX7_isSo_103 : decode cX7_isSo 103 = .ok (.if_icmp .eq 10, 3) := by decide +kernel
theorem dX7_isSo_106 : decode cX7_isSo 106 = .ok (.iload 5, 2) := by decide +kernel
theorem dX7_isSo_108 : decode cX7_isSo 108 = .ok (.bipush 49, 2) := by decide +kernel
theorem dX7_isSo_110 : decode cX7_isSo 110 = .ok (.if_icmp .ne 27, 3) := by decide +kernel
theorem dX7_isSo_113 : decode cX7_isSo 113 = .ok (.aload_n 0, 1) := by decide +kernel
theorem dX7_isSo_114 : decode cX7_isSo 114 = .ok (.getfield 42, 3) := by decide +kernel
theorem dX7_isSo_117 : decode cX7_isSo 117 = .ok (.iload_n 3, 1) := by decide +kernel
theorem dX7_isSo_118 : decode cX7_isSo 118 = .ok (.iload 5, 2) := by decide +kernel
theorem dX7_isSo_120 : decode cX7_isSo 120 = .ok (.bipush 49, 2) := by decide +kernel
theorem dX7_isSo_122 : decode cX7_isSo 122 = .ok (.if_icmp .ne 7, 3) := by decide +kernel
theorem dX7_isSo_125 : decode cX7_isSo 125 = .ok (.iconst 1, 1) := by decide +kernel
theorem dX7_isSo_126 : decode cX7_isSo 126 = .ok (.goto 4, 3) := by decide +kernel
theorem dX7_isSo_129 : decode cX7_isSo 129 = .ok (.iconst 0, 1) := by decide +kernel
theorem dX7_isSo_130 : decode cX7_isSo 130 = .ok (.bastore, 1) := by decide +kernel
theorem dX7_isSo_131 : decode cX7_isSo 131 = .ok (.iinc 3 1, 3) := by decide +kernel
theorem dX7_isSo_134 : decode cX7_isSo 134 = .ok (.goto 77, 3) := by decide +kernel
theorem dX7_isSo_137 : decode cX7_isSo 137 = .ok (.iload 5, 2) := by decide +kernel
theorem dX7_isSo_139 : decode cX7_isSo 139 = .ok (.bipush 45, 2) := by decide +kernel
theorem dX7_isSo_141 : decode cX7_isSo 141 = .ok (.if_icmp .ne 30, 3) := by decide +kernel
theorem dX7_isSo_144 : decode cX7_isSo 144 = .ok (.aload_n 0, 1) := by decide +kernel
theorem dX7_isSo_145 : decode cX7_isSo 145 = .ok (.getfield 42, 3) := by decide +kernel
theorem dX7_isSo_148 : decode cX7_isSo 148 = .ok (.iload_n 3, 1) := by decide +kernel
theorem dX7_isSo_149 : decode cX7_isSo 149 = .ok (.iconst 1, 1) := by decide +kernel
theorem dX7_isSo_150 : decode cX7_isSo 150 = .ok (.isub, 1) := by decide +kernel
theorem dX7_isSo_151 : decode cX7_isSo 151 = .ok (.aload_n 0, 1) := by decide +kernel
theorem dX7_isSo_152 : decode cX7_isSo 152 = .ok (.getfield 42, 3) := by decide +kernel
theorem dX7_isSo_155 : decode cX7_isSo 155 = .ok (.iload_n 3, 1) := by decide +kernel
theorem dX7_isSo_156 : decode cX7_isSo 156 = .ok (.iconst 1, 1) := by decide +kernel
theorem dX7_isSo_157 : decode cX7_isSo 157 = .ok (.isub, 1) := by decide +kernel
theorem dX7_isSo_158 : decode cX7_isSo 158 = .ok (.baload, 1) := by decide +kernel
theorem dX7_isSo_159 : decode cX7_isSo 159 = .ok (.ifCond .ne 7, 3) := by decide +kernel
theorem dX7_isSo_162 : decode cX7_isSo 162 = .ok (.iconst 1, 1) := by decide +kernel
theorem dX7_isSo_163 : decode cX7_isSo 163 = .ok (.goto 4, 3) := by decide +kernel
theorem dX7_isSo_166 : decode cX7_isSo 166 = .ok (.iconst 0, 1) := by decide +kernel
theorem dX7_isSo_167 : decode cX7_isSo 167 = .ok (.bastore, 1) := by decide +kernel
theorem dX7_isSo_168 : decode cX7_isSo 168 = .ok (.goto 43, 3) := by decide +kernel
theorem dX7_isSo_171 : decode cX7_isSo 171 = .ok (.iload 5, 2) := by decide +kernel
theorem dX7_isSo_173 : decode cX7_isSo 173 = .ok (.bipush 126, 2) := by decide +kernel
theorem dX7_isSo_175 : decode cX7_isSo 175 = .ok (.if_icmp .eq 36, 3) := by decide +kernel
theorem dX7_isSo_178 : decode cX7_isSo 178 = .ok (.aload_n 0, 1) := by decide +kernel
theorem dX7_isSo_179 : decode cX7_isSo 179 = .ok (.getfield 42, 3) := by decide +kernel
theorem dX7_isSo_182 : decode cX7_isSo 182 = .ok (.iload_n 3, 1) := by decide +kernel
theorem dX7_isSo_183 : decode cX7_isSo 183 = .ok (.iconst 2, 1) := by decide +kernel
theorem dX7_isSo_184 : decode cX7_isSo 184 = .ok (.isub, 1) := by decide +kernel
theorem dX7_isSo_185 : decode cX7_isSo 185 = .ok (.aload_n 0, 1) := by decide +kernel
theorem dX7_isSo_186 : decode cX7_isSo 186 = .ok (.iload 5, 2) := by decide +kernel
theorem dX7_isSo_188 : decode cX7_isSo 188 = .ok (.aload_n 0, 1) := by decide +kernel
theorem dX7_isSo_189 : decode cX7_isSo 189 = .ok (.getfield 42, 3) := by decide +kernel
theorem dX7_isSo_192 : decode cX7_isSo 192 = .ok (.iload_n 3, 1) := by decide +kernel
theorem dX7_isSo_193 : decode cX7_isSo 193 = .ok (.iconst 1, 1) := by decide +kernel
theorem dX7_isSo_194 : decode cX7_isSo 194 = .ok (.isub, 1) := by decide +kernel
theorem dX7_isSo_195 : decode cX7_isSo 195 = .ok (.baload, 1) := by decide +kernel
theorem dX7_isSo_196 : decode cX7_isSo 196 = .ok (.aload_n 0, 1) := by decide +kernel
theorem dX7_isSo_197 : decode cX7_isSo 197 = .ok (.getfield 42, 3) := by decide +kernel
theorem dX7_isSo_200 : decode cX7_isSo 200 = .ok (.iload_n 3, 1) := by decide +kernel
theorem dX7_isSo_201 : decode cX7_isSo 201 = .ok (.iconst 2, 1) := by decide +kernel
theorem dX7_isSo_202 : decode cX7_isSo 202 = .ok (.isub, 1) := by decide +kernel
theorem dX7_isSo_203 : decode cX7_isSo 203 = .ok (.baload, 1) := by decide +kernel
theorem dX7_isSo_204 : decode cX7_isSo 204 = .ok (.invokevirtual 136, 3) := by decide +kernel
theorem dX7_isSo_207 : decode cX7_isSo 207 = .ok (.bastore, 1) := by decide +kernel
theorem dX7_isSo_208 : decode cX7_isSo 208 = .ok (.iinc 3 (-1), 3) := by decide +kernel
theorem dX7_isSo_211 : decode cX7_isSo 211 = .ok (.iinc 4 (-1), 3) := by decide +kernel
theorem dX7_isSo_214 : decode cX7_isSo 214 = .ok (.goto (-204), 3) := by decide +kernel
theorem dX7_isSo_217 : decode cX7_isSo 217 = .ok (.aload_n 0, 1) := by decide +kernel
theorem dX7_isSo_218 : decode cX7_isSo 218 = .ok (.getfield 42, 3) := by decide +kernel
theorem dX7_isSo_221 : decode cX7_isSo 221 = .ok (.iconst 0, 1) := by decide +kernel
theorem dX7_isSo_222 : decode cX7_isSo 222 = .ok (.baload, 1) := by decide +kernel
theorem dX7_isSo_223 : decode cX7_isSo 223 = .ok (.ireturn, 1) := by decide +kernel
theorem dX7_saidOf_0 : decode cX7_saidOf 0 = .ok (.iconst 0, 1) := by decide +kernel
theorem dX7_saidOf_1 : decode cX7_saidOf 1 = .ok (.istore_n 1, 1) := by decide +kernel
theorem dX7_saidOf_2 : decode cX7_saidOf 2 = .ok (.iconst 0, 1) := by decide +kernel
theorem dX7_saidOf_3 : decode cX7_saidOf 3 = .ok (.istore_n 2, 1) := by decide +kernel
theorem dX7_saidOf_4 : decode cX7_saidOf 4 = .ok (.iload_n 2, 1) := by decide +kernel
theorem dX7_saidOf_5 : decode cX7_saidOf 5 = .ok (.aload_n 0, 1) := by decide +kernel
theorem dX7_saidOf_6 : decode cX7_saidOf 6 = .ok (.getfield 133, 3) := by decide +kernel
theorem dX7_saidOf_9 : decode cX7_saidOf 9 = .ok (.if_icmp .ge 40, 3) := by decide +kernel
theorem dX7_saidOf_12 : decode cX7_saidOf 12 = .ok (.iload_n 1, 1) := by decide +kernel
theorem dX7_saidOf_13 : decode cX7_saidOf 13 = .ok (.aload_n 0, 1) := by decide +kernel
theorem dX7_saidOf_14 : decode cX7_saidOf 14 = .ok (.aload_n 0, 1) := by decide +kernel
theorem dX7_saidOf_15 : decode cX7_saidOf 15 = .ok (.getfield 39, 3) := by decide +kernel
theorem dX7_saidOf_18 : decode cX7_saidOf 18 = .ok (.iload_n 2, 1) := by decide +kernel
theorem dX7_saidOf_19 : decode cX7_saidOf 19 = .ok (.iaload, 1) := by decide +kernel
theorem dX7_saidOf_20 : decode cX7_saidOf 20 = .ok (.invokevirtual 124, 3) := by decide +kernel
theorem dX7_saidOf_23 : decode cX7_saidOf 23 = .ok (.ifCond .eq 17, 3) := by decide +kernel
theorem dX7_saidOf_26 : decode cX7_saidOf 26 = .ok (.iconst 1, 1) := by decide +kernel
theorem dX7_saidOf_27 : decode cX7_saidOf 27 = .ok (.aload_n 0, 1) := by decide +kernel
theorem dX7_saidOf_28 : decode cX7_saidOf 28 = .ok (.getfield 39, 3) := by decide +kernel
theorem dX7_saidOf_31 : decode cX7_saidOf 31 = .ok (.iload_n 2, 1) := by decide +kernel
theorem dX7_saidOf_32 : decode cX7_saidOf 32 = .ok (.iaload, 1) := by decide +kernel
theorem dX7_saidOf_33 : decode cX7_saidOf 33 = .ok (.bipush 97, 2) := by decide +kernel
theorem dX7_saidOf_35 : decode cX7_saidOf 35 = .ok (.isub, 1) := by decide +kernel
theorem dX7_saidOf_36 : decode cX7_saidOf 36 = .ok (.ishl, 1) := by decide +kernel
theorem dX7_saidOf_37 : decode cX7_saidOf 37 = .ok (.goto 4, 3) := by decide +kernel
theorem dX7_saidOf_40 : decode cX7_saidOf 40 = .ok (.iconst 0, 1) := by decide +kernel
theorem dX7_saidOf_41 : decode cX7_saidOf 41 = .ok (.ior, 1) := by decide +kernel
theorem dX7_saidOf_42 : decode cX7_saidOf 42 = .ok (.istore_n 1, 1) := by decide +kernel
theorem dX7_saidOf_43 : decode cX7_saidOf 43 = .ok (.iinc 2 1, 3) := by decide +kernel
theorem dX7_saidOf_46 : decode cX7_saidOf 46 = .ok (.goto (-42), 3) := by decide +kernel
theorem dX7_saidOf_49 : decode cX7_saidOf 49 = .ok (.iload_n 1, 1) := by decide +kernel
theorem dX7_saidOf_50 : decode cX7_saidOf 50 = .ok (.ireturn, 1) := by decide +kernel
def isPr (s : Int32) : Bool := decide (s = 38) || (decide (s = 124) || (decide (s = 62) || (decide (s = 61) || decide (s = 94))))
def isLt (t : Nat) (s : Int32) : Bool := inb s 97 (97 + nI t - 1)
def leafM (t : Nat) (s : Int32) (ld : Bool) : Bool := isLt t s || (!ld && (decide (s = 48) || decide (s = 49)))
def fitsM (t : Nat) (s : Int32) (k : Nat) (wa : Int32) (ld : Bool) : Bool := decide (k < 24) && (if ld then leafM t s ld else decide (0 < wa) && (leafM t s ld || (decide (s = 126) || (decide (s = 45) || isPr s))))
def dlM (t : Nat) (s : Int32) (ld : Bool) : Int32 := if leafM t s ld then -1 else if isPr s then 1 else 0
def ffM (t : Nat) (pd : Nat → Int32) (sg : Nat) : Nat → Nat → Int32 → Bool → Int32
  | 0, _, wa, _ => if wa = 0 then -6 else nI sg
  | j + 1, k, wa, ld => if fitsM t (pd k) k wa ld then ffM t pd sg j (k + 1) (wa + dlM t (pd k) ld) (decide (pd k = 126)) else nI k
def prF (s : Int32) (a b : Bool) : Bool := if s = 38 then a && b else if s = 124 then a || b else if s = 62 then !a || b else if s = 61 then a == b else a != b
section MODEL13
variable {xl : Nat} {xs : Nat → Int32} {n : Nat} {h : Nat → PC} {I S : Nat → Nat → Int32} {J T : Nat → Nat → Int64} {X : Nat → Option Nat} {t sl wy wi he : Nat}
theorem c_X7_isPair (s : Int32) : Rn xl xs 0 0 0 0 mX7_isPair [.int s] n h (some (.int (b2i (isPr s)))) n h := by
  intro Q hQ
  show Ev xl xs 0 0 0 0 mX7_isPair 0 [some (.int s)] [] n h Q
  refine ev_iload_n (q := 1) dX7_isPair_0 rfl rfl ?_
  refine ev_bipush (q := 3) (38) dX7_isPair_1 (by decide) rfl ?_
  refine ev_icmp_eq (q := 6) 30 dX7_isPair_3 (by decide) rfl (fun c_3 => ?_) (fun c_3 => ?_)
  · refine ev_iconst (q := 31) (1) dX7_isPair_30 (by decide) rfl ?_
    refine ev_goto 35 dX7_isPair_31 (by decide) ?_
    exact ev_iretE dX7_isPair_35 rfl (nar_b2i _) (by simp [isPr, b2i, *]) rfl rfl hQ
  · refine ev_iload_n (q := 7) dX7_isPair_6 rfl rfl ?_
    refine ev_bipush (q := 9) (124) dX7_isPair_7 (by decide) rfl ?_
    refine ev_icmp_eq (q := 12) 30 dX7_isPair_9 (by decide) rfl (fun c_9 => ?_) (fun c_9 => ?_)
    · refine ev_iconst (q := 31) (1) dX7_isPair_30 (by decide) rfl ?_
      refine ev_goto 35 dX7_isPair_31 (by decide) ?_
      exact ev_iretE dX7_isPair_35 rfl (nar_b2i _) (by simp [isPr, b2i, *]) rfl rfl hQ
    · refine ev_iload_n (q := 13) dX7_isPair_12 rfl rfl ?_
      refine ev_bipush (q := 15) (62) dX7_isPair_13 (by decide) rfl ?_
      refine ev_icmp_eq (q := 18) 30 dX7_isPair_15 (by decide) rfl (fun c_15 => ?_) (fun c_15 => ?_)
      · refine ev_iconst (q := 31) (1) dX7_isPair_30 (by decide) rfl ?_
        refine ev_goto 35 dX7_isPair_31 (by decide) ?_
        exact ev_iretE dX7_isPair_35 rfl (nar_b2i _) (by simp [isPr, b2i, *]) rfl rfl hQ
      · refine ev_iload_n (q := 19) dX7_isPair_18 rfl rfl ?_
        refine ev_bipush (q := 21) (61) dX7_isPair_19 (by decide) rfl ?_
        refine ev_icmp_eq (q := 24) 30 dX7_isPair_21 (by decide) rfl (fun c_21 => ?_) (fun c_21 => ?_)
        · refine ev_iconst (q := 31) (1) dX7_isPair_30 (by decide) rfl ?_
          refine ev_goto 35 dX7_isPair_31 (by decide) ?_
          exact ev_iretE dX7_isPair_35 rfl (nar_b2i _) (by simp [isPr, b2i, *]) rfl rfl hQ
        · refine ev_iload_n (q := 25) dX7_isPair_24 rfl rfl ?_
          refine ev_bipush (q := 27) (94) dX7_isPair_25 (by decide) rfl ?_
          refine ev_icmp_ne (q := 30) 34 dX7_isPair_27 (by decide) rfl (fun c_27 => ?_) (fun c_27 => ?_)
          · refine ev_iconst (q := 35) (0) dX7_isPair_34 (by decide) rfl ?_
            exact ev_iretE dX7_isPair_35 rfl (nar_b2i _) (by simp [isPr, b2i, *]) rfl rfl hQ
          · refine ev_iconst (q := 31) (1) dX7_isPair_30 (by decide) rfl ?_
            refine ev_goto 35 dX7_isPair_31 (by decide) ?_
            exact ev_iretE dX7_isPair_35 rfl (nar_b2i _) (by simp [isPr, b2i, *]) rfl rfl hQ
theorem s_X7_isLetter (hn : 49 ≤ n) (hm : MI I t sl wy wi he) (s : Int32) : Rn xl xs 1 22 0 0 mX7_isLetter [.ref 33, .int s] n (sysH (ov I S) (ovJ J T) X) (some (.int (b2i (isLt t s)))) n (sysH (ov I S) (ovJ J T) X) := by
  intro Q hQ
  show Ev xl xs 1 22 0 0 mX7_isLetter 0 [some (.ref 33), some (.int s)] [] n (sysH (ov I S) (ovJ J T) X) Q
  refine ev_iload_n (q := 1) dX7_isLetter_0 rfl rfl ?_
  refine ev_bipush (q := 3) (97) dX7_isLetter_1 (by decide) rfl ?_
  refine ev_bipush (q := 5) (97) dX7_isLetter_3 (by decide) rfl ?_
  refine ev_aload_n (q := 6) dX7_isLetter_5 rfl rfl ?_
  refine ev_get (q := 9) dX7_isLetter_6 fr_X7_7 rfl (lt_n hn (by decide)) rfl rfl ?_
  rw [show ov I S 33 0 = nI t from hm.1]
  refine ev_iadd (q := 10) dX7_isLetter_9 rfl ?_
  refine ev_iconst (q := 11) (1) dX7_isLetter_10 (by decide) rfl ?_
  refine ev_isub (q := 12) dX7_isLetter_11 rfl ?_
  refine ev_callS3i (q := 15) dX7_isLetter_12 ca_X7_99 (c_X7_in _ _ _) (Nat.le_of_ble_eq_true rfl) (Nat.le_of_ble_eq_true rfl) (by decide) (by decide) rfl ?_
  exact ev_iretE dX7_isLetter_15 rfl (nar_b2i _) rfl rfl rfl hQ
theorem s_X7_faultOf {sg : Nat} (hn : 49 ≤ n) (hm : MI I t sl wy wi he) (hsg : I 33 16 = nI sg) (h40 : sg ≤ 40) : Rn xl xs 2 43 0 0 mX7_faultOf [.ref 33] n (sysH (ov I S) (ovJ J T) X) (some (.int (ffM t (I 41) sg sg 0 1 false))) n (sysH (ov I S) (ovJ J T) X) := by
  intro Q hQ
  show Ev xl xs 2 43 0 0 mX7_faultOf 0 [some (.ref 33), none, none, none, none, none, none] [] n (sysH (ov I S) (ovJ J T) X) Q
  have lp : ∀ j k, k + j = sg → ∀ wa ld a4 a5 a6, ffM t (I 41) sg sg 0 1 false = ffM t (I 41) sg j k wa ld → Ev xl xs 2 43 0 0 mX7_faultOf 6 [some (.ref 33), some (.int wa), some (.int (b2i ld)), some (.int (nI k)), a4, a5, a6] [] n (sysH (ov I S) (ovJ J T) X) Q := by
    intro j
    induction j with
    | zero =>
      intro k hk wa ld a4 a5 a6 hff
      have hk2 : k = sg := by omega
      subst hk2
      rw [hff] at hQ
      refine ev_iload_n (q := 7) dX7_faultOf_6 rfl rfl ?_
      refine ev_aload_n (q := 8) dX7_faultOf_7 rfl rfl ?_
      refine ev_get (q := 11) dX7_faultOf_8 fr_X7_121 rfl (lt_n hn (by decide)) rfl rfl ?_
      rw [show ov I S 33 16 = nI k from hsg]
      refine ev_icmp_ge (q := 14) 163 dX7_faultOf_11 (by decide) rfl (fun c_11 => ?_) (fun c_11 => ?_)
      · refine ev_iload_n (q := 164) dX7_faultOf_163 rfl rfl ?_
        refine ev_if_ne (q := 167) 172 dX7_faultOf_164 (by decide) rfl (fun c_164 => ?_) (fun c_164 => ?_)
        · have c_164 : ¬ wa = 0 := c_164
          refine ev_aload_n (q := 173) dX7_faultOf_172 rfl rfl ?_
          refine ev_get (q := 176) dX7_faultOf_173 fr_X7_121 rfl (lt_n hn (by decide)) rfl rfl ?_
          exact ev_iretE dX7_faultOf_176 rfl rfl (by first | (rw [ffM, if_pos c_164]; done) | (rw [ffM, if_neg c_164]; exact hsg)) rfl rfl hQ
        · refine ev_bipush (q := 169) (-6) dX7_faultOf_167 (by decide) rfl ?_
          refine ev_goto 176 dX7_faultOf_169 (by decide) ?_
          exact ev_iretE dX7_faultOf_176 rfl rfl (by first | (rw [ffM, if_pos c_164]; done) | (rw [ffM, if_neg c_164]; exact hsg)) rfl rfl hQ
      · exact absurd ((nI_leI (by omega) (by omega)).mpr (Nat.le_refl _)) c_11
    | succ j ih =>
      intro k hk wa ld a4 a5 a6 hff
      have J155 : fitsM t (I 41 k) k wa ld = true → ∀ v, v = dlM t (I 41 k) ld → Ev xl xs 2 43 0 0 mX7_faultOf 155 [some (.ref 33), some (.int wa), some (.int (b2i (decide (I 41 k = 126)))), some (.int (nI k)), some (.int (I 41 k)), some (.int (b2i (leafM t (I 41 k) ld))), some (.int 1)] [.int v, .int wa] n (sysH (ov I S) (ovJ J T) X) Q := by
        intro hf v hv
        subst hv
        refine ev_iadd (q := 156) dX7_faultOf_155 rfl ?_
        refine ev_ist_1 (q := 157) dX7_faultOf_156 rfl rfl ?_
        refine ev_inc_3 (q := 160) (nI (k + 1)) dX7_faultOf_157 (nI_1 k) rfl rfl ?_
        refine ev_goto 6 dX7_faultOf_160 (by decide) ?_
        refine ih (k + 1) (by omega) _ _ _ _ _ ?_
        rw [hff, ffM, if_pos hf]
      have J131 : fitsM t (I 41 k) k wa ld = true → ∀ v, v = b2i (decide (I 41 k = 126)) → Ev xl xs 2 43 0 0 mX7_faultOf 131 [some (.ref 33), some (.int wa), some (.int (b2i ld)), some (.int (nI k)), some (.int (I 41 k)), some (.int (b2i (leafM t (I 41 k) ld))), some (.int 1)] [.int v] n (sysH (ov I S) (ovJ J T) X) Q := by
        intro hf v hv
        subst hv
        refine ev_ist_2 (q := 132) dX7_faultOf_131 rfl rfl ?_
        refine ev_iload_n (q := 133) dX7_faultOf_132 rfl rfl ?_
        refine ev_iload (q := 135) dX7_faultOf_133 rfl rfl ?_
        refine ev_if_eq (q := 138) 142 dX7_faultOf_135 (by decide) rfl (fun c_135 => ?_) (fun c_135 => ?_)
        · have c_135 := b2i_0.mp c_135
          refine ev_iload (q := 144) dX7_faultOf_142 rfl rfl ?_
          refine ev_callS1i (q := 147) dX7_faultOf_144 ca_X7_127 (c_X7_isPair _) (Nat.le_of_ble_eq_true rfl) (Nat.le_of_ble_eq_true rfl) (by decide) (by decide) rfl ?_
          refine ev_if_eq (q := 150) 154 dX7_faultOf_147 (by decide) rfl (fun c_147 => ?_) (fun c_147 => ?_)
          · have c_147 := b2i_0.mp c_147
            refine ev_iconst (q := 155) (0) dX7_faultOf_154 (by decide) rfl ?_
            exact J155 hf _ (by first | (simp [dlM, c_135]; done) | (simp [dlM, c_135, c_147]; done))
          · have c_147 := b2i_n0.mp c_147
            refine ev_iconst (q := 151) (1) dX7_faultOf_150 (by decide) rfl ?_
            refine ev_goto 155 dX7_faultOf_151 (by decide) ?_
            exact J155 hf _ (by first | (simp [dlM, c_135]; done) | (simp [dlM, c_135, c_147]; done))
        · have c_135 := b2i_n0.mp c_135
          refine ev_iconst (q := 139) (-1) dX7_faultOf_138 (by decide) rfl ?_
          refine ev_goto 155 dX7_faultOf_139 (by decide) ?_
          exact J155 hf _ (by first | (simp [dlM, c_135]; done) | (simp [dlM, c_135, c_147]; done))
      have J110 : ∀ v, v = b2i (fitsM t (I 41 k) k wa ld) → Ev xl xs 2 43 0 0 mX7_faultOf 110 [some (.ref 33), some (.int wa), some (.int (b2i ld)), some (.int (nI k)), some (.int (I 41 k)), some (.int (b2i (leafM t (I 41 k) ld))), a6] [.int v] n (sysH (ov I S) (ovJ J T) X) Q := by
        intro v hv
        cases hf : fitsM t (I 41 k) k wa ld with
        | false =>
          rw [hf] at hv
          subst hv
          refine ev_ist_6 (q := 112) dX7_faultOf_110 rfl rfl ?_
          refine ev_iload (q := 114) dX7_faultOf_112 rfl rfl ?_
          refine ev_if_ne (q := 117) 119 dX7_faultOf_114 (by decide) rfl (fun c_114 => ?_) (fun c_114 => ?_)
          · exact absurd rfl c_114
          · refine ev_iload_n (q := 118) dX7_faultOf_117 rfl rfl ?_
            exact ev_iretE dX7_faultOf_118 rfl rfl (by rw [hff, ffM, hf]; rfl) rfl rfl hQ
        | true =>
          rw [hf] at hv
          subst hv
          refine ev_ist_6 (q := 112) dX7_faultOf_110 rfl rfl ?_
          refine ev_iload (q := 114) dX7_faultOf_112 rfl rfl ?_
          refine ev_if_ne (q := 117) 119 dX7_faultOf_114 (by decide) rfl (fun c_114 => ?_) (fun c_114 => ?_)
          · refine ev_iload (q := 121) dX7_faultOf_119 rfl rfl ?_
            refine ev_bipush (q := 123) (126) dX7_faultOf_121 (by decide) rfl ?_
            refine ev_icmp_ne (q := 126) 130 dX7_faultOf_123 (by decide) rfl (fun c_123 => ?_) (fun c_123 => ?_)
            · have c_123 : ¬ I 41 k = 126 := c_123
              refine ev_iconst (q := 131) (0) dX7_faultOf_130 (by decide) rfl ?_
              exact J131 hf _ (by simp [c_123, b2i])
            · have c_123 : I 41 k = 126 := c_123
              refine ev_iconst (q := 127) (1) dX7_faultOf_126 (by decide) rfl ?_
              refine ev_goto 131 dX7_faultOf_127 (by decide) ?_
              exact J131 hf _ (by simp [c_123, b2i])
          · exact absurd c_114 (by decide)
      have J54 : ∀ v, v = b2i (leafM t (I 41 k) ld) → Ev xl xs 2 43 0 0 mX7_faultOf 54 [some (.ref 33), some (.int wa), some (.int (b2i ld)), some (.int (nI k)), some (.int (I 41 k)), a5, a6] [.int v] n (sysH (ov I S) (ovJ J T) X) Q := by
        intro v hv
        subst hv
        refine ev_ist_5 (q := 56) dX7_faultOf_54 rfl rfl ?_
        refine ev_iload_n (q := 57) dX7_faultOf_56 rfl rfl ?_
        refine ev_bipush (q := 59) (24) dX7_faultOf_57 (by decide) rfl ?_
        refine ev_icmp_ge (q := 62) 109 dX7_faultOf_59 (by decide) rfl (fun c_59 => ?_) (fun c_59 => ?_)
        · have c_59 : ¬ k < 24 := Nat.not_lt.mpr ((nI_leI (a := 24) (by omega) (by omega)).mp c_59)
          refine ev_iconst (q := 110) (0) dX7_faultOf_109 (by decide) rfl ?_
          exact J110 _ (by first | (simp [fitsM, b2i, c_59]; done) | (simp [fitsM, b2i, c_59, c_63, c_68]; done) | (simp [fitsM, b2i, c_59, c_63, c_75]; done) | (simp [fitsM, b2i, c_59, c_63, c_75, c_80]; done) | (simp [fitsM, b2i, c_59, c_63, c_75, c_80, c_87]; done) | (simp [fitsM, b2i, c_59, c_63, c_75, c_80, c_87, c_94]; done) | (simp [fitsM, b2i, c_59, c_63, c_75, c_80, c_87, c_94, c_102]; done))
        · have c_59 : k < 24 := Nat.not_le.mp fun h => c_59 ((nI_leI (a := 24) (by omega) (by omega)).mpr h)
          refine ev_iload_n (q := 63) dX7_faultOf_62 rfl rfl ?_
          refine ev_if_eq (q := 66) 74 dX7_faultOf_63 (by decide) rfl (fun c_63 => ?_) (fun c_63 => ?_)
          · have c_63 := b2i_0.mp c_63
            refine ev_iload_n (q := 75) dX7_faultOf_74 rfl rfl ?_
            refine ev_if_le (q := 78) 109 dX7_faultOf_75 (by decide) rfl (fun c_75 => ?_) (fun c_75 => ?_)
            · have c_75 : ¬ 0 < wa := fun h => absurd c_75 (by simp only [i_le, i_lt] at *; omega)
              refine ev_iconst (q := 110) (0) dX7_faultOf_109 (by decide) rfl ?_
              exact J110 _ (by first | (simp [fitsM, b2i, c_59]; done) | (simp [fitsM, b2i, c_59, c_63, c_68]; done) | (simp [fitsM, b2i, c_59, c_63, c_75]; done) | (simp [fitsM, b2i, c_59, c_63, c_75, c_80]; done) | (simp [fitsM, b2i, c_59, c_63, c_75, c_80, c_87]; done) | (simp [fitsM, b2i, c_59, c_63, c_75, c_80, c_87, c_94]; done) | (simp [fitsM, b2i, c_59, c_63, c_75, c_80, c_87, c_94, c_102]; done))
            · have c_75 : 0 < wa := by simp only [i_le, i_lt] at *; omega
              refine ev_iload (q := 80) dX7_faultOf_78 rfl rfl ?_
              refine ev_if_ne (q := 83) 105 dX7_faultOf_80 (by decide) rfl (fun c_80 => ?_) (fun c_80 => ?_)
              · have c_80 := b2i_ne.mp c_80
                rw [c_63] at c_80
                refine ev_iconst (q := 106) (1) dX7_faultOf_105 (by decide) rfl ?_
                refine ev_goto 110 dX7_faultOf_106 (by decide) ?_
                exact J110 _ (by first | (simp [fitsM, b2i, c_59]; done) | (simp [fitsM, b2i, c_59, c_63, c_68]; done) | (simp [fitsM, b2i, c_59, c_63, c_75]; done) | (simp [fitsM, b2i, c_59, c_63, c_75, c_80]; done) | (simp [fitsM, b2i, c_59, c_63, c_75, c_80, c_87]; done) | (simp [fitsM, b2i, c_59, c_63, c_75, c_80, c_87, c_94]; done) | (simp [fitsM, b2i, c_59, c_63, c_75, c_80, c_87, c_94, c_102]; done))
              · have c_80 := b2i_0.mp c_80
                rw [c_63] at c_80
                refine ev_iload (q := 85) dX7_faultOf_83 rfl rfl ?_
                refine ev_bipush (q := 87) (126) dX7_faultOf_85 (by decide) rfl ?_
                refine ev_icmp_eq (q := 90) 105 dX7_faultOf_87 (by decide) rfl (fun c_87 => ?_) (fun c_87 => ?_)
                · have c_87 : I 41 k = 126 := c_87
                  refine ev_iconst (q := 106) (1) dX7_faultOf_105 (by decide) rfl ?_
                  refine ev_goto 110 dX7_faultOf_106 (by decide) ?_
                  exact J110 _ (by first | (simp [fitsM, b2i, c_59]; done) | (simp [fitsM, b2i, c_59, c_63, c_68]; done) | (simp [fitsM, b2i, c_59, c_63, c_75]; done) | (simp [fitsM, b2i, c_59, c_63, c_75, c_80]; done) | (simp [fitsM, b2i, c_59, c_63, c_75, c_80, c_87]; done) | (simp [fitsM, b2i, c_59, c_63, c_75, c_80, c_87, c_94]; done) | (simp [fitsM, b2i, c_59, c_63, c_75, c_80, c_87, c_94, c_102]; done))
                · have c_87 : ¬ I 41 k = 126 := c_87
                  refine ev_iload (q := 92) dX7_faultOf_90 rfl rfl ?_
                  refine ev_bipush (q := 94) (45) dX7_faultOf_92 (by decide) rfl ?_
                  refine ev_icmp_eq (q := 97) 105 dX7_faultOf_94 (by decide) rfl (fun c_94 => ?_) (fun c_94 => ?_)
                  · have c_94 : I 41 k = 45 := c_94
                    refine ev_iconst (q := 106) (1) dX7_faultOf_105 (by decide) rfl ?_
                    refine ev_goto 110 dX7_faultOf_106 (by decide) ?_
                    exact J110 _ (by first | (simp [fitsM, b2i, c_59]; done) | (simp [fitsM, b2i, c_59, c_63, c_68]; done) | (simp [fitsM, b2i, c_59, c_63, c_75]; done) | (simp [fitsM, b2i, c_59, c_63, c_75, c_80]; done) | (simp [fitsM, b2i, c_59, c_63, c_75, c_80, c_87]; done) | (simp [fitsM, b2i, c_59, c_63, c_75, c_80, c_87, c_94]; done) | (simp [fitsM, b2i, c_59, c_63, c_75, c_80, c_87, c_94, c_102]; done))
                  · have c_94 : ¬ I 41 k = 45 := c_94
                    refine ev_iload (q := 99) dX7_faultOf_97 rfl rfl ?_
                    refine ev_callS1i (q := 102) dX7_faultOf_99 ca_X7_127 (c_X7_isPair _) (Nat.le_of_ble_eq_true rfl) (Nat.le_of_ble_eq_true rfl) (by decide) (by decide) rfl ?_
                    refine ev_if_eq (q := 105) 109 dX7_faultOf_102 (by decide) rfl (fun c_102 => ?_) (fun c_102 => ?_)
                    · have c_102 := b2i_0.mp c_102
                      refine ev_iconst (q := 110) (0) dX7_faultOf_109 (by decide) rfl ?_
                      exact J110 _ (by first | (simp [fitsM, b2i, c_59]; done) | (simp [fitsM, b2i, c_59, c_63, c_68]; done) | (simp [fitsM, b2i, c_59, c_63, c_75]; done) | (simp [fitsM, b2i, c_59, c_63, c_75, c_80]; done) | (simp [fitsM, b2i, c_59, c_63, c_75, c_80, c_87]; done) | (simp [fitsM, b2i, c_59, c_63, c_75, c_80, c_87, c_94]; done) | (simp [fitsM, b2i, c_59, c_63, c_75, c_80, c_87, c_94, c_102]; done))
                    · have c_102 := b2i_n0.mp c_102
                      refine ev_iconst (q := 106) (1) dX7_faultOf_105 (by decide) rfl ?_
                      refine ev_goto 110 dX7_faultOf_106 (by decide) ?_
                      exact J110 _ (by first | (simp [fitsM, b2i, c_59]; done) | (simp [fitsM, b2i, c_59, c_63, c_68]; done) | (simp [fitsM, b2i, c_59, c_63, c_75]; done) | (simp [fitsM, b2i, c_59, c_63, c_75, c_80]; done) | (simp [fitsM, b2i, c_59, c_63, c_75, c_80, c_87]; done) | (simp [fitsM, b2i, c_59, c_63, c_75, c_80, c_87, c_94]; done) | (simp [fitsM, b2i, c_59, c_63, c_75, c_80, c_87, c_94, c_102]; done))
          · have c_63 := b2i_n0.mp c_63
            refine ev_iload (q := 68) dX7_faultOf_66 rfl rfl ?_
            refine ev_if_eq (q := 71) 109 dX7_faultOf_68 (by decide) rfl (fun c_68 => ?_) (fun c_68 => ?_)
            · have c_68 := b2i_0.mp c_68
              rw [c_63] at c_68
              refine ev_iconst (q := 110) (0) dX7_faultOf_109 (by decide) rfl ?_
              exact J110 _ (by first | (simp [fitsM, b2i, c_59]; done) | (simp [fitsM, b2i, c_59, c_63, c_68]; done) | (simp [fitsM, b2i, c_59, c_63, c_75]; done) | (simp [fitsM, b2i, c_59, c_63, c_75, c_80]; done) | (simp [fitsM, b2i, c_59, c_63, c_75, c_80, c_87]; done) | (simp [fitsM, b2i, c_59, c_63, c_75, c_80, c_87, c_94]; done) | (simp [fitsM, b2i, c_59, c_63, c_75, c_80, c_87, c_94, c_102]; done))
            · have c_68 := b2i_n0.mp c_68
              rw [c_63] at c_68
              refine ev_goto 105 dX7_faultOf_71 (by decide) ?_
              refine ev_iconst (q := 106) (1) dX7_faultOf_105 (by decide) rfl ?_
              refine ev_goto 110 dX7_faultOf_106 (by decide) ?_
              exact J110 _ (by first | (simp [fitsM, b2i, c_59]; done) | (simp [fitsM, b2i, c_59, c_63, c_68]; done) | (simp [fitsM, b2i, c_59, c_63, c_75]; done) | (simp [fitsM, b2i, c_59, c_63, c_75, c_80]; done) | (simp [fitsM, b2i, c_59, c_63, c_75, c_80, c_87]; done) | (simp [fitsM, b2i, c_59, c_63, c_75, c_80, c_87, c_94]; done) | (simp [fitsM, b2i, c_59, c_63, c_75, c_80, c_87, c_94, c_102]; done))
      refine ev_iload_n (q := 7) dX7_faultOf_6 rfl rfl ?_
      refine ev_aload_n (q := 8) dX7_faultOf_7 rfl rfl ?_
      refine ev_get (q := 11) dX7_faultOf_8 fr_X7_121 rfl (lt_n hn (by decide)) rfl rfl ?_
      rw [show ov I S 33 16 = nI sg from hsg]
      refine ev_icmp_ge (q := 14) 163 dX7_faultOf_11 (by decide) rfl (fun c_11 => ?_) (fun c_11 => ?_)
      · exact absurd ((nI_leI (by omega) (by omega)).mp c_11) (by omega)
      · refine ev_aload_n (q := 15) dX7_faultOf_14 rfl rfl ?_
        refine ev_get (q := 18) dX7_faultOf_15 fr_X7_36 rfl (lt_n hn (by decide)) rfl rfl ?_
        refine ev_iload_n (q := 19) dX7_faultOf_18 rfl rfl ?_
        refine ev_iaS (q := 20) _ dX7_faultOf_19 rfl rfl (by omega) (lt_n hn (by decide)) rfl ?_
        refine ev_ist_4 (q := 22) dX7_faultOf_20 rfl rfl ?_
        refine ev_aload_n (q := 23) dX7_faultOf_22 rfl rfl ?_
        refine ev_iload (q := 25) dX7_faultOf_23 rfl rfl ?_
        refine ev_callV1i (q := 28) dX7_faultOf_25 ca_X7_124 (s_X7_isLetter hn hm _) rfl (lt_n hn (by decide)) rfl rfl (Nat.le_of_ble_eq_true rfl) (Nat.le_of_ble_eq_true rfl) (by decide) (by decide) rfl ?_
        refine ev_if_ne (q := 31) 49 dX7_faultOf_28 (by decide) rfl (fun c_28 => ?_) (fun c_28 => ?_)
        · have c_28 : isLt t (I 41 k) = true := b2i_ne.mp c_28
          refine ev_iconst (q := 50) (1) dX7_faultOf_49 (by decide) rfl ?_
          refine ev_goto 54 dX7_faultOf_50 (by decide) ?_
          exact J54 _ (by first | (simp [leafM, b2i, c_28]; done) | (simp [leafM, b2i, c_28, c_32]; done) | (simp [leafM, b2i, c_28, c_32, c_39]; done) | (simp [leafM, b2i, c_28, c_32, c_39, c_46]; done))
        · have c_28 : isLt t (I 41 k) = false := b2i_0.mp c_28
          refine ev_iload_n (q := 32) dX7_faultOf_31 rfl rfl ?_
          refine ev_if_ne (q := 35) 53 dX7_faultOf_32 (by decide) rfl (fun c_32 => ?_) (fun c_32 => ?_)
          · have c_32 := b2i_ne.mp c_32
            refine ev_iconst (q := 54) (0) dX7_faultOf_53 (by decide) rfl ?_
            exact J54 _ (by first | (simp [leafM, b2i, c_28]; done) | (simp [leafM, b2i, c_28, c_32]; done) | (simp [leafM, b2i, c_28, c_32, c_39]; done) | (simp [leafM, b2i, c_28, c_32, c_39, c_46]; done))
          · have c_32 := b2i_0.mp c_32
            refine ev_iload (q := 37) dX7_faultOf_35 rfl rfl ?_
            refine ev_bipush (q := 39) (48) dX7_faultOf_37 (by decide) rfl ?_
            refine ev_icmp_eq (q := 42) 49 dX7_faultOf_39 (by decide) rfl (fun c_39 => ?_) (fun c_39 => ?_)
            · have c_39 : I 41 k = 48 := c_39
              refine ev_iconst (q := 50) (1) dX7_faultOf_49 (by decide) rfl ?_
              refine ev_goto 54 dX7_faultOf_50 (by decide) ?_
              exact J54 _ (by first | (simp [leafM, b2i, c_28]; done) | (simp [leafM, b2i, c_28, c_32]; done) | (simp [leafM, b2i, c_28, c_32, c_39]; done) | (simp [leafM, b2i, c_28, c_32, c_39, c_46]; done))
            · have c_39 : ¬ I 41 k = 48 := c_39
              refine ev_iload (q := 44) dX7_faultOf_42 rfl rfl ?_
              refine ev_bipush (q := 46) (49) dX7_faultOf_44 (by decide) rfl ?_
              refine ev_icmp_ne (q := 49) 53 dX7_faultOf_46 (by decide) rfl (fun c_46 => ?_) (fun c_46 => ?_)
              · have c_46 : ¬ I 41 k = 49 := c_46
                refine ev_iconst (q := 54) (0) dX7_faultOf_53 (by decide) rfl ?_
                exact J54 _ (by first | (simp [leafM, b2i, c_28]; done) | (simp [leafM, b2i, c_28, c_32]; done) | (simp [leafM, b2i, c_28, c_32, c_39]; done) | (simp [leafM, b2i, c_28, c_32, c_39, c_46]; done))
              · have c_46 : I 41 k = 49 := c_46
                refine ev_iconst (q := 50) (1) dX7_faultOf_49 (by decide) rfl ?_
                refine ev_goto 54 dX7_faultOf_50 (by decide) ?_
                exact J54 _ (by first | (simp [leafM, b2i, c_28]; done) | (simp [leafM, b2i, c_28, c_32]; done) | (simp [leafM, b2i, c_28, c_32, c_39]; done) | (simp [leafM, b2i, c_28, c_32, c_39, c_46]; done))
  refine ev_iconst (q := 1) (1) dX7_faultOf_0 (by decide) rfl ?_
  refine ev_ist_1 (q := 2) dX7_faultOf_1 rfl rfl ?_
  refine ev_iconst (q := 3) (0) dX7_faultOf_2 (by decide) rfl ?_
  refine ev_ist_2 (q := 4) dX7_faultOf_3 rfl rfl ?_
  refine ev_iconst (q := 5) (0) dX7_faultOf_4 (by decide) rfl ?_
  refine ev_ist_3 (q := 6) dX7_faultOf_5 rfl rfl ?_
  exact lp sg 0 (by omega) 1 false _ _ _ rfl
theorem s_X7_fault {sg : Nat} (hn : 49 ≤ n) (hm : MI I t sl wy wi he) (hsg : I 33 16 = nI sg) (h40 : sg ≤ 40) : RnS xl xs 3 69 0 0 mX7_fault [.ref 33] n I J X (some (.int (ffM t (I 41) sg sg 0 1 false))) n I J X := by
  intro S T Q hQ
  show Ev xl xs 3 69 0 0 mX7_fault 0 [some (.ref 33)] [] n (sysH (ov I S) (ovJ J T) X) Q
  refine ev_aload_n (q := 1) dX7_fault_0 rfl rfl ?_
  refine ev_callV0i (q := 4) dX7_fault_1 ca_X7_130 (s_X7_faultOf hn hm hsg h40) rfl (lt_n hn (by decide)) rfl rfl (Nat.le_of_ble_eq_true rfl) (Nat.le_of_ble_eq_true rfl) (by decide) (by decide) rfl ?_
  exact ev_iretE dX7_fault_4 rfl rfl rfl rfl rfl (hQ _ _)
def lpS (S : Nat → Nat → Int32) (sg : Nat) (pd : Nat → Int32) : Nat → Nat → Int32 := fillA (setI S 33 (upd (S 33) 18 (nI sg))) 42 sg pd
theorem s_X7_layPad {sg : Nat} (hn : 49 ≤ n) (hm : MI I t sl wy wi he) (hsg : I 33 16 = nI sg) (h40 : sg ≤ 40) : Rn xl xs 0 0 0 0 mX7_layPad [.ref 33] n (sysH (ov I S) (ovJ J T) X) none n (sysH (ov I (lpS S sg (I 41))) (ovJ J T) X) := by
  intro Q hQ
  show Ev xl xs 0 0 0 0 mX7_layPad 0 [some (.ref 33), none] [] n (sysH (ov I S) (ovJ J T) X) Q
  have lp : ∀ j k, k + j = sg → Ev xl xs 0 0 0 0 mX7_layPad 10 [some (.ref 33), some (.int (nI k))] [] n (sysH (ov I (fillA (setI S 33 (upd (S 33) 18 (nI sg))) 42 k (I 41))) (ovJ J T) X) Q := by
    intro j
    induction j using Nat.strongRecOn with
    | _ j ih =>
      intro k hk
      refine ev_iload_n (q := 11) dX7_layPad_10 rfl rfl ?_
      refine ev_aload_n (q := 12) dX7_layPad_11 rfl rfl ?_
      refine ev_get (q := 15) dX7_layPad_12 fr_X7_121 rfl (lt_n hn (by decide)) rfl rfl ?_
      rw [show ov I (fillA (setI S 33 (upd (S 33) 18 (nI sg))) 42 k (I 41)) 33 16 = nI sg from hsg]
      refine ev_icmp_ge (q := 18) 36 dX7_layPad_15 (by decide) rfl (fun c_15 => ?_) (fun c_15 => ?_)
      · have c_15 : sg ≤ k := (nI_leI (by omega) (by omega)).mp c_15
        exact ev_retE dX7_layPad_36 rfl rfl (by rw [show k = sg by omega]; rfl) hQ
      · have c_15 : ¬ sg ≤ k := fun h => c_15 ((nI_leI (by omega) (by omega)).mpr h)
        refine ev_aload_n (q := 19) dX7_layPad_18 rfl rfl ?_
        refine ev_get (q := 22) dX7_layPad_19 fr_X7_39 rfl (lt_n hn (by decide)) rfl rfl ?_
        refine ev_iload_n (q := 23) dX7_layPad_22 rfl rfl ?_
        refine ev_aload_n (q := 24) dX7_layPad_23 rfl rfl ?_
        refine ev_get (q := 27) dX7_layPad_24 fr_X7_36 rfl (lt_n hn (by decide)) rfl rfl ?_
        refine ev_iload_n (q := 28) dX7_layPad_27 rfl rfl ?_
        refine ev_iaS (q := 29) _ dX7_layPad_28 rfl rfl (by omega) (lt_n hn (by decide)) rfl ?_
        refine ev_isS (q := 30) _ dX7_layPad_29 rfl rfl (by omega) (lt_n hn (by decide)) rfl ?_
        rw [ovf (p := 42) rfl, show ov I (fillA (setI S 33 (upd (S 33) 18 (nI sg))) 42 k (I 41)) 41 k = I 41 k from rfl, fillA_s]
        refine ev_inc_1 (q := 33) (nI (k + 1)) dX7_layPad_30 (nI_1 k) rfl rfl ?_
        refine ev_goto 10 dX7_layPad_33 (by decide) ?_
        exact ih (j - 1) (by omega) (k + 1) (by omega)
  refine ev_aload_n (q := 1) dX7_layPad_0 rfl rfl ?_
  refine ev_aload_n (q := 2) dX7_layPad_1 rfl rfl ?_
  refine ev_get (q := 5) dX7_layPad_2 fr_X7_121 rfl (lt_n hn (by decide)) rfl rfl ?_
  rw [show ov I S 33 16 = nI sg from hsg]
  first | refine ev_putIK (q := 8) dX7_layPad_5 fa_X7_133 rfl (by decide) (lt_n hn (by decide)) (Nat.le_of_ble_eq_true rfl) ⟨rfl, rfl⟩ rfl rfl rfl ?_ | refine ev_putIR (q := 8) dX7_layPad_5 fa_X7_133 rfl (by decide) (lt_n hn (by decide)) (Nat.le_of_ble_eq_true rfl) ⟨rfl, rfl⟩ rfl rfl rfl ?_
  refine ev_iconst (q := 9) (0) dX7_layPad_8 (by decide) rfl ?_
  refine ev_ist_1 (q := 10) dX7_layPad_9 rfl rfl ?_
  have e := lp sg 0 (by omega)
  rw [fillA_0] at e
  exact e
end MODEL13
end
