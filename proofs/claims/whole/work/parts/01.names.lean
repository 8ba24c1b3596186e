-- ===== PART A: goes FIRST, ahead of the names: the tables' words, and 'selects' of the private methods out of them =====
/-- a private method of a class that the tables say can be made, by its rows of tables_1 -/
def lw_okq (q : MethodName × Nat) : Prop := (q.1.cls ≠ "java/lang/invoke/MethodHandle" ∧ q.1.cls ≠ "java/lang/invoke/VarHandle") ∧ Cond.instantiable q.1.cls q.2 ∈ tables_1 ∧ Cond.privateMethod q.1 ∈ tables_1 ∧ Cond.instanceMethod q.1 ∈ tables_1
theorem lw_p0 : lw_okq (⟨"WishLamp", "isThing", "(I)Z"⟩, 10) := ⟨⟨by decide +kernel, by decide +kernel⟩, List.mem_of_getElem? (i := 13) (by decide +kernel), List.mem_of_getElem? (i := 290) (by decide +kernel), List.mem_of_getElem? (i := 291) (by decide +kernel)⟩
theorem lw_p1 : lw_okq (⟨"WishLamp", "isWorld", "(I)Z"⟩, 10) := ⟨⟨by decide +kernel, by decide +kernel⟩, List.mem_of_getElem? (i := 13) (by decide +kernel), List.mem_of_getElem? (i := 306) (by decide +kernel), List.mem_of_getElem? (i := 307) (by decide +kernel)⟩
theorem lw_p2 : lw_okq (⟨"WishLamp", "isFaulty", "()Z"⟩, 10) := ⟨⟨by decide +kernel, by decide +kernel⟩, List.mem_of_getElem? (i := 13) (by decide +kernel), List.mem_of_getElem? (i := 352) (by decide +kernel), List.mem_of_getElem? (i := 353) (by decide +kernel)⟩
theorem lw_p3 : lw_okq (⟨"WishLamp$Clause", "isSoAt", "(II)Z"⟩, 3) := ⟨⟨by decide +kernel, by decide +kernel⟩, List.mem_of_getElem? (i := 106) (by decide +kernel), List.mem_of_getElem? (i := 364) (by decide +kernel), List.mem_of_getElem? (i := 365) (by decide +kernel)⟩
theorem lw_p4 : lw_okq (⟨"WishLamp", "wishWorlds", "()J"⟩, 10) := ⟨⟨by decide +kernel, by decide +kernel⟩, List.mem_of_getElem? (i := 13) (by decide +kernel), List.mem_of_getElem? (i := 377) (by decide +kernel), List.mem_of_getElem? (i := 378) (by decide +kernel)⟩
theorem lw_p5 : lw_okq (⟨"WishLamp", "wishOutcome", "()I"⟩, 10) := ⟨⟨by decide +kernel, by decide +kernel⟩, List.mem_of_getElem? (i := 13) (by decide +kernel), List.mem_of_getElem? (i := 408) (by decide +kernel), List.mem_of_getElem? (i := 409) (by decide +kernel)⟩
theorem lw_p6 : lw_okq (⟨"WishLamp", "refusalOf", "(ZZ)I"⟩, 10) := ⟨⟨by decide +kernel, by decide +kernel⟩, List.mem_of_getElem? (i := 13) (by decide +kernel), List.mem_of_getElem? (i := 437) (by decide +kernel), List.mem_of_getElem? (i := 438) (by decide +kernel)⟩
theorem lw_p7 : lw_okq (⟨"WishLamp", "gainOf", "(II)I"⟩, 10) := ⟨⟨by decide +kernel, by decide +kernel⟩, List.mem_of_getElem? (i := 13) (by decide +kernel), List.mem_of_getElem? (i := 447) (by decide +kernel), List.mem_of_getElem? (i := 448) (by decide +kernel)⟩
theorem lw_p8 : lw_okq (⟨"WishLamp", "tryPlace", "(IJ)V"⟩, 10) := ⟨⟨by decide +kernel, by decide +kernel⟩, List.mem_of_getElem? (i := 13) (by decide +kernel), List.mem_of_getElem? (i := 472) (by decide +kernel), List.mem_of_getElem? (i := 473) (by decide +kernel)⟩
theorem lw_p9 : lw_okq (⟨"WishLamp", "tryChange", "(IIJ)V"⟩, 10) := ⟨⟨by decide +kernel, by decide +kernel⟩, List.mem_of_getElem? (i := 13) (by decide +kernel), List.mem_of_getElem? (i := 476) (by decide +kernel), List.mem_of_getElem? (i := 477) (by decide +kernel)⟩
theorem lw_p10 : lw_okq (⟨"WishLamp", "signPut", "(II)I"⟩, 10) := ⟨⟨by decide +kernel, by decide +kernel⟩, List.mem_of_getElem? (i := 13) (by decide +kernel), List.mem_of_getElem? (i := 480) (by decide +kernel), List.mem_of_getElem? (i := 481) (by decide +kernel)⟩
theorem lw_p11 : lw_okq (⟨"WishLamp$Spirit", "termWorlds", "(II)J"⟩, 4) := ⟨⟨by decide +kernel, by decide +kernel⟩, List.mem_of_getElem? (i := 150) (by decide +kernel), List.mem_of_getElem? (i := 502) (by decide +kernel), List.mem_of_getElem? (i := 503) (by decide +kernel)⟩
theorem lw_p12 : lw_okq (⟨"WishLamp$Draw", "listStirs", "(I)V"⟩, 8) := ⟨⟨by decide +kernel, by decide +kernel⟩, List.mem_of_getElem? (i := 170) (by decide +kernel), List.mem_of_getElem? (i := 546) (by decide +kernel), List.mem_of_getElem? (i := 547) (by decide +kernel)⟩
theorem lw_p13 : lw_okq (⟨"WishLamp$Draw", "drawUpSaying", "(I[II)V"⟩, 8) := ⟨⟨by decide +kernel, by decide +kernel⟩, List.mem_of_getElem? (i := 170) (by decide +kernel), List.mem_of_getElem? (i := 550) (by decide +kernel), List.mem_of_getElem? (i := 551) (by decide +kernel)⟩
theorem lw_p14 : lw_okq (⟨"WishLamp$Draw", "worstNear", "(I[I)I"⟩, 8) := ⟨⟨by decide +kernel, by decide +kernel⟩, List.mem_of_getElem? (i := 170) (by decide +kernel), List.mem_of_getElem? (i := 554) (by decide +kernel), List.mem_of_getElem? (i := 555) (by decide +kernel)⟩
theorem lw_p15 : lw_okq (⟨"WishLamp$Draw", "takePart", "(II[I)V"⟩, 8) := ⟨⟨by decide +kernel, by decide +kernel⟩, List.mem_of_getElem? (i := 170) (by decide +kernel), List.mem_of_getElem? (i := 565) (by decide +kernel), List.mem_of_getElem? (i := 566) (by decide +kernel)⟩
def lw_privs_1 : List (MethodName × Nat) := [(⟨"WishLamp", "isThing", "(I)Z"⟩, 10), (⟨"WishLamp", "isWorld", "(I)Z"⟩, 10), (⟨"WishLamp", "isFaulty", "()Z"⟩, 10), (⟨"WishLamp$Clause", "isSoAt", "(II)Z"⟩, 3), (⟨"WishLamp", "wishWorlds", "()J"⟩, 10), (⟨"WishLamp", "wishOutcome", "()I"⟩, 10), (⟨"WishLamp", "refusalOf", "(ZZ)I"⟩, 10), (⟨"WishLamp", "gainOf", "(II)I"⟩, 10), (⟨"WishLamp", "tryPlace", "(IJ)V"⟩, 10), (⟨"WishLamp", "tryChange", "(IIJ)V"⟩, 10), (⟨"WishLamp", "signPut", "(II)I"⟩, 10), (⟨"WishLamp$Spirit", "termWorlds", "(II)J"⟩, 4), (⟨"WishLamp$Draw", "listStirs", "(I)V"⟩, 8), (⟨"WishLamp$Draw", "drawUpSaying", "(I[II)V"⟩, 8), (⟨"WishLamp$Draw", "worstNear", "(I[I)I"⟩, 8), (⟨"WishLamp$Draw", "takePart", "(II[I)V"⟩, 8)]
theorem lw_r1 : ∀ q ∈ lw_privs_1, lw_okq q := List.forall_mem_cons.mpr ⟨lw_p0, List.forall_mem_cons.mpr ⟨lw_p1, List.forall_mem_cons.mpr ⟨lw_p2, List.forall_mem_cons.mpr ⟨lw_p3, List.forall_mem_cons.mpr ⟨lw_p4, List.forall_mem_cons.mpr ⟨lw_p5, List.forall_mem_cons.mpr ⟨lw_p6, List.forall_mem_cons.mpr ⟨lw_p7, List.forall_mem_cons.mpr ⟨lw_p8, List.forall_mem_cons.mpr ⟨lw_p9, List.forall_mem_cons.mpr ⟨lw_p10, List.forall_mem_cons.mpr ⟨lw_p11, List.forall_mem_cons.mpr ⟨lw_p12, List.forall_mem_cons.mpr ⟨lw_p13, List.forall_mem_cons.mpr ⟨lw_p14, List.forall_mem_cons.mpr ⟨lw_p15, fun _ h => absurd h List.not_mem_nil⟩⟩⟩⟩⟩⟩⟩⟩⟩⟩⟩⟩⟩⟩⟩⟩
theorem lw_p16 : lw_okq (⟨"WishLamp", "follow", "([I)V"⟩, 10) := ⟨⟨by decide +kernel, by decide +kernel⟩, List.mem_of_getElem? (i := 13) (by decide +kernel), List.mem_of_getElem? (i := 570) (by decide +kernel), List.mem_of_getElem? (i := 571) (by decide +kernel)⟩
theorem lw_p17 : lw_okq (⟨"WishLamp", "firstOfRow", "(II)I"⟩, 10) := ⟨⟨by decide +kernel, by decide +kernel⟩, List.mem_of_getElem? (i := 13) (by decide +kernel), List.mem_of_getElem? (i := 574) (by decide +kernel), List.mem_of_getElem? (i := 575) (by decide +kernel)⟩
theorem lw_p18 : lw_okq (⟨"WishLamp", "votesFor", "(I)I"⟩, 10) := ⟨⟨by decide +kernel, by decide +kernel⟩, List.mem_of_getElem? (i := 13) (by decide +kernel), List.mem_of_getElem? (i := 593) (by decide +kernel), List.mem_of_getElem? (i := 594) (by decide +kernel)⟩
theorem lw_p19 : lw_okq (⟨"WishLamp", "fillMerits", "()V"⟩, 10) := ⟨⟨by decide +kernel, by decide +kernel⟩, List.mem_of_getElem? (i := 13) (by decide +kernel), List.mem_of_getElem? (i := 601) (by decide +kernel), List.mem_of_getElem? (i := 602) (by decide +kernel)⟩
theorem lw_p20 : lw_okq (⟨"WishLamp", "toldPlain", "(I)I"⟩, 10) := ⟨⟨by decide +kernel, by decide +kernel⟩, List.mem_of_getElem? (i := 13) (by decide +kernel), List.mem_of_getElem? (i := 687) (by decide +kernel), List.mem_of_getElem? (i := 688) (by decide +kernel)⟩
theorem lw_p21 : lw_okq (⟨"WishLampModel", "plain", "()V"⟩, 29) := ⟨⟨by decide +kernel, by decide +kernel⟩, List.mem_of_getElem? (i := 691) (by decide +kernel), List.mem_of_getElem? (i := 697) (by decide +kernel), List.mem_of_getElem? (i := 698) (by decide +kernel)⟩
theorem lw_p22 : lw_okq (⟨"WishLampModel", "all", "()J"⟩, 29) := ⟨⟨by decide +kernel, by decide +kernel⟩, List.mem_of_getElem? (i := 691) (by decide +kernel), List.mem_of_getElem? (i := 701) (by decide +kernel), List.mem_of_getElem? (i := 702) (by decide +kernel)⟩
theorem lw_p23 : lw_okq (⟨"WishLampModel", "worlds", "()I"⟩, 29) := ⟨⟨by decide +kernel, by decide +kernel⟩, List.mem_of_getElem? (i := 691) (by decide +kernel), List.mem_of_getElem? (i := 706) (by decide +kernel), List.mem_of_getElem? (i := 707) (by decide +kernel)⟩
theorem lw_p24 : lw_okq (⟨"WishLampModel", "isThing", "(I)Z"⟩, 29) := ⟨⟨by decide +kernel, by decide +kernel⟩, List.mem_of_getElem? (i := 691) (by decide +kernel), List.mem_of_getElem? (i := 813) (by decide +kernel), List.mem_of_getElem? (i := 814) (by decide +kernel)⟩
theorem lw_p25 : lw_okq (⟨"WishLampModel", "isWorld", "(I)Z"⟩, 29) := ⟨⟨by decide +kernel, by decide +kernel⟩, List.mem_of_getElem? (i := 691) (by decide +kernel), List.mem_of_getElem? (i := 829) (by decide +kernel), List.mem_of_getElem? (i := 830) (by decide +kernel)⟩
theorem lw_p26 : lw_okq (⟨"WishLampModel", "worthTo", "(II)I"⟩, 29) := ⟨⟨by decide +kernel, by decide +kernel⟩, List.mem_of_getElem? (i := 691) (by decide +kernel), List.mem_of_getElem? (i := 837) (by decide +kernel), List.mem_of_getElem? (i := 838) (by decide +kernel)⟩
theorem lw_p27 : lw_okq (⟨"WishLampModel", "faultOf", "()I"⟩, 29) := ⟨⟨by decide +kernel, by decide +kernel⟩, List.mem_of_getElem? (i := 691) (by decide +kernel), List.mem_of_getElem? (i := 856) (by decide +kernel), List.mem_of_getElem? (i := 857) (by decide +kernel)⟩
theorem lw_p28 : lw_okq (⟨"WishLampModel", "isLetter", "(I)Z"⟩, 29) := ⟨⟨by decide +kernel, by decide +kernel⟩, List.mem_of_getElem? (i := 691) (by decide +kernel), List.mem_of_getElem? (i := 860) (by decide +kernel), List.mem_of_getElem? (i := 861) (by decide +kernel)⟩
theorem lw_p29 : lw_okq (⟨"WishLampModel", "layPad", "()V"⟩, 29) := ⟨⟨by decide +kernel, by decide +kernel⟩, List.mem_of_getElem? (i := 691) (by decide +kernel), List.mem_of_getElem? (i := 871) (by decide +kernel), List.mem_of_getElem? (i := 872) (by decide +kernel)⟩
theorem lw_p30 : lw_okq (⟨"WishLampModel", "isSo", "(II)Z"⟩, 29) := ⟨⟨by decide +kernel, by decide +kernel⟩, List.mem_of_getElem? (i := 691) (by decide +kernel), List.mem_of_getElem? (i := 875) (by decide +kernel), List.mem_of_getElem? (i := 876) (by decide +kernel)⟩
theorem lw_p31 : lw_okq (⟨"WishLampModel", "pairOf", "(IZZ)Z"⟩, 29) := ⟨⟨by decide +kernel, by decide +kernel⟩, List.mem_of_getElem? (i := 691) (by decide +kernel), List.mem_of_getElem? (i := 879) (by decide +kernel), List.mem_of_getElem? (i := 880) (by decide +kernel)⟩
def lw_privs_2 : List (MethodName × Nat) := [(⟨"WishLamp", "follow", "([I)V"⟩, 10), (⟨"WishLamp", "firstOfRow", "(II)I"⟩, 10), (⟨"WishLamp", "votesFor", "(I)I"⟩, 10), (⟨"WishLamp", "fillMerits", "()V"⟩, 10), (⟨"WishLamp", "toldPlain", "(I)I"⟩, 10), (⟨"WishLampModel", "plain", "()V"⟩, 29), (⟨"WishLampModel", "all", "()J"⟩, 29), (⟨"WishLampModel", "worlds", "()I"⟩, 29), (⟨"WishLampModel", "isThing", "(I)Z"⟩, 29), (⟨"WishLampModel", "isWorld", "(I)Z"⟩, 29), (⟨"WishLampModel", "worthTo", "(II)I"⟩, 29), (⟨"WishLampModel", "faultOf", "()I"⟩, 29), (⟨"WishLampModel", "isLetter", "(I)Z"⟩, 29), (⟨"WishLampModel", "layPad", "()V"⟩, 29), (⟨"WishLampModel", "isSo", "(II)Z"⟩, 29), (⟨"WishLampModel", "pairOf", "(IZZ)Z"⟩, 29)]
theorem lw_r2 : ∀ q ∈ lw_privs_2, lw_okq q := List.forall_mem_cons.mpr ⟨lw_p16, List.forall_mem_cons.mpr ⟨lw_p17, List.forall_mem_cons.mpr ⟨lw_p18, List.forall_mem_cons.mpr ⟨lw_p19, List.forall_mem_cons.mpr ⟨lw_p20, List.forall_mem_cons.mpr ⟨lw_p21, List.forall_mem_cons.mpr ⟨lw_p22, List.forall_mem_cons.mpr ⟨lw_p23, List.forall_mem_cons.mpr ⟨lw_p24, List.forall_mem_cons.mpr ⟨lw_p25, List.forall_mem_cons.mpr ⟨lw_p26, List.forall_mem_cons.mpr ⟨lw_p27, List.forall_mem_cons.mpr ⟨lw_p28, List.forall_mem_cons.mpr ⟨lw_p29, List.forall_mem_cons.mpr ⟨lw_p30, List.forall_mem_cons.mpr ⟨lw_p31, fun _ h => absurd h List.not_mem_nil⟩⟩⟩⟩⟩⟩⟩⟩⟩⟩⟩⟩⟩⟩⟩⟩
theorem lw_p32 : lw_okq (⟨"WishLampModel", "keeping", "(I)J"⟩, 29) := ⟨⟨by decide +kernel, by decide +kernel⟩, List.mem_of_getElem? (i := 691) (by decide +kernel), List.mem_of_getElem? (i := 887) (by decide +kernel), List.mem_of_getElem? (i := 888) (by decide +kernel)⟩
theorem lw_p33 : lw_okq (⟨"WishLampModel", "saidOf", "()I"⟩, 29) := ⟨⟨by decide +kernel, by decide +kernel⟩, List.mem_of_getElem? (i := 691) (by decide +kernel), List.mem_of_getElem? (i := 891) (by decide +kernel), List.mem_of_getElem? (i := 892) (by decide +kernel)⟩
theorem lw_p34 : lw_okq (⟨"WishLampModel", "count", "(J)I"⟩, 29) := ⟨⟨by decide +kernel, by decide +kernel⟩, List.mem_of_getElem? (i := 691) (by decide +kernel), List.mem_of_getElem? (i := 901) (by decide +kernel), List.mem_of_getElem? (i := 902) (by decide +kernel)⟩
theorem lw_p35 : lw_okq (⟨"WishLampModel", "made", "()I"⟩, 29) := ⟨⟨by decide +kernel, by decide +kernel⟩, List.mem_of_getElem? (i := 691) (by decide +kernel), List.mem_of_getElem? (i := 909) (by decide +kernel), List.mem_of_getElem? (i := 910) (by decide +kernel)⟩
theorem lw_p36 : lw_okq (⟨"WishLampModel", "madeOf", "(JI)I"⟩, 29) := ⟨⟨by decide +kernel, by decide +kernel⟩, List.mem_of_getElem? (i := 691) (by decide +kernel), List.mem_of_getElem? (i := 913) (by decide +kernel), List.mem_of_getElem? (i := 914) (by decide +kernel)⟩
theorem lw_p37 : lw_okq (⟨"WishLampModel", "likes", "(II)I"⟩, 29) := ⟨⟨by decide +kernel, by decide +kernel⟩, List.mem_of_getElem? (i := 691) (by decide +kernel), List.mem_of_getElem? (i := 917) (by decide +kernel), List.mem_of_getElem? (i := 918) (by decide +kernel)⟩
theorem lw_p38 : lw_okq (⟨"WishLampModel", "tasteOf", "(I)I"⟩, 29) := ⟨⟨by decide +kernel, by decide +kernel⟩, List.mem_of_getElem? (i := 691) (by decide +kernel), List.mem_of_getElem? (i := 921) (by decide +kernel), List.mem_of_getElem? (i := 922) (by decide +kernel)⟩
theorem lw_p39 : lw_okq (⟨"WishLampModel", "terms", "()I"⟩, 29) := ⟨⟨by decide +kernel, by decide +kernel⟩, List.mem_of_getElem? (i := 691) (by decide +kernel), List.mem_of_getElem? (i := 952) (by decide +kernel), List.mem_of_getElem? (i := 953) (by decide +kernel)⟩
theorem lw_p40 : lw_okq (⟨"WishLampModel", "madeOfTerm", "(II)I"⟩, 29) := ⟨⟨by decide +kernel, by decide +kernel⟩, List.mem_of_getElem? (i := 691) (by decide +kernel), List.mem_of_getElem? (i := 956) (by decide +kernel), List.mem_of_getElem? (i := 957) (by decide +kernel)⟩
theorem lw_p41 : lw_okq (⟨"WishLampModel", "keepingTerm", "(II)J"⟩, 29) := ⟨⟨by decide +kernel, by decide +kernel⟩, List.mem_of_getElem? (i := 691) (by decide +kernel), List.mem_of_getElem? (i := 960) (by decide +kernel), List.mem_of_getElem? (i := 961) (by decide +kernel)⟩
theorem lw_p42 : lw_okq (⟨"WishLampModel", "layTerm", "(I)V"⟩, 29) := ⟨⟨by decide +kernel, by decide +kernel⟩, List.mem_of_getElem? (i := 691) (by decide +kernel), List.mem_of_getElem? (i := 964) (by decide +kernel), List.mem_of_getElem? (i := 965) (by decide +kernel)⟩
theorem lw_p43 : lw_okq (⟨"WishLampModel", "keepsTerm", "(II)Z"⟩, 29) := ⟨⟨by decide +kernel, by decide +kernel⟩, List.mem_of_getElem? (i := 691) (by decide +kernel), List.mem_of_getElem? (i := 968) (by decide +kernel), List.mem_of_getElem? (i := 969) (by decide +kernel)⟩
theorem lw_p44 : lw_okq (⟨"WishLampModel", "words", "(I)I"⟩, 29) := ⟨⟨by decide +kernel, by decide +kernel⟩, List.mem_of_getElem? (i := 691) (by decide +kernel), List.mem_of_getElem? (i := 976) (by decide +kernel), List.mem_of_getElem? (i := 977) (by decide +kernel)⟩
theorem lw_p45 : lw_okq (⟨"WishLampModel", "digitOf", "(II)I"⟩, 29) := ⟨⟨by decide +kernel, by decide +kernel⟩, List.mem_of_getElem? (i := 691) (by decide +kernel), List.mem_of_getElem? (i := 980) (by decide +kernel), List.mem_of_getElem? (i := 981) (by decide +kernel)⟩
theorem lw_p46 : lw_okq (⟨"WishLampModel", "layAhead", "(I)V"⟩, 29) := ⟨⟨by decide +kernel, by decide +kernel⟩, List.mem_of_getElem? (i := 691) (by decide +kernel), List.mem_of_getElem? (i := 992) (by decide +kernel), List.mem_of_getElem? (i := 993) (by decide +kernel)⟩
theorem lw_p47 : lw_okq (⟨"WishLampModel", "bestFrom", "(II)I"⟩, 29) := ⟨⟨by decide +kernel, by decide +kernel⟩, List.mem_of_getElem? (i := 691) (by decide +kernel), List.mem_of_getElem? (i := 996) (by decide +kernel), List.mem_of_getElem? (i := 997) (by decide +kernel)⟩
def lw_privs_3 : List (MethodName × Nat) := [(⟨"WishLampModel", "keeping", "(I)J"⟩, 29), (⟨"WishLampModel", "saidOf", "()I"⟩, 29), (⟨"WishLampModel", "count", "(J)I"⟩, 29), (⟨"WishLampModel", "made", "()I"⟩, 29), (⟨"WishLampModel", "madeOf", "(JI)I"⟩, 29), (⟨"WishLampModel", "likes", "(II)I"⟩, 29), (⟨"WishLampModel", "tasteOf", "(I)I"⟩, 29), (⟨"WishLampModel", "terms", "()I"⟩, 29), (⟨"WishLampModel", "madeOfTerm", "(II)I"⟩, 29), (⟨"WishLampModel", "keepingTerm", "(II)J"⟩, 29), (⟨"WishLampModel", "layTerm", "(I)V"⟩, 29), (⟨"WishLampModel", "keepsTerm", "(II)Z"⟩, 29), (⟨"WishLampModel", "words", "(I)I"⟩, 29), (⟨"WishLampModel", "digitOf", "(II)I"⟩, 29), (⟨"WishLampModel", "layAhead", "(I)V"⟩, 29), (⟨"WishLampModel", "bestFrom", "(II)I"⟩, 29)]
theorem lw_r3 : ∀ q ∈ lw_privs_3, lw_okq q := List.forall_mem_cons.mpr ⟨lw_p32, List.forall_mem_cons.mpr ⟨lw_p33, List.forall_mem_cons.mpr ⟨lw_p34, List.forall_mem_cons.mpr ⟨lw_p35, List.forall_mem_cons.mpr ⟨lw_p36, List.forall_mem_cons.mpr ⟨lw_p37, List.forall_mem_cons.mpr ⟨lw_p38, List.forall_mem_cons.mpr ⟨lw_p39, List.forall_mem_cons.mpr ⟨lw_p40, List.forall_mem_cons.mpr ⟨lw_p41, List.forall_mem_cons.mpr ⟨lw_p42, List.forall_mem_cons.mpr ⟨lw_p43, List.forall_mem_cons.mpr ⟨lw_p44, List.forall_mem_cons.mpr ⟨lw_p45, List.forall_mem_cons.mpr ⟨lw_p46, List.forall_mem_cons.mpr ⟨lw_p47, fun _ h => absurd h List.not_mem_nil⟩⟩⟩⟩⟩⟩⟩⟩⟩⟩⟩⟩⟩⟩⟩⟩
theorem lw_p48 : lw_okq (⟨"WishLampModel", "votesFor", "(I)I"⟩, 29) := ⟨⟨by decide +kernel, by decide +kernel⟩, List.mem_of_getElem? (i := 691) (by decide +kernel), List.mem_of_getElem? (i := 1013) (by decide +kernel), List.mem_of_getElem? (i := 1014) (by decide +kernel)⟩
theorem lw_p49 : lw_okq (⟨"WishLampModel", "worthToAll", "(I)I"⟩, 29) := ⟨⟨by decide +kernel, by decide +kernel⟩, List.mem_of_getElem? (i := 691) (by decide +kernel), List.mem_of_getElem? (i := 1022) (by decide +kernel), List.mem_of_getElem? (i := 1023) (by decide +kernel)⟩
theorem lw_p50 : lw_okq (⟨"WishLampModel", "isTaste", "(I)Z"⟩, 29) := ⟨⟨by decide +kernel, by decide +kernel⟩, List.mem_of_getElem? (i := 691) (by decide +kernel), List.mem_of_getElem? (i := 1038) (by decide +kernel), List.mem_of_getElem? (i := 1039) (by decide +kernel)⟩
theorem lw_p51 : lw_okq (⟨"WishLampModel", "tasteBy", "(II)I"⟩, 29) := ⟨⟨by decide +kernel, by decide +kernel⟩, List.mem_of_getElem? (i := 691) (by decide +kernel), List.mem_of_getElem? (i := 1042) (by decide +kernel), List.mem_of_getElem? (i := 1043) (by decide +kernel)⟩
def lw_privs_4 : List (MethodName × Nat) := [(⟨"WishLampModel", "votesFor", "(I)I"⟩, 29), (⟨"WishLampModel", "worthToAll", "(I)I"⟩, 29), (⟨"WishLampModel", "isTaste", "(I)Z"⟩, 29), (⟨"WishLampModel", "tasteBy", "(II)I"⟩, 29)]
theorem lw_r4 : ∀ q ∈ lw_privs_4, lw_okq q := List.forall_mem_cons.mpr ⟨lw_p48, List.forall_mem_cons.mpr ⟨lw_p49, List.forall_mem_cons.mpr ⟨lw_p50, List.forall_mem_cons.mpr ⟨lw_p51, fun _ h => absurd h List.not_mem_nil⟩⟩⟩⟩
def lw_privs : List (MethodName × Nat) := lw_privs_1 ++ (lw_privs_2 ++ (lw_privs_3 ++ (lw_privs_4)))
def lw_tbl : List Cond := k2_sels lw_privs ++ tables_1
theorem lw_privs_ok : ∀ q ∈ lw_privs, lw_okq q := by
  show ∀ q ∈ lw_privs_1 ++ (lw_privs_2 ++ (lw_privs_3 ++ (lw_privs_4))), lw_okq q
  exact List.forall_mem_append.mpr ⟨lw_r1, List.forall_mem_append.mpr ⟨lw_r2, List.forall_mem_append.mpr ⟨lw_r3, lw_r4⟩⟩⟩
def RX0 : String := "WishLamp$Best"
def TX0 : u_T := fun k => match k with
  | 0 => ("WishLamp$Best", "found", "Z", false)
  | 1 => ("WishLamp$Best", "value", "I", false)
  | _ => ("WishLamp$Best", "rank", "I", false)
def tyX0 : Nat → FieldType := fun k => match k with
  | 0 => .boolean
  | 1 => .int
  | _ => .int
abbrev wsX00 : List Cond := u_ws RX0 TX0 3
theorem nmX0 : ∀ a, a < 3 → ∀ b, b < 3 → a ≠ b → (TX0 a).2.1 ≠ (TX0 b).2.1 := by decide +kernel
theorem tyX0_ok : ∀ k, k < 3 → parseFieldDescriptor (TX0 k).2.2.1 = some (tyX0 k) := by decide +kernel
abbrev cX0_init : ByteArray := prog_2_method_1_code
def yX0_init : MethodName := ⟨RX0, "<init>", "()V"⟩
abbrev cX0_clear : ByteArray := prog_2_method_2_code
def yX0_clear : MethodName := ⟨RX0, "clear", "()V"⟩
abbrev cX0_offer : ByteArray := prog_2_method_3_code
def yX0_offer : MethodName := ⟨RX0, "offer", "(II)V"⟩
def RX1 : String := "WishLamp$Clause"
def TX1 : u_T := fun k => match k with
  | 0 => ("WishLamp$Clause", "signs", "[I", true)
  | 1 => ("WishLamp$Clause", "count", "I", false)
  | _ => ("WishLamp$Clause", "parts", "[J", true)
def tyX1 : Nat → FieldType := fun k => match k with
  | 0 => .array .int
  | 1 => .int
  | _ => .array .long
abbrev wsX10 : List Cond := u_ws RX1 TX1 3
theorem nmX1 : ∀ a, a < 3 → ∀ b, b < 3 → a ≠ b → (TX1 a).2.1 ≠ (TX1 b).2.1 := by decide +kernel
theorem tyX1_ok : ∀ k, k < 3 → parseFieldDescriptor (TX1 k).2.2.1 = some (tyX1 k) := by decide +kernel
abbrev cX1_init : ByteArray := prog_3_method_1_code
def yX1_init : MethodName := ⟨RX1, "<init>", "()V"⟩
abbrev cX1_write : ByteArray := prog_3_method_2_code
def yX1_write : MethodName := ⟨RX1, "write", "(I)Z"⟩
abbrev cX1_clear : ByteArray := prog_3_method_3_code
def yX1_clear : MethodName := ⟨RX1, "clear", "()I"⟩
abbrev cX1_copyChanged : ByteArray := prog_3_method_4_code
def yX1_copyChanged : MethodName := ⟨RX1, "copyChanged", "(LWishLamp$Clause;II)V"⟩
abbrev cX1_firstFault : ByteArray := prog_3_method_5_code
def yX1_firstFault : MethodName := ⟨RX1, "firstFault", "(I)I"⟩
abbrev cX1_saidThings : ByteArray := prog_3_method_6_code
def yX1_saidThings : MethodName := ⟨RX1, "saidThings", "()I"⟩
abbrev cX1_worldsFrom : ByteArray := prog_3_method_7_code
def yX1_worldsFrom : MethodName := ⟨RX1, "worldsFrom", "(I)J"⟩
abbrev cX1_isSoAt : ByteArray := prog_3_method_8_code
def yX1_isSoAt : MethodName := ⟨RX1, "isSoAt", "(II)Z"⟩
abbrev cX1_leafWorlds : ByteArray := prog_3_method_9_code
def yX1_leafWorlds : MethodName := ⟨RX1, "leafWorlds", "(I)J"⟩
abbrev cX1_joined : ByteArray := prog_3_method_10_code
def yX1_joined : MethodName := ⟨RX1, "joined", "(IJJ)J"⟩
def RX2 : String := "WishLamp$Draw"
def TX2 : u_T := fun k => match k with
  | 0 => ("WishLamp$Draw", "state", "LWishLamp$State;", true)
  | 1 => ("WishLamp$Draw", "terms", "LWishLamp$Terms;", true)
  | 2 => ("WishLamp$Draw", "ranks", "[I", true)
  | 3 => ("WishLamp$Draw", "worlds", "[I", true)
  | 4 => ("WishLamp$Draw", "partRanks", "[I", true)
  | 5 => ("WishLamp$Draw", "partWorlds", "[I", true)
  | 6 => ("WishLamp$Draw", "stirs", "[I", true)
  | _ => ("WishLamp$Draw", "stirCount", "I", false)
def tyX2 : Nat → FieldType := fun k => match k with
  | 0 => .object "WishLamp$State"
  | 1 => .object "WishLamp$Terms"
  | 2 => .array .int
  | 3 => .array .int
  | 4 => .array .int
  | 5 => .array .int
  | 6 => .array .int
  | _ => .int
abbrev wsX20 : List Cond := u_ws RX2 TX2 8
theorem nmX2 : ∀ a, a < 8 → ∀ b, b < 8 → a ≠ b → (TX2 a).2.1 ≠ (TX2 b).2.1 := by decide +kernel
theorem tyX2_ok : ∀ k, k < 8 → parseFieldDescriptor (TX2 k).2.2.1 = some (tyX2 k) := by decide +kernel
abbrev cX2_init : ByteArray := prog_4_method_1_code
def yX2_init : MethodName := ⟨RX2, "<init>", "(LWishLamp$State;LWishLamp$Terms;)V"⟩
abbrev cX2_drawUp : ByteArray := prog_4_method_2_code
def yX2_drawUp : MethodName := ⟨RX2, "drawUp", "([III)V"⟩
abbrev cX2_listStirs : ByteArray := prog_4_method_3_code
def yX2_listStirs : MethodName := ⟨RX2, "listStirs", "(I)V"⟩
abbrev cX2_drawUpSaying : ByteArray := prog_4_method_4_code
def yX2_drawUpSaying : MethodName := ⟨RX2, "drawUpSaying", "(I[II)V"⟩
abbrev cX2_takePart : ByteArray := prog_4_method_5_code
def yX2_takePart : MethodName := ⟨RX2, "takePart", "(II[I)V"⟩
abbrev cX2_worstNear : ByteArray := prog_4_method_6_code
def yX2_worstNear : MethodName := ⟨RX2, "worstNear", "(I[I)I"⟩
abbrev cX2_isBetter : ByteArray := prog_4_method_7_code
def yX2_isBetter : MethodName := ⟨RX2, "isBetter", "(IIII)Z"⟩
def RX3 : String := "WishLamp$Spirit"
def TX3 : u_T := fun k => match k with
  | 0 => ("WishLamp$Spirit", "state", "LWishLamp$State;", true)
  | 1 => ("WishLamp$Spirit", "terms", "LWishLamp$Terms;", true)
  | 2 => ("WishLamp$Spirit", "worths", "[I", true)
  | _ => ("WishLamp$Spirit", "scores", "[I", true)
def tyX3 : Nat → FieldType := fun k => match k with
  | 0 => .object "WishLamp$State"
  | 1 => .object "WishLamp$Terms"
  | 2 => .array .int
  | _ => .array .int
abbrev wsX30 : List Cond := u_ws RX3 TX3 4
theorem nmX3 : ∀ a, a < 4 → ∀ b, b < 4 → a ≠ b → (TX3 a).2.1 ≠ (TX3 b).2.1 := by decide +kernel
theorem tyX3_ok : ∀ k, k < 4 → parseFieldDescriptor (TX3 k).2.2.1 = some (tyX3 k) := by decide +kernel
abbrev cX3_init : ByteArray := prog_5_method_1_code
def yX3_init : MethodName := ⟨RX3, "<init>", "(LWishLamp$State;LWishLamp$Terms;)V"⟩
abbrev cX3_ready : ByteArray := prog_5_method_2_code
def yX3_ready : MethodName := ⟨RX3, "ready", "()V"⟩
abbrev cX3_outcome : ByteArray := prog_5_method_3_code
def yX3_outcome : MethodName := ⟨RX3, "outcome", "(JI)I"⟩
abbrev cX3_ofTerm : ByteArray := prog_5_method_4_code
def yX3_ofTerm : MethodName := ⟨RX3, "ofTerm", "(II)I"⟩
abbrev cX3_didAll : ByteArray := prog_5_method_5_code
def yX3_didAll : MethodName := ⟨RX3, "didAll", "(I)Z"⟩
abbrev cX3_termWorlds : ByteArray := prog_5_method_6_code
def yX3_termWorlds : MethodName := ⟨RX3, "termWorlds", "(II)J"⟩
abbrev cX3_movedBy : ByteArray := prog_5_method_7_code
def yX3_movedBy : MethodName := ⟨RX3, "movedBy", "(JI)J"⟩
def RX4 : String := "WishLamp$State"
def TX4 : u_T := fun k => match k with
  | 0 => ("WishLamp$State", "things", "I", false)
  | 1 => ("WishLamp$State", "here", "I", false)
  | 2 => ("WishLamp$State", "way", "I", false)
  | 3 => ("WishLamp$State", "wisher", "I", false)
  | 4 => ("WishLamp$State", "still", "I", false)
  | 5 => ("WishLamp$State", "law", "J", false)
  | 6 => ("WishLamp$State", "worths", "[I", true)
  | 7 => ("WishLamp$State", "tastes", "[I", true)
  | 8 => ("WishLamp$State", "shares", "[I", true)
  | 9 => ("WishLamp$State", "past", "[I", true)
  | 10 => ("WishLamp$State", "pastCount", "I", false)
  | 11 => ("WishLamp$State", "fitting", "[J", true)
  | 12 => ("WishLamp$State", "pickedCount", "I", false)
  | 13 => ("WishLamp$State", "cameFrom", "[I", true)
  | 14 => ("WishLamp$State", "cameTo", "[I", true)
  | _ => ("WishLamp$State", "cameCount", "I", false)
def tyX4 : Nat → FieldType := fun k => match k with
  | 0 => .int
  | 1 => .int
  | 2 => .int
  | 3 => .int
  | 4 => .int
  | 5 => .long
  | 6 => .array .int
  | 7 => .array .int
  | 8 => .array .int
  | 9 => .array .int
  | 10 => .int
  | 11 => .array .long
  | 12 => .int
  | 13 => .array .int
  | 14 => .array .int
  | _ => .int
abbrev wsX40 : List Cond := u_ws RX4 TX4 16
theorem nmX4 : ∀ a, a < 16 → ∀ b, b < 16 → a ≠ b → (TX4 a).2.1 ≠ (TX4 b).2.1 := by decide +kernel
theorem tyX4_ok : ∀ k, k < 16 → parseFieldDescriptor (TX4 k).2.2.1 = some (tyX4 k) := by decide +kernel
abbrev cX4_init : ByteArray := prog_6_method_1_code
def yX4_init : MethodName := ⟨RX4, "<init>", "()V"⟩
abbrev cX4_begin : ByteArray := prog_6_method_2_code
def yX4_begin : MethodName := ⟨RX4, "begin", "(I)V"⟩
abbrev cX4_forgetSights : ByteArray := prog_6_method_3_code
def yX4_forgetSights : MethodName := ⟨RX4, "forgetSights", "()V"⟩
abbrev cX4_copyFrom : ByteArray := prog_6_method_4_code
def yX4_copyFrom : MethodName := ⟨RX4, "copyFrom", "(LWishLamp$State;)V"⟩
abbrev cX4_worldCount : ByteArray := prog_6_method_5_code
def yX4_worldCount : MethodName := ⟨RX4, "worldCount", "()I"⟩
abbrev cX4_allWorlds : ByteArray := prog_6_method_6_code
def yX4_allWorlds : MethodName := ⟨RX4, "allWorlds", "()J"⟩
abbrev cX4_worthTo : ByteArray := prog_6_method_7_code
def yX4_worthTo : MethodName := ⟨RX4, "worthTo", "(II)I"⟩
abbrev cX4_stillWorlds : ByteArray := prog_6_method_8_code
def yX4_stillWorlds : MethodName := ⟨RX4, "stillWorlds", "(II)J"⟩
abbrev cX4_remember : ByteArray := prog_6_method_9_code
def yX4_remember : MethodName := ⟨RX4, "remember", "(I)V"⟩
abbrev cX4_canFit : ByteArray := prog_6_method_10_code
def yX4_canFit : MethodName := ⟨RX4, "canFit", "(I)Z"⟩
abbrev cX4_ruleOut : ByteArray := prog_6_method_11_code
def yX4_ruleOut : MethodName := ⟨RX4, "ruleOut", "(I)V"⟩
def RX5 : String := "WishLamp$Terms"
def TX5 : u_T := fun k => match k with
  | 0 => ("WishLamp$Terms", "count", "I", false)
  | 1 => ("WishLamp$Terms", "said", "[I", true)
  | 2 => ("WishLamp$Terms", "so", "[I", true)
  | 3 => ("WishLamp$Terms", "worlds", "[J", true)
  | _ => ("WishLamp$Terms", "weights", "[I", true)
def tyX5 : Nat → FieldType := fun k => match k with
  | 0 => .int
  | 1 => .array .int
  | 2 => .array .int
  | 3 => .array .long
  | _ => .array .int
abbrev wsX50 : List Cond := u_ws RX5 TX5 5
theorem nmX5 : ∀ a, a < 5 → ∀ b, b < 5 → a ≠ b → (TX5 a).2.1 ≠ (TX5 b).2.1 := by decide +kernel
theorem tyX5_ok : ∀ k, k < 5 → parseFieldDescriptor (TX5 k).2.2.1 = some (tyX5 k) := by decide +kernel
abbrev cX5_init : ByteArray := prog_7_method_1_code
def yX5_init : MethodName := ⟨RX5, "<init>", "()V"⟩
abbrev cX5_listFor : ByteArray := prog_7_method_2_code
def yX5_listFor : MethodName := ⟨RX5, "listFor", "(I)V"⟩
abbrev cX5_digitOf : ByteArray := prog_7_method_3_code
def yX5_digitOf : MethodName := ⟨RX5, "digitOf", "(II)I"⟩
abbrev cX5_wordsOf : ByteArray := prog_7_method_4_code
def yX5_wordsOf : MethodName := ⟨RX5, "wordsOf", "(I)I"⟩
abbrev cX5_rankOf : ByteArray := prog_7_method_5_code
def yX5_rankOf : MethodName := ⟨RX5, "rankOf", "(I)I"⟩
abbrev cX5_rankFor : ByteArray := prog_7_method_6_code
def yX5_rankFor : MethodName := ⟨RX5, "rankFor", "(II)I"⟩
abbrev cX5_tasteTakes : ByteArray := prog_7_method_7_code
def yX5_tasteTakes : MethodName := ⟨RX5, "tasteTakes", "(IJI)Z"⟩
def RX6 : String := "WishLamp"
def TX6 : u_T := fun k => match k with
  | 0 => ("WishLamp", "state", "LWishLamp$State;", true)
  | 1 => ("WishLamp", "images", "[LWishLamp$State;", true)
  | 2 => ("WishLamp", "pad", "LWishLamp$Clause;", true)
  | 3 => ("WishLamp", "changed", "LWishLamp$Clause;", true)
  | 4 => ("WishLamp", "terms", "LWishLamp$Terms;", true)
  | 5 => ("WishLamp", "spirit", "LWishLamp$Spirit;", true)
  | 6 => ("WishLamp", "draw", "LWishLamp$Draw;", true)
  | 7 => ("WishLamp", "best", "LWishLamp$Best;", true)
  | 8 => ("WishLamp", "values", "[I", true)
  | _ => ("WishLamp", "spare", "[I", true)
def tyX6 : Nat → FieldType := fun k => match k with
  | 0 => .object "WishLamp$State"
  | 1 => .array (.object "WishLamp$State")
  | 2 => .object "WishLamp$Clause"
  | 3 => .object "WishLamp$Clause"
  | 4 => .object "WishLamp$Terms"
  | 5 => .object "WishLamp$Spirit"
  | 6 => .object "WishLamp$Draw"
  | 7 => .object "WishLamp$Best"
  | 8 => .array .int
  | _ => .array .int
abbrev wsX60 : List Cond := u_ws RX6 TX6 10
theorem nmX6 : ∀ a, a < 10 → ∀ b, b < 10 → a ≠ b → (TX6 a).2.1 ≠ (TX6 b).2.1 := by decide +kernel
theorem tyX6_ok : ∀ k, k < 10 → parseFieldDescriptor (TX6 k).2.2.1 = some (tyX6 k) := by decide +kernel
abbrev cX6_init : ByteArray := prog_1_method_1_code
def yX6_init : MethodName := ⟨RX6, "<init>", "()V"⟩
abbrev cX6_things : ByteArray := prog_1_method_2_code
def yX6_things : MethodName := ⟨RX6, "things", "(I)I"⟩
abbrev cX6_worth : ByteArray := prog_1_method_3_code
def yX6_worth : MethodName := ⟨RX6, "worth", "(III)I"⟩
abbrev cX6_taste : ByteArray := prog_1_method_4_code
def yX6_taste : MethodName := ⟨RX6, "taste", "(II)I"⟩
abbrev cX6_set : ByteArray := prog_1_method_5_code
def yX6_set : MethodName := ⟨RX6, "set", "(II)I"⟩
abbrev cX6_now : ByteArray := prog_1_method_6_code
def yX6_now : MethodName := ⟨RX6, "now", "(I)I"⟩
abbrev cX6_worthOf : ByteArray := prog_1_method_7_code
def yX6_worthOf : MethodName := ⟨RX6, "worthOf", "(II)I"⟩
abbrev cX6_say : ByteArray := prog_1_method_8_code
def yX6_say : MethodName := ⟨RX6, "say", "(I)I"⟩
abbrev cX6_wipe : ByteArray := prog_1_method_9_code
def yX6_wipe : MethodName := ⟨RX6, "wipe", "()I"⟩
abbrev cX6_fault : ByteArray := prog_1_method_10_code
def yX6_fault : MethodName := ⟨RX6, "fault", "()I"⟩
abbrev cX6_enact : ByteArray := prog_1_method_11_code
def yX6_enact : MethodName := ⟨RX6, "enact", "()I"⟩
abbrev cX6_kept : ByteArray := prog_1_method_12_code
def yX6_kept : MethodName := ⟨RX6, "kept", "(I)I"⟩
abbrev cX6_makes : ByteArray := prog_1_method_13_code
def yX6_makes : MethodName := ⟨RX6, "makes", "()I"⟩
abbrev cX6_extreme : ByteArray := prog_1_method_14_code
def yX6_extreme : MethodName := ⟨RX6, "extreme", "(III)I"⟩
abbrev cX6_harmed : ByteArray := prog_1_method_15_code
def yX6_harmed : MethodName := ⟨RX6, "harmed", "()I"⟩
abbrev cX6_grant : ByteArray := prog_1_method_16_code
def yX6_grant : MethodName := ⟨RX6, "grant", "()I"⟩
abbrev cX6_undo : ByteArray := prog_1_method_17_code
def yX6_undo : MethodName := ⟨RX6, "undo", "()I"⟩
abbrev cX6_comma : ByteArray := prog_1_method_18_code
def yX6_comma : MethodName := ⟨RX6, "comma", "(I)I"⟩
abbrev cX6_term : ByteArray := prog_1_method_19_code
def yX6_term : MethodName := ⟨RX6, "term", "(I)I"⟩
abbrev cX6_wording : ByteArray := prog_1_method_20_code
def yX6_wording : MethodName := ⟨RX6, "wording", "(II)I"⟩
abbrev cX6_most : ByteArray := prog_1_method_21_code
def yX6_most : MethodName := ⟨RX6, "most", "(II)I"⟩
abbrev cX6_row : ByteArray := prog_1_method_22_code
def yX6_row : MethodName := ⟨RX6, "row", "(III)I"⟩
abbrev cX6_lamps : ByteArray := prog_1_method_23_code
def yX6_lamps : MethodName := ⟨RX6, "lamps", "(III)I"⟩
abbrev cX6_sixths : ByteArray := prog_1_method_24_code
def yX6_sixths : MethodName := ⟨RX6, "sixths", "(IIII)I"⟩
abbrev cX6_votes : ByteArray := prog_1_method_25_code
def yX6_votes : MethodName := ⟨RX6, "votes", "()I"⟩
abbrev cX6_agreed : ByteArray := prog_1_method_26_code
def yX6_agreed : MethodName := ⟨RX6, "agreed", "(I)I"⟩
abbrev cX6_paid : ByteArray := prog_1_method_27_code
def yX6_paid : MethodName := ⟨RX6, "paid", "()I"⟩
abbrev cX6_picked : ByteArray := prog_1_method_28_code
def yX6_picked : MethodName := ⟨RX6, "picked", "(I)I"⟩
abbrev cX6_fit : ByteArray := prog_1_method_29_code
def yX6_fit : MethodName := ⟨RX6, "fit", "(I)I"⟩
abbrev cX6_came : ByteArray := prog_1_method_30_code
def yX6_came : MethodName := ⟨RX6, "came", "(II)I"⟩
abbrev cX6_letters : ByteArray := prog_1_method_31_code
def yX6_letters : MethodName := ⟨RX6, "letters", "(I)I"⟩
abbrev cX6_forget : ByteArray := prog_1_method_32_code
def yX6_forget : MethodName := ⟨RX6, "forget", "()I"⟩
abbrev cX6_drunk : ByteArray := prog_1_method_33_code
def yX6_drunk : MethodName := ⟨RX6, "drunk", "(II)J"⟩
abbrev cX6_mean : ByteArray := prog_1_method_34_code
def yX6_mean : MethodName := ⟨RX6, "mean", "(II)J"⟩
abbrev cX6_year : ByteArray := prog_1_method_35_code
def yX6_year : MethodName := ⟨RX6, "year", "(III)I"⟩
abbrev cX6_image : ByteArray := prog_1_method_36_code
def yX6_image : MethodName := ⟨RX6, "image", "(I)I"⟩
abbrev cX6_restore : ByteArray := prog_1_method_37_code
def yX6_restore : MethodName := ⟨RX6, "restore", "(I)I"⟩
abbrev cX6_told : ByteArray := prog_1_method_38_code
def yX6_told : MethodName := ⟨RX6, "told", "(I)I"⟩
abbrev cX6_toldPlain : ByteArray := prog_1_method_39_code
def yX6_toldPlain : MethodName := ⟨RX6, "toldPlain", "(I)I"⟩
abbrev cX6_isCousin : ByteArray := prog_1_method_40_code
def yX6_isCousin : MethodName := ⟨RX6, "isCousin", "(I)Z"⟩
abbrev cX6_isThing : ByteArray := prog_1_method_41_code
def yX6_isThing : MethodName := ⟨RX6, "isThing", "(I)Z"⟩
abbrev cX6_isWorld : ByteArray := prog_1_method_42_code
def yX6_isWorld : MethodName := ⟨RX6, "isWorld", "(I)Z"⟩
abbrev cX6_isBit : ByteArray := prog_1_method_43_code
def yX6_isBit : MethodName := ⟨RX6, "isBit", "(I)Z"⟩
abbrev cX6_isWords : ByteArray := prog_1_method_44_code
def yX6_isWords : MethodName := ⟨RX6, "isWords", "(I)Z"⟩
abbrev cX6_isShare : ByteArray := prog_1_method_45_code
def yX6_isShare : MethodName := ⟨RX6, "isShare", "(I)Z"⟩
abbrev cX6_isFaulty : ByteArray := prog_1_method_46_code
def yX6_isFaulty : MethodName := ⟨RX6, "isFaulty", "()Z"⟩
abbrev cX6_wishWorlds : ByteArray := prog_1_method_47_code
def yX6_wishWorlds : MethodName := ⟨RX6, "wishWorlds", "()J"⟩
abbrev cX6_refusalOf : ByteArray := prog_1_method_48_code
def yX6_refusalOf : MethodName := ⟨RX6, "refusalOf", "(ZZ)I"⟩
abbrev cX6_wishOutcome : ByteArray := prog_1_method_49_code
def yX6_wishOutcome : MethodName := ⟨RX6, "wishOutcome", "()I"⟩
abbrev cX6_gainOf : ByteArray := prog_1_method_50_code
def yX6_gainOf : MethodName := ⟨RX6, "gainOf", "(II)I"⟩
abbrev cX6_votesFor : ByteArray := prog_1_method_51_code
def yX6_votesFor : MethodName := ⟨RX6, "votesFor", "(I)I"⟩
abbrev cX6_fillMerits : ByteArray := prog_1_method_52_code
def yX6_fillMerits : MethodName := ⟨RX6, "fillMerits", "()V"⟩
abbrev cX6_tryPlace : ByteArray := prog_1_method_53_code
def yX6_tryPlace : MethodName := ⟨RX6, "tryPlace", "(IJ)V"⟩
abbrev cX6_tryChange : ByteArray := prog_1_method_54_code
def yX6_tryChange : MethodName := ⟨RX6, "tryChange", "(IIJ)V"⟩
abbrev cX6_signPut : ByteArray := prog_1_method_55_code
def yX6_signPut : MethodName := ⟨RX6, "signPut", "(II)I"⟩
abbrev cX6_follow : ByteArray := prog_1_method_56_code
def yX6_follow : MethodName := ⟨RX6, "follow", "([I)V"⟩
abbrev cX6_firstOfRow : ByteArray := prog_1_method_57_code
def yX6_firstOfRow : MethodName := ⟨RX6, "firstOfRow", "(II)I"⟩
abbrev cX6_partOf : ByteArray := prog_1_method_58_code
def yX6_partOf : MethodName := ⟨RX6, "partOf", "(III)J"⟩
abbrev cX6_orderOf : ByteArray := prog_1_method_59_code
def yX6_orderOf : MethodName := ⟨RX6, "orderOf", "(I)I"⟩
abbrev cX6_lowestOf : ByteArray := prog_1_method_60_code
def yX6_lowestOf : MethodName := ⟨RX6, "lowestOf", "(J)I"⟩
abbrev cX6_fillSums : ByteArray := prog_1_method_61_code
def yX6_fillSums : MethodName := ⟨RX6, "fillSums", "([III[I)V"⟩
abbrev cX6_leastOf : ByteArray := prog_1_method_62_code
def yX6_leastOf : MethodName := ⟨RX6, "leastOf", "(J[III)I"⟩
def RX7 : String := "WishLampModel"
def TX7 : u_T := fun k => match k with
  | 0 => ("WishLampModel", "things", "I", false)
  | 1 => ("WishLampModel", "worths", "[I", true)
  | 2 => ("WishLampModel", "tastes", "[I", true)
  | 3 => ("WishLampModel", "sixth", "[I", true)
  | 4 => ("WishLampModel", "way", "I", false)
  | 5 => ("WishLampModel", "wisher", "I", false)
  | 6 => ("WishLampModel", "still", "I", false)
  | 7 => ("WishLampModel", "world", "I", false)
  | 8 => ("WishLampModel", "lawful", "J", false)
  | 9 => ("WishLampModel", "undos", "I", false)
  | 10 => ("WishLampModel", "undone", "[I", true)
  | 11 => ("WishLampModel", "picks", "I", false)
  | 12 => ("WishLampModel", "pickKept", "[J", true)
  | 13 => ("WishLampModel", "pickWorld", "[I", true)
  | 14 => ("WishLampModel", "cames", "I", false)
  | 15 => ("WishLampModel", "came", "[I", true)
  | 16 => ("WishLampModel", "signs", "I", false)
  | 17 => ("WishLampModel", "pad", "[I", true)
  | 18 => ("WishLampModel", "size", "I", false)
  | 19 => ("WishLampModel", "text", "[I", true)
  | 20 => ("WishLampModel", "stack", "[Z", true)
  | 21 => ("WishLampModel", "yes", "I", false)
  | 22 => ("WishLampModel", "no", "I", false)
  | 23 => ("WishLampModel", "ends", "[I", true)
  | 24 => ("WishLampModel", "ahead", "[I", true)
  | 25 => ("WishLampModel", "bestTerm", "I", false)
  | 26 => ("WishLampModel", "image", "[I", true)
  | 27 => ("WishLampModel", "longs", "[J", true)
  | _ => ("WishLampModel", "isKept", "[Z", true)
def tyX7 : Nat → FieldType := fun k => match k with
  | 0 => .int
  | 1 => .array .int
  | 2 => .array .int
  | 3 => .array .int
  | 4 => .int
  | 5 => .int
  | 6 => .int
  | 7 => .int
  | 8 => .long
  | 9 => .int
  | 10 => .array .int
  | 11 => .int
  | 12 => .array .long
  | 13 => .array .int
  | 14 => .int
  | 15 => .array .int
  | 16 => .int
  | 17 => .array .int
  | 18 => .int
  | 19 => .array .int
  | 20 => .array .boolean
  | 21 => .int
  | 22 => .int
  | 23 => .array .int
  | 24 => .array .int
  | 25 => .int
  | 26 => .array .int
  | 27 => .array .long
  | _ => .array .boolean
abbrev wsX70 : List Cond := u_ws RX7 TX7 29
theorem nmX7 : ∀ a, a < 29 → ∀ b, b < 29 → a ≠ b → (TX7 a).2.1 ≠ (TX7 b).2.1 := by decide +kernel
theorem tyX7_ok : ∀ k, k < 29 → parseFieldDescriptor (TX7 k).2.2.1 = some (tyX7 k) := by decide +kernel
abbrev cX7_init : ByteArray := prog_9_method_1_code
def yX7_init : MethodName := ⟨RX7, "<init>", "()V"⟩
abbrev cX7_plain : ByteArray := prog_9_method_2_code
def yX7_plain : MethodName := ⟨RX7, "plain", "()V"⟩
abbrev cX7_worlds : ByteArray := prog_9_method_3_code
def yX7_worlds : MethodName := ⟨RX7, "worlds", "()I"⟩
abbrev cX7_all : ByteArray := prog_9_method_4_code
def yX7_all : MethodName := ⟨RX7, "all", "()J"⟩
abbrev cX7_in : ByteArray := prog_9_method_5_code
def yX7_in : MethodName := ⟨RX7, "in", "(III)Z"⟩
abbrev cX7_has : ByteArray := prog_9_method_6_code
def yX7_has : MethodName := ⟨RX7, "has", "(II)Z"⟩
abbrev cX7_holds : ByteArray := prog_9_method_7_code
def yX7_holds : MethodName := ⟨RX7, "holds", "(JI)Z"⟩
abbrev cX7_bits : ByteArray := prog_9_method_8_code
def yX7_bits : MethodName := ⟨RX7, "bits", "(I)I"⟩
abbrev cX7_isCousin : ByteArray := prog_9_method_9_code
def yX7_isCousin : MethodName := ⟨RX7, "isCousin", "(I)Z"⟩
abbrev cX7_isThing : ByteArray := prog_9_method_10_code
def yX7_isThing : MethodName := ⟨RX7, "isThing", "(I)Z"⟩
abbrev cX7_isWorld : ByteArray := prog_9_method_11_code
def yX7_isWorld : MethodName := ⟨RX7, "isWorld", "(I)Z"⟩
abbrev cX7_things : ByteArray := prog_9_method_12_code
def yX7_things : MethodName := ⟨RX7, "things", "(I)I"⟩
abbrev cX7_worth : ByteArray := prog_9_method_13_code
def yX7_worth : MethodName := ⟨RX7, "worth", "(III)I"⟩
abbrev cX7_taste : ByteArray := prog_9_method_14_code
def yX7_taste : MethodName := ⟨RX7, "taste", "(II)I"⟩
abbrev cX7_set : ByteArray := prog_9_method_15_code
def yX7_set : MethodName := ⟨RX7, "set", "(II)I"⟩
abbrev cX7_now : ByteArray := prog_9_method_16_code
def yX7_now : MethodName := ⟨RX7, "now", "(I)I"⟩
abbrev cX7_worthTo : ByteArray := prog_9_method_17_code
def yX7_worthTo : MethodName := ⟨RX7, "worthTo", "(II)I"⟩
abbrev cX7_tasteOf : ByteArray := prog_9_method_18_code
def yX7_tasteOf : MethodName := ⟨RX7, "tasteOf", "(I)I"⟩
abbrev cX7_worthOf : ByteArray := prog_9_method_19_code
def yX7_worthOf : MethodName := ⟨RX7, "worthOf", "(II)I"⟩
abbrev cX7_say : ByteArray := prog_9_method_20_code
def yX7_say : MethodName := ⟨RX7, "say", "(I)I"⟩
abbrev cX7_wipe : ByteArray := prog_9_method_21_code
def yX7_wipe : MethodName := ⟨RX7, "wipe", "()I"⟩
abbrev cX7_isPair : ByteArray := prog_9_method_22_code
def yX7_isPair : MethodName := ⟨RX7, "isPair", "(I)Z"⟩
abbrev cX7_isLetter : ByteArray := prog_9_method_23_code
def yX7_isLetter : MethodName := ⟨RX7, "isLetter", "(I)Z"⟩
abbrev cX7_faultOf : ByteArray := prog_9_method_24_code
def yX7_faultOf : MethodName := ⟨RX7, "faultOf", "()I"⟩
abbrev cX7_fault : ByteArray := prog_9_method_25_code
def yX7_fault : MethodName := ⟨RX7, "fault", "()I"⟩
abbrev cX7_layPad : ByteArray := prog_9_method_26_code
def yX7_layPad : MethodName := ⟨RX7, "layPad", "()V"⟩
abbrev cX7_pairOf : ByteArray := prog_9_method_27_code
def yX7_pairOf : MethodName := ⟨RX7, "pairOf", "(IZZ)Z"⟩
abbrev cX7_isSo : ByteArray := prog_9_method_28_code
def yX7_isSo : MethodName := ⟨RX7, "isSo", "(II)Z"⟩
abbrev cX7_saidOf : ByteArray := prog_9_method_29_code
def yX7_saidOf : MethodName := ⟨RX7, "saidOf", "()I"⟩
abbrev cX7_keeping : ByteArray := prog_9_method_30_code
def yX7_keeping : MethodName := ⟨RX7, "keeping", "(I)J"⟩
abbrev cX7_enact : ByteArray := prog_9_method_31_code
def yX7_enact : MethodName := ⟨RX7, "enact", "()I"⟩
abbrev cX7_count : ByteArray := prog_9_method_32_code
def yX7_count : MethodName := ⟨RX7, "count", "(J)I"⟩
abbrev cX7_kept : ByteArray := prog_9_method_33_code
def yX7_kept : MethodName := ⟨RX7, "kept", "(I)I"⟩
abbrev cX7_likes : ByteArray := prog_9_method_34_code
def yX7_likes : MethodName := ⟨RX7, "likes", "(II)I"⟩
abbrev cX7_madeOf : ByteArray := prog_9_method_35_code
def yX7_madeOf : MethodName := ⟨RX7, "madeOf", "(JI)I"⟩
abbrev cX7_made : ByteArray := prog_9_method_36_code
def yX7_made : MethodName := ⟨RX7, "made", "()I"⟩
abbrev cX7_makes : ByteArray := prog_9_method_37_code
def yX7_makes : MethodName := ⟨RX7, "makes", "()I"⟩
abbrev cX7_extreme : ByteArray := prog_9_method_38_code
def yX7_extreme : MethodName := ⟨RX7, "extreme", "(III)I"⟩
abbrev cX7_harmed : ByteArray := prog_9_method_39_code
def yX7_harmed : MethodName := ⟨RX7, "harmed", "()I"⟩
abbrev cX7_grant : ByteArray := prog_9_method_40_code
def yX7_grant : MethodName := ⟨RX7, "grant", "()I"⟩
abbrev cX7_undo : ByteArray := prog_9_method_41_code
def yX7_undo : MethodName := ⟨RX7, "undo", "()I"⟩
abbrev cX7_pairSign : ByteArray := prog_9_method_42_code
def yX7_pairSign : MethodName := ⟨RX7, "pairSign", "(I)I"⟩
abbrev cX7_comma : ByteArray := prog_9_method_43_code
def yX7_comma : MethodName := ⟨RX7, "comma", "(I)I"⟩
abbrev cX7_terms : ByteArray := prog_9_method_44_code
def yX7_terms : MethodName := ⟨RX7, "terms", "()I"⟩
abbrev cX7_digitOf : ByteArray := prog_9_method_45_code
def yX7_digitOf : MethodName := ⟨RX7, "digitOf", "(II)I"⟩
abbrev cX7_words : ByteArray := prog_9_method_46_code
def yX7_words : MethodName := ⟨RX7, "words", "(I)I"⟩
abbrev cX7_layTerm : ByteArray := prog_9_method_47_code
def yX7_layTerm : MethodName := ⟨RX7, "layTerm", "(I)V"⟩
abbrev cX7_keepsTerm : ByteArray := prog_9_method_48_code
def yX7_keepsTerm : MethodName := ⟨RX7, "keepsTerm", "(II)Z"⟩
abbrev cX7_keepingTerm : ByteArray := prog_9_method_49_code
def yX7_keepingTerm : MethodName := ⟨RX7, "keepingTerm", "(II)J"⟩
abbrev cX7_madeOfTerm : ByteArray := prog_9_method_50_code
def yX7_madeOfTerm : MethodName := ⟨RX7, "madeOfTerm", "(II)I"⟩
abbrev cX7_term : ByteArray := prog_9_method_51_code
def yX7_term : MethodName := ⟨RX7, "term", "(I)I"⟩
abbrev cX7_wording : ByteArray := prog_9_method_52_code
def yX7_wording : MethodName := ⟨RX7, "wording", "(II)I"⟩
abbrev cX7_most : ByteArray := prog_9_method_53_code
def yX7_most : MethodName := ⟨RX7, "most", "(II)I"⟩
abbrev cX7_bestFrom : ByteArray := prog_9_method_54_code
def yX7_bestFrom : MethodName := ⟨RX7, "bestFrom", "(II)I"⟩
abbrev cX7_layAhead : ByteArray := prog_9_method_55_code
def yX7_layAhead : MethodName := ⟨RX7, "layAhead", "(I)V"⟩
abbrev cX7_row : ByteArray := prog_9_method_56_code
def yX7_row : MethodName := ⟨RX7, "row", "(III)I"⟩
abbrev cX7_lamps : ByteArray := prog_9_method_57_code
def yX7_lamps : MethodName := ⟨RX7, "lamps", "(III)I"⟩
abbrev cX7_sixths : ByteArray := prog_9_method_58_code
def yX7_sixths : MethodName := ⟨RX7, "sixths", "(IIII)I"⟩
abbrev cX7_votesFor : ByteArray := prog_9_method_59_code
def yX7_votesFor : MethodName := ⟨RX7, "votesFor", "(I)I"⟩
abbrev cX7_votes : ByteArray := prog_9_method_60_code
def yX7_votes : MethodName := ⟨RX7, "votes", "()I"⟩
abbrev cX7_worthToAll : ByteArray := prog_9_method_61_code
def yX7_worthToAll : MethodName := ⟨RX7, "worthToAll", "(I)I"⟩
abbrev cX7_agreed : ByteArray := prog_9_method_62_code
def yX7_agreed : MethodName := ⟨RX7, "agreed", "(I)I"⟩
abbrev cX7_paid : ByteArray := prog_9_method_63_code
def yX7_paid : MethodName := ⟨RX7, "paid", "()I"⟩
abbrev cX7_picked : ByteArray := prog_9_method_64_code
def yX7_picked : MethodName := ⟨RX7, "picked", "(I)I"⟩
abbrev cX7_tasteBy : ByteArray := prog_9_method_65_code
def yX7_tasteBy : MethodName := ⟨RX7, "tasteBy", "(II)I"⟩
abbrev cX7_isTaste : ByteArray := prog_9_method_66_code
def yX7_isTaste : MethodName := ⟨RX7, "isTaste", "(I)Z"⟩
abbrev cX7_fit : ByteArray := prog_9_method_67_code
def yX7_fit : MethodName := ⟨RX7, "fit", "(I)I"⟩
abbrev cX7_came : ByteArray := prog_9_method_68_code
def yX7_came : MethodName := ⟨RX7, "came", "(II)I"⟩
abbrev cX7_letters : ByteArray := prog_9_method_69_code
def yX7_letters : MethodName := ⟨RX7, "letters", "(I)I"⟩
abbrev cX7_forget : ByteArray := prog_9_method_70_code
def yX7_forget : MethodName := ⟨RX7, "forget", "()I"⟩
abbrev cX7_least : ByteArray := prog_9_method_71_code
def yX7_least : MethodName := ⟨RX7, "least", "(JJI)J"⟩
abbrev cX7_drunk : ByteArray := prog_9_method_72_code
def yX7_drunk : MethodName := ⟨RX7, "drunk", "(II)J"⟩
abbrev cX7_mean : ByteArray := prog_9_method_73_code
def yX7_mean : MethodName := ⟨RX7, "mean", "(II)J"⟩
abbrev cX7_year : ByteArray := prog_9_method_74_code
def yX7_year : MethodName := ⟨RX7, "year", "(III)I"⟩
abbrev cX7_image : ByteArray := prog_9_method_75_code
def yX7_image : MethodName := ⟨RX7, "image", "(I)I"⟩
abbrev cX7_restore : ByteArray := prog_9_method_76_code
def yX7_restore : MethodName := ⟨RX7, "restore", "(I)I"⟩
abbrev cX7_told : ByteArray := prog_9_method_77_code
def yX7_told : MethodName := ⟨RX7, "told", "(I)I"⟩
def RJ6 : String := "java/lang/Integer"
def TJ6 : u_T := fun k => match k with
  | _ => ("", "", "", false)
def tyJ6 : Nat → FieldType := fun k => match k with
  | _ => .int
abbrev wsJ60 : List Cond := u_ws RJ6 TJ6 0
theorem nmJ6 : ∀ a, a < 0 → ∀ b, b < 0 → a ≠ b → (TJ6 a).2.1 ≠ (TJ6 b).2.1 := by decide +kernel
theorem tyJ6_ok : ∀ k, k < 0 → parseFieldDescriptor (TJ6 k).2.2.1 = some (tyJ6 k) := by decide +kernel
abbrev cJ6_bitCount_0f7a4 : ByteArray := prog_10_method_49_code
def yJ6_bitCount_0f7a4 : MethodName := ⟨RJ6, "bitCount", "(I)I"⟩
def RJ13 : String := "java/lang/Long"
def TJ13 : u_T := fun k => match k with
  | _ => ("", "", "", false)
def tyJ13 : Nat → FieldType := fun k => match k with
  | _ => .int
abbrev wsJ130 : List Cond := u_ws RJ13 TJ13 0
theorem nmJ13 : ∀ a, a < 0 → ∀ b, b < 0 → a ≠ b → (TJ13 a).2.1 ≠ (TJ13 b).2.1 := by decide +kernel
theorem tyJ13_ok : ∀ k, k < 0 → parseFieldDescriptor (TJ13 k).2.2.1 = some (tyJ13 k) := by decide +kernel
abbrev cJ13_bitCount_95d88 : ByteArray := prog_11_method_50_code
def yJ13_bitCount_95d88 : MethodName := ⟨RJ13, "bitCount", "(J)I"⟩
def RJ10 : String := "java/lang/System"
def TJ10 : u_T := fun k => match k with
  | _ => ("", "", "", false)
def tyJ10 : Nat → FieldType := fun k => match k with
  | _ => .int
abbrev wsJ100 : List Cond := u_ws RJ10 TJ10 0
theorem nmJ10 : ∀ a, a < 0 → ∀ b, b < 0 → a ≠ b → (TJ10 a).2.1 ≠ (TJ10 b).2.1 := by decide +kernel
theorem tyJ10_ok : ∀ k, k < 0 → parseFieldDescriptor (TJ10 k).2.2.1 = some (tyJ10 k) := by decide +kernel
def RL : String := "WishLampLaw"
abbrev cL_law : ByteArray := code
def yL_law : MethodName := ⟨RL, "law", "([I)Z"⟩
abbrev vwCl : List vw_C := [(RX0, TX0, 3), (RX1, TX1, 3), (RX2, TX2, 8), (RX3, TX3, 4), (RX4, TX4, 16), (RX5, TX5, 5), (RX6, TX6, 10), (RX7, TX7, 29)]
