-- ===== PART A: goes FIRST, ahead of the names: the tables' words, and 'selects' of the private methods out of them =====
/-- a private method of a class that the tables say can be made, by its rows of tables_1 -/
def lw_okq (q : MethodName × Nat) : Prop := (q.1.cls ≠ "java/lang/invoke/MethodHandle" ∧ q.1.cls ≠ "java/lang/invoke/VarHandle") ∧ Cond.instantiable q.1.cls q.2 ∈ tables_1 ∧ Cond.privateMethod q.1 ∈ tables_1 ∧ Cond.instanceMethod q.1 ∈ tables_1
theorem lw_p0 : lw_okq (⟨"BidLanguage", "addRule", "(LBidLanguage$Rule;)I"⟩, 5) := ⟨⟨by decide +kernel, by decide +kernel⟩, List.mem_of_getElem? (i := 25) (by decide +kernel), List.mem_of_getElem? (i := 203) (by decide +kernel), List.mem_of_getElem? (i := 204) (by decide +kernel)⟩
theorem lw_p1 : lw_okq (⟨"java/util/ArrayList", "add", "(Ljava/lang/Object;[Ljava/lang/Object;I)V"⟩, 3) := ⟨⟨by decide +kernel, by decide +kernel⟩, List.mem_of_getElem? (i := 33) (by decide +kernel), List.mem_of_getElem? (i := 229) (by decide +kernel), List.mem_of_getElem? (i := 230) (by decide +kernel)⟩
theorem lw_p2 : lw_okq (⟨"java/util/ArrayList", "grow", "()[Ljava/lang/Object;"⟩, 3) := ⟨⟨by decide +kernel, by decide +kernel⟩, List.mem_of_getElem? (i := 33) (by decide +kernel), List.mem_of_getElem? (i := 233) (by decide +kernel), List.mem_of_getElem? (i := 234) (by decide +kernel)⟩
theorem lw_p3 : lw_okq (⟨"java/util/ArrayList", "grow", "(I)[Ljava/lang/Object;"⟩, 3) := ⟨⟨by decide +kernel, by decide +kernel⟩, List.mem_of_getElem? (i := 33) (by decide +kernel), List.mem_of_getElem? (i := 237) (by decide +kernel), List.mem_of_getElem? (i := 238) (by decide +kernel)⟩
theorem lw_p4 : lw_okq (⟨"BidLanguage", "isRule", "(I)Z"⟩, 5) := ⟨⟨by decide +kernel, by decide +kernel⟩, List.mem_of_getElem? (i := 25) (by decide +kernel), List.mem_of_getElem? (i := 293) (by decide +kernel), List.mem_of_getElem? (i := 294) (by decide +kernel)⟩
theorem lw_p5 : lw_okq (⟨"BidLanguage", "countAdmitted", "(LBidLanguage$Rule;)I"⟩, 5) := ⟨⟨by decide +kernel, by decide +kernel⟩, List.mem_of_getElem? (i := 25) (by decide +kernel), List.mem_of_getElem? (i := 304) (by decide +kernel), List.mem_of_getElem? (i := 305) (by decide +kernel)⟩
theorem lw_p6 : lw_okq (⟨"java/util/ArrayList", "fastRemove", "([Ljava/lang/Object;I)V"⟩, 3) := ⟨⟨by decide +kernel, by decide +kernel⟩, List.mem_of_getElem? (i := 33) (by decide +kernel), List.mem_of_getElem? (i := 344) (by decide +kernel), List.mem_of_getElem? (i := 345) (by decide +kernel)⟩
theorem lw_p7 : lw_okq (⟨"java/util/ArrayList", "rangeCheckForAdd", "(I)V"⟩, 3) := ⟨⟨by decide +kernel, by decide +kernel⟩, List.mem_of_getElem? (i := 33) (by decide +kernel), List.mem_of_getElem? (i := 357) (by decide +kernel), List.mem_of_getElem? (i := 358) (by decide +kernel)⟩
theorem lw_p8 : lw_okq (⟨"BidLanguage", "handOf", "(I)I"⟩, 5) := ⟨⟨by decide +kernel, by decide +kernel⟩, List.mem_of_getElem? (i := 25) (by decide +kernel), List.mem_of_getElem? (i := 383) (by decide +kernel), List.mem_of_getElem? (i := 384) (by decide +kernel)⟩
theorem lw_p9 : lw_okq (⟨"BidLanguage$Auction", "hasPass", "()Z"⟩, 4) := ⟨⟨by decide +kernel, by decide +kernel⟩, List.mem_of_getElem? (i := 59) (by decide +kernel), List.mem_of_getElem? (i := 416) (by decide +kernel), List.mem_of_getElem? (i := 417) (by decide +kernel)⟩
theorem lw_p10 : lw_okq (⟨"BidLanguage", "firstRule", "(LBidLanguage$Position;I)I"⟩, 5) := ⟨⟨by decide +kernel, by decide +kernel⟩, List.mem_of_getElem? (i := 25) (by decide +kernel), List.mem_of_getElem? (i := 427) (by decide +kernel), List.mem_of_getElem? (i := 428) (by decide +kernel)⟩
theorem lw_p11 : lw_okq (⟨"BidLanguage", "openRule", "(I)I"⟩, 5) := ⟨⟨by decide +kernel, by decide +kernel⟩, List.mem_of_getElem? (i := 25) (by decide +kernel), List.mem_of_getElem? (i := 463) (by decide +kernel), List.mem_of_getElem? (i := 464) (by decide +kernel)⟩
theorem lw_p12 : lw_okq (⟨"BidLanguage", "countHidden", "(II)I"⟩, 5) := ⟨⟨by decide +kernel, by decide +kernel⟩, List.mem_of_getElem? (i := 25) (by decide +kernel), List.mem_of_getElem? (i := 506) (by decide +kernel), List.mem_of_getElem? (i := 507) (by decide +kernel)⟩
theorem lw_p13 : lw_okq (⟨"BidLanguage", "isHidden", "(III)Z"⟩, 5) := ⟨⟨by decide +kernel, by decide +kernel⟩, List.mem_of_getElem? (i := 25) (by decide +kernel), List.mem_of_getElem? (i := 510) (by decide +kernel), List.mem_of_getElem? (i := 511) (by decide +kernel)⟩
theorem lw_p14 : lw_okq (⟨"BidLanguage", "fitsAuction", "(II)Z"⟩, 5) := ⟨⟨by decide +kernel, by decide +kernel⟩, List.mem_of_getElem? (i := 25) (by decide +kernel), List.mem_of_getElem? (i := 514) (by decide +kernel), List.mem_of_getElem? (i := 515) (by decide +kernel)⟩
theorem lw_p15 : lw_okq (⟨"BidLanguage", "countWithRule", "(LBidLanguage$Position;I)I"⟩, 5) := ⟨⟨by decide +kernel, by decide +kernel⟩, List.mem_of_getElem? (i := 25) (by decide +kernel), List.mem_of_getElem? (i := 545) (by decide +kernel), List.mem_of_getElem? (i := 546) (by decide +kernel)⟩
def lw_privs_1 : List (MethodName × Nat) := [(⟨"BidLanguage", "addRule", "(LBidLanguage$Rule;)I"⟩, 5), (⟨"java/util/ArrayList", "add", "(Ljava/lang/Object;[Ljava/lang/Object;I)V"⟩, 3), (⟨"java/util/ArrayList", "grow", "()[Ljava/lang/Object;"⟩, 3), (⟨"java/util/ArrayList", "grow", "(I)[Ljava/lang/Object;"⟩, 3), (⟨"BidLanguage", "isRule", "(I)Z"⟩, 5), (⟨"BidLanguage", "countAdmitted", "(LBidLanguage$Rule;)I"⟩, 5), (⟨"java/util/ArrayList", "fastRemove", "([Ljava/lang/Object;I)V"⟩, 3), (⟨"java/util/ArrayList", "rangeCheckForAdd", "(I)V"⟩, 3), (⟨"BidLanguage", "handOf", "(I)I"⟩, 5), (⟨"BidLanguage$Auction", "hasPass", "()Z"⟩, 4), (⟨"BidLanguage", "firstRule", "(LBidLanguage$Position;I)I"⟩, 5), (⟨"BidLanguage", "openRule", "(I)I"⟩, 5), (⟨"BidLanguage", "countHidden", "(II)I"⟩, 5), (⟨"BidLanguage", "isHidden", "(III)Z"⟩, 5), (⟨"BidLanguage", "fitsAuction", "(II)Z"⟩, 5), (⟨"BidLanguage", "countWithRule", "(LBidLanguage$Position;I)I"⟩, 5)]
theorem lw_r1 : ∀ q ∈ lw_privs_1, lw_okq q := List.forall_mem_cons.mpr ⟨lw_p0, List.forall_mem_cons.mpr ⟨lw_p1, List.forall_mem_cons.mpr ⟨lw_p2, List.forall_mem_cons.mpr ⟨lw_p3, List.forall_mem_cons.mpr ⟨lw_p4, List.forall_mem_cons.mpr ⟨lw_p5, List.forall_mem_cons.mpr ⟨lw_p6, List.forall_mem_cons.mpr ⟨lw_p7, List.forall_mem_cons.mpr ⟨lw_p8, List.forall_mem_cons.mpr ⟨lw_p9, List.forall_mem_cons.mpr ⟨lw_p10, List.forall_mem_cons.mpr ⟨lw_p11, List.forall_mem_cons.mpr ⟨lw_p12, List.forall_mem_cons.mpr ⟨lw_p13, List.forall_mem_cons.mpr ⟨lw_p14, List.forall_mem_cons.mpr ⟨lw_p15, fun _ h => absurd h List.not_mem_nil⟩⟩⟩⟩⟩⟩⟩⟩⟩⟩⟩⟩⟩⟩⟩⟩
theorem lw_p16 : lw_okq (⟨"BidLanguage", "sumOfTricks", "(II)J"⟩, 5) := ⟨⟨by decide +kernel, by decide +kernel⟩, List.mem_of_getElem? (i := 25) (by decide +kernel), List.mem_of_getElem? (i := 575) (by decide +kernel), List.mem_of_getElem? (i := 576) (by decide +kernel)⟩
theorem lw_p17 : lw_okq (⟨"BidLanguage$RuleReader", "readsHead", "()Z"⟩, 4) := ⟨⟨by decide +kernel, by decide +kernel⟩, List.mem_of_getElem? (i := 697) (by decide +kernel), List.mem_of_getElem? (i := 724) (by decide +kernel), List.mem_of_getElem? (i := 725) (by decide +kernel)⟩
theorem lw_p18 : lw_okq (⟨"BidLanguage$RuleReader", "readDigit", "(II)I"⟩, 4) := ⟨⟨by decide +kernel, by decide +kernel⟩, List.mem_of_getElem? (i := 697) (by decide +kernel), List.mem_of_getElem? (i := 728) (by decide +kernel), List.mem_of_getElem? (i := 729) (by decide +kernel)⟩
theorem lw_p19 : lw_okq (⟨"BidLanguage$RuleReader", "sign", "()I"⟩, 4) := ⟨⟨by decide +kernel, by decide +kernel⟩, List.mem_of_getElem? (i := 697) (by decide +kernel), List.mem_of_getElem? (i := 732) (by decide +kernel), List.mem_of_getElem? (i := 733) (by decide +kernel)⟩
theorem lw_p20 : lw_okq (⟨"BidLanguage$RuleReader", "reads", "(C)Z"⟩, 4) := ⟨⟨by decide +kernel, by decide +kernel⟩, List.mem_of_getElem? (i := 697) (by decide +kernel), List.mem_of_getElem? (i := 749) (by decide +kernel), List.mem_of_getElem? (i := 750) (by decide +kernel)⟩
theorem lw_p21 : lw_okq (⟨"BidLanguage$RuleReader", "readCall", "()I"⟩, 4) := ⟨⟨by decide +kernel, by decide +kernel⟩, List.mem_of_getElem? (i := 697) (by decide +kernel), List.mem_of_getElem? (i := 753) (by decide +kernel), List.mem_of_getElem? (i := 754) (by decide +kernel)⟩
theorem lw_p22 : lw_okq (⟨"BidLanguage$RuleReader", "suitOfSign", "()I"⟩, 4) := ⟨⟨by decide +kernel, by decide +kernel⟩, List.mem_of_getElem? (i := 697) (by decide +kernel), List.mem_of_getElem? (i := 757) (by decide +kernel), List.mem_of_getElem? (i := 758) (by decide +kernel)⟩
theorem lw_p23 : lw_okq (⟨"BidLanguage$RuleReader", "readKind", "()I"⟩, 4) := ⟨⟨by decide +kernel, by decide +kernel⟩, List.mem_of_getElem? (i := 697) (by decide +kernel), List.mem_of_getElem? (i := 761) (by decide +kernel), List.mem_of_getElem? (i := 762) (by decide +kernel)⟩
theorem lw_p24 : lw_okq (⟨"BidLanguage$RuleReader", "readsRange", "(I)Z"⟩, 4) := ⟨⟨by decide +kernel, by decide +kernel⟩, List.mem_of_getElem? (i := 697) (by decide +kernel), List.mem_of_getElem? (i := 765) (by decide +kernel), List.mem_of_getElem? (i := 766) (by decide +kernel)⟩
theorem lw_p25 : lw_okq (⟨"BidLanguage$RuleReader", "readNumber", "(I)I"⟩, 4) := ⟨⟨by decide +kernel, by decide +kernel⟩, List.mem_of_getElem? (i := 697) (by decide +kernel), List.mem_of_getElem? (i := 770) (by decide +kernel), List.mem_of_getElem? (i := 771) (by decide +kernel)⟩
theorem lw_p26 : lw_okq (⟨"BidLanguageModel", "anew", "()V"⟩, 19) := ⟨⟨by decide +kernel, by decide +kernel⟩, List.mem_of_getElem? (i := 780) (by decide +kernel), List.mem_of_getElem? (i := 786) (by decide +kernel), List.mem_of_getElem? (i := 787) (by decide +kernel)⟩
theorem lw_p27 : lw_okq (⟨"BidLanguageModel", "clearFresh", "()V"⟩, 19) := ⟨⟨by decide +kernel, by decide +kernel⟩, List.mem_of_getElem? (i := 780) (by decide +kernel), List.mem_of_getElem? (i := 857) (by decide +kernel), List.mem_of_getElem? (i := 858) (by decide +kernel)⟩
theorem lw_p28 : lw_okq (⟨"BidLanguageModel", "addFresh", "()I"⟩, 19) := ⟨⟨by decide +kernel, by decide +kernel⟩, List.mem_of_getElem? (i := 780) (by decide +kernel), List.mem_of_getElem? (i := 861) (by decide +kernel), List.mem_of_getElem? (i := 862) (by decide +kernel)⟩
theorem lw_p29 : lw_okq (⟨"BidLanguageModel", "isThere", "(II)Z"⟩, 19) := ⟨⟨by decide +kernel, by decide +kernel⟩, List.mem_of_getElem? (i := 780) (by decide +kernel), List.mem_of_getElem? (i := 865) (by decide +kernel), List.mem_of_getElem? (i := 866) (by decide +kernel)⟩
theorem lw_p30 : lw_okq (⟨"BidLanguageModel", "of", "(II)I"⟩, 19) := ⟨⟨by decide +kernel, by decide +kernel⟩, List.mem_of_getElem? (i := 780) (by decide +kernel), List.mem_of_getElem? (i := 869) (by decide +kernel), List.mem_of_getElem? (i := 870) (by decide +kernel)⟩
theorem lw_p31 : lw_okq (⟨"BidLanguageModel", "isRule", "(I)Z"⟩, 19) := ⟨⟨by decide +kernel, by decide +kernel⟩, List.mem_of_getElem? (i := 780) (by decide +kernel), List.mem_of_getElem? (i := 877) (by decide +kernel), List.mem_of_getElem? (i := 878) (by decide +kernel)⟩
def lw_privs_2 : List (MethodName × Nat) := [(⟨"BidLanguage", "sumOfTricks", "(II)J"⟩, 5), (⟨"BidLanguage$RuleReader", "readsHead", "()Z"⟩, 4), (⟨"BidLanguage$RuleReader", "readDigit", "(II)I"⟩, 4), (⟨"BidLanguage$RuleReader", "sign", "()I"⟩, 4), (⟨"BidLanguage$RuleReader", "reads", "(C)Z"⟩, 4), (⟨"BidLanguage$RuleReader", "readCall", "()I"⟩, 4), (⟨"BidLanguage$RuleReader", "suitOfSign", "()I"⟩, 4), (⟨"BidLanguage$RuleReader", "readKind", "()I"⟩, 4), (⟨"BidLanguage$RuleReader", "readsRange", "(I)Z"⟩, 4), (⟨"BidLanguage$RuleReader", "readNumber", "(I)I"⟩, 4), (⟨"BidLanguageModel", "anew", "()V"⟩, 19), (⟨"BidLanguageModel", "clearFresh", "()V"⟩, 19), (⟨"BidLanguageModel", "addFresh", "()I"⟩, 19), (⟨"BidLanguageModel", "isThere", "(II)Z"⟩, 19), (⟨"BidLanguageModel", "of", "(II)I"⟩, 19), (⟨"BidLanguageModel", "isRule", "(I)Z"⟩, 19)]
theorem lw_r2 : ∀ q ∈ lw_privs_2, lw_okq q := List.forall_mem_cons.mpr ⟨lw_p16, List.forall_mem_cons.mpr ⟨lw_p17, List.forall_mem_cons.mpr ⟨lw_p18, List.forall_mem_cons.mpr ⟨lw_p19, List.forall_mem_cons.mpr ⟨lw_p20, List.forall_mem_cons.mpr ⟨lw_p21, List.forall_mem_cons.mpr ⟨lw_p22, List.forall_mem_cons.mpr ⟨lw_p23, List.forall_mem_cons.mpr ⟨lw_p24, List.forall_mem_cons.mpr ⟨lw_p25, List.forall_mem_cons.mpr ⟨lw_p26, List.forall_mem_cons.mpr ⟨lw_p27, List.forall_mem_cons.mpr ⟨lw_p28, List.forall_mem_cons.mpr ⟨lw_p29, List.forall_mem_cons.mpr ⟨lw_p30, List.forall_mem_cons.mpr ⟨lw_p31, fun _ h => absurd h List.not_mem_nil⟩⟩⟩⟩⟩⟩⟩⟩⟩⟩⟩⟩⟩⟩⟩⟩
theorem lw_p32 : lw_okq (⟨"BidLanguageModel", "fitsRule", "(II)Z"⟩, 19) := ⟨⟨by decide +kernel, by decide +kernel⟩, List.mem_of_getElem? (i := 780) (by decide +kernel), List.mem_of_getElem? (i := 882) (by decide +kernel), List.mem_of_getElem? (i := 883) (by decide +kernel)⟩
theorem lw_p33 : lw_okq (⟨"BidLanguageModel", "strength", "(I)I"⟩, 19) := ⟨⟨by decide +kernel, by decide +kernel⟩, List.mem_of_getElem? (i := 780) (by decide +kernel), List.mem_of_getElem? (i := 886) (by decide +kernel), List.mem_of_getElem? (i := 887) (by decide +kernel)⟩
theorem lw_p34 : lw_okq (⟨"BidLanguageModel", "length", "(II)I"⟩, 19) := ⟨⟨by decide +kernel, by decide +kernel⟩, List.mem_of_getElem? (i := 780) (by decide +kernel), List.mem_of_getElem? (i := 890) (by decide +kernel), List.mem_of_getElem? (i := 891) (by decide +kernel)⟩
theorem lw_p35 : lw_okq (⟨"BidLanguageModel", "takeOut", "(I)V"⟩, 19) := ⟨⟨by decide +kernel, by decide +kernel⟩, List.mem_of_getElem? (i := 780) (by decide +kernel), List.mem_of_getElem? (i := 901) (by decide +kernel), List.mem_of_getElem? (i := 902) (by decide +kernel)⟩
theorem lw_p36 : lw_okq (⟨"BidLanguageModel", "isHand", "(I)Z"⟩, 19) := ⟨⟨by decide +kernel, by decide +kernel⟩, List.mem_of_getElem? (i := 780) (by decide +kernel), List.mem_of_getElem? (i := 920) (by decide +kernel), List.mem_of_getElem? (i := 921) (by decide +kernel)⟩
theorem lw_p37 : lw_okq (⟨"BidLanguageModel", "size", "(I)I"⟩, 19) := ⟨⟨by decide +kernel, by decide +kernel⟩, List.mem_of_getElem? (i := 780) (by decide +kernel), List.mem_of_getElem? (i := 924) (by decide +kernel), List.mem_of_getElem? (i := 925) (by decide +kernel)⟩
theorem lw_p38 : lw_okq (⟨"BidLanguageModel", "isOver", "()Z"⟩, 19) := ⟨⟨by decide +kernel, by decide +kernel⟩, List.mem_of_getElem? (i := 780) (by decide +kernel), List.mem_of_getElem? (i := 949) (by decide +kernel), List.mem_of_getElem? (i := 950) (by decide +kernel)⟩
theorem lw_p39 : lw_okq (⟨"BidLanguageModel", "ruleFor", "(IIII)I"⟩, 19) := ⟨⟨by decide +kernel, by decide +kernel⟩, List.mem_of_getElem? (i := 780) (by decide +kernel), List.mem_of_getElem? (i := 953) (by decide +kernel), List.mem_of_getElem? (i := 954) (by decide +kernel)⟩
theorem lw_p40 : lw_okq (⟨"BidLanguageModel", "isOpen", "(IIII)Z"⟩, 19) := ⟨⟨by decide +kernel, by decide +kernel⟩, List.mem_of_getElem? (i := 780) (by decide +kernel), List.mem_of_getElem? (i := 957) (by decide +kernel), List.mem_of_getElem? (i := 958) (by decide +kernel)⟩
theorem lw_p41 : lw_okq (⟨"BidLanguageModel", "callBy", "(I)V"⟩, 19) := ⟨⟨by decide +kernel, by decide +kernel⟩, List.mem_of_getElem? (i := 780) (by decide +kernel), List.mem_of_getElem? (i := 961) (by decide +kernel), List.mem_of_getElem? (i := 962) (by decide +kernel)⟩
theorem lw_p42 : lw_okq (⟨"BidLanguageModel", "fitsAuction", "(II)Z"⟩, 19) := ⟨⟨by decide +kernel, by decide +kernel⟩, List.mem_of_getElem? (i := 780) (by decide +kernel), List.mem_of_getElem? (i := 985) (by decide +kernel), List.mem_of_getElem? (i := 986) (by decide +kernel)⟩
theorem lw_p43 : lw_okq (⟨"BidLanguageModel", "shownOf", "(II)I"⟩, 19) := ⟨⟨by decide +kernel, by decide +kernel⟩, List.mem_of_getElem? (i := 780) (by decide +kernel), List.mem_of_getElem? (i := 993) (by decide +kernel), List.mem_of_getElem? (i := 994) (by decide +kernel)⟩
theorem lw_p44 : lw_okq (⟨"BidLanguageModel", "manyWith", "(IIII)I"⟩, 19) := ⟨⟨by decide +kernel, by decide +kernel⟩, List.mem_of_getElem? (i := 780) (by decide +kernel), List.mem_of_getElem? (i := 1012) (by decide +kernel), List.mem_of_getElem? (i := 1013) (by decide +kernel)⟩
theorem lw_p45 : lw_okq (⟨"BidLanguageModel", "tricksOf", "(III)I"⟩, 19) := ⟨⟨by decide +kernel, by decide +kernel⟩, List.mem_of_getElem? (i := 780) (by decide +kernel), List.mem_of_getElem? (i := 1024) (by decide +kernel), List.mem_of_getElem? (i := 1025) (by decide +kernel)⟩
theorem lw_p46 : lw_okq (⟨"BidLanguageModel", "winners", "(III)I"⟩, 19) := ⟨⟨by decide +kernel, by decide +kernel⟩, List.mem_of_getElem? (i := 780) (by decide +kernel), List.mem_of_getElem? (i := 1028) (by decide +kernel), List.mem_of_getElem? (i := 1029) (by decide +kernel)⟩
theorem lw_p47 : lw_okq (⟨"BidLanguageModel", "ruffs", "(IIII)Z"⟩, 19) := ⟨⟨by decide +kernel, by decide +kernel⟩, List.mem_of_getElem? (i := 780) (by decide +kernel), List.mem_of_getElem? (i := 1032) (by decide +kernel), List.mem_of_getElem? (i := 1033) (by decide +kernel)⟩
def lw_privs_3 : List (MethodName × Nat) := [(⟨"BidLanguageModel", "fitsRule", "(II)Z"⟩, 19), (⟨"BidLanguageModel", "strength", "(I)I"⟩, 19), (⟨"BidLanguageModel", "length", "(II)I"⟩, 19), (⟨"BidLanguageModel", "takeOut", "(I)V"⟩, 19), (⟨"BidLanguageModel", "isHand", "(I)Z"⟩, 19), (⟨"BidLanguageModel", "size", "(I)I"⟩, 19), (⟨"BidLanguageModel", "isOver", "()Z"⟩, 19), (⟨"BidLanguageModel", "ruleFor", "(IIII)I"⟩, 19), (⟨"BidLanguageModel", "isOpen", "(IIII)Z"⟩, 19), (⟨"BidLanguageModel", "callBy", "(I)V"⟩, 19), (⟨"BidLanguageModel", "fitsAuction", "(II)Z"⟩, 19), (⟨"BidLanguageModel", "shownOf", "(II)I"⟩, 19), (⟨"BidLanguageModel", "manyWith", "(IIII)I"⟩, 19), (⟨"BidLanguageModel", "tricksOf", "(III)I"⟩, 19), (⟨"BidLanguageModel", "winners", "(III)I"⟩, 19), (⟨"BidLanguageModel", "ruffs", "(IIII)Z"⟩, 19)]
theorem lw_r3 : ∀ q ∈ lw_privs_3, lw_okq q := List.forall_mem_cons.mpr ⟨lw_p32, List.forall_mem_cons.mpr ⟨lw_p33, List.forall_mem_cons.mpr ⟨lw_p34, List.forall_mem_cons.mpr ⟨lw_p35, List.forall_mem_cons.mpr ⟨lw_p36, List.forall_mem_cons.mpr ⟨lw_p37, List.forall_mem_cons.mpr ⟨lw_p38, List.forall_mem_cons.mpr ⟨lw_p39, List.forall_mem_cons.mpr ⟨lw_p40, List.forall_mem_cons.mpr ⟨lw_p41, List.forall_mem_cons.mpr ⟨lw_p42, List.forall_mem_cons.mpr ⟨lw_p43, List.forall_mem_cons.mpr ⟨lw_p44, List.forall_mem_cons.mpr ⟨lw_p45, List.forall_mem_cons.mpr ⟨lw_p46, List.forall_mem_cons.mpr ⟨lw_p47, fun _ h => absurd h List.not_mem_nil⟩⟩⟩⟩⟩⟩⟩⟩⟩⟩⟩⟩⟩⟩⟩⟩
theorem lw_p48 : lw_okq (⟨"BidLanguageModel", "laySums", "(I)V"⟩, 19) := ⟨⟨by decide +kernel, by decide +kernel⟩, List.mem_of_getElem? (i := 780) (by decide +kernel), List.mem_of_getElem? (i := 1042) (by decide +kernel), List.mem_of_getElem? (i := 1043) (by decide +kernel)⟩
theorem lw_p49 : lw_okq (⟨"BidLanguageModel", "takeOne", "(II)I"⟩, 19) := ⟨⟨by decide +kernel, by decide +kernel⟩, List.mem_of_getElem? (i := 780) (by decide +kernel), List.mem_of_getElem? (i := 1063) (by decide +kernel), List.mem_of_getElem? (i := 1064) (by decide +kernel)⟩
theorem lw_p50 : lw_okq (⟨"BidLanguageModel", "next", "()I"⟩, 19) := ⟨⟨by decide +kernel, by decide +kernel⟩, List.mem_of_getElem? (i := 780) (by decide +kernel), List.mem_of_getElem? (i := 1067) (by decide +kernel), List.mem_of_getElem? (i := 1068) (by decide +kernel)⟩
theorem lw_p51 : lw_okq (⟨"BidLanguageModel", "takeCall", "()V"⟩, 19) := ⟨⟨by decide +kernel, by decide +kernel⟩, List.mem_of_getElem? (i := 780) (by decide +kernel), List.mem_of_getElem? (i := 1071) (by decide +kernel), List.mem_of_getElem? (i := 1072) (by decide +kernel)⟩
theorem lw_p52 : lw_okq (⟨"BidLanguageModel", "takeCondition", "(I)I"⟩, 19) := ⟨⟨by decide +kernel, by decide +kernel⟩, List.mem_of_getElem? (i := 780) (by decide +kernel), List.mem_of_getElem? (i := 1078) (by decide +kernel), List.mem_of_getElem? (i := 1079) (by decide +kernel)⟩
theorem lw_p53 : lw_okq (⟨"BidLanguageModel", "takeNumber", "(I)I"⟩, 19) := ⟨⟨by decide +kernel, by decide +kernel⟩, List.mem_of_getElem? (i := 780) (by decide +kernel), List.mem_of_getElem? (i := 1082) (by decide +kernel), List.mem_of_getElem? (i := 1083) (by decide +kernel)⟩
def lw_privs_4 : List (MethodName × Nat) := [(⟨"BidLanguageModel", "laySums", "(I)V"⟩, 19), (⟨"BidLanguageModel", "takeOne", "(II)I"⟩, 19), (⟨"BidLanguageModel", "next", "()I"⟩, 19), (⟨"BidLanguageModel", "takeCall", "()V"⟩, 19), (⟨"BidLanguageModel", "takeCondition", "(I)I"⟩, 19), (⟨"BidLanguageModel", "takeNumber", "(I)I"⟩, 19)]
theorem lw_r4 : ∀ q ∈ lw_privs_4, lw_okq q := List.forall_mem_cons.mpr ⟨lw_p48, List.forall_mem_cons.mpr ⟨lw_p49, List.forall_mem_cons.mpr ⟨lw_p50, List.forall_mem_cons.mpr ⟨lw_p51, List.forall_mem_cons.mpr ⟨lw_p52, List.forall_mem_cons.mpr ⟨lw_p53, fun _ h => absurd h List.not_mem_nil⟩⟩⟩⟩⟩⟩
def lw_privs : List (MethodName × Nat) := lw_privs_1 ++ (lw_privs_2 ++ (lw_privs_3 ++ (lw_privs_4)))
def lw_tbl : List Cond := k2_sels lw_privs ++ tables_1
theorem lw_privs_ok : ∀ q ∈ lw_privs, lw_okq q := by
  show ∀ q ∈ lw_privs_1 ++ (lw_privs_2 ++ (lw_privs_3 ++ (lw_privs_4))), lw_okq q
  exact List.forall_mem_append.mpr ⟨lw_r1, List.forall_mem_append.mpr ⟨lw_r2, List.forall_mem_append.mpr ⟨lw_r3, lw_r4⟩⟩⟩
abbrev RX0 : String := "BidLanguage$Auction"
def TX0 : u_T := fun k => match k with
  | 0 => ("BidLanguage$Auction", "calls", "Ljava/util/ArrayList;", true)
  | 1 => ("BidLanguage$Auction", "start", "LBidLanguage$Position;", true)
  | 2 => ("BidLanguage$Auction", "now", "LBidLanguage$Position;", false)
  | _ => ("BidLanguage$Auction", "stuck", "Z", false)
def tyX0 : Nat → FieldType := fun k => match k with
  | 0 => .object "java/util/ArrayList"
  | 1 => .object "BidLanguage$Position"
  | 2 => .object "BidLanguage$Position"
  | _ => .boolean
abbrev wsX00 : List Cond := u_ws RX0 TX0 4
theorem nmX0 : ∀ a, a < 4 → ∀ b, b < 4 → a ≠ b → (TX0 a).2.1 ≠ (TX0 b).2.1 := by decide +kernel
theorem tyX0_ok : ∀ k, k < 4 → parseFieldDescriptor (TX0 k).2.2.1 = some (tyX0 k) := by decide +kernel
abbrev cX0_init : ByteArray := prog_2_method_1_code
abbrev yX0_init : MethodName := ⟨RX0, "<init>", "()V"⟩
abbrev cX0_restart : ByteArray := prog_2_method_2_code
abbrev yX0_restart : MethodName := ⟨RX0, "restart", "()V"⟩
abbrev cX0_turn : ByteArray := prog_2_method_3_code
abbrev yX0_turn : MethodName := ⟨RX0, "turn", "()I"⟩
abbrev cX0_isOver : ByteArray := prog_2_method_4_code
abbrev yX0_isOver : MethodName := ⟨RX0, "isOver", "()Z"⟩
abbrev cX0_hasPass : ByteArray := prog_2_method_5_code
abbrev yX0_hasPass : MethodName := ⟨RX0, "hasPass", "()Z"⟩
abbrev cX0_ending : ByteArray := prog_2_method_6_code
abbrev yX0_ending : MethodName := ⟨RX0, "ending", "()I"⟩
abbrev cX0_add : ByteArray := prog_2_method_7_code
abbrev yX0_add : MethodName := ⟨RX0, "add", "(LBidLanguage$Rule;I)V"⟩
abbrev cX0_takeBack : ByteArray := prog_2_method_8_code
abbrev yX0_takeBack : MethodName := ⟨RX0, "takeBack", "()Z"⟩
abbrev RX1 : String := "BidLanguage$Cards"
def TX1 : u_T := fun k => match k with
  | _ => ("", "", "", false)
def tyX1 : Nat → FieldType := fun k => match k with
  | _ => .int
abbrev wsX10 : List Cond := u_ws RX1 TX1 0
theorem nmX1 : ∀ a, a < 0 → ∀ b, b < 0 → a ≠ b → (TX1 a).2.1 ≠ (TX1 b).2.1 := by decide +kernel
theorem tyX1_ok : ∀ k, k < 0 → parseFieldDescriptor (TX1 k).2.2.1 = some (tyX1 k) := by decide +kernel
abbrev cX1_isSet : ByteArray := prog_3_method_2_code
abbrev yX1_isSet : MethodName := ⟨RX1, "isSet", "(I)Z"⟩
abbrev cX1_isHand : ByteArray := prog_3_method_3_code
abbrev yX1_isHand : MethodName := ⟨RX1, "isHand", "(I)Z"⟩
abbrev cX1_handAfter : ByteArray := prog_3_method_4_code
abbrev yX1_handAfter : MethodName := ⟨RX1, "handAfter", "(I)I"⟩
abbrev cX1_cardAt : ByteArray := prog_3_method_5_code
abbrev yX1_cardAt : MethodName := ⟨RX1, "cardAt", "(II)I"⟩
abbrev cX1_ofSuit : ByteArray := prog_3_method_6_code
abbrev yX1_ofSuit : MethodName := ⟨RX1, "ofSuit", "(II)I"⟩
abbrev cX1_measure : ByteArray := prog_3_method_7_code
abbrev yX1_measure : MethodName := ⟨RX1, "measure", "(II)I"⟩
abbrev cX1_greatestMeasure : ByteArray := prog_3_method_8_code
abbrev yX1_greatestMeasure : MethodName := ⟨RX1, "greatestMeasure", "(I)I"⟩
abbrev cX1_strength : ByteArray := prog_3_method_9_code
abbrev yX1_strength : MethodName := ⟨RX1, "strength", "(I)I"⟩
abbrev cX1_profile : ByteArray := prog_3_method_10_code
abbrev yX1_profile : MethodName := ⟨RX1, "profile", "(I)I"⟩
abbrev cX1_shownNumber : ByteArray := prog_3_method_11_code
abbrev yX1_shownNumber : MethodName := ⟨RX1, "shownNumber", "(II)I"⟩
abbrev cX1_joinShown : ByteArray := prog_3_method_12_code
abbrev yX1_joinShown : MethodName := ⟨RX1, "joinShown", "(III)I"⟩
abbrev cX1_tricksOf : ByteArray := prog_3_method_13_code
abbrev yX1_tricksOf : MethodName := ⟨RX1, "tricksOf", "(III)I"⟩
abbrev cX1_winners : ByteArray := prog_3_method_14_code
abbrev yX1_winners : MethodName := ⟨RX1, "winners", "(II)I"⟩
abbrev cX1_ruffs : ByteArray := prog_3_method_15_code
abbrev yX1_ruffs : MethodName := ⟨RX1, "ruffs", "(IIII)I"⟩
abbrev RX2 : String := "BidLanguage$MadeCall"
def TX2 : u_T := fun k => match k with
  | 0 => ("BidLanguage$MadeCall", "call", "I", true)
  | 1 => ("BidLanguage$MadeCall", "rule", "I", true)
  | _ => ("BidLanguage$MadeCall", "before", "LBidLanguage$Position;", true)
def tyX2 : Nat → FieldType := fun k => match k with
  | 0 => .int
  | 1 => .int
  | _ => .object "BidLanguage$Position"
abbrev wsX20 : List Cond := u_ws RX2 TX2 3
theorem nmX2 : ∀ a, a < 3 → ∀ b, b < 3 → a ≠ b → (TX2 a).2.1 ≠ (TX2 b).2.1 := by decide +kernel
theorem tyX2_ok : ∀ k, k < 3 → parseFieldDescriptor (TX2 k).2.2.1 = some (tyX2 k) := by decide +kernel
abbrev cX2_init : ByteArray := prog_4_method_1_code
abbrev yX2_init : MethodName := ⟨RX2, "<init>", "(IILBidLanguage$Position;)V"⟩
abbrev cX2_number : ByteArray := prog_4_method_2_code
abbrev yX2_number : MethodName := ⟨RX2, "number", "(I)I"⟩
abbrev RX3 : String := "BidLanguage$Position"
def TX3 : u_T := fun k => match k with
  | 0 => ("BidLanguage$Position", "state", "I", true)
  | 1 => ("BidLanguage$Position", "last", "I", true)
  | _ => ("BidLanguage$Position", "force", "I", true)
def tyX3 : Nat → FieldType := fun k => match k with
  | 0 => .int
  | 1 => .int
  | _ => .int
abbrev wsX30 : List Cond := u_ws RX3 TX3 3
theorem nmX3 : ∀ a, a < 3 → ∀ b, b < 3 → a ≠ b → (TX3 a).2.1 ≠ (TX3 b).2.1 := by decide +kernel
theorem tyX3_ok : ∀ k, k < 3 → parseFieldDescriptor (TX3 k).2.2.1 = some (tyX3 k) := by decide +kernel
abbrev cX3_init : ByteArray := prog_5_method_1_code
abbrev yX3_init : MethodName := ⟨RX3, "<init>", "(III)V"⟩
abbrev RX4 : String := "BidLanguage$Rule"
def TX4 : u_T := fun k => match k with
  | 0 => ("BidLanguage$Rule", "state", "I", false)
  | 1 => ("BidLanguage$Rule", "call", "I", false)
  | 2 => ("BidLanguage$Rule", "next", "I", false)
  | 3 => ("BidLanguage$Rule", "force", "I", false)
  | 4 => ("BidLanguage$Rule", "least", "I", false)
  | _ => ("BidLanguage$Rule", "greatest", "I", false)
def tyX4 : Nat → FieldType := fun k => match k with
  | 0 => .int
  | 1 => .int
  | 2 => .int
  | 3 => .int
  | 4 => .int
  | _ => .int
abbrev wsX40 : List Cond := u_ws RX4 TX4 6
theorem nmX4 : ∀ a, a < 6 → ∀ b, b < 6 → a ≠ b → (TX4 a).2.1 ≠ (TX4 b).2.1 := by decide +kernel
theorem tyX4_ok : ∀ k, k < 6 → parseFieldDescriptor (TX4 k).2.2.1 = some (tyX4 k) := by decide +kernel
abbrev cX4_init : ByteArray := prog_6_method_1_code
abbrev yX4_init : MethodName := ⟨RX4, "<init>", "(IIII)V"⟩
abbrev cX4_setRange : ByteArray := prog_6_method_2_code
abbrev yX4_setRange : MethodName := ⟨RX4, "setRange", "(III)V"⟩
abbrev cX4_number : ByteArray := prog_6_method_3_code
abbrev yX4_number : MethodName := ⟨RX4, "number", "(I)I"⟩
abbrev cX4_admits : ByteArray := prog_6_method_4_code
abbrev yX4_admits : MethodName := ⟨RX4, "admits", "(I)Z"⟩
abbrev cX4_isOpen : ByteArray := prog_6_method_5_code
abbrev yX4_isOpen : MethodName := ⟨RX4, "isOpen", "(LBidLanguage$Position;)Z"⟩
abbrev RX5 : String := "BidLanguage$RuleReader"
def TX5 : u_T := fun k => match k with
  | 0 => ("BidLanguage$RuleReader", "text", "Ljava/lang/StringBuilder;", true)
  | 1 => ("BidLanguage$RuleReader", "rule", "LBidLanguage$Rule;", true)
  | 2 => ("BidLanguage$RuleReader", "at", "I", false)
  | _ => ("BidLanguage$RuleReader", "limited", "I", false)
def tyX5 : Nat → FieldType := fun k => match k with
  | 0 => .object "java/lang/StringBuilder"
  | 1 => .object "BidLanguage$Rule"
  | 2 => .int
  | _ => .int
abbrev wsX50 : List Cond := u_ws RX5 TX5 4
theorem nmX5 : ∀ a, a < 4 → ∀ b, b < 4 → a ≠ b → (TX5 a).2.1 ≠ (TX5 b).2.1 := by decide +kernel
theorem tyX5_ok : ∀ k, k < 4 → parseFieldDescriptor (TX5 k).2.2.1 = some (tyX5 k) := by decide +kernel
abbrev cX5_init : ByteArray := prog_7_method_1_code
abbrev yX5_init : MethodName := ⟨RX5, "<init>", "(Ljava/lang/StringBuilder;)V"⟩
abbrev cX5_readsWhole : ByteArray := prog_7_method_2_code
abbrev yX5_readsWhole : MethodName := ⟨RX5, "readsWhole", "()Z"⟩
abbrev cX5_readsHead : ByteArray := prog_7_method_3_code
abbrev yX5_readsHead : MethodName := ⟨RX5, "readsHead", "()Z"⟩
abbrev cX5_readCall : ByteArray := prog_7_method_4_code
abbrev yX5_readCall : MethodName := ⟨RX5, "readCall", "()I"⟩
abbrev cX5_readKind : ByteArray := prog_7_method_5_code
abbrev yX5_readKind : MethodName := ⟨RX5, "readKind", "()I"⟩
abbrev cX5_readsRange : ByteArray := prog_7_method_6_code
abbrev yX5_readsRange : MethodName := ⟨RX5, "readsRange", "(I)Z"⟩
abbrev cX5_readNumber : ByteArray := prog_7_method_7_code
abbrev yX5_readNumber : MethodName := ⟨RX5, "readNumber", "(I)I"⟩
abbrev cX5_readDigit : ByteArray := prog_7_method_8_code
abbrev yX5_readDigit : MethodName := ⟨RX5, "readDigit", "(II)I"⟩
abbrev cX5_reads : ByteArray := prog_7_method_9_code
abbrev yX5_reads : MethodName := ⟨RX5, "reads", "(C)Z"⟩
abbrev cX5_suitOfSign : ByteArray := prog_7_method_10_code
abbrev yX5_suitOfSign : MethodName := ⟨RX5, "suitOfSign", "()I"⟩
abbrev cX5_sign : ByteArray := prog_7_method_11_code
abbrev yX5_sign : MethodName := ⟨RX5, "sign", "()I"⟩
abbrev RX6 : String := "BidLanguage"
def TX6 : u_T := fun k => match k with
  | 0 => ("BidLanguage", "rules", "Ljava/util/ArrayList;", true)
  | 1 => ("BidLanguage", "auction", "LBidLanguage$Auction;", true)
  | 2 => ("BidLanguage", "pad", "Ljava/lang/StringBuilder;", true)
  | 3 => ("BidLanguage", "firstHand", "I", false)
  | _ => ("BidLanguage", "secondHand", "I", false)
def tyX6 : Nat → FieldType := fun k => match k with
  | 0 => .object "java/util/ArrayList"
  | 1 => .object "BidLanguage$Auction"
  | 2 => .object "java/lang/StringBuilder"
  | 3 => .int
  | _ => .int
abbrev wsX60 : List Cond := u_ws RX6 TX6 5
theorem nmX6 : ∀ a, a < 5 → ∀ b, b < 5 → a ≠ b → (TX6 a).2.1 ≠ (TX6 b).2.1 := by decide +kernel
theorem tyX6_ok : ∀ k, k < 5 → parseFieldDescriptor (TX6 k).2.2.1 = some (tyX6 k) := by decide +kernel
abbrev cX6_init : ByteArray := prog_1_method_1_code
abbrev yX6_init : MethodName := ⟨RX6, "<init>", "()V"⟩
abbrev cX6_rule : ByteArray := prog_1_method_2_code
abbrev yX6_rule : MethodName := ⟨RX6, "rule", "(IIII)I"⟩
abbrev cX6_limit : ByteArray := prog_1_method_3_code
abbrev yX6_limit : MethodName := ⟨RX6, "limit", "(IIII)I"⟩
abbrev cX6_remove : ByteArray := prog_1_method_4_code
abbrev yX6_remove : MethodName := ⟨RX6, "remove", "(I)I"⟩
abbrev cX6_move : ByteArray := prog_1_method_5_code
abbrev yX6_move : MethodName := ⟨RX6, "move", "(II)I"⟩
abbrev cX6_part : ByteArray := prog_1_method_6_code
abbrev yX6_part : MethodName := ⟨RX6, "part", "(II)I"⟩
abbrev cX6_give : ByteArray := prog_1_method_7_code
abbrev yX6_give : MethodName := ⟨RX6, "give", "(II)I"⟩
abbrev cX6_draw : ByteArray := prog_1_method_8_code
abbrev yX6_draw : MethodName := ⟨RX6, "draw", "(I)I"⟩
abbrev cX6_hand : ByteArray := prog_1_method_9_code
abbrev yX6_hand : MethodName := ⟨RX6, "hand", "(II)I"⟩
abbrev cX6_begin : ByteArray := prog_1_method_10_code
abbrev yX6_begin : MethodName := ⟨RX6, "begin", "()I"⟩
abbrev cX6_call : ByteArray := prog_1_method_11_code
abbrev yX6_call : MethodName := ⟨RX6, "call", "()I"⟩
abbrev cX6_make : ByteArray := prog_1_method_12_code
abbrev yX6_make : MethodName := ⟨RX6, "make", "(I)I"⟩
abbrev cX6_back : ByteArray := prog_1_method_13_code
abbrev yX6_back : MethodName := ⟨RX6, "back", "()I"⟩
abbrev cX6_made : ByteArray := prog_1_method_14_code
abbrev yX6_made : MethodName := ⟨RX6, "made", "(II)I"⟩
abbrev cX6_state : ByteArray := prog_1_method_15_code
abbrev yX6_state : MethodName := ⟨RX6, "state", "(I)I"⟩
abbrev cX6_hands : ByteArray := prog_1_method_16_code
abbrev yX6_hands : MethodName := ⟨RX6, "hands", "(II)I"⟩
abbrev cX6_shown : ByteArray := prog_1_method_17_code
abbrev yX6_shown : MethodName := ⟨RX6, "shown", "(III)I"⟩
abbrev cX6_fits : ByteArray := prog_1_method_18_code
abbrev yX6_fits : MethodName := ⟨RX6, "fits", "(II)I"⟩
abbrev cX6_ruleOf : ByteArray := prog_1_method_19_code
abbrev yX6_ruleOf : MethodName := ⟨RX6, "ruleOf", "(I)I"⟩
abbrev cX6_reach : ByteArray := prog_1_method_20_code
abbrev yX6_reach : MethodName := ⟨RX6, "reach", "(I)I"⟩
abbrev cX6_holes : ByteArray := prog_1_method_21_code
abbrev yX6_holes : MethodName := ⟨RX6, "holes", "(III)I"⟩
abbrev cX6_tricks : ByteArray := prog_1_method_22_code
abbrev yX6_tricks : MethodName := ⟨RX6, "tricks", "(III)I"⟩
abbrev cX6_expected : ByteArray := prog_1_method_23_code
abbrev yX6_expected : MethodName := ⟨RX6, "expected", "(II)J"⟩
abbrev cX6_contract : ByteArray := prog_1_method_24_code
abbrev yX6_contract : MethodName := ⟨RX6, "contract", "(I)I"⟩
abbrev cX6_put : ByteArray := prog_1_method_25_code
abbrev yX6_put : MethodName := ⟨RX6, "put", "(J)I"⟩
abbrev cX6_wipe : ByteArray := prog_1_method_26_code
abbrev yX6_wipe : MethodName := ⟨RX6, "wipe", "()I"⟩
abbrev cX6_fault : ByteArray := prog_1_method_27_code
abbrev yX6_fault : MethodName := ⟨RX6, "fault", "()I"⟩
abbrev cX6_load : ByteArray := prog_1_method_28_code
abbrev yX6_load : MethodName := ⟨RX6, "load", "()I"⟩
abbrev cX6_isState : ByteArray := prog_1_method_29_code
abbrev yX6_isState : MethodName := ⟨RX6, "isState", "(I)Z"⟩
abbrev cX6_isCall : ByteArray := prog_1_method_30_code
abbrev yX6_isCall : MethodName := ⟨RX6, "isCall", "(I)Z"⟩
abbrev cX6_isFlag : ByteArray := prog_1_method_31_code
abbrev yX6_isFlag : MethodName := ⟨RX6, "isFlag", "(I)Z"⟩
abbrev cX6_isPartner : ByteArray := prog_1_method_32_code
abbrev yX6_isPartner : MethodName := ⟨RX6, "isPartner", "(I)Z"⟩
abbrev cX6_isStrain : ByteArray := prog_1_method_33_code
abbrev yX6_isStrain : MethodName := ⟨RX6, "isStrain", "(I)Z"⟩
abbrev cX6_isCharacter : ByteArray := prog_1_method_34_code
abbrev yX6_isCharacter : MethodName := ⟨RX6, "isCharacter", "(I)Z"⟩
abbrev cX6_isRule : ByteArray := prog_1_method_35_code
abbrev yX6_isRule : MethodName := ⟨RX6, "isRule", "(I)Z"⟩
abbrev cX6_handOf : ByteArray := prog_1_method_36_code
abbrev yX6_handOf : MethodName := ⟨RX6, "handOf", "(I)I"⟩
abbrev cX6_addRule : ByteArray := prog_1_method_37_code
abbrev yX6_addRule : MethodName := ⟨RX6, "addRule", "(LBidLanguage$Rule;)I"⟩
abbrev cX6_firstRule : ByteArray := prog_1_method_38_code
abbrev yX6_firstRule : MethodName := ⟨RX6, "firstRule", "(LBidLanguage$Position;I)I"⟩
abbrev cX6_openRule : ByteArray := prog_1_method_39_code
abbrev yX6_openRule : MethodName := ⟨RX6, "openRule", "(I)I"⟩
abbrev cX6_countAdmitted : ByteArray := prog_1_method_40_code
abbrev yX6_countAdmitted : MethodName := ⟨RX6, "countAdmitted", "(LBidLanguage$Rule;)I"⟩
abbrev cX6_countWithRule : ByteArray := prog_1_method_41_code
abbrev yX6_countWithRule : MethodName := ⟨RX6, "countWithRule", "(LBidLanguage$Position;I)I"⟩
abbrev cX6_fitsAuction : ByteArray := prog_1_method_42_code
abbrev yX6_fitsAuction : MethodName := ⟨RX6, "fitsAuction", "(II)Z"⟩
abbrev cX6_isHidden : ByteArray := prog_1_method_43_code
abbrev yX6_isHidden : MethodName := ⟨RX6, "isHidden", "(III)Z"⟩
abbrev cX6_countHidden : ByteArray := prog_1_method_44_code
abbrev yX6_countHidden : MethodName := ⟨RX6, "countHidden", "(II)I"⟩
abbrev cX6_sumOfTricks : ByteArray := prog_1_method_45_code
abbrev yX6_sumOfTricks : MethodName := ⟨RX6, "sumOfTricks", "(II)J"⟩
abbrev RX7 : String := "BidLanguageModel"
def TX7 : u_T := fun k => match k with
  | 0 => ("BidLanguageModel", "rules", "[I", true)
  | 1 => ("BidLanguageModel", "ruleMany", "I", false)
  | 2 => ("BidLanguageModel", "hand", "[I", true)
  | 3 => ("BidLanguageModel", "manyOf", "[I", true)
  | 4 => ("BidLanguageModel", "sumOf", "[I", true)
  | 5 => ("BidLanguageModel", "callAt", "[I", true)
  | 6 => ("BidLanguageModel", "ruleAt", "[I", true)
  | 7 => ("BidLanguageModel", "stateAt", "[I", true)
  | 8 => ("BidLanguageModel", "forcedAt", "[I", true)
  | 9 => ("BidLanguageModel", "lastAt", "[I", true)
  | 10 => ("BidLanguageModel", "calls", "I", false)
  | 11 => ("BidLanguageModel", "isStuck", "Z", false)
  | 12 => ("BidLanguageModel", "pad", "[I", true)
  | 13 => ("BidLanguageModel", "padMany", "I", false)
  | 14 => ("BidLanguageModel", "fresh", "[I", true)
  | 15 => ("BidLanguageModel", "sums", "[J", true)
  | 16 => ("BidLanguageModel", "handMany", "I", false)
  | 17 => ("BidLanguageModel", "spot", "I", false)
  | _ => ("BidLanguageModel", "isWrong", "Z", false)
def tyX7 : Nat → FieldType := fun k => match k with
  | 0 => .array .int
  | 1 => .int
  | 2 => .array .int
  | 3 => .array .int
  | 4 => .array .int
  | 5 => .array .int
  | 6 => .array .int
  | 7 => .array .int
  | 8 => .array .int
  | 9 => .array .int
  | 10 => .int
  | 11 => .boolean
  | 12 => .array .int
  | 13 => .int
  | 14 => .array .int
  | 15 => .array .long
  | 16 => .int
  | 17 => .int
  | _ => .boolean
abbrev wsX70 : List Cond := u_ws RX7 TX7 19
theorem nmX7 : ∀ a, a < 19 → ∀ b, b < 19 → a ≠ b → (TX7 a).2.1 ≠ (TX7 b).2.1 := by decide +kernel
theorem tyX7_ok : ∀ k, k < 19 → parseFieldDescriptor (TX7 k).2.2.1 = some (tyX7 k) := by decide +kernel
abbrev cX7_init : ByteArray := prog_9_method_1_code
abbrev yX7_init : MethodName := ⟨RX7, "<init>", "()V"⟩
abbrev cX7_in : ByteArray := prog_9_method_3_code
abbrev yX7_in : MethodName := ⟨RX7, "in", "(III)Z"⟩
abbrev cX7_length : ByteArray := prog_9_method_4_code
abbrev yX7_length : MethodName := ⟨RX7, "length", "(II)I"⟩
abbrev cX7_strength : ByteArray := prog_9_method_5_code
abbrev yX7_strength : MethodName := ⟨RX7, "strength", "(I)I"⟩
abbrev cX7_size : ByteArray := prog_9_method_6_code
abbrev yX7_size : MethodName := ⟨RX7, "size", "(I)I"⟩
abbrev cX7_isHand : ByteArray := prog_9_method_7_code
abbrev yX7_isHand : MethodName := ⟨RX7, "isHand", "(I)Z"⟩
abbrev cX7_nextHand : ByteArray := prog_9_method_8_code
abbrev yX7_nextHand : MethodName := ⟨RX7, "nextHand", "(I)I"⟩
abbrev cX7_of : ByteArray := prog_9_method_9_code
abbrev yX7_of : MethodName := ⟨RX7, "of", "(II)I"⟩
abbrev cX7_isRule : ByteArray := prog_9_method_10_code
abbrev yX7_isRule : MethodName := ⟨RX7, "isRule", "(I)Z"⟩
abbrev cX7_anew : ByteArray := prog_9_method_11_code
abbrev yX7_anew : MethodName := ⟨RX7, "anew", "()V"⟩
abbrev cX7_fitsRule : ByteArray := prog_9_method_12_code
abbrev yX7_fitsRule : MethodName := ⟨RX7, "fitsRule", "(II)Z"⟩
abbrev cX7_isThere : ByteArray := prog_9_method_13_code
abbrev yX7_isThere : MethodName := ⟨RX7, "isThere", "(II)Z"⟩
abbrev cX7_clearFresh : ByteArray := prog_9_method_14_code
abbrev yX7_clearFresh : MethodName := ⟨RX7, "clearFresh", "()V"⟩
abbrev cX7_addFresh : ByteArray := prog_9_method_15_code
abbrev yX7_addFresh : MethodName := ⟨RX7, "addFresh", "()I"⟩
abbrev cX7_rule : ByteArray := prog_9_method_16_code
abbrev yX7_rule : MethodName := ⟨RX7, "rule", "(IIII)I"⟩
abbrev cX7_limit : ByteArray := prog_9_method_17_code
abbrev yX7_limit : MethodName := ⟨RX7, "limit", "(IIII)I"⟩
abbrev cX7_takeOut : ByteArray := prog_9_method_18_code
abbrev yX7_takeOut : MethodName := ⟨RX7, "takeOut", "(I)V"⟩
abbrev cX7_remove : ByteArray := prog_9_method_19_code
abbrev yX7_remove : MethodName := ⟨RX7, "remove", "(I)I"⟩
abbrev cX7_move : ByteArray := prog_9_method_20_code
abbrev yX7_move : MethodName := ⟨RX7, "move", "(II)I"⟩
abbrev cX7_part : ByteArray := prog_9_method_21_code
abbrev yX7_part : MethodName := ⟨RX7, "part", "(II)I"⟩
abbrev cX7_isPartner : ByteArray := prog_9_method_22_code
abbrev yX7_isPartner : MethodName := ⟨RX7, "isPartner", "(I)Z"⟩
abbrev cX7_give : ByteArray := prog_9_method_23_code
abbrev yX7_give : MethodName := ⟨RX7, "give", "(II)I"⟩
abbrev cX7_cardLeft : ByteArray := prog_9_method_24_code
abbrev yX7_cardLeft : MethodName := ⟨RX7, "cardLeft", "(II)I"⟩
abbrev cX7_draw : ByteArray := prog_9_method_25_code
abbrev yX7_draw : MethodName := ⟨RX7, "draw", "(I)I"⟩
abbrev cX7_hand : ByteArray := prog_9_method_26_code
abbrev yX7_hand : MethodName := ⟨RX7, "hand", "(II)I"⟩
abbrev cX7_isOpen : ByteArray := prog_9_method_27_code
abbrev yX7_isOpen : MethodName := ⟨RX7, "isOpen", "(IIII)Z"⟩
abbrev cX7_ruleFor : ByteArray := prog_9_method_28_code
abbrev yX7_ruleFor : MethodName := ⟨RX7, "ruleFor", "(IIII)I"⟩
abbrev cX7_isOver : ByteArray := prog_9_method_29_code
abbrev yX7_isOver : MethodName := ⟨RX7, "isOver", "()Z"⟩
abbrev cX7_callBy : ByteArray := prog_9_method_30_code
abbrev yX7_callBy : MethodName := ⟨RX7, "callBy", "(I)V"⟩
abbrev cX7_begin : ByteArray := prog_9_method_31_code
abbrev yX7_begin : MethodName := ⟨RX7, "begin", "()I"⟩
abbrev cX7_call : ByteArray := prog_9_method_32_code
abbrev yX7_call : MethodName := ⟨RX7, "call", "()I"⟩
abbrev cX7_make : ByteArray := prog_9_method_33_code
abbrev yX7_make : MethodName := ⟨RX7, "make", "(I)I"⟩
abbrev cX7_back : ByteArray := prog_9_method_34_code
abbrev yX7_back : MethodName := ⟨RX7, "back", "()I"⟩
abbrev cX7_made : ByteArray := prog_9_method_35_code
abbrev yX7_made : MethodName := ⟨RX7, "made", "(II)I"⟩
abbrev cX7_state : ByteArray := prog_9_method_36_code
abbrev yX7_state : MethodName := ⟨RX7, "state", "(I)I"⟩
abbrev cX7_fitsAuction : ByteArray := prog_9_method_37_code
abbrev yX7_fitsAuction : MethodName := ⟨RX7, "fitsAuction", "(II)Z"⟩
abbrev cX7_hands : ByteArray := prog_9_method_38_code
abbrev yX7_hands : MethodName := ⟨RX7, "hands", "(II)I"⟩
abbrev cX7_shownOf : ByteArray := prog_9_method_39_code
abbrev yX7_shownOf : MethodName := ⟨RX7, "shownOf", "(II)I"⟩
abbrev cX7_joined : ByteArray := prog_9_method_40_code
abbrev yX7_joined : MethodName := ⟨RX7, "joined", "(III)I"⟩
abbrev cX7_shown : ByteArray := prog_9_method_41_code
abbrev yX7_shown : MethodName := ⟨RX7, "shown", "(III)I"⟩
abbrev cX7_fits : ByteArray := prog_9_method_42_code
abbrev yX7_fits : MethodName := ⟨RX7, "fits", "(II)I"⟩
abbrev cX7_ruleOf : ByteArray := prog_9_method_43_code
abbrev yX7_ruleOf : MethodName := ⟨RX7, "ruleOf", "(I)I"⟩
abbrev cX7_manyWith : ByteArray := prog_9_method_44_code
abbrev yX7_manyWith : MethodName := ⟨RX7, "manyWith", "(IIII)I"⟩
abbrev cX7_reach : ByteArray := prog_9_method_45_code
abbrev yX7_reach : MethodName := ⟨RX7, "reach", "(I)I"⟩
abbrev cX7_holes : ByteArray := prog_9_method_46_code
abbrev yX7_holes : MethodName := ⟨RX7, "holes", "(III)I"⟩
abbrev cX7_winners : ByteArray := prog_9_method_47_code
abbrev yX7_winners : MethodName := ⟨RX7, "winners", "(III)I"⟩
abbrev cX7_ruffs : ByteArray := prog_9_method_48_code
abbrev yX7_ruffs : MethodName := ⟨RX7, "ruffs", "(IIII)Z"⟩
abbrev cX7_tricksOf : ByteArray := prog_9_method_49_code
abbrev yX7_tricksOf : MethodName := ⟨RX7, "tricksOf", "(III)I"⟩
abbrev cX7_tricks : ByteArray := prog_9_method_50_code
abbrev yX7_tricks : MethodName := ⟨RX7, "tricks", "(III)I"⟩
abbrev cX7_laySums : ByteArray := prog_9_method_51_code
abbrev yX7_laySums : MethodName := ⟨RX7, "laySums", "(I)V"⟩
abbrev cX7_expected : ByteArray := prog_9_method_52_code
abbrev yX7_expected : MethodName := ⟨RX7, "expected", "(II)J"⟩
abbrev cX7_contract : ByteArray := prog_9_method_53_code
abbrev yX7_contract : MethodName := ⟨RX7, "contract", "(I)I"⟩
abbrev cX7_put : ByteArray := prog_9_method_54_code
abbrev yX7_put : MethodName := ⟨RX7, "put", "(J)I"⟩
abbrev cX7_wipe : ByteArray := prog_9_method_55_code
abbrev yX7_wipe : MethodName := ⟨RX7, "wipe", "()I"⟩
abbrev cX7_next : ByteArray := prog_9_method_56_code
abbrev yX7_next : MethodName := ⟨RX7, "next", "()I"⟩
abbrev cX7_takeOne : ByteArray := prog_9_method_57_code
abbrev yX7_takeOne : MethodName := ⟨RX7, "takeOne", "(II)I"⟩
abbrev cX7_suitBy : ByteArray := prog_9_method_58_code
abbrev yX7_suitBy : MethodName := ⟨RX7, "suitBy", "(I)I"⟩
abbrev cX7_takeNumber : ByteArray := prog_9_method_59_code
abbrev yX7_takeNumber : MethodName := ⟨RX7, "takeNumber", "(I)I"⟩
abbrev cX7_takeCall : ByteArray := prog_9_method_60_code
abbrev yX7_takeCall : MethodName := ⟨RX7, "takeCall", "()V"⟩
abbrev cX7_takeCondition : ByteArray := prog_9_method_61_code
abbrev yX7_takeCondition : MethodName := ⟨RX7, "takeCondition", "(I)I"⟩
abbrev cX7_fault : ByteArray := prog_9_method_62_code
abbrev yX7_fault : MethodName := ⟨RX7, "fault", "()I"⟩
abbrev cX7_load : ByteArray := prog_9_method_63_code
abbrev yX7_load : MethodName := ⟨RX7, "load", "()I"⟩
abbrev RJx145de : String := "java/io/Serializable"
def TJx145de : u_T := fun k => match k with
  | _ => ("", "", "", false)
def tyJx145de : Nat → FieldType := fun k => match k with
  | _ => .int
abbrev wsJx145de0 : List Cond := u_ws RJx145de TJx145de 0
theorem nmJx145de : ∀ a, a < 0 → ∀ b, b < 0 → a ≠ b → (TJx145de a).2.1 ≠ (TJx145de b).2.1 := by decide +kernel
theorem tyJx145de_ok : ∀ k, k < 0 → parseFieldDescriptor (TJx145de k).2.2.1 = some (tyJx145de k) := by decide +kernel
abbrev RJ5 : String := "java/lang/AbstractStringBuilder"
def TJ5 : u_T := fun k => match k with
  | _ => ("", "", "", false)
def tyJ5 : Nat → FieldType := fun k => match k with
  | _ => .int
abbrev wsJ50 : List Cond := u_ws RJ5 TJ5 0
theorem nmJ5 : ∀ a, a < 0 → ∀ b, b < 0 → a ≠ b → (TJ5 a).2.1 ≠ (TJ5 b).2.1 := by decide +kernel
theorem tyJ5_ok : ∀ k, k < 0 → parseFieldDescriptor (TJ5 k).2.2.1 = some (tyJ5 k) := by decide +kernel
abbrev cJ5_init_d00df : ByteArray := prog_11_method_2_code
abbrev yJ5_init_d00df : MethodName := ⟨RJ5, "<init>", "(I)V"⟩
abbrev cJ5_length_8abf5 : ByteArray := prog_11_method_6_code
abbrev yJ5_length_8abf5 : MethodName := ⟨RJ5, "length", "()I"⟩
abbrev cJ5_ensureCapacityInternal_d00df : ByteArray := prog_11_method_9_code
abbrev yJ5_ensureCapacityInternal_d00df : MethodName := ⟨RJ5, "ensureCapacityInternal", "(I)V"⟩
abbrev cJ5_newCapacity_0f7a4 : ByteArray := prog_11_method_10_code
abbrev yJ5_newCapacity_0f7a4 : MethodName := ⟨RJ5, "newCapacity", "(I)I"⟩
abbrev cJ5_inflate_da8c8 : ByteArray := prog_11_method_11_code
abbrev yJ5_inflate_da8c8 : MethodName := ⟨RJ5, "inflate", "()V"⟩
abbrev cJ5_setLength_d00df : ByteArray := prog_11_method_13_code
abbrev yJ5_setLength_d00df : MethodName := ⟨RJ5, "setLength", "(I)V"⟩
abbrev cJ5_charAt_5068e : ByteArray := prog_11_method_14_code
abbrev yJ5_charAt_5068e : MethodName := ⟨RJ5, "charAt", "(I)C"⟩
abbrev cJ5_append_3fe6f : ByteArray := prog_11_method_31_code
abbrev yJ5_append_3fe6f : MethodName := ⟨RJ5, "append", "(C)Ljava/lang/AbstractStringBuilder;"⟩
abbrev cJ5_isLatin1_aae02 : ByteArray := prog_11_method_68_code
abbrev yJ5_isLatin1_aae02 : MethodName := ⟨RJ5, "isLatin1", "()Z"⟩
abbrev RJx2cfe8 : String := "java/lang/Appendable"
def TJx2cfe8 : u_T := fun k => match k with
  | _ => ("", "", "", false)
def tyJx2cfe8 : Nat → FieldType := fun k => match k with
  | _ => .int
abbrev wsJx2cfe80 : List Cond := u_ws RJx2cfe8 TJx2cfe8 0
theorem nmJx2cfe8 : ∀ a, a < 0 → ∀ b, b < 0 → a ≠ b → (TJx2cfe8 a).2.1 ≠ (TJx2cfe8 b).2.1 := by decide +kernel
theorem tyJx2cfe8_ok : ∀ k, k < 0 → parseFieldDescriptor (TJx2cfe8 k).2.2.1 = some (tyJx2cfe8 k) := by decide +kernel
abbrev RJx9f9b0 : String := "java/lang/CharSequence"
def TJx9f9b0 : u_T := fun k => match k with
  | _ => ("", "", "", false)
def tyJx9f9b0 : Nat → FieldType := fun k => match k with
  | _ => .int
abbrev wsJx9f9b00 : List Cond := u_ws RJx9f9b0 TJx9f9b0 0
theorem nmJx9f9b0 : ∀ a, a < 0 → ∀ b, b < 0 → a ≠ b → (TJx9f9b0 a).2.1 ≠ (TJx9f9b0 b).2.1 := by decide +kernel
theorem tyJx9f9b0_ok : ∀ k, k < 0 → parseFieldDescriptor (TJx9f9b0 k).2.2.1 = some (tyJx9f9b0 k) := by decide +kernel
abbrev RJx8e188 : String := "java/lang/Cloneable"
def TJx8e188 : u_T := fun k => match k with
  | _ => ("", "", "", false)
def tyJx8e188 : Nat → FieldType := fun k => match k with
  | _ => .int
abbrev wsJx8e1880 : List Cond := u_ws RJx8e188 TJx8e188 0
theorem nmJx8e188 : ∀ a, a < 0 → ∀ b, b < 0 → a ≠ b → (TJx8e188 a).2.1 ≠ (TJx8e188 b).2.1 := by decide +kernel
theorem tyJx8e188_ok : ∀ k, k < 0 → parseFieldDescriptor (TJx8e188 k).2.2.1 = some (tyJx8e188 k) := by decide +kernel
abbrev RJxb160c : String := "java/lang/Comparable"
def TJxb160c : u_T := fun k => match k with
  | _ => ("", "", "", false)
def tyJxb160c : Nat → FieldType := fun k => match k with
  | _ => .int
abbrev wsJxb160c0 : List Cond := u_ws RJxb160c TJxb160c 0
theorem nmJxb160c : ∀ a, a < 0 → ∀ b, b < 0 → a ≠ b → (TJxb160c a).2.1 ≠ (TJxb160c b).2.1 := by decide +kernel
theorem tyJxb160c_ok : ∀ k, k < 0 → parseFieldDescriptor (TJxb160c k).2.2.1 = some (tyJxb160c k) := by decide +kernel
abbrev RJ6 : String := "java/lang/Integer"
def TJ6 : u_T := fun k => match k with
  | _ => ("", "", "", false)
def tyJ6 : Nat → FieldType := fun k => match k with
  | _ => .int
abbrev wsJ60 : List Cond := u_ws RJ6 TJ6 0
theorem nmJ6 : ∀ a, a < 0 → ∀ b, b < 0 → a ≠ b → (TJ6 a).2.1 ≠ (TJ6 b).2.1 := by decide +kernel
theorem tyJ6_ok : ∀ k, k < 0 → parseFieldDescriptor (TJ6 k).2.2.1 = some (tyJ6 k) := by decide +kernel
abbrev cJ6_numberOfTrailingZeros_0f7a4 : ByteArray := prog_16_method_48_code
abbrev yJ6_numberOfTrailingZeros_0f7a4 : MethodName := ⟨RJ6, "numberOfTrailingZeros", "(I)I"⟩
abbrev cJ6_bitCount_0f7a4 : ByteArray := prog_16_method_49_code
abbrev yJ6_bitCount_0f7a4 : MethodName := ⟨RJ6, "bitCount", "(I)I"⟩
abbrev RJxab1ab : String := "java/lang/Iterable"
def TJxab1ab : u_T := fun k => match k with
  | _ => ("", "", "", false)
def tyJxab1ab : Nat → FieldType := fun k => match k with
  | _ => .int
abbrev wsJxab1ab0 : List Cond := u_ws RJxab1ab TJxab1ab 0
theorem nmJxab1ab : ∀ a, a < 0 → ∀ b, b < 0 → a ≠ b → (TJxab1ab a).2.1 ≠ (TJxab1ab b).2.1 := by decide +kernel
theorem tyJxab1ab_ok : ∀ k, k < 0 → parseFieldDescriptor (TJxab1ab k).2.2.1 = some (tyJxab1ab k) := by decide +kernel
abbrev RJ9 : String := "java/lang/Math"
def TJ9 : u_T := fun k => match k with
  | _ => ("", "", "", false)
def tyJ9 : Nat → FieldType := fun k => match k with
  | _ => .int
abbrev wsJ90 : List Cond := u_ws RJ9 TJ9 0
theorem nmJ9 : ∀ a, a < 0 → ∀ b, b < 0 → a ≠ b → (TJ9 a).2.1 ≠ (TJ9 b).2.1 := by decide +kernel
theorem tyJ9_ok : ∀ k, k < 0 → parseFieldDescriptor (TJ9 k).2.2.1 = some (tyJ9 k) := by decide +kernel
abbrev cJ9_max_7cf53 : ByteArray := prog_18_method_65_code
abbrev yJ9_max_7cf53 : MethodName := ⟨RJ9, "max", "(II)I"⟩
abbrev cJ9_min_7cf53 : ByteArray := prog_18_method_69_code
abbrev yJ9_min_7cf53 : MethodName := ⟨RJ9, "min", "(II)I"⟩
abbrev RJ0 : String := "java/lang/String"
def TJ0 : u_T := fun k => match k with
  | _ => ("", "", "", false)
def tyJ0 : Nat → FieldType := fun k => match k with
  | _ => .int
abbrev wsJ00 : List Cond := u_ws RJ0 TJ0 0
theorem nmJ0 : ∀ a, a < 0 → ∀ b, b < 0 → a ≠ b → (TJ0 a).2.1 ≠ (TJ0 b).2.1 := by decide +kernel
theorem tyJ0_ok : ∀ k, k < 0 → parseFieldDescriptor (TJ0 k).2.2.1 = some (tyJ0 k) := by decide +kernel
abbrev cJ0_checkIndex_df160 : ByteArray := prog_19_method_155_code
abbrev yJ0_checkIndex_df160 : MethodName := ⟨RJ0, "checkIndex", "(II)V"⟩
abbrev cJ0_checkBoundsOffCount_cabcc : ByteArray := prog_19_method_157_code
abbrev yJ0_checkBoundsOffCount_cabcc : MethodName := ⟨RJ0, "checkBoundsOffCount", "(III)I"⟩
abbrev RJ4 : String := "java/lang/StringBuilder"
def TJ4 : u_T := fun k => match k with
  | 0 => ("java/lang/AbstractStringBuilder", "value", "[B", false)
  | 1 => ("java/lang/AbstractStringBuilder", "coder", "B", false)
  | 2 => ("java/lang/AbstractStringBuilder", "maybeLatin1", "Z", false)
  | _ => ("java/lang/AbstractStringBuilder", "count", "I", false)
def tyJ4 : Nat → FieldType := fun k => match k with
  | 0 => .array .byte
  | 1 => .byte
  | 2 => .boolean
  | _ => .int
abbrev wsJ40 : List Cond := u_ws RJ4 TJ4 4
theorem nmJ4 : ∀ a, a < 4 → ∀ b, b < 4 → a ≠ b → (TJ4 a).2.1 ≠ (TJ4 b).2.1 := by decide +kernel
theorem tyJ4_ok : ∀ k, k < 4 → parseFieldDescriptor (TJ4 k).2.2.1 = some (tyJ4 k) := by decide +kernel
abbrev cJ4_init_da8c8 : ByteArray := prog_20_method_1_code
abbrev yJ4_init_da8c8 : MethodName := ⟨RJ4, "<init>", "()V"⟩
abbrev cJ4_append_cf468 : ByteArray := prog_20_method_14_code
abbrev yJ4_append_cf468 : MethodName := ⟨RJ4, "append", "(C)Ljava/lang/StringBuilder;"⟩
abbrev cJ4_charAt_5068e : ByteArray := prog_20_method_88_code
abbrev yJ4_charAt_5068e : MethodName := ⟨RJ4, "charAt", "(I)C"⟩
abbrev cJ4_setLength_d00df : ByteArray := prog_20_method_89_code
abbrev yJ4_setLength_d00df : MethodName := ⟨RJ4, "setLength", "(I)V"⟩
abbrev cJ4_length_8abf5 : ByteArray := prog_20_method_93_code
abbrev yJ4_length_8abf5 : MethodName := ⟨RJ4, "length", "()I"⟩
abbrev RJ1 : String := "java/lang/StringLatin1"
def TJ1 : u_T := fun k => match k with
  | _ => ("", "", "", false)
def tyJ1 : Nat → FieldType := fun k => match k with
  | _ => .int
abbrev wsJ10 : List Cond := u_ws RJ1 TJ1 0
theorem nmJ1 : ∀ a, a < 0 → ∀ b, b < 0 → a ≠ b → (TJ1 a).2.1 ≠ (TJ1 b).2.1 := by decide +kernel
theorem tyJ1_ok : ∀ k, k < 0 → parseFieldDescriptor (TJ1 k).2.2.1 = some (tyJ1 k) := by decide +kernel
abbrev cJ1_canEncode_fc78d : ByteArray := prog_21_method_3_code
abbrev yJ1_canEncode_fc78d : MethodName := ⟨RJ1, "canEncode", "(C)Z"⟩
abbrev cJ1_fillNull_b72d1 : ByteArray := prog_21_method_48_code
abbrev yJ1_fillNull_b72d1 : MethodName := ⟨RJ1, "fillNull", "([BII)V"⟩
abbrev cJ1_inflate_0e8fd : ByteArray := prog_21_method_50_code
abbrev yJ1_inflate_0e8fd : MethodName := ⟨RJ1, "inflate", "([BI[BII)V"⟩
abbrev RJ2 : String := "java/lang/StringUTF16"
def TJ2 : u_T := fun k => match k with
  | _ => ("", "", "", false)
def tyJ2 : Nat → FieldType := fun k => match k with
  | _ => .int
abbrev wsJ20 : List Cond := u_ws RJ2 TJ2 0
theorem nmJ2 : ∀ a, a < 0 → ∀ b, b < 0 → a ≠ b → (TJ2 a).2.1 ≠ (TJ2 b).2.1 := by decide +kernel
theorem tyJ2_ok : ∀ k, k < 0 → parseFieldDescriptor (TJ2 k).2.2.1 = some (tyJ2 k) := by decide +kernel
abbrev cJ2_newBytesFor_77867 : ByteArray := prog_22_method_2_code
abbrev yJ2_newBytesFor_77867 : MethodName := ⟨RJ2, "newBytesFor", "(I)[B"⟩
abbrev cJ2_newBytesLength_0f7a4 : ByteArray := prog_22_method_3_code
abbrev yJ2_newBytesLength_0f7a4 : MethodName := ⟨RJ2, "newBytesLength", "(I)I"⟩
abbrev cJ2_putChar_b72d1 : ByteArray := prog_22_method_4_code
abbrev yJ2_putChar_b72d1 : MethodName := ⟨RJ2, "putChar", "([BII)V"⟩
abbrev cJ2_getChar_3b067 : ByteArray := prog_22_method_5_code
abbrev yJ2_getChar_3b067 : MethodName := ⟨RJ2, "getChar", "([BI)C"⟩
abbrev cJ2_length_9d52b : ByteArray := prog_22_method_6_code
abbrev yJ2_length_9d52b : MethodName := ⟨RJ2, "length", "([B)I"⟩
abbrev cJ2_fillNull_b72d1 : ByteArray := prog_22_method_70_code
abbrev yJ2_fillNull_b72d1 : MethodName := ⟨RJ2, "fillNull", "([BII)V"⟩
abbrev cJ2_putCharSB_b72d1 : ByteArray := prog_22_method_71_code
abbrev yJ2_putCharSB_b72d1 : MethodName := ⟨RJ2, "putCharSB", "([BII)V"⟩
abbrev cJ2_inflate_0e8fd : ByteArray := prog_22_method_86_code
abbrev yJ2_inflate_0e8fd : MethodName := ⟨RJ2, "inflate", "([BI[BII)V"⟩
abbrev cJ2_checkIndex_2214a : ByteArray := prog_22_method_91_code
abbrev yJ2_checkIndex_2214a : MethodName := ⟨RJ2, "checkIndex", "(I[B)V"⟩
abbrev cJ2_checkBoundsOffCount_d044e : ByteArray := prog_22_method_94_code
abbrev yJ2_checkBoundsOffCount_d044e : MethodName := ⟨RJ2, "checkBoundsOffCount", "(II[B)V"⟩
abbrev RJ10 : String := "java/lang/System"
def TJ10 : u_T := fun k => match k with
  | _ => ("", "", "", false)
def tyJ10 : Nat → FieldType := fun k => match k with
  | _ => .int
abbrev wsJ100 : List Cond := u_ws RJ10 TJ10 0
theorem nmJ10 : ∀ a, a < 0 → ∀ b, b < 0 → a ≠ b → (TJ10 a).2.1 ≠ (TJ10 b).2.1 := by decide +kernel
theorem tyJ10_ok : ∀ k, k < 0 → parseFieldDescriptor (TJ10 k).2.2.1 = some (tyJ10 k) := by decide +kernel
abbrev RJxfd54e : String := "java/lang/constant/Constable"
def TJxfd54e : u_T := fun k => match k with
  | _ => ("", "", "", false)
def tyJxfd54e : Nat → FieldType := fun k => match k with
  | _ => .int
abbrev wsJxfd54e0 : List Cond := u_ws RJxfd54e TJxfd54e 0
theorem nmJxfd54e : ∀ a, a < 0 → ∀ b, b < 0 → a ≠ b → (TJxfd54e a).2.1 ≠ (TJxfd54e b).2.1 := by decide +kernel
theorem tyJxfd54e_ok : ∀ k, k < 0 → parseFieldDescriptor (TJxfd54e k).2.2.1 = some (tyJxfd54e k) := by decide +kernel
abbrev RJx3cf43 : String := "java/lang/constant/ConstantDesc"
def TJx3cf43 : u_T := fun k => match k with
  | _ => ("", "", "", false)
def tyJx3cf43 : Nat → FieldType := fun k => match k with
  | _ => .int
abbrev wsJx3cf430 : List Cond := u_ws RJx3cf43 TJx3cf43 0
theorem nmJx3cf43 : ∀ a, a < 0 → ∀ b, b < 0 → a ≠ b → (TJx3cf43 a).2.1 ≠ (TJx3cf43 b).2.1 := by decide +kernel
theorem tyJx3cf43_ok : ∀ k, k < 0 → parseFieldDescriptor (TJx3cf43 k).2.2.1 = some (tyJx3cf43 k) := by decide +kernel
abbrev RJxa1e45 : String := "java/util/AbstractCollection"
def TJxa1e45 : u_T := fun k => match k with
  | _ => ("", "", "", false)
def tyJxa1e45 : Nat → FieldType := fun k => match k with
  | _ => .int
abbrev wsJxa1e450 : List Cond := u_ws RJxa1e45 TJxa1e45 0
theorem nmJxa1e45 : ∀ a, a < 0 → ∀ b, b < 0 → a ≠ b → (TJxa1e45 a).2.1 ≠ (TJxa1e45 b).2.1 := by decide +kernel
theorem tyJxa1e45_ok : ∀ k, k < 0 → parseFieldDescriptor (TJxa1e45 k).2.2.1 = some (tyJxa1e45 k) := by decide +kernel
abbrev cJxa1e45_init_da8c8 : ByteArray := prog_24_method_1_code
abbrev yJxa1e45_init_da8c8 : MethodName := ⟨RJxa1e45, "<init>", "()V"⟩
abbrev RJxc12de : String := "java/util/AbstractList"
def TJxc12de : u_T := fun k => match k with
  | _ => ("", "", "", false)
def tyJxc12de : Nat → FieldType := fun k => match k with
  | _ => .int
abbrev wsJxc12de0 : List Cond := u_ws RJxc12de TJxc12de 0
theorem nmJxc12de : ∀ a, a < 0 → ∀ b, b < 0 → a ≠ b → (TJxc12de a).2.1 ≠ (TJxc12de b).2.1 := by decide +kernel
theorem tyJxc12de_ok : ∀ k, k < 0 → parseFieldDescriptor (TJxc12de k).2.2.1 = some (tyJxc12de k) := by decide +kernel
abbrev cJxc12de_init_da8c8 : ByteArray := prog_25_method_1_code
abbrev yJxc12de_init_da8c8 : MethodName := ⟨RJxc12de, "<init>", "()V"⟩
abbrev RJx4a65c : String := "java/util/ArrayList"
def TJx4a65c : u_T := fun k => match k with
  | 0 => ("java/util/AbstractList", "modCount", "I", false)
  | 1 => ("java/util/ArrayList", "elementData", "[Ljava/lang/Object;", false)
  | _ => ("java/util/ArrayList", "size", "I", false)
def tyJx4a65c : Nat → FieldType := fun k => match k with
  | 0 => .int
  | 1 => .array (.object "java/lang/Object")
  | _ => .int
abbrev wsJx4a65c0 : List Cond := u_ws RJx4a65c TJx4a65c 3
theorem nmJx4a65c : ∀ a, a < 3 → ∀ b, b < 3 → a ≠ b → (TJx4a65c a).2.1 ≠ (TJx4a65c b).2.1 := by decide +kernel
theorem tyJx4a65c_ok : ∀ k, k < 3 → parseFieldDescriptor (TJx4a65c k).2.2.1 = some (tyJx4a65c k) := by decide +kernel
abbrev cJx4a65c_init_da8c8 : ByteArray := prog_26_method_2_code
abbrev yJx4a65c_init_da8c8 : MethodName := ⟨RJx4a65c, "<init>", "()V"⟩
abbrev cJx4a65c_grow_92f84 : ByteArray := prog_26_method_6_code
abbrev yJx4a65c_grow_92f84 : MethodName := ⟨RJx4a65c, "grow", "(I)[Ljava/lang/Object;"⟩
abbrev cJx4a65c_grow_d5877 : ByteArray := prog_26_method_7_code
abbrev yJx4a65c_grow_d5877 : MethodName := ⟨RJx4a65c, "grow", "()[Ljava/lang/Object;"⟩
abbrev cJx4a65c_size_8abf5 : ByteArray := prog_26_method_8_code
abbrev yJx4a65c_size_8abf5 : MethodName := ⟨RJx4a65c, "size", "()I"⟩
abbrev cJx4a65c_elementData_915e3 : ByteArray := prog_26_method_18_code
abbrev yJx4a65c_elementData_915e3 : MethodName := ⟨RJx4a65c, "elementData", "(I)Ljava/lang/Object;"⟩
abbrev cJx4a65c_get_915e3 : ByteArray := prog_26_method_20_code
abbrev yJx4a65c_get_915e3 : MethodName := ⟨RJx4a65c, "get", "(I)Ljava/lang/Object;"⟩
abbrev cJx4a65c_add_72be8 : ByteArray := prog_26_method_24_code
abbrev yJx4a65c_add_72be8 : MethodName := ⟨RJx4a65c, "add", "(Ljava/lang/Object;[Ljava/lang/Object;I)V"⟩
abbrev cJx4a65c_add_9ea2d : ByteArray := prog_26_method_25_code
abbrev yJx4a65c_add_9ea2d : MethodName := ⟨RJx4a65c, "add", "(Ljava/lang/Object;)Z"⟩
abbrev cJx4a65c_add_7a177 : ByteArray := prog_26_method_26_code
abbrev yJx4a65c_add_7a177 : MethodName := ⟨RJx4a65c, "add", "(ILjava/lang/Object;)V"⟩
abbrev cJx4a65c_remove_915e3 : ByteArray := prog_26_method_29_code
abbrev yJx4a65c_remove_915e3 : MethodName := ⟨RJx4a65c, "remove", "(I)Ljava/lang/Object;"⟩
abbrev cJx4a65c_fastRemove_b59b0 : ByteArray := prog_26_method_39_code
abbrev yJx4a65c_fastRemove_b59b0 : MethodName := ⟨RJx4a65c, "fastRemove", "([Ljava/lang/Object;I)V"⟩
abbrev cJx4a65c_clear_da8c8 : ByteArray := prog_26_method_40_code
abbrev yJx4a65c_clear_da8c8 : MethodName := ⟨RJx4a65c, "clear", "()V"⟩
abbrev cJx4a65c_rangeCheckForAdd_d00df : ByteArray := prog_26_method_45_code
abbrev yJx4a65c_rangeCheckForAdd_d00df : MethodName := ⟨RJx4a65c, "rangeCheckForAdd", "(I)V"⟩
abbrev RJ7 : String := "java/util/Arrays"
def TJ7 : u_T := fun k => match k with
  | _ => ("", "", "", false)
def tyJ7 : Nat → FieldType := fun k => match k with
  | _ => .int
abbrev wsJ70 : List Cond := u_ws RJ7 TJ7 0
theorem nmJ7 : ∀ a, a < 0 → ∀ b, b < 0 → a ≠ b → (TJ7 a).2.1 ≠ (TJ7 b).2.1 := by decide +kernel
theorem tyJ7_ok : ∀ k, k < 0 → parseFieldDescriptor (TJ7 k).2.2.1 = some (tyJ7 k) := by decide +kernel
abbrev cJ7_rangeCheck_23922 : ByteArray := prog_27_method_30_code
abbrev yJ7_rangeCheck_23922 : MethodName := ⟨RJ7, "rangeCheck", "(III)V"⟩
abbrev cJ7_fill_eb02e : ByteArray := prog_27_method_110_code
abbrev yJ7_fill_eb02e : MethodName := ⟨RJ7, "fill", "([BIIB)V"⟩
abbrev cJ7_copyOf_1904c : ByteArray := prog_27_method_119_code
abbrev yJ7_copyOf_1904c : MethodName := ⟨RJ7, "copyOf", "([Ljava/lang/Object;I)[Ljava/lang/Object;"⟩
abbrev cJ7_copyOf_6403c : ByteArray := prog_27_method_120_code
abbrev yJ7_copyOf_6403c : MethodName := ⟨RJ7, "copyOf", "([Ljava/lang/Object;ILjava/lang/Class;)[Ljava/lang/Object;"⟩
abbrev cJ7_copyOf_9075b : ByteArray := prog_27_method_121_code
abbrev yJ7_copyOf_9075b : MethodName := ⟨RJ7, "copyOf", "([BI)[B"⟩
abbrev RJx5ef63 : String := "java/util/Collection"
def TJx5ef63 : u_T := fun k => match k with
  | _ => ("", "", "", false)
def tyJx5ef63 : Nat → FieldType := fun k => match k with
  | _ => .int
abbrev wsJx5ef630 : List Cond := u_ws RJx5ef63 TJx5ef63 0
theorem nmJx5ef63 : ∀ a, a < 0 → ∀ b, b < 0 → a ≠ b → (TJx5ef63 a).2.1 ≠ (TJx5ef63 b).2.1 := by decide +kernel
theorem tyJx5ef63_ok : ∀ k, k < 0 → parseFieldDescriptor (TJx5ef63 k).2.2.1 = some (tyJx5ef63 k) := by decide +kernel
abbrev RJxbd725 : String := "java/util/List"
def TJxbd725 : u_T := fun k => match k with
  | _ => ("", "", "", false)
def tyJxbd725 : Nat → FieldType := fun k => match k with
  | _ => .int
abbrev wsJxbd7250 : List Cond := u_ws RJxbd725 TJxbd725 0
theorem nmJxbd725 : ∀ a, a < 0 → ∀ b, b < 0 → a ≠ b → (TJxbd725 a).2.1 ≠ (TJxbd725 b).2.1 := by decide +kernel
theorem tyJxbd725_ok : ∀ k, k < 0 → parseFieldDescriptor (TJxbd725 k).2.2.1 = some (tyJxbd725 k) := by decide +kernel
abbrev RJ15 : String := "java/util/Objects"
def TJ15 : u_T := fun k => match k with
  | _ => ("", "", "", false)
def tyJ15 : Nat → FieldType := fun k => match k with
  | _ => .int
abbrev wsJ150 : List Cond := u_ws RJ15 TJ15 0
theorem nmJ15 : ∀ a, a < 0 → ∀ b, b < 0 → a ≠ b → (TJ15 a).2.1 ≠ (TJ15 b).2.1 := by decide +kernel
theorem tyJ15_ok : ∀ k, k < 0 → parseFieldDescriptor (TJ15 k).2.2.1 = some (tyJ15 k) := by decide +kernel
abbrev cJ15_checkIndex_7cf53 : ByteArray := prog_30_method_17_code
abbrev yJ15_checkIndex_7cf53 : MethodName := ⟨RJ15, "checkIndex", "(II)I"⟩
abbrev RJxf0a74 : String := "java/util/RandomAccess"
def TJxf0a74 : u_T := fun k => match k with
  | _ => ("", "", "", false)
def tyJxf0a74 : Nat → FieldType := fun k => match k with
  | _ => .int
abbrev wsJxf0a740 : List Cond := u_ws RJxf0a74 TJxf0a74 0
theorem nmJxf0a74 : ∀ a, a < 0 → ∀ b, b < 0 → a ≠ b → (TJxf0a74 a).2.1 ≠ (TJxf0a74 b).2.1 := by decide +kernel
theorem tyJxf0a74_ok : ∀ k, k < 0 → parseFieldDescriptor (TJxf0a74 k).2.2.1 = some (tyJxf0a74 k) := by decide +kernel
abbrev RJxa66e6 : String := "java/util/SequencedCollection"
def TJxa66e6 : u_T := fun k => match k with
  | _ => ("", "", "", false)
def tyJxa66e6 : Nat → FieldType := fun k => match k with
  | _ => .int
abbrev wsJxa66e60 : List Cond := u_ws RJxa66e6 TJxa66e6 0
theorem nmJxa66e6 : ∀ a, a < 0 → ∀ b, b < 0 → a ≠ b → (TJxa66e6 a).2.1 ≠ (TJxa66e6 b).2.1 := by decide +kernel
theorem tyJxa66e6_ok : ∀ k, k < 0 → parseFieldDescriptor (TJxa66e6 k).2.2.1 = some (tyJxa66e6 k) := by decide +kernel
abbrev RJ8 : String := "jdk/internal/util/ArraysSupport"
def TJ8 : u_T := fun k => match k with
  | _ => ("", "", "", false)
def tyJ8 : Nat → FieldType := fun k => match k with
  | _ => .int
abbrev wsJ80 : List Cond := u_ws RJ8 TJ8 0
theorem nmJ8 : ∀ a, a < 0 → ∀ b, b < 0 → a ≠ b → (TJ8 a).2.1 ≠ (TJ8 b).2.1 := by decide +kernel
theorem tyJ8_ok : ∀ k, k < 0 → parseFieldDescriptor (TJ8 k).2.2.1 = some (tyJ8 k) := by decide +kernel
abbrev cJ8_newLength_cabcc : ByteArray := prog_33_method_27_code
abbrev yJ8_newLength_cabcc : MethodName := ⟨RJ8, "newLength", "(III)I"⟩
abbrev cJ8_hugeLength_7cf53 : ByteArray := prog_33_method_28_code
abbrev yJ8_hugeLength_7cf53 : MethodName := ⟨RJ8, "hugeLength", "(II)I"⟩
abbrev RJ3 : String := "jdk/internal/util/Preconditions"
def TJ3 : u_T := fun k => match k with
  | _ => ("", "", "", false)
def tyJ3 : Nat → FieldType := fun k => match k with
  | _ => .int
abbrev wsJ30 : List Cond := u_ws RJ3 TJ3 0
theorem nmJ3 : ∀ a, a < 0 → ∀ b, b < 0 → a ≠ b → (TJ3 a).2.1 ≠ (TJ3 b).2.1 := by decide +kernel
theorem tyJ3_ok : ∀ k, k < 0 → parseFieldDescriptor (TJ3 k).2.2.1 = some (tyJ3 k) := by decide +kernel
abbrev cJ3_checkIndex_8e157 : ByteArray := prog_34_method_11_code
abbrev yJ3_checkIndex_8e157 : MethodName := ⟨RJ3, "checkIndex", "(IILjava/util/function/BiFunction;)I"⟩
abbrev cJ3_checkFromIndexSize_8c36e : ByteArray := prog_34_method_13_code
abbrev yJ3_checkFromIndexSize_8c36e : MethodName := ⟨RJ3, "checkFromIndexSize", "(IIILjava/util/function/BiFunction;)I"⟩
abbrev RL : String := "BidLanguageLaw"
abbrev cL_law : ByteArray := code
abbrev yL_law : MethodName := ⟨RL, "law", "([I)Z"⟩
abbrev vwCl : List vw_C := [(RJ4, TJ4, 4), (RJx4a65c, TJx4a65c, 3), (RX0, TX0, 4), (RX2, TX2, 3), (RX3, TX3, 3), (RX4, TX4, 6), (RX5, TX5, 4), (RX6, TX6, 5), (RX7, TX7, 19)]
/-- which words of the tables this proof carries along -/
def tOk : Cond → Bool
  | .arrayClass _ => true
  | .fieldLinkNest .. => true
  | .methodLinkNest .. => true
  | w => w.onTables && w.keeps
def tG : List Cond := lw_tbl.filter tOk
