section
-- ===== PART A: goes FIRST, ahead of the names: the tables' words, and 'selects' of the private methods out of them =====
/-- a private method of a class that the tables say can be made, by its rows of tables_1 -/
def lw_okq (q : MethodName × Nat) : Prop := (q.1.cls ≠ "java/lang/invoke/MethodHandle" ∧ q.1.cls ≠ "java/lang/invoke/VarHandle") ∧ Cond.instantiable q.1.cls q.2 ∈ tables_1 ∧ Cond.privateMethod q.1 ∈ tables_1 ∧ Cond.instanceMethod q.1 ∈ tables_1
theorem lw_p0 : lw_okq (⟨"BidLanguage", "addRule", "(LBidLanguage$Rule;)I"⟩, 5) := ⟨⟨by decide +kernel, by decide +kernel⟩, List.mem_of_getElem? (i := 25) (by decide +kernel), List.mem_of_getElem? (i := 203) (by decide +kernel), List.mem_of_getElem? (i := 204) (by decide +kernel)⟩
theorem lw_p1 : lw_okq (⟨"java/util/ArrayList", "add", "(Ljava/lang/Object;[Ljava/lang/Object;I)V"⟩, 3) := ⟨⟨by decide +kernel, by decide +kernel⟩, List.mem_of_getElem? (i := 33) (by decide +kernel), List.mem_of_getElem? (i := 229) (by decide +kernel), List.mem_of_getElem? (i := 230) (by decide +kernel)⟩
theorem lw_p2 : lw_okq (⟨"java/util/ArrayList", "grow", "()[Ljava/lang/Object;"⟩, 3) := ⟨⟨by decide +kernel, by decide +kernel⟩, List.mem_of_getElem? (i := 33) (by decide +kernel), List.mem_of_getElem? (i := 233) (by decide +kernel), List.mem_of_getElem? (i := 234) (by decide +kernel)⟩
theorem lw_p3 : lw_okq (⟨"java/util/ArrayList", "grow", "(I)[Ljava/lang/Object;"⟩, 3) := ⟨⟨by decide +kernel, by decide +kernel⟩, List.mem_of_getElem? (i := 33) (by decide +kernel), List.mem_of_getElem? (i := 237) (by decide +kernel), List.mem_of_getElem? (i := 238) (by decide +kernel)⟩
theorem lw_p4 : lw_okq (⟨"BidLanguage", "isRule", "(I)Z"⟩, 5) := ⟨⟨by decide +kernel, by decide +kernel⟩, List.mem_of_getElem? (i := 25) (by decide +kernel), List.mem_of_getElem? (i := 293) (by decide +kernel), List.mem_of_getElem? (i := 294) (by decide +kernel)⟩
theorem lw_p5 : lw_okq (⟨"BidLanguage", "countAdmitted", "(LBidLanguage$Rule;)I"⟩, 5) := ⟨⟨by decide +kernel, by decide +kernel⟩, List.mem_of_getElem? (i := 25) (by decide +kernel), List.mem_of_getElem? (i := 304) (by decide +kernel), List.mem_of_getElem? (i := 305) (by decide +kernel)⟩
theorem lw_p6 : lw_okq (⟨"java/util/ArrayList", "fastRemove", "([Ljava/lang/Object;I)V"⟩, 3) := ⟨⟨by decide +kernel, by decide +kernel⟩, List.mem_of_getElem? (i := 33) (by decide +kernel), List.mem_of_getElem? (i := 344) (by decide +kernel), List.mem_of_getElem? (i := 345) (by decide +kernel)⟩
theorem lw_p7 : lw_okq (⟨"java/util/ArrayList", "rangeCheckForAdd", "(I)V"⟩, 3) := ⟨⟨by decide +kernel, by decide +kernel⟩, List.mem_of_getElem? (i := 33) (by decide +kernel), List.mem_of_getElem? (i := 357) (by decide +kernel), List.mem_of_getElem? (i := 358) (by decide +kernel)⟩
theorem lw_p8 : lw_okq (⟨"BidLanguage", "handOf", "(I)I"⟩, 5) := ⟨⟨by decide +kernel, by decide +kernel⟩, List.mem_of_getElem? (i := 25) (by decide +kernel), List.mem_of_getElem? (i := 383) (by decide +kernel), List.mem_of_getElem? (i := 384) (by decide +kernel)⟩
theorem lw_p9 : lw_okq (⟨"BidLanguage$Auction", "hasPass", "()Z"⟩, 4) := ⟨⟨by decide +kernel, by decide +kernel⟩, List.mem_of_getElem? (i := 59) (by decide +kernel), List.mem_of_getElem? (i := 416) (by decide +kernel), List.mem_of_getElem? (i := 417) (by decide +kernel)⟩
theorem lw_p10 : lw_okq (⟨"BidLanguage", "firstRule", "(LBidLanguage$Position;I)I"⟩, 5) := ⟨⟨by decide +kernel, by decide +kernel⟩, List.mem_of_getElem? (i := 25) (by decide +kernel), List.mem_of_getElem? (i := 427) (by decide +kernel), List.mem_of_getElem? (i := 428) (by decide +kernel)⟩
theorem lw_p11 : lw_okq (⟨"BidLanguage", "openRule", "(I)I"⟩, 5) := ⟨⟨by decide +kernel, by decide +kernel⟩, List.mem_of_getElem? (i := 25) (by decide +kernel), List.mem_of_getElem? (i := 463) (by decide +kernel), List.mem_of_getElem? (i := 464) (by decide +kernel)⟩
theorem lw_p12 : lw_okq (⟨"BidLanguage", "countHidden", "(II)I"⟩, 5) := ⟨⟨by decide +kernel, by decide +kernel⟩, List.mem_of_getElem? (i := 25) (by decide +kernel), List.mem_of_getElem? (i := 506) (by decide +kernel), List.mem_of_getElem? (i := 507) (by decide +kernel)⟩
theorem lw_p13 : lw_okq (⟨"BidLanguage", "isHidden", "(III)Z"⟩, 5) := ⟨⟨by decide +kernel, by decide +kernel⟩, List.mem_of_getElem? (i := 25) (by decide +kernel), List.mem_of_getElem? (i := 510) (by decide +kernel), List.mem_of_getElem? (i := 511) (by decide +kernel)⟩
theorem lw_p14 : lw_okq (⟨"BidLanguage", "fitsAuction", "(II)Z"⟩, 5) := ⟨⟨by decide +kernel, by decide +kernel⟩, List.mem_of_getElem? (i := 25) (by decide +kernel), List.mem_of_getElem? (i := 514) (by decide +kernel), List.mem_of_getElem? (i := 515) (by decide +kernel)⟩
theorem lw_p15 : lw_okq (⟨"BidLanguage", "countWithRule", "(LBidLanguage$Position;I)I"⟩, 5) := ⟨⟨by decide +kernel, by decide +kernel⟩, List.mem_of_getElem? (i := 25) (by decide +kernel), List.mem_of_getElem? (i := 545) (by decide +kernel), List.mem_of_getElem? (i := 546) (by decide +kernel)⟩
def lw_privs_1 : List (MethodName × Nat) := [(⟨"BidLanguage", "addRule", "(LBidLanguage$Rule;)I"⟩, 5), (⟨"java/util/ArrayList", "add", "(Ljava/lang/Object;[Ljava/lang/Object;I)V"⟩, 3), (⟨"java/util/ArrayList", "grow", "()[Ljava/lang/Object;"⟩, 3), (⟨"java/util/ArrayList", "grow", "(I)[Ljava/lang/Object;"⟩, 3), (⟨"BidLanguage", "isRule", "(I)Z"⟩, 5), (⟨"BidLanguage", "countAdmitted", "(LBidLanguage$Rule;)I"⟩, 5), (⟨"java/util/ArrayList", "fastRemove", "([Ljava/lang/Object;I)V"⟩, 3), (⟨"java/util/ArrayList", "rangeCheckForAdd", "(I)V"⟩, 3), (⟨"BidLanguage", "handOf", "(I)I"⟩, 5), (⟨"BidLanguage$Auction", "hasPass", "()Z"⟩, 4), (⟨"BidLanguage", "firstRule", "(LBidLanguage$Position;I)I"⟩, 5), (⟨"BidLanguage", "openRule", "(I)I"⟩, 5), (⟨"BidLanguage", "countHidden", "(II)I"⟩, 5), (⟨"BidLanguage", "isHidden", "(III)Z"⟩, 5), (⟨"BidLanguage", "fitsAuction", "(II)Z"⟩, 5), (⟨"BidLanguage", "countWithRule", "(LBidLanguage$Position;I)I"⟩, 5)]
theorem lw_r1 : ∀ q ∈ lw_privs_1, lw_okq q := List.forall_mem_cons.mpr ⟨lw_p0, List.forall_mem_cons.mpr ⟨lw_p1, List.forall_mem_cons.mpr ⟨lw_p2, List.forall_mem_cons.mpr ⟨lw_p3, List.forall_mem_cons.mpr ⟨lw_p4, List.forall_mem_cons.mpr ⟨lw_p5, List.forall_mem_cons.mpr ⟨lw_p6, List.forall_mem_cons.mpr ⟨lw_p7, List.forall_mem_cons.mpr ⟨lw_p8, List.forall_mem_cons.mpr ⟨lw_p9, List.forall_mem_cons.mpr ⟨lw_p10, List.forall_mem_cons.mpr ⟨lw_p11, List.forall_mem_cons.mpr ⟨lw_p12, List.forall_mem_cons.mpr ⟨lw_p13, List.forall_mem_cons.mpr ⟨lw_p14, List.forall_mem_cons.mpr ⟨lw_p15, fun _ h => absurd h List.not_mem_nil⟩⟩⟩⟩⟩⟩⟩⟩⟩⟩⟩⟩⟩⟩⟩⟩
theorem lw_p16 : lw_okq (⟨"BidLanguage", "sumOfTricks", "(II)J"⟩, 5) := ⟨⟨by decide +kernel, by decide +kernel⟩, List.mem_of_getElem? (i := 25) (by decide +kernel), List.mem_of_getElem? (i := 575) (by decide +kernel), List.mem_of_getElem? (i := 576) (by decide +kernel)⟩
theorem lw_p17 : lw_okq (⟨"BidLanguage$RuleReader", "readsHead", "()Z"⟩, 4) := ⟨⟨by decide +kernel, by decide +kernel⟩, List.mem_of_getElem? (i := 697) (by decide +kernel), List.mem_of_getElem? (i := 724) (by decide +kernel), List.mem_of_getElem? (i := 725) (by decide +kernel)⟩
theorem lw_p18 : lw_okq (⟨"BidLanguage$RuleReader", "readDigit", "(II)I"⟩, 4) := ⟨⟨by decide +kernel, by decide +kernel⟩, List.mem_of_getElem? (i := 697) (by decide +kernel), List.mem_of_getElem? (i := 728) (by decide +kernel), List.mem_of_getElem? (i := 729) (by decide +kernel)⟩
theorem lw_p19 : lw_okq (⟨"BidLanguage$RuleReader", "sign", "()I"⟩, 4) := ⟨⟨by decide +kernel, by decide +kernel⟩, List.mem_of_getElem? (i := 697) (by decide +kernel), List.mem_of_getElem? (i := 732) (by decide +kernel), List.mem_of_getElem? (i := 733) (by decide +kernel)⟩
theorem lw_p20 : lw_okq (⟨"BidLanguage$RuleReader", "reads", "(C)Z"⟩, 4) := ⟨⟨by decide +kernel, by decide +kernel⟩, List.mem_of_getElem? (i := 697) (by decide +kernel), List.mem_of_getElem? (i := 749) (by decide +kernel), List.mem_of_getElem? (i := 750) (by decide +kernel)⟩
theorem lw_p21 : lw_okq (⟨"BidLanguage$RuleReader", "readCall", "()I"⟩, 4) := ⟨⟨by decide +kernel, by decide +kernel⟩, List.mem_of_getElem? (i := 697) (by decide +kernel), List.mem_of_getElem? (i := 753) (by decide +kernel), List.mem_of_getElem? (i := 754) (by decide +kernel)⟩
theorem lw_p22 : lw_okq (⟨"BidLanguage$RuleReader", "suitOfSign", "()I"⟩, 4) := ⟨⟨by decide +kernel, by decide +kernel⟩, List.mem_of_getElem? (i := 697) (by decide +kernel), List.mem_of_getElem? (i := 757) (by decide +kernel), List.mem_of_getElem? (i := 758) (by decide +kernel)⟩
theorem lw_p23 : lw_okq (⟨"BidLanguage$RuleReader", "readKind", "()I"⟩, 4) := ⟨⟨by decide +kernel, by decide +kernel⟩, List.mem_of_getElem? (i := 697) (by decide +kernel), List.mem_of_getElem? (i := 761) (by decide +kernel), List.mem_of_getElem? (i := 762) (by decide +kernel)⟩
theorem lw_p24 : lw_okq (⟨"BidLanguage$RuleReader", "readsRange", "(I)Z"⟩, 4) := ⟨⟨by decide +kernel, by decide +kernel⟩, List.mem_of_getElem? (i := 697) (by decide +kernel), List.mem_of_getElem? (i := 765) (by decide +kernel), List.mem_of_getElem? (i := 766) (by decide +kernel)⟩
theorem lw_p25 : lw_okq (⟨"BidLanguage$RuleReader", "readNumber", "(I)I"⟩, 4) := ⟨⟨by decide +kernel, by decide +kernel⟩, List.mem_of_getElem? (i := 697) (by decide +kernel), List.mem_of_getElem? (i := 770) (by decide +kernel), List.mem_of_getElem? (i := 771) (by decide +kernel)⟩
theorem lw_p26 : lw_okq (⟨"BidLanguageModel", "anew", "()V"⟩, 19) := ⟨⟨by decide +kernel, by decide +kernel⟩, List.mem_of_getElem? (i := 780) (by decide +kernel), List.mem_of_getElem? (i := 786) (by decide +kernel), List.mem_of_getElem? (i := 787) (by decide +kernel)⟩
theorem lw_p27 : lw_okq (⟨"BidLanguageModel", "clearFresh", "()V"⟩, 19) := ⟨⟨by decide +kernel, by decide +kernel⟩, List.mem_of_getElem? (i := 780) (by decide +kernel), List.mem_of_getElem? (i := 857) (by decide +kernel), List.mem_of_getElem? (i := 858) (by decide +kernel)⟩
theorem lw_p28 : lw_okq (⟨"BidLanguageModel", "addFresh", "()I"⟩, 19) := ⟨⟨by decide +kernel, by decide +kernel⟩, List.mem_of_getElem? (i := 780) (by decide +kernel), List.mem_of_getElem? (i := 861) (by decide +kernel), List.mem_of_getElem? (i := 862) (by decide +kernel)⟩
theorem lw_p29 : lw_okq (⟨"BidLanguageModel", "isThere", "(II)Z"⟩, 19) := ⟨⟨by decide +kernel, by decide +kernel⟩, List.mem_of_getElem? (i := 780) (by decide +kernel), List.mem_of_getElem? (i := 865) (by decide +kernel), List.mem_of_getElem? (i := 866) (by decide +kernel)⟩
theorem lw_p30 : lw_okq (⟨"BidLanguageModel", "of", "(II)I"⟩, 19) := ⟨⟨by decide +kernel, by decide +kernel⟩, List.mem_of_getElem? (i := 780) (by decide +kernel), List.mem_of_getElem? (i := 869) (by decide +kernel), List.mem_of_getElem? (i := 870) (by decide +kernel)⟩
theorem lw_p31 : lw_okq (⟨"BidLanguageModel", "isRule", "(I)Z"⟩, 19) := ⟨⟨by decide +kernel, by decide +kernel⟩, List.mem_of_getElem? (i := 780) (by decide +kernel), List.mem_of_getElem? (i := 877) (by decide +kernel), List.mem_of_getElem? (i := 878) (by decide +kernel)⟩
def lw_privs_2 : List (MethodName × Nat) := [(⟨"BidLanguage", "sumOfTricks", "(II)J"⟩, 5), (⟨"BidLanguage$RuleReader", "readsHead", "()Z"⟩, 4), (⟨"BidLanguage$RuleReader", "readDigit", "(II)I"⟩, 4), (⟨"BidLanguage$RuleReader", "sign", "()I"⟩, 4), (⟨"BidLanguage$RuleReader", "reads", "(C)Z"⟩, 4), (⟨"BidLanguage$RuleReader", "readCall", "()I"⟩, 4), (⟨"BidLanguage$RuleReader", "suitOfSign", "()I"⟩, 4), (⟨"BidLanguage$RuleReader", "readKind", "()I"⟩, 4), (⟨"BidLanguage$RuleReader", "readsRange", "(I)Z"⟩, 4), (⟨"BidLanguage$RuleReader", "readNumber", "(I)I"⟩, 4), (⟨"BidLanguageModel", "anew", "()V"⟩, 19), (⟨"BidLanguageModel", "clearFresh", "()V"⟩, 19), (⟨"BidLanguageModel", "addFresh", "()I"⟩, 19), (⟨"BidLanguageModel", "isThere", "(II)Z"⟩, 19), (⟨"BidLanguageModel", "of", "(II)I"⟩, 19), (⟨"BidLanguageModel", "isRule", "(I)Z"⟩, 19)]
theorem lw_r2 : ∀ q ∈ lw_privs_2, lw_okq q := List.forall_mem_cons.mpr ⟨lw_p16, List.forall_mem_cons.mpr ⟨lw_p17, List.forall_mem_cons.mpr ⟨lw_p18, List.forall_mem_cons.mpr ⟨lw_p19, List.forall_mem_cons.mpr ⟨lw_p20, List.forall_mem_cons.mpr ⟨lw_p21, List.forall_mem_cons.mpr ⟨lw_p22, List.forall_mem_cons.mpr ⟨lw_p23, List.forall_mem_cons.mpr ⟨lw_p24, List.forall_mem_cons.mpr ⟨lw_p25, List.forall_mem_cons.mpr ⟨lw_p26, List.forall_mem_cons.mpr ⟨lw_p27, List.forall_mem_cons.mpr ⟨lw_p28, List.forall_mem_cons.mpr ⟨lw_p29, List.forall_mem_cons.mpr ⟨lw_p30, List.forall_mem_cons.mpr ⟨lw_p31, fun _ h => absurd h List.not_mem_nil⟩⟩⟩⟩⟩⟩⟩⟩⟩⟩⟩⟩⟩⟩⟩⟩
theorem lw_p32 : lw_okq (⟨"BidLanguageModel", "fitsRule", "(II)Z"⟩, 19) := ⟨⟨by decide +kernel, by decide +kernel⟩, List.mem_of_getElem? (i := 780) (by decide +kernel), List.mem_of_getElem? (i := 882) (by decide +kernel), List.mem_of_getElem? (i := 883) (by decide +kernel)⟩
theorem lw_p33 : lw_okq (⟨"BidLanguageModel", "strength", "(I)I"⟩, 19) := ⟨⟨by decide +kernel, by decide +kernel⟩, List.mem_of_getElem? (i := 780) (by decide +kernel), List.mem_of_getElem? (i := 886) (by decide +kernel), List.mem_of_getElem? (i := 887) (by decide +kernel)⟩
theorem lw_p34 : lw_okq (⟨"BidLanguageModel", "length", "(II)I"⟩, 19) := ⟨⟨by decide +kernel, by decide +kernel⟩, List.mem_of_getElem? (i := 780) (by decide +kernel), List.mem_of_getElem? (i := 890) (by decide +kernel), List.mem_of_getElem? (i := 891) (by decide +kernel)⟩
theorem lw_p35 : lw_okq (⟨"BidLanguageModel", "takeOut", "(I)V"⟩, 19) := ⟨⟨by decide +kernel, by decide +kernel⟩, List.mem_of_getElem? (i := 780) (by decide +kernel), List.mem_of_getElem? (i := 901) (by decide +kernel), List.mem_of_getElem? (i := 902) (by decide +kernel)⟩
theorem lw_p36 : lw_okq (⟨"BidLanguageModel", "isHand", "(I)Z"⟩, 19) := ⟨⟨by decide +kernel, by decide +kernel⟩, List.mem_of_getElem? (i := 780) (by decide +kernel), List.mem_of_getElem? (i := 920) (by decide +kernel), List.mem_of_getElem? (i := 921) (by decide +kernel)⟩
theorem lw_p37 : lw_okq (⟨"BidLanguageModel", "size", "(I)I"⟩, 19) := ⟨⟨by decide +kernel, by decide +kernel⟩, List.mem_of_getElem? (i := 780) (by decide +kernel), List.mem_of_getElem? (i := 924) (by decide +kernel), List.mem_of_getElem? (i := 925) (by decide +kernel)⟩
theorem lw_p38 : lw_okq (⟨"BidLanguageModel", "isOver", "()Z"⟩, 19) := ⟨⟨by decide +kernel, by decide +kernel⟩, List.mem_of_getElem? (i := 780) (by decide +kernel), List.mem_of_getElem? (i := 949) (by decide +kernel), List.mem_of_getElem? (i := 950) (by decide +kernel)⟩
theorem lw_p39 : lw_okq (⟨"BidLanguageModel", "ruleFor", "(IIII)I"⟩, 19) := ⟨⟨by decide +kernel, by decide +kernel⟩, List.mem_of_getElem? (i := 780) (by decide +kernel), List.mem_of_getElem? (i := 953) (by decide +kernel), List.mem_of_getElem? (i := 954) (by decide +kernel)⟩
theorem lw_p40 : lw_okq (⟨"BidLanguageModel", "isOpen", "(IIII)Z"⟩, 19) := ⟨⟨by decide +kernel, by decide +kernel⟩, List.mem_of_getElem? (i := 780) (by decide +kernel), List.mem_of_getElem? (i := 957) (by decide +kernel), List.mem_of_getElem? (i := 958) (by decide +kernel)⟩
theorem lw_p41 : lw_okq (⟨"BidLanguageModel", "callBy", "(I)V"⟩, 19) := ⟨⟨by decide +kernel, by decide +kernel⟩, List.mem_of_getElem? (i := 780) (by decide +kernel), List.mem_of_getElem? (i := 961) (by decide +kernel), List.mem_of_getElem? (i := 962) (by decide +kernel)⟩
theorem lw_p42 : lw_okq (⟨"BidLanguageModel", "fitsAuction", "(II)Z"⟩, 19) := ⟨⟨by decide +kernel, by decide +kernel⟩, List.mem_of_getElem? (i := 780) (by decide +kernel), List.mem_of_getElem? (i := 985) (by decide +kernel), List.mem_of_getElem? (i := 986) (by decide +kernel)⟩
theorem lw_p43 : lw_okq (⟨"BidLanguageModel", "shownOf", "(II)I"⟩, 19) := ⟨⟨by decide +kernel, by decide +kernel⟩, List.mem_of_getElem? (i := 780) (by decide +kernel), List.mem_of_getElem? (i := 993) (by decide +kernel), List.mem_of_getElem? (i := 994) (by decide +kernel)⟩
theorem lw_p44 : lw_okq (⟨"BidLanguageModel", "manyWith", "(IIII)I"⟩, 19) := ⟨⟨by decide +kernel, by decide +kernel⟩, List.mem_of_getElem? (i := 780) (by decide +kernel), List.mem_of_getElem? (i := 1012) (by decide +kernel), List.mem_of_getElem? (i := 1013) (by decide +kernel)⟩
theorem lw_p45 : lw_okq (⟨"BidLanguageModel", "tricksOf", "(III)I"⟩, 19) := ⟨⟨by decide +kernel, by decide +kernel⟩, List.mem_of_getElem? (i := 780) (by decide +kernel), List.mem_of_getElem? (i := 1024) (by decide +kernel), List.mem_of_getElem? (i := 1025) (by decide +kernel)⟩
theorem lw_p46 : lw_okq (⟨"BidLanguageModel", "winners", "(III)I"⟩, 19) := ⟨⟨by decide +kernel, by decide +kernel⟩, List.mem_of_getElem? (i := 780) (by decide +kernel), List.mem_of_getElem? (i := 1028) (by decide +kernel), List.mem_of_getElem? (i := 1029) (by decide +kernel)⟩
theorem lw_p47 : lw_okq (⟨"BidLanguageModel", "ruffs", "(IIII)Z"⟩, 19) := ⟨⟨by decide +kernel, by decide +kernel⟩, List.mem_of_getElem? (i := 780) (by decide +kernel), List.mem_of_getElem? (i := 1032) (by decide +kernel), List.mem_of_getElem? (i := 1033) (by decide +kernel)⟩
def lw_privs_3 : List (MethodName × Nat) := [(⟨"BidLanguageModel", "fitsRule", "(II)Z"⟩, 19), (⟨"BidLanguageModel", "strength", "(I)I"⟩, 19), (⟨"BidLanguageModel", "length", "(II)I"⟩, 19), (⟨"BidLanguageModel", "takeOut", "(I)V"⟩, 19), (⟨"BidLanguageModel", "isHand", "(I)Z"⟩, 19), (⟨"BidLanguageModel", "size", "(I)I"⟩, 19), (⟨"BidLanguageModel", "isOver", "()Z"⟩, 19), (⟨"BidLanguageModel", "ruleFor", "(IIII)I"⟩, 19), (⟨"BidLanguageModel", "isOpen", "(IIII)Z"⟩, 19), (⟨"BidLanguageModel", "callBy", "(I)V"⟩, 19), (⟨"BidLanguageModel", "fitsAuction", "(II)Z"⟩, 19), (⟨"BidLanguageModel", "shownOf", "(II)I"⟩, 19), (⟨"BidLanguageModel", "manyWith", "(IIII)I"⟩, 19), (⟨"BidLanguageModel", "tricksOf", "(III)I"⟩, 19), (⟨"BidLanguageModel", "winners", "(III)I"⟩, 19), (⟨"BidLanguageModel", "ruffs", "(IIII)Z"⟩, 19)]
theorem lw_r3 : ∀ q ∈ lw_privs_3, lw_okq q := List.forall_mem_cons.mpr ⟨lw_p32, List.forall_mem_cons.mpr ⟨lw_p33, List.forall_mem_cons.mpr ⟨lw_p34, List.forall_mem_cons.mpr ⟨lw_p35, List.forall_mem_cons.mpr ⟨lw_p36, List.forall_mem_cons.mpr ⟨lw_p37, List.forall_mem_cons.mpr ⟨lw_p38, List.forall_mem_cons.mpr ⟨lw_p39, List.forall_mem_cons.mpr ⟨lw_p40, List.forall_mem_cons.mpr ⟨lw_p41, List.forall_mem_cons.mpr ⟨lw_p42, List.forall_mem_cons.mpr ⟨lw_p43, List.forall_mem_cons.mpr ⟨lw_p44, List.forall_mem_cons.mpr ⟨lw_p45, List.forall_mem_cons.mpr ⟨lw_p46, List.forall_mem_cons.mpr ⟨lw_p47, fun _ h => absurd h List.not_mem_nil⟩⟩⟩⟩⟩⟩⟩⟩⟩⟩⟩⟩⟩⟩⟩⟩
theorem lw_p48 : lw_okq (⟨"BidLanguageModel", "laySums", "(I)V"⟩, 19) := ⟨⟨by decide +kernel, by decide +kernel⟩, List.mem_of_getElem? (i := 780) (by decide +kernel), List.mem_of_getElem? (i := 1042) (by decide +kernel), List.mem_of_getElem? (i := 1043) (by decide +kernel)⟩
theorem lw_p49 : lw_okq (⟨"BidLanguageModel", "takeOne", "(II)I"⟩, 19) := ⟨⟨by decide +kernel, by decide +kernel⟩, List.mem_of_getElem? (i := 780) (by decide +kernel), List.mem_of_getElem? (i := 1063) (by decide +kernel), List.mem_of_getElem? (i := 1064) (by decide +kernel)⟩
theorem lw_p50 : lw_okq (⟨"BidLanguageModel", "next", "()I"⟩, 19) := ⟨⟨by decide +kernel, by decide +kernel⟩, List.mem_of_getElem? (i := 780) (by decide +kernel), List.mem_of_getElem? (i := 1067) (by decide +kernel), List.mem_of_getElem? (i := 1068) (by decide +kernel)⟩
theorem lw_p51 : lw_okq (⟨"BidLanguageModel", "takeCall", "()V"⟩, 19) := ⟨⟨by decide +kernel, by decide +kernel⟩, List.mem_of_getElem? (i := 780) (by decide +kernel), List.mem_of_getElem? (i := 1071) (by decide +kernel), List.mem_of_getElem? (i := 1072) (by decide +kernel)⟩
theorem lw_p52 : lw_okq (⟨"BidLanguageModel", "takeCondition", "(I)I"⟩, 19) := ⟨⟨by decide +kernel, by decide +kernel⟩, List.mem_of_getElem? (i := 780) (by decide +kernel), List.mem_of_getElem? (i := 1078) (by decide +kernel), List.mem_of_getElem? (i := 1079) (by decide +kernel)⟩
theorem lw_p53 : lw_okq (⟨"BidLanguageModel", "takeNumber", "(I)I"⟩, 19) := ⟨⟨by decide +kernel, by decide +kernel⟩, List.mem_of_getElem? (i := 780) (by decide +kernel), List.mem_of_getElem? (i := 1082) (by decide +kernel), List.mem_of_getElem? (i := 1083) (by decide +kernel)⟩
def lw_privs_4 : List (MethodName × Nat) := [(⟨"BidLanguageModel", "laySums", "(I)V"⟩, 19), (⟨"BidLanguageModel", "takeOne", "(II)I"⟩, 19), (⟨"BidLanguageModel", "next", "()I"⟩, 19), (⟨"BidLanguageModel", "takeCall", "()V"⟩, 19), (⟨"BidLanguageModel", "takeCondition", "(I)I"⟩, 19), (⟨"BidLanguageModel", "takeNumber", "(I)I"⟩, 19)]
theorem lw_r4 : ∀ q ∈ lw_privs_4, lw_okq q := List.forall_mem_cons.mpr ⟨lw_p48, List.forall_mem_cons.mpr ⟨lw_p49, List.forall_mem_cons.mpr ⟨lw_p50, List.forall_mem_cons.mpr ⟨lw_p51, List.forall_mem_cons.mpr ⟨lw_p52, List.forall_mem_cons.mpr ⟨lw_p53, fun _ h => absurd h List.not_mem_nil⟩⟩⟩⟩⟩⟩
def lw_privs : List (MethodName × Nat) := lw_privs_1 ++ (lw_privs_2 ++ (lw_privs_3 ++ (lw_privs_4)))
def lw_tbl : List Cond := k2_sels lw_privs ++ tables_1
theorem lw_privs_ok : ∀ q ∈ lw_privs, lw_okq q := by
  show ∀ q ∈ lw_privs_1 ++ (lw_privs_2 ++ (lw_privs_3 ++ (lw_privs_4))), lw_okq q
  exact List.forall_mem_append.mpr ⟨lw_r1, List.forall_mem_append.mpr ⟨lw_r2, List.forall_mem_append.mpr ⟨lw_r3, lw_r4⟩⟩⟩
abbrev RX0 : String := "BidLanguage$Auction"
def TX0 : u_T := fun k => match k with
  | 0 => ("BidLanguage$Auction", "calls", "Ljava/util/ArrayList;", true)
  | 1 => ("BidLanguage$Auction", "start", "LBidLanguage$Position;", true)
  | 2 => ("BidLanguage$Auction", "now", "LBidLanguage$Position;", false)
  | _ => ("BidLanguage$Auction", "stuck", "Z", false)
def tyX0 : Nat → FieldType := fun k => match k with
  | 0 => .object "java/util/ArrayList"
  | 1 => .object "BidLanguage$Position"
  | 2 => .object "BidLanguage$Position"
  | _ => .boolean
abbrev wsX00 : List Cond := u_ws RX0 TX0 4
theorem nmX0 : ∀ a, a < 4 → ∀ b, b < 4 → a ≠ b → (TX0 a).2.1 ≠ (TX0 b).2.1 := by decide +kernel
theorem tyX0_ok : ∀ k, k < 4 → parseFieldDescriptor (TX0 k).2.2.1 = some (tyX0 k) := by decide +kernel
abbrev cX0_init : ByteArray := prog_2_method_1_code
abbrev yX0_init : MethodName := ⟨RX0, "<init>", "()V"⟩
abbrev cX0_restart : ByteArray := prog_2_method_2_code
abbrev yX0_restart : MethodName := ⟨RX0, "restart", "()V"⟩
abbrev cX0_turn : ByteArray := prog_2_method_3_code
abbrev yX0_turn : MethodName := ⟨RX0, "turn", "()I"⟩
abbrev cX0_isOver : ByteArray := prog_2_method_4_code
abbrev yX0_isOver : MethodName := ⟨RX0, "isOver", "()Z"⟩
abbrev cX0_hasPass : ByteArray := prog_2_method_5_code
abbrev yX0_hasPass : MethodName := ⟨RX0, "hasPass", "()Z"⟩
abbrev cX0_ending : ByteArray := prog_2_method_6_code
abbrev yX0_ending : MethodName := ⟨RX0, "ending", "()I"⟩
abbrev cX0_add : ByteArray := prog_2_method_7_code
abbrev yX0_add : MethodName := ⟨RX0, "add", "(LBidLanguage$Rule;I)V"⟩
abbrev cX0_takeBack : ByteArray := prog_2_method_8_code
abbrev yX0_takeBack : MethodName := ⟨RX0, "takeBack", "()Z"⟩
abbrev RX1 : String := "BidLanguage$Cards"
def TX1 : u_T := fun k => match k with
  | _ => ("", "", "", false)
def tyX1 : Nat → FieldType := fun k => match k with
  | _ => .int
abbrev wsX10 : List Cond := u_ws RX1 TX1 0
theorem nmX1 : ∀ a, a < 0 → ∀ b, b < 0 → a ≠ b → (TX1 a).2.1 ≠ (TX1 b).2.1 := by decide +kernel
theorem tyX1_ok : ∀ k, k < 0 → parseFieldDescriptor (TX1 k).2.2.1 = some (tyX1 k) := by decide +kernel
abbrev cX1_isSet : ByteArray := prog_3_method_2_code
abbrev yX1_isSet : MethodName := ⟨RX1, "isSet", "(I)Z"⟩
abbrev cX1_isHand : ByteArray := prog_3_method_3_code
abbrev yX1_isHand : MethodName := ⟨RX1, "isHand", "(I)Z"⟩
abbrev cX1_handAfter : ByteArray := prog_3_method_4_code
abbrev yX1_handAfter : MethodName := ⟨RX1, "handAfter", "(I)I"⟩
abbrev cX1_cardAt : ByteArray := prog_3_method_5_code
abbrev yX1_cardAt : MethodName := ⟨RX1, "cardAt", "(II)I"⟩
abbrev cX1_ofSuit : ByteArray := prog_3_method_6_code
abbrev yX1_ofSuit : MethodName := ⟨RX1, "ofSuit", "(II)I"⟩
abbrev cX1_measure : ByteArray := prog_3_method_7_code
abbrev yX1_measure : MethodName := ⟨RX1, "measure", "(II)I"⟩
abbrev cX1_greatestMeasure : ByteArray := prog_3_method_8_code
abbrev yX1_greatestMeasure : MethodName := ⟨RX1, "greatestMeasure", "(I)I"⟩
abbrev cX1_strength : ByteArray := prog_3_method_9_code
abbrev yX1_strength : MethodName := ⟨RX1, "strength", "(I)I"⟩
abbrev cX1_profile : ByteArray := prog_3_method_10_code
abbrev yX1_profile : MethodName := ⟨RX1, "profile", "(I)I"⟩
abbrev cX1_shownNumber : ByteArray := prog_3_method_11_code
abbrev yX1_shownNumber : MethodName := ⟨RX1, "shownNumber", "(II)I"⟩
abbrev cX1_joinShown : ByteArray := prog_3_method_12_code
abbrev yX1_joinShown : MethodName := ⟨RX1, "joinShown", "(III)I"⟩
abbrev cX1_tricksOf : ByteArray := prog_3_method_13_code
abbrev yX1_tricksOf : MethodName := ⟨RX1, "tricksOf", "(III)I"⟩
abbrev cX1_winners : ByteArray := prog_3_method_14_code
abbrev yX1_winners : MethodName := ⟨RX1, "winners", "(II)I"⟩
abbrev cX1_ruffs : ByteArray := prog_3_method_15_code
abbrev yX1_ruffs : MethodName := ⟨RX1, "ruffs", "(IIII)I"⟩
abbrev RX2 : String := "BidLanguage$MadeCall"
def TX2 : u_T := fun k => match k with
  | 0 => ("BidLanguage$MadeCall", "call", "I", true)
  | 1 => ("BidLanguage$MadeCall", "rule", "I", true)
  | _ => ("BidLanguage$MadeCall", "before", "LBidLanguage$Position;", true)
def tyX2 : Nat → FieldType := fun k => match k with
  | 0 => .int
  | 1 => .int
  | _ => .object "BidLanguage$Position"
abbrev wsX20 : List Cond := u_ws RX2 TX2 3
theorem nmX2 : ∀ a, a < 3 → ∀ b, b < 3 → a ≠ b → (TX2 a).2.1 ≠ (TX2 b).2.1 := by decide +kernel
theorem tyX2_ok : ∀ k, k < 3 → parseFieldDescriptor (TX2 k).2.2.1 = some (tyX2 k) := by decide +kernel
abbrev cX2_init : ByteArray := prog_4_method_1_code
abbrev yX2_init : MethodName := ⟨RX2, "<init>", "(IILBidLanguage$Position;)V"⟩
abbrev cX2_number : ByteArray := prog_4_method_2_code
abbrev yX2_number : MethodName := ⟨RX2, "number", "(I)I"⟩
abbrev RX3 : String := "BidLanguage$Position"
def TX3 : u_T := fun k => match k with
  | 0 => ("BidLanguage$Position", "state", "I", true)
  | 1 => ("BidLanguage$Position", "last", "I", true)
  | _ => ("BidLanguage$Position", "force", "I", true)
def tyX3 : Nat → FieldType := fun k => match k with
  | 0 => .int
  | 1 => .int
  | _ => .int
abbrev wsX30 : List Cond := u_ws RX3 TX3 3
theorem nmX3 : ∀ a, a < 3 → ∀ b, b < 3 → a ≠ b → (TX3 a).2.1 ≠ (TX3 b).2.1 := by decide +kernel
theorem tyX3_ok : ∀ k, k < 3 → parseFieldDescriptor (TX3 k).2.2.1 = some (tyX3 k) := by decide +kernel
abbrev cX3_init : ByteArray := prog_5_method_1_code
abbrev yX3_init : MethodName := ⟨RX3, "<init>", "(III)V"⟩
abbrev RX4 : String := "BidLanguage$Rule"
def TX4 : u_T := fun k => match k with
  | 0 => ("BidLanguage$Rule", "state", "I", false)
  | 1 => ("BidLanguage$Rule", "call", "I", false)
  | 2 => ("BidLanguage$Rule", "next", "I", false)
  | 3 => ("BidLanguage$Rule", "force", "I", false)
  | 4 => ("BidLanguage$Rule", "least", "I", false)
  | _ => ("BidLanguage$Rule", "greatest", "I", false)
def tyX4 : Nat → FieldType := fun k => match k with
  | 0 => .int
  | 1 => .int
  | 2 => .int
  | 3 => .int
  | 4 => .int
  | _ => .int
abbrev wsX40 : List Cond := u_ws RX4 TX4 6
theorem nmX4 : ∀ a, a < 6 → ∀ b, b < 6 → a ≠ b → (TX4 a).2.1 ≠ (TX4 b).2.1 := by decide +kernel
theorem tyX4_ok : ∀ k, k < 6 → parseFieldDescriptor (TX4 k).2.2.1 = some (tyX4 k) := by decide +kernel
abbrev cX4_init : ByteArray := prog_6_method_1_code
abbrev yX4_init : MethodName := ⟨RX4, "<init>", "(IIII)V"⟩
abbrev cX4_setRange : ByteArray := prog_6_method_2_code
abbrev yX4_setRange : MethodName := ⟨RX4, "setRange", "(III)V"⟩
abbrev cX4_number : ByteArray := prog_6_method_3_code
abbrev yX4_number : MethodName := ⟨RX4, "number", "(I)I"⟩
abbrev cX4_admits : ByteArray := prog_6_method_4_code
abbrev yX4_admits : MethodName := ⟨RX4, "admits", "(I)Z"⟩
abbrev cX4_isOpen : ByteArray := prog_6_method_5_code
abbrev yX4_isOpen : MethodName := ⟨RX4, "isOpen", "(LBidLanguage$Position;)Z"⟩
abbrev RX5 : String := "BidLanguage$RuleReader"
def TX5 : u_T := fun k => match k with
  | 0 => ("BidLanguage$RuleReader", "text", "Ljava/lang/StringBuilder;", true)
  | 1 => ("BidLanguage$RuleReader", "rule", "LBidLanguage$Rule;", true)
  | 2 => ("BidLanguage$RuleReader", "at", "I", false)
  | _ => ("BidLanguage$RuleReader", "limited", "I", false)
def tyX5 : Nat → FieldType := fun k => match k with
  | 0 => .object "java/lang/StringBuilder"
  | 1 => .object "BidLanguage$Rule"
  | 2 => .int
  | _ => .int
abbrev wsX50 : List Cond := u_ws RX5 TX5 4
theorem nmX5 : ∀ a, a < 4 → ∀ b, b < 4 → a ≠ b → (TX5 a).2.1 ≠ (TX5 b).2.1 := by decide +kernel
theorem tyX5_ok : ∀ k, k < 4 → parseFieldDescriptor (TX5 k).2.2.1 = some (tyX5 k) := by decide +kernel
abbrev cX5_init : ByteArray := prog_7_method_1_code
abbrev yX5_init : MethodName := ⟨RX5, "<init>", "(Ljava/lang/StringBuilder;)V"⟩
abbrev cX5_readsWhole : ByteArray := prog_7_method_2_code
abbrev yX5_readsWhole : MethodName := ⟨RX5, "readsWhole", "()Z"⟩
abbrev cX5_readsHead : ByteArray := prog_7_method_3_code
abbrev yX5_readsHead : MethodName := ⟨RX5, "readsHead", "()Z"⟩
abbrev cX5_readCall : ByteArray := prog_7_method_4_code
abbrev yX5_readCall : MethodName := ⟨RX5, "readCall", "()I"⟩
abbrev cX5_readKind : ByteArray := prog_7_method_5_code
abbrev yX5_readKind : MethodName := ⟨RX5, "readKind", "()I"⟩
abbrev cX5_readsRange : ByteArray := prog_7_method_6_code
abbrev yX5_readsRange : MethodName := ⟨RX5, "readsRange", "(I)Z"⟩
abbrev cX5_readNumber : ByteArray := prog_7_method_7_code
abbrev yX5_readNumber : MethodName := ⟨RX5, "readNumber", "(I)I"⟩
abbrev cX5_readDigit : ByteArray := prog_7_method_8_code
abbrev yX5_readDigit : MethodName := ⟨RX5, "readDigit", "(II)I"⟩
abbrev cX5_reads : ByteArray := prog_7_method_9_code
abbrev yX5_reads : MethodName := ⟨RX5, "reads", "(C)Z"⟩
abbrev cX5_suitOfSign : ByteArray := prog_7_method_10_code
abbrev yX5_suitOfSign : MethodName := ⟨RX5, "suitOfSign", "()I"⟩
abbrev cX5_sign : ByteArray := prog_7_method_11_code
abbrev yX5_sign : MethodName := ⟨RX5, "sign", "()I"⟩
abbrev RX6 : String := "BidLanguage"
def TX6 : u_T := fun k => match k with
  | 0 => ("BidLanguage", "rules", "Ljava/util/ArrayList;", true)
  | 1 => ("BidLanguage", "auction", "LBidLanguage$Auction;", true)
  | 2 => ("BidLanguage", "pad", "Ljava/lang/StringBuilder;", true)
  | 3 => ("BidLanguage", "firstHand", "I", false)
  | _ => ("BidLanguage", "secondHand", "I", false)
def tyX6 : Nat → FieldType := fun k => match k with
  | 0 => .object "java/util/ArrayList"
  | 1 => .object "BidLanguage$Auction"
  | 2 => .object "java/lang/StringBuilder"
  | 3 => .int
  | _ => .int
abbrev wsX60 : List Cond := u_ws RX6 TX6 5
theorem nmX6 : ∀ a, a < 5 → ∀ b, b < 5 → a ≠ b → (TX6 a).2.1 ≠ (TX6 b).2.1 := by decide +kernel
theorem tyX6_ok : ∀ k, k < 5 → parseFieldDescriptor (TX6 k).2.2.1 = some (tyX6 k) := by decide +kernel
abbrev cX6_init : ByteArray := prog_1_method_1_code
abbrev yX6_init : MethodName := ⟨RX6, "<init>", "()V"⟩
abbrev cX6_rule : ByteArray := prog_1_method_2_code
abbrev yX6_rule : MethodName := ⟨RX6, "rule", "(IIII)I"⟩
abbrev cX6_limit : ByteArray := prog_1_method_3_code
abbrev yX6_limit : MethodName := ⟨RX6, "limit", "(IIII)I"⟩
abbrev cX6_remove : ByteArray := prog_1_method_4_code
abbrev yX6_remove : MethodName := ⟨RX6, "remove", "(I)I"⟩
abbrev cX6_move : ByteArray := prog_1_method_5_code
abbrev yX6_move : MethodName := ⟨RX6, "move", "(II)I"⟩
abbrev cX6_part : ByteArray := prog_1_method_6_code
abbrev yX6_part : MethodName := ⟨RX6, "part", "(II)I"⟩
abbrev cX6_give : ByteArray := prog_1_method_7_code
abbrev yX6_give : MethodName := ⟨RX6, "give", "(II)I"⟩
abbrev cX6_draw : ByteArray := prog_1_method_8_code
abbrev yX6_draw : MethodName := ⟨RX6, "draw", "(I)I"⟩
abbrev cX6_hand : ByteArray := prog_1_method_9_code
abbrev yX6_hand : MethodName := ⟨RX6, "hand", "(II)I"⟩
abbrev cX6_begin : ByteArray := prog_1_method_10_code
abbrev yX6_begin : MethodName := ⟨RX6, "begin", "()I"⟩
abbrev cX6_call : ByteArray := prog_1_method_11_code
abbrev yX6_call : MethodName := ⟨RX6, "call", "()I"⟩
abbrev cX6_make : ByteArray := prog_1_method_12_code
abbrev yX6_make : MethodName := ⟨RX6, "make", "(I)I"⟩
abbrev cX6_back : ByteArray := prog_1_method_13_code
abbrev yX6_back : MethodName := ⟨RX6, "back", "()I"⟩
abbrev cX6_made : ByteArray := prog_1_method_14_code
abbrev yX6_made : MethodName := ⟨RX6, "made", "(II)I"⟩
abbrev cX6_state : ByteArray := prog_1_method_15_code
abbrev yX6_state : MethodName := ⟨RX6, "state", "(I)I"⟩
abbrev cX6_hands : ByteArray := prog_1_method_16_code
abbrev yX6_hands : MethodName := ⟨RX6, "hands", "(II)I"⟩
abbrev cX6_shown : ByteArray := prog_1_method_17_code
abbrev yX6_shown : MethodName := ⟨RX6, "shown", "(III)I"⟩
abbrev cX6_fits : ByteArray := prog_1_method_18_code
abbrev yX6_fits : MethodName := ⟨RX6, "fits", "(II)I"⟩
abbrev cX6_ruleOf : ByteArray := prog_1_method_19_code
abbrev yX6_ruleOf : MethodName := ⟨RX6, "ruleOf", "(I)I"⟩
abbrev cX6_reach : ByteArray := prog_1_method_20_code
abbrev yX6_reach : MethodName := ⟨RX6, "reach", "(I)I"⟩
abbrev cX6_holes : ByteArray := prog_1_method_21_code
abbrev yX6_holes : MethodName := ⟨RX6, "holes", "(III)I"⟩
abbrev cX6_tricks : ByteArray := prog_1_method_22_code
abbrev yX6_tricks : MethodName := ⟨RX6, "tricks", "(III)I"⟩
abbrev cX6_expected : ByteArray := prog_1_method_23_code
abbrev yX6_expected : MethodName := ⟨RX6, "expected", "(II)J"⟩
abbrev cX6_contract : ByteArray := prog_1_method_24_code
abbrev yX6_contract : MethodName := ⟨RX6, "contract", "(I)I"⟩
abbrev cX6_put : ByteArray := prog_1_method_25_code
abbrev yX6_put : MethodName := ⟨RX6, "put", "(J)I"⟩
abbrev cX6_wipe : ByteArray := prog_1_method_26_code
abbrev yX6_wipe : MethodName := ⟨RX6, "wipe", "()I"⟩
abbrev cX6_fault : ByteArray := prog_1_method_27_code
abbrev yX6_fault : MethodName := ⟨RX6, "fault", "()I"⟩
abbrev cX6_load : ByteArray := prog_1_method_28_code
abbrev yX6_load : MethodName := ⟨RX6, "load", "()I"⟩
abbrev cX6_isState : ByteArray := prog_1_method_29_code
abbrev yX6_isState : MethodName := ⟨RX6, "isState", "(I)Z"⟩
abbrev cX6_isCall : ByteArray := prog_1_method_30_code
abbrev yX6_isCall : MethodName := ⟨RX6, "isCall", "(I)Z"⟩
abbrev cX6_isFlag : ByteArray := prog_1_method_31_code
abbrev yX6_isFlag : MethodName := ⟨RX6, "isFlag", "(I)Z"⟩
abbrev cX6_isPartner : ByteArray := prog_1_method_32_code
abbrev yX6_isPartner : MethodName := ⟨RX6, "isPartner", "(I)Z"⟩
abbrev cX6_isStrain : ByteArray := prog_1_method_33_code
abbrev yX6_isStrain : MethodName := ⟨RX6, "isStrain", "(I)Z"⟩
abbrev cX6_isCharacter : ByteArray := prog_1_method_34_code
abbrev yX6_isCharacter : MethodName := ⟨RX6, "isCharacter", "(I)Z"⟩
abbrev cX6_isRule : ByteArray := prog_1_method_35_code
abbrev yX6_isRule : MethodName := ⟨RX6, "isRule", "(I)Z"⟩
abbrev cX6_handOf : ByteArray := prog_1_method_36_code
abbrev yX6_handOf : MethodName := ⟨RX6, "handOf", "(I)I"⟩
abbrev cX6_addRule : ByteArray := prog_1_method_37_code
abbrev yX6_addRule : MethodName := ⟨RX6, "addRule", "(LBidLanguage$Rule;)I"⟩
abbrev cX6_firstRule : ByteArray := prog_1_method_38_code
abbrev yX6_firstRule : MethodName := ⟨RX6, "firstRule", "(LBidLanguage$Position;I)I"⟩
abbrev cX6_openRule : ByteArray := prog_1_method_39_code
abbrev yX6_openRule : MethodName := ⟨RX6, "openRule", "(I)I"⟩
abbrev cX6_countAdmitted : ByteArray := prog_1_method_40_code
abbrev yX6_countAdmitted : MethodName := ⟨RX6, "countAdmitted", "(LBidLanguage$Rule;)I"⟩
abbrev cX6_countWithRule : ByteArray := prog_1_method_41_code
abbrev yX6_countWithRule : MethodName := ⟨RX6, "countWithRule", "(LBidLanguage$Position;I)I"⟩
abbrev cX6_fitsAuction : ByteArray := prog_1_method_42_code
abbrev yX6_fitsAuction : MethodName := ⟨RX6, "fitsAuction", "(II)Z"⟩
abbrev cX6_isHidden : ByteArray := prog_1_method_43_code
abbrev yX6_isHidden : MethodName := ⟨RX6, "isHidden", "(III)Z"⟩
abbrev cX6_countHidden : ByteArray := prog_1_method_44_code
abbrev yX6_countHidden : MethodName := ⟨RX6, "countHidden", "(II)I"⟩
abbrev cX6_sumOfTricks : ByteArray := prog_1_method_45_code
abbrev yX6_sumOfTricks : MethodName := ⟨RX6, "sumOfTricks", "(II)J"⟩
abbrev RX7 : String := "BidLanguageModel"
def TX7 : u_T := fun k => match k with
  | 0 => ("BidLanguageModel", "rules", "[I", true)
  | 1 => ("BidLanguageModel", "ruleMany", "I", false)
  | 2 => ("BidLanguageModel", "hand", "[I", true)
  | 3 => ("BidLanguageModel", "manyOf", "[I", true)
  | 4 => ("BidLanguageModel", "sumOf", "[I", true)
  | 5 => ("BidLanguageModel", "callAt", "[I", true)
  | 6 => ("BidLanguageModel", "ruleAt", "[I", true)
  | 7 => ("BidLanguageModel", "stateAt", "[I", true)
  | 8 => ("BidLanguageModel", "forcedAt", "[I", true)
  | 9 => ("BidLanguageModel", "lastAt", "[I", true)
  | 10 => ("BidLanguageModel", "calls", "I", false)
  | 11 => ("BidLanguageModel", "isStuck", "Z", false)
  | 12 => ("BidLanguageModel", "pad", "[I", true)
  | 13 => ("BidLanguageModel", "padMany", "I", false)
  | 14 => ("BidLanguageModel", "fresh", "[I", true)
  | 15 => ("BidLanguageModel", "sums", "[J", true)
  | 16 => ("BidLanguageModel", "handMany", "I", false)
  | 17 => ("BidLanguageModel", "spot", "I", false)
  | _ => ("BidLanguageModel", "isWrong", "Z", false)
def tyX7 : Nat → FieldType := fun k => match k with
  | 0 => .array .int
  | 1 => .int
  | 2 => .array .int
  | 3 => .array .int
  | 4 => .array .int
  | 5 => .array .int
  | 6 => .array .int
  | 7 => .array .int
  | 8 => .array .int
  | 9 => .array .int
  | 10 => .int
  | 11 => .boolean
  | 12 => .array .int
  | 13 => .int
  | 14 => .array .int
  | 15 => .array .long
  | 16 => .int
  | 17 => .int
  | _ => .boolean
abbrev wsX70 : List Cond := u_ws RX7 TX7 19
theorem nmX7 : ∀ a, a < 19 → ∀ b, b < 19 → a ≠ b → (TX7 a).2.1 ≠ (TX7 b).2.1 := by decide +kernel
theorem tyX7_ok : ∀ k, k < 19 → parseFieldDescriptor (TX7 k).2.2.1 = some (tyX7 k) := by decide +kernel
abbrev cX7_init : ByteArray := prog_9_method_1_code
abbrev yX7_init : MethodName := ⟨RX7, "<init>", "()V"⟩
abbrev cX7_in : ByteArray := prog_9_method_3_code
abbrev yX7_in : MethodName := ⟨RX7, "in", "(III)Z"⟩
abbrev cX7_length : ByteArray := prog_9_method_4_code
abbrev yX7_length : MethodName := ⟨RX7, "length", "(II)I"⟩
abbrev cX7_strength : ByteArray := prog_9_method_5_code
abbrev yX7_strength : MethodName := ⟨RX7, "strength", "(I)I"⟩
abbrev cX7_size : ByteArray := prog_9_method_6_code
abbrev yX7_size : MethodName := ⟨RX7, "size", "(I)I"⟩
abbrev cX7_isHand : ByteArray := prog_9_method_7_code
abbrev yX7_isHand : MethodName := ⟨RX7, "isHand", "(I)Z"⟩
abbrev cX7_nextHand : ByteArray := prog_9_method_8_code
abbrev yX7_nextHand : MethodName := ⟨RX7, "nextHand", "(I)I"⟩
abbrev cX7_of : ByteArray := prog_9_method_9_code
abbrev yX7_of : MethodName := ⟨RX7, "of", "(II)I"⟩
abbrev cX7_isRule : ByteArray := prog_9_method_10_code
abbrev yX7_isRule : MethodName := ⟨RX7, "isRule", "(I)Z"⟩
abbrev cX7_anew : ByteArray := prog_9_method_11_code
abbrev yX7_anew : MethodName := ⟨RX7, "anew", "()V"⟩
abbrev cX7_fitsRule : ByteArray := prog_9_method_12_code
abbrev yX7_fitsRule : MethodName := ⟨RX7, "fitsRule", "(II)Z"⟩
abbrev cX7_isThere : ByteArray := prog_9_method_13_code
abbrev yX7_isThere : MethodName := ⟨RX7, "isThere", "(II)Z"⟩
abbrev cX7_clearFresh : ByteArray := prog_9_method_14_code
abbrev yX7_clearFresh : MethodName := ⟨RX7, "clearFresh", "()V"⟩
abbrev cX7_addFresh : ByteArray := prog_9_method_15_code
abbrev yX7_addFresh : MethodName := ⟨RX7, "addFresh", "()I"⟩
abbrev cX7_rule : ByteArray := prog_9_method_16_code
abbrev yX7_rule : MethodName := ⟨RX7, "rule", "(IIII)I"⟩
abbrev cX7_limit : ByteArray := prog_9_method_17_code
abbrev yX7_limit : MethodName := ⟨RX7, "limit", "(IIII)I"⟩
abbrev cX7_takeOut : ByteArray := prog_9_method_18_code
abbrev yX7_takeOut : MethodName := ⟨RX7, "takeOut", "(I)V"⟩
abbrev cX7_remove : ByteArray := prog_9_method_19_code
abbrev yX7_remove : MethodName := ⟨RX7, "remove", "(I)I"⟩
abbrev cX7_move : ByteArray := prog_9_method_20_code
abbrev yX7_move : MethodName := ⟨RX7, "move", "(II)I"⟩
abbrev cX7_part : ByteArray := prog_9_method_21_code
abbrev yX7_part : MethodName := ⟨RX7, "part", "(II)I"⟩
abbrev cX7_isPartner : ByteArray := prog_9_method_22_code
abbrev yX7_isPartner : MethodName := ⟨RX7, "isPartner", "(I)Z"⟩
abbrev cX7_give : ByteArray := prog_9_method_23_code
abbrev yX7_give : MethodName := ⟨RX7, "give", "(II)I"⟩
abbrev cX7_cardLeft : ByteArray := prog_9_method_24_code
abbrev yX7_cardLeft : MethodName := ⟨RX7, "cardLeft", "(II)I"⟩
abbrev cX7_draw : ByteArray := prog_9_method_25_code
abbrev yX7_draw : MethodName := ⟨RX7, "draw", "(I)I"⟩
abbrev cX7_hand : ByteArray := prog_9_method_26_code
abbrev yX7_hand : MethodName := ⟨RX7, "hand", "(II)I"⟩
abbrev cX7_isOpen : ByteArray := prog_9_method_27_code
abbrev yX7_isOpen : MethodName := ⟨RX7, "isOpen", "(IIII)Z"⟩
abbrev cX7_ruleFor : ByteArray := prog_9_method_28_code
abbrev yX7_ruleFor : MethodName := ⟨RX7, "ruleFor", "(IIII)I"⟩
abbrev cX7_isOver : ByteArray := prog_9_method_29_code
abbrev yX7_isOver : MethodName := ⟨RX7, "isOver", "()Z"⟩
abbrev cX7_callBy : ByteArray := prog_9_method_30_code
abbrev yX7_callBy : MethodName := ⟨RX7, "callBy", "(I)V"⟩
abbrev cX7_begin : ByteArray := prog_9_method_31_code
abbrev yX7_begin : MethodName := ⟨RX7, "begin", "()I"⟩
abbrev cX7_call : ByteArray := prog_9_method_32_code
abbrev yX7_call : MethodName := ⟨RX7, "call", "()I"⟩
abbrev cX7_make : ByteArray := prog_9_method_33_code
abbrev yX7_make : MethodName := ⟨RX7, "make", "(I)I"⟩
abbrev cX7_back : ByteArray := prog_9_method_34_code
abbrev yX7_back : MethodName := ⟨RX7, "back", "()I"⟩
abbrev cX7_made : ByteArray := prog_9_method_35_code
abbrev yX7_made : MethodName := ⟨RX7, "made", "(II)I"⟩
abbrev cX7_state : ByteArray := prog_9_method_36_code
abbrev yX7_state : MethodName := ⟨RX7, "state", "(I)I"⟩
abbrev cX7_fitsAuction : ByteArray := prog_9_method_37_code
abbrev yX7_fitsAuction : MethodName := ⟨RX7, "fitsAuction", "(II)Z"⟩
abbrev cX7_hands : ByteArray := prog_9_method_38_code
abbrev yX7_hands : MethodName := ⟨RX7, "hands", "(II)I"⟩
abbrev cX7_shownOf : ByteArray := prog_9_method_39_code
abbrev yX7_shownOf : MethodName := ⟨RX7, "shownOf", "(II)I"⟩
abbrev cX7_joined : ByteArray := prog_9_method_40_code
abbrev yX7_joined : MethodName := ⟨RX7, "joined", "(III)I"⟩
abbrev cX7_shown : ByteArray := prog_9_method_41_code
abbrev yX7_shown : MethodName := ⟨RX7, "shown", "(III)I"⟩
abbrev cX7_fits : ByteArray := prog_9_method_42_code
abbrev yX7_fits : MethodName := ⟨RX7, "fits", "(II)I"⟩
abbrev cX7_ruleOf : ByteArray := prog_9_method_43_code
abbrev yX7_ruleOf : MethodName := ⟨RX7, "ruleOf", "(I)I"⟩
abbrev cX7_manyWith : ByteArray := prog_9_method_44_code
abbrev yX7_manyWith : MethodName := ⟨RX7, "manyWith", "(IIII)I"⟩
abbrev cX7_reach : ByteArray := prog_9_method_45_code
abbrev yX7_reach : MethodName := ⟨RX7, "reach", "(I)I"⟩
abbrev cX7_holes : ByteArray := prog_9_method_46_code
abbrev yX7_holes : MethodName := ⟨RX7, "holes", "(III)I"⟩
abbrev cX7_winners : ByteArray := prog_9_method_47_code
abbrev yX7_winners : MethodName := ⟨RX7, "winners", "(III)I"⟩
abbrev cX7_ruffs : ByteArray := prog_9_method_48_code
abbrev yX7_ruffs : MethodName := ⟨RX7, "ruffs", "(IIII)Z"⟩
abbrev cX7_tricksOf : ByteArray := prog_9_method_49_code
abbrev yX7_tricksOf : MethodName := ⟨RX7, "tricksOf", "(III)I"⟩
abbrev cX7_tricks : ByteArray := prog_9_method_50_code
abbrev yX7_tricks : MethodName := ⟨RX7, "tricks", "(III)I"⟩
abbrev cX7_laySums : ByteArray := prog_9_method_51_code
abbrev yX7_laySums : MethodName := ⟨RX7, "laySums", "(I)V"⟩
abbrev cX7_expected : ByteArray := prog_9_method_52_code
abbrev yX7_expected : MethodName := ⟨RX7, "expected", "(II)J"⟩
abbrev cX7_contract : ByteArray := prog_9_method_53_code
abbrev yX7_contract : MethodName := ⟨RX7, "contract", "(I)I"⟩
abbrev cX7_put : ByteArray := prog_9_method_54_code
abbrev yX7_put : MethodName := ⟨RX7, "put", "(J)I"⟩
abbrev cX7_wipe : ByteArray := prog_9_method_55_code
abbrev yX7_wipe : MethodName := ⟨RX7, "wipe", "()I"⟩
abbrev cX7_next : ByteArray := prog_9_method_56_code
abbrev yX7_next : MethodName := ⟨RX7, "next", "()I"⟩
abbrev cX7_takeOne : ByteArray := prog_9_method_57_code
abbrev yX7_takeOne : MethodName := ⟨RX7, "takeOne", "(II)I"⟩
abbrev cX7_suitBy : ByteArray := prog_9_method_58_code
abbrev yX7_suitBy : MethodName := ⟨RX7, "suitBy", "(I)I"⟩
abbrev cX7_takeNumber : ByteArray := prog_9_method_59_code
abbrev yX7_takeNumber : MethodName := ⟨RX7, "takeNumber", "(I)I"⟩
abbrev cX7_takeCall : ByteArray := prog_9_method_60_code
abbrev yX7_takeCall : MethodName := ⟨RX7, "takeCall", "()V"⟩
abbrev cX7_takeCondition : ByteArray := prog_9_method_61_code
abbrev yX7_takeCondition : MethodName := ⟨RX7, "takeCondition", "(I)I"⟩
abbrev cX7_fault : ByteArray := prog_9_method_62_code
abbrev yX7_fault : MethodName := ⟨RX7, "fault", "()I"⟩
abbrev cX7_load : ByteArray := prog_9_method_63_code
abbrev yX7_load : MethodName := ⟨RX7, "load", "()I"⟩
abbrev RJx145de : String := "java/io/Serializable"
def TJx145de : u_T := fun k => match k with
  | _ => ("", "", "", false)
def tyJx145de : Nat → FieldType := fun k => match k with
  | _ => .int
abbrev wsJx145de0 : List Cond := u_ws RJx145de TJx145de 0
theorem nmJx145de : ∀ a, a < 0 → ∀ b, b < 0 → a ≠ b → (TJx145de a).2.1 ≠ (TJx145de b).2.1 := by decide +kernel
theorem tyJx145de_ok : ∀ k, k < 0 → parseFieldDescriptor (TJx145de k).2.2.1 = some (tyJx145de k) := by decide +kernel
abbrev RJ5 : String := "java/lang/AbstractStringBuilder"
def TJ5 : u_T := fun k => match k with
  | _ => ("", "", "", false)
def tyJ5 : Nat → FieldType := fun k => match k with
  | _ => .int
abbrev wsJ50 : List Cond := u_ws RJ5 TJ5 0
theorem nmJ5 : ∀ a, a < 0 → ∀ b, b < 0 → a ≠ b → (TJ5 a).2.1 ≠ (TJ5 b).2.1 := by decide +kernel
theorem tyJ5_ok : ∀ k, k < 0 → parseFieldDescriptor (TJ5 k).2.2.1 = some (tyJ5 k) := by decide +kernel
abbrev cJ5_init_d00df : ByteArray := prog_11_method_2_code
abbrev yJ5_init_d00df : MethodName := ⟨RJ5, "<init>", "(I)V"⟩
abbrev cJ5_length_8abf5 : ByteArray := prog_11_method_6_code
abbrev yJ5_length_8abf5 : MethodName := ⟨RJ5, "length", "()I"⟩
abbrev cJ5_ensureCapacityInternal_d00df : ByteArray := prog_11_method_9_code
abbrev yJ5_ensureCapacityInternal_d00df : MethodName := ⟨RJ5, "ensureCapacityInternal", "(I)V"⟩
abbrev cJ5_newCapacity_0f7a4 : ByteArray := prog_11_method_10_code
abbrev yJ5_newCapacity_0f7a4 : MethodName := ⟨RJ5, "newCapacity", "(I)I"⟩
abbrev cJ5_inflate_da8c8 : ByteArray := prog_11_method_11_code
abbrev yJ5_inflate_da8c8 : MethodName := ⟨RJ5, "inflate", "()V"⟩
abbrev cJ5_setLength_d00df : ByteArray := prog_11_method_13_code
abbrev yJ5_setLength_d00df : MethodName := ⟨RJ5, "setLength", "(I)V"⟩
abbrev cJ5_charAt_5068e : ByteArray := prog_11_method_14_code
abbrev yJ5_charAt_5068e : MethodName := ⟨RJ5, "charAt", "(I)C"⟩
abbrev cJ5_append_3fe6f : ByteArray := prog_11_method_31_code
abbrev yJ5_append_3fe6f : MethodName := ⟨RJ5, "append", "(C)Ljava/lang/AbstractStringBuilder;"⟩
abbrev cJ5_isLatin1_aae02 : ByteArray := prog_11_method_68_code
abbrev yJ5_isLatin1_aae02 : MethodName := ⟨RJ5, "isLatin1", "()Z"⟩
abbrev RJx2cfe8 : String := "java/lang/Appendable"
def TJx2cfe8 : u_T := fun k => match k with
  | _ => ("", "", "", false)
def tyJx2cfe8 : Nat → FieldType := fun k => match k with
  | _ => .int
abbrev wsJx2cfe80 : List Cond := u_ws RJx2cfe8 TJx2cfe8 0
theorem nmJx2cfe8 : ∀ a, a < 0 → ∀ b, b < 0 → a ≠ b → (TJx2cfe8 a).2.1 ≠ (TJx2cfe8 b).2.1 := by decide +kernel
theorem tyJx2cfe8_ok : ∀ k, k < 0 → parseFieldDescriptor (TJx2cfe8 k).2.2.1 = some (tyJx2cfe8 k) := by decide +kernel
abbrev RJx9f9b0 : String := "java/lang/CharSequence"
def TJx9f9b0 : u_T := fun k => match k with
  | _ => ("", "", "", false)
def tyJx9f9b0 : Nat → FieldType := fun k => match k with
  | _ => .int
abbrev wsJx9f9b00 : List Cond := u_ws RJx9f9b0 TJx9f9b0 0
theorem nmJx9f9b0 : ∀ a, a < 0 → ∀ b, b < 0 → a ≠ b → (TJx9f9b0 a).2.1 ≠ (TJx9f9b0 b).2.1 := by decide +kernel
theorem tyJx9f9b0_ok : ∀ k, k < 0 → parseFieldDescriptor (TJx9f9b0 k).2.2.1 = some (tyJx9f9b0 k) := by decide +kernel
abbrev RJx8e188 : String := "java/lang/Cloneable"
def TJx8e188 : u_T := fun k => match k with
  | _ => ("", "", "", false)
def tyJx8e188 : Nat → FieldType := fun k => match k with
  | _ => .int
abbrev wsJx8e1880 : List Cond := u_ws RJx8e188 TJx8e188 0
theorem nmJx8e188 : ∀ a, a < 0 → ∀ b, b < 0 → a ≠ b → (TJx8e188 a).2.1 ≠ (TJx8e188 b).2.1 := by decide +kernel
theorem tyJx8e188_ok : ∀ k, k < 0 → parseFieldDescriptor (TJx8e188 k).2.2.1 = some (tyJx8e188 k) := by decide +kernel
abbrev RJxb160c : String := "java/lang/Comparable"
def TJxb160c : u_T := fun k => match k with
  | _ => ("", "", "", false)
def tyJxb160c : Nat → FieldType := fun k => match k with
  | _ => .int
abbrev wsJxb160c0 : List Cond := u_ws RJxb160c TJxb160c 0
theorem nmJxb160c : ∀ a, a < 0 → ∀ b, b < 0 → a ≠ b → (TJxb160c a).2.1 ≠ (TJxb160c b).2.1 := by decide +kernel
theorem tyJxb160c_ok : ∀ k, k < 0 → parseFieldDescriptor (TJxb160c k).2.2.1 = some (tyJxb160c k) := by decide +kernel
abbrev RJ6 : String := "java/lang/Integer"
def TJ6 : u_T := fun k => match k with
  | _ => ("", "", "", false)
def tyJ6 : Nat → FieldType := fun k => match k with
  | _ => .int
abbrev wsJ60 : List Cond := u_ws RJ6 TJ6 0
theorem nmJ6 : ∀ a, a < 0 → ∀ b, b < 0 → a ≠ b → (TJ6 a).2.1 ≠ (TJ6 b).2.1 := by decide +kernel
theorem tyJ6_ok : ∀ k, k < 0 → parseFieldDescriptor (TJ6 k).2.2.1 = some (tyJ6 k) := by decide +kernel
abbrev cJ6_numberOfTrailingZeros_0f7a4 : ByteArray := prog_16_method_48_code
abbrev yJ6_numberOfTrailingZeros_0f7a4 : MethodName := ⟨RJ6, "numberOfTrailingZeros", "(I)I"⟩
abbrev cJ6_bitCount_0f7a4 : ByteArray := prog_16_method_49_code
abbrev yJ6_bitCount_0f7a4 : MethodName := ⟨RJ6, "bitCount", "(I)I"⟩
abbrev RJxab1ab : String := "java/lang/Iterable"
def TJxab1ab : u_T := fun k => match k with
  | _ => ("", "", "", false)
def tyJxab1ab : Nat → FieldType := fun k => match k with
  | _ => .int
abbrev wsJxab1ab0 : List Cond := u_ws RJxab1ab TJxab1ab 0
theorem nmJxab1ab : ∀ a, a < 0 → ∀ b, b < 0 → a ≠ b → (TJxab1ab a).2.1 ≠ (TJxab1ab b).2.1 := by decide +kernel
theorem tyJxab1ab_ok : ∀ k, k < 0 → parseFieldDescriptor (TJxab1ab k).2.2.1 = some (tyJxab1ab k) := by decide +kernel
abbrev RJ9 : String := "java/lang/Math"
def TJ9 : u_T := fun k => match k with
  | _ => ("", "", "", false)
def tyJ9 : Nat → FieldType := fun k => match k with
  | _ => .int
abbrev wsJ90 : List Cond := u_ws RJ9 TJ9 0
theorem nmJ9 : ∀ a, a < 0 → ∀ b, b < 0 → a ≠ b → (TJ9 a).2.1 ≠ (TJ9 b).2.1 := by decide +kernel
theorem tyJ9_ok : ∀ k, k < 0 → parseFieldDescriptor (TJ9 k).2.2.1 = some (tyJ9 k) := by decide +kernel
abbrev cJ9_max_7cf53 : ByteArray := prog_18_method_65_code
abbrev yJ9_max_7cf53 : MethodName := ⟨RJ9, "max", "(II)I"⟩
abbrev cJ9_min_7cf53 : ByteArray := prog_18_method_69_code
abbrev yJ9_min_7cf53 : MethodName := ⟨RJ9, "min", "(II)I"⟩
abbrev RJ0 : String := "java/lang/String"
def TJ0 : u_T := fun k => match k with
  | _ => ("", "", "", false)
def tyJ0 : Nat → FieldType := fun k => match k with
  | _ => .int
abbrev wsJ00 : List Cond := u_ws RJ0 TJ0 0
theorem nmJ0 : ∀ a, a < 0 → ∀ b, b < 0 → a ≠ b → (TJ0 a).2.1 ≠ (TJ0 b).2.1 := by decide +kernel
theorem tyJ0_ok : ∀ k, k < 0 → parseFieldDescriptor (TJ0 k).2.2.1 = some (tyJ0 k) := by decide +kernel
abbrev cJ0_checkIndex_df160 : ByteArray := prog_19_method_155_code
abbrev yJ0_checkIndex_df160 : MethodName := ⟨RJ0, "checkIndex", "(II)V"⟩
abbrev cJ0_checkBoundsOffCount_cabcc : ByteArray := prog_19_method_157_code
abbrev yJ0_checkBoundsOffCount_cabcc : MethodName := ⟨RJ0, "checkBoundsOffCount", "(III)I"⟩
abbrev RJ4 : String := "java/lang/StringBuilder"
def TJ4 : u_T := fun k => match k with
  | 0 => ("java/lang/AbstractStringBuilder", "value", "[B", false)
  | 1 => ("java/lang/AbstractStringBuilder", "coder", "B", false)
  | 2 => ("java/lang/AbstractStringBuilder", "maybeLatin1", "Z", false)
  | _ => ("java/lang/AbstractStringBuilder", "count", "I", false)
def tyJ4 : Nat → FieldType := fun k => match k with
  | 0 => .array .byte
  | 1 => .byte
  | 2 => .boolean
  | _ => .int
abbrev wsJ40 : List Cond := u_ws RJ4 TJ4 4
theorem nmJ4 : ∀ a, a < 4 → ∀ b, b < 4 → a ≠ b → (TJ4 a).2.1 ≠ (TJ4 b).2.1 := by decide +kernel
theorem tyJ4_ok : ∀ k, k < 4 → parseFieldDescriptor (TJ4 k).2.2.1 = some (tyJ4 k) := by decide +kernel
abbrev cJ4_init_da8c8 : ByteArray := prog_20_method_1_code
abbrev yJ4_init_da8c8 : MethodName := ⟨RJ4, "<init>", "()V"⟩
abbrev cJ4_append_cf468 : ByteArray := prog_20_method_14_code
abbrev yJ4_append_cf468 : MethodName := ⟨RJ4, "append", "(C)Ljava/lang/StringBuilder;"⟩
abbrev cJ4_charAt_5068e : ByteArray := prog_20_method_88_code
abbrev yJ4_charAt_5068e : MethodName := ⟨RJ4, "charAt", "(I)C"⟩
abbrev cJ4_setLength_d00df : ByteArray := prog_20_method_89_code
abbrev yJ4_setLength_d00df : MethodName := ⟨RJ4, "setLength", "(I)V"⟩
abbrev cJ4_length_8abf5 : ByteArray := prog_20_method_93_code
abbrev yJ4_length_8abf5 : MethodName := ⟨RJ4, "length", "()I"⟩
abbrev RJ1 : String := "java/lang/StringLatin1"
def TJ1 : u_T := fun k => match k with
  | _ => ("", "", "", false)
def tyJ1 : Nat → FieldType := fun k => match k with
  | _ => .int
abbrev wsJ10 : List Cond := u_ws RJ1 TJ1 0
theorem nmJ1 : ∀ a, a < 0 → ∀ b, b < 0 → a ≠ b → (TJ1 a).2.1 ≠ (TJ1 b).2.1 := by decide +kernel
theorem tyJ1_ok : ∀ k, k < 0 → parseFieldDescriptor (TJ1 k).2.2.1 = some (tyJ1 k) := by decide +kernel
abbrev cJ1_canEncode_fc78d : ByteArray := prog_21_method_3_code
abbrev yJ1_canEncode_fc78d : MethodName := ⟨RJ1, "canEncode", "(C)Z"⟩
abbrev cJ1_fillNull_b72d1 : ByteArray := prog_21_method_48_code
abbrev yJ1_fillNull_b72d1 : MethodName := ⟨RJ1, "fillNull", "([BII)V"⟩
abbrev cJ1_inflate_0e8fd : ByteArray := prog_21_method_50_code
abbrev yJ1_inflate_0e8fd : MethodName := ⟨RJ1, "inflate", "([BI[BII)V"⟩
abbrev RJ2 : String := "java/lang/StringUTF16"
def TJ2 : u_T := fun k => match k with
  | _ => ("", "", "", false)
def tyJ2 : Nat → FieldType := fun k => match k with
  | _ => .int
abbrev wsJ20 : List Cond := u_ws RJ2 TJ2 0
theorem nmJ2 : ∀ a, a < 0 → ∀ b, b < 0 → a ≠ b → (TJ2 a).2.1 ≠ (TJ2 b).2.1 := by decide +kernel
theorem tyJ2_ok : ∀ k, k < 0 → parseFieldDescriptor (TJ2 k).2.2.1 = some (tyJ2 k) := by decide +kernel
abbrev cJ2_newBytesFor_77867 : ByteArray := prog_22_method_2_code
abbrev yJ2_newBytesFor_77867 : MethodName := ⟨RJ2, "newBytesFor", "(I)[B"⟩
abbrev cJ2_newBytesLength_0f7a4 : ByteArray := prog_22_method_3_code
abbrev yJ2_newBytesLength_0f7a4 : MethodName := ⟨RJ2, "newBytesLength", "(I)I"⟩
abbrev cJ2_putChar_b72d1 : ByteArray := prog_22_method_4_code
abbrev yJ2_putChar_b72d1 : MethodName := ⟨RJ2, "putChar", "([BII)V"⟩
abbrev cJ2_getChar_3b067 : ByteArray := prog_22_method_5_code
abbrev yJ2_getChar_3b067 : MethodName := ⟨RJ2, "getChar", "([BI)C"⟩
abbrev cJ2_length_9d52b : ByteArray := prog_22_method_6_code
abbrev yJ2_length_9d52b : MethodName := ⟨RJ2, "length", "([B)I"⟩
abbrev cJ2_fillNull_b72d1 : ByteArray := prog_22_method_70_code
abbrev yJ2_fillNull_b72d1 : MethodName := ⟨RJ2, "fillNull", "([BII)V"⟩
abbrev cJ2_putCharSB_b72d1 : ByteArray := prog_22_method_71_code
abbrev yJ2_putCharSB_b72d1 : MethodName := ⟨RJ2, "putCharSB", "([BII)V"⟩
abbrev cJ2_inflate_0e8fd : ByteArray := prog_22_method_86_code
abbrev yJ2_inflate_0e8fd : MethodName := ⟨RJ2, "inflate", "([BI[BII)V"⟩
abbrev cJ2_checkIndex_2214a : ByteArray := prog_22_method_91_code
abbrev yJ2_checkIndex_2214a : MethodName := ⟨RJ2, "checkIndex", "(I[B)V"⟩
abbrev cJ2_checkBoundsOffCount_d044e : ByteArray := prog_22_method_94_code
abbrev yJ2_checkBoundsOffCount_d044e : MethodName := ⟨RJ2, "checkBoundsOffCount", "(II[B)V"⟩
abbrev RJ10 : String := "java/lang/System"
def TJ10 : u_T := fun k => match k with
  | _ => ("", "", "", false)
def tyJ10 : Nat → FieldType := fun k => match k with
  | _ => .int
abbrev wsJ100 : List Cond := u_ws RJ10 TJ10 0
theorem nmJ10 : ∀ a, a < 0 → ∀ b, b < 0 → a ≠ b → (TJ10 a).2.1 ≠ (TJ10 b).2.1 := by decide +kernel
theorem tyJ10_ok : ∀ k, k < 0 → parseFieldDescriptor (TJ10 k).2.2.1 = some (tyJ10 k) := by decide +kernel
abbrev RJxfd54e : String := "java/lang/constant/Constable"
def TJxfd54e : u_T := fun k => match k with
  | _ => ("", "", "", false)
def tyJxfd54e : Nat → FieldType := fun k => match k with
  | _ => .int
abbrev wsJxfd54e0 : List Cond := u_ws RJxfd54e TJxfd54e 0
theorem nmJxfd54e : ∀ a, a < 0 → ∀ b, b < 0 → a ≠ b → (TJxfd54e a).2.1 ≠ (TJxfd54e b).2.1 := by decide +kernel
theorem tyJxfd54e_ok : ∀ k, k < 0 → parseFieldDescriptor (TJxfd54e k).2.2.1 = some (tyJxfd54e k) := by decide +kernel
abbrev RJx3cf43 : String := "java/lang/constant/ConstantDesc"
def TJx3cf43 : u_T := fun k => match k with
  | _ => ("", "", "", false)
def tyJx3cf43 : Nat → FieldType := fun k => match k with
  | _ => .int
abbrev wsJx3cf430 : List Cond := u_ws RJx3cf43 TJx3cf43 0
theorem nmJx3cf43 : ∀ a, a < 0 → ∀ b, b < 0 → a ≠ b → (TJx3cf43 a).2.1 ≠ (TJx3cf43 b).2.1 := by decide +kernel
theorem tyJx3cf43_ok : ∀ k, k < 0 → parseFieldDescriptor (TJx3cf43 k).2.2.1 = some (tyJx3cf43 k) := by decide +kernel
abbrev RJxa1e45 : String := "java/util/AbstractCollection"
def TJxa1e45 : u_T := fun k => match k with
  | _ => ("", "", "", false)
def tyJxa1e45 : Nat → FieldType := fun k => match k with
  | _ => .int
abbrev wsJxa1e450 : List Cond := u_ws RJxa1e45 TJxa1e45 0
theorem nmJxa1e45 : ∀ a, a < 0 → ∀ b, b < 0 → a ≠ b → (TJxa1e45 a).2.1 ≠ (TJxa1e45 b).2.1 := by decide +kernel
theorem tyJxa1e45_ok : ∀ k, k < 0 → parseFieldDescriptor (TJxa1e45 k).2.2.1 = some (tyJxa1e45 k) := by decide +kernel
abbrev cJxa1e45_init_da8c8 : ByteArray := prog_24_method_1_code
abbrev yJxa1e45_init_da8c8 : MethodName := ⟨RJxa1e45, "<init>", "()V"⟩
abbrev RJxc12de : String := "java/util/AbstractList"
def TJxc12de : u_T := fun k => match k with
  | _ => ("", "", "", false)
def tyJxc12de : Nat → FieldType := fun k => match k with
  | _ => .int
abbrev wsJxc12de0 : List Cond := u_ws RJxc12de TJxc12de 0
theorem nmJxc12de : ∀ a, a < 0 → ∀ b, b < 0 → a ≠ b → (TJxc12de a).2.1 ≠ (TJxc12de b).2.1 := by decide +kernel
theorem tyJxc12de_ok : ∀ k, k < 0 → parseFieldDescriptor (TJxc12de k).2.2.1 = some (tyJxc12de k) := by decide +kernel
abbrev cJxc12de_init_da8c8 : ByteArray := prog_25_method_1_code
abbrev yJxc12de_init_da8c8 : MethodName := ⟨RJxc12de, "<init>", "()V"⟩
abbrev RJx4a65c : String := "java/util/ArrayList"
def TJx4a65c : u_T := fun k => match k with
  | 0 => ("java/util/AbstractList", "modCount", "I", false)
  | 1 => ("java/util/ArrayList", "elementData", "[Ljava/lang/Object;", false)
  | _ => ("java/util/ArrayList", "size", "I", false)
def tyJx4a65c : Nat → FieldType := fun k => match k with
  | 0 => .int
  | 1 => .array (.object "java/lang/Object")
  | _ => .int
abbrev wsJx4a65c0 : List Cond := u_ws RJx4a65c TJx4a65c 3
theorem nmJx4a65c : ∀ a, a < 3 → ∀ b, b < 3 → a ≠ b → (TJx4a65c a).2.1 ≠ (TJx4a65c b).2.1 := by decide +kernel
theorem tyJx4a65c_ok : ∀ k, k < 3 → parseFieldDescriptor (TJx4a65c k).2.2.1 = some (tyJx4a65c k) := by decide +kernel
abbrev cJx4a65c_init_da8c8 : ByteArray := prog_26_method_2_code
abbrev yJx4a65c_init_da8c8 : MethodName := ⟨RJx4a65c, "<init>", "()V"⟩
abbrev cJx4a65c_grow_92f84 : ByteArray := prog_26_method_6_code
abbrev yJx4a65c_grow_92f84 : MethodName := ⟨RJx4a65c, "grow", "(I)[Ljava/lang/Object;"⟩
abbrev cJx4a65c_grow_d5877 : ByteArray := prog_26_method_7_code
abbrev yJx4a65c_grow_d5877 : MethodName := ⟨RJx4a65c, "grow", "()[Ljava/lang/Object;"⟩
abbrev cJx4a65c_size_8abf5 : ByteArray := prog_26_method_8_code
abbrev yJx4a65c_size_8abf5 : MethodName := ⟨RJx4a65c, "size", "()I"⟩
abbrev cJx4a65c_elementData_915e3 : ByteArray := prog_26_method_18_code
abbrev yJx4a65c_elementData_915e3 : MethodName := ⟨RJx4a65c, "elementData", "(I)Ljava/lang/Object;"⟩
abbrev cJx4a65c_get_915e3 : ByteArray := prog_26_method_20_code
abbrev yJx4a65c_get_915e3 : MethodName := ⟨RJx4a65c, "get", "(I)Ljava/lang/Object;"⟩
abbrev cJx4a65c_add_72be8 : ByteArray := prog_26_method_24_code
abbrev yJx4a65c_add_72be8 : MethodName := ⟨RJx4a65c, "add", "(Ljava/lang/Object;[Ljava/lang/Object;I)V"⟩
abbrev cJx4a65c_add_9ea2d : ByteArray := prog_26_method_25_code
abbrev yJx4a65c_add_9ea2d : MethodName := ⟨RJx4a65c, "add", "(Ljava/lang/Object;)Z"⟩
abbrev cJx4a65c_add_7a177 : ByteArray := prog_26_method_26_code
abbrev yJx4a65c_add_7a177 : MethodName := ⟨RJx4a65c, "add", "(ILjava/lang/Object;)V"⟩
abbrev cJx4a65c_remove_915e3 : ByteArray := prog_26_method_29_code
abbrev yJx4a65c_remove_915e3 : MethodName := ⟨RJx4a65c, "remove", "(I)Ljava/lang/Object;"⟩
abbrev cJx4a65c_fastRemove_b59b0 : ByteArray := prog_26_method_39_code
abbrev yJx4a65c_fastRemove_b59b0 : MethodName := ⟨RJx4a65c, "fastRemove", "([Ljava/lang/Object;I)V"⟩
abbrev cJx4a65c_clear_da8c8 : ByteArray := prog_26_method_40_code
abbrev yJx4a65c_clear_da8c8 : MethodName := ⟨RJx4a65c, "clear", "()V"⟩
abbrev cJx4a65c_rangeCheckForAdd_d00df : ByteArray := prog_26_method_45_code
abbrev yJx4a65c_rangeCheckForAdd_d00df : MethodName := ⟨RJx4a65c, "rangeCheckForAdd", "(I)V"⟩
abbrev RJ7 : String := "java/util/Arrays"
def TJ7 : u_T := fun k => match k with
  | _ => ("", "", "", false)
def tyJ7 : Nat → FieldType := fun k => match k with
  | _ => .int
abbrev wsJ70 : List Cond := u_ws RJ7 TJ7 0
theorem nmJ7 : ∀ a, a < 0 → ∀ b, b < 0 → a ≠ b → (TJ7 a).2.1 ≠ (TJ7 b).2.1 := by decide +kernel
theorem tyJ7_ok : ∀ k, k < 0 → parseFieldDescriptor (TJ7 k).2.2.1 = some (tyJ7 k) := by decide +kernel
abbrev cJ7_rangeCheck_23922 : ByteArray := prog_27_method_30_code
abbrev yJ7_rangeCheck_23922 : MethodName := ⟨RJ7, "rangeCheck", "(III)V"⟩
abbrev cJ7_fill_eb02e : ByteArray := prog_27_method_110_code
abbrev yJ7_fill_eb02e : MethodName := ⟨RJ7, "fill", "([BIIB)V"⟩
abbrev cJ7_copyOf_1904c : ByteArray := prog_27_method_119_code
abbrev yJ7_copyOf_1904c : MethodName := ⟨RJ7, "copyOf", "([Ljava/lang/Object;I)[Ljava/lang/Object;"⟩
abbrev cJ7_copyOf_6403c : ByteArray := prog_27_method_120_code
abbrev yJ7_copyOf_6403c : MethodName := ⟨RJ7, "copyOf", "([Ljava/lang/Object;ILjava/lang/Class;)[Ljava/lang/Object;"⟩
abbrev cJ7_copyOf_9075b : ByteArray := prog_27_method_121_code
abbrev yJ7_copyOf_9075b : MethodName := ⟨RJ7, "copyOf", "([BI)[B"⟩
abbrev RJx5ef63 : String := "java/util/Collection"
def TJx5ef63 : u_T := fun k => match k with
  | _ => ("", "", "", false)
def tyJx5ef63 : Nat → FieldType := fun k => match k with
  | _ => .int
abbrev wsJx5ef630 : List Cond := u_ws RJx5ef63 TJx5ef63 0
theorem nmJx5ef63 : ∀ a, a < 0 → ∀ b, b < 0 → a ≠ b → (TJx5ef63 a).2.1 ≠ (TJx5ef63 b).2.1 := by decide +kernel
theorem tyJx5ef63_ok : ∀ k, k < 0 → parseFieldDescriptor (TJx5ef63 k).2.2.1 = some (tyJx5ef63 k) := by decide +kernel
abbrev RJxbd725 : String := "java/util/List"
def TJxbd725 : u_T := fun k => match k with
  | _ => ("", "", "", false)
def tyJxbd725 : Nat → FieldType := fun k => match k with
  | _ => .int
abbrev wsJxbd7250 : List Cond := u_ws RJxbd725 TJxbd725 0
theorem nmJxbd725 : ∀ a, a < 0 → ∀ b, b < 0 → a ≠ b → (TJxbd725 a).2.1 ≠ (TJxbd725 b).2.1 := by decide +kernel
theorem tyJxbd725_ok : ∀ k, k < 0 → parseFieldDescriptor (TJxbd725 k).2.2.1 = some (tyJxbd725 k) := by decide +kernel
abbrev RJ15 : String := "java/util/Objects"
def TJ15 : u_T := fun k => match k with
  | _ => ("", "", "", false)
def tyJ15 : Nat → FieldType := fun k => match k with
  | _ => .int
abbrev wsJ150 : List Cond := u_ws RJ15 TJ15 0
theorem nmJ15 : ∀ a, a < 0 → ∀ b, b < 0 → a ≠ b → (TJ15 a).2.1 ≠ (TJ15 b).2.1 := by decide +kernel
theorem tyJ15_ok : ∀ k, k < 0 → parseFieldDescriptor (TJ15 k).2.2.1 = some (tyJ15 k) := by decide +kernel
abbrev cJ15_checkIndex_7cf53 : ByteArray := prog_30_method_17_code
abbrev yJ15_checkIndex_7cf53 : MethodName := ⟨RJ15, "checkIndex", "(II)I"⟩
abbrev RJxf0a74 : String := "java/util/RandomAccess"
def TJxf0a74 : u_T := fun k => match k with
  | _ => ("", "", "", false)
def tyJxf0a74 : Nat → FieldType := fun k => match k with
  | _ => .int
abbrev wsJxf0a740 : List Cond := u_ws RJxf0a74 TJxf0a74 0
theorem nmJxf0a74 : ∀ a, a < 0 → ∀ b, b < 0 → a ≠ b → (TJxf0a74 a).2.1 ≠ (TJxf0a74 b).2.1 := by decide +kernel
theorem tyJxf0a74_ok : ∀ k, k < 0 → parseFieldDescriptor (TJxf0a74 k).2.2.1 = some (tyJxf0a74 k) := by decide +kernel
abbrev RJxa66e6 : String := "java/util/SequencedCollection"
def TJxa66e6 : u_T := fun k => match k with
  | _ => ("", "", "", false)
def tyJxa66e6 : Nat → FieldType := fun k => match k with
  | _ => .int
abbrev wsJxa66e60 : List Cond := u_ws RJxa66e6 TJxa66e6 0
theorem nmJxa66e6 : ∀ a, a < 0 → ∀ b, b < 0 → a ≠ b → (TJxa66e6 a).2.1 ≠ (TJxa66e6 b).2.1 := by decide +kernel
theorem tyJxa66e6_ok : ∀ k, k < 0 → parseFieldDescriptor (TJxa66e6 k).2.2.1 = some (tyJxa66e6 k) := by decide +kernel
abbrev RJ8 : String := "jdk/internal/util/ArraysSupport"
def TJ8 : u_T := fun k => match k with
  | _ => ("", "", "", false)
def tyJ8 : Nat → FieldType := fun k => match k with
  | _ => .int
abbrev wsJ80 : List Cond := u_ws RJ8 TJ8 0
theorem nmJ8 : ∀ a, a < 0 → ∀ b, b < 0 → a ≠ b → (TJ8 a).2.1 ≠ (TJ8 b).2.1 := by decide +kernel
theorem tyJ8_ok : ∀ k, k < 0 → parseFieldDescriptor (TJ8 k).2.2.1 = some (tyJ8 k) := by decide +kernel
abbrev cJ8_newLength_cabcc : ByteArray := prog_33_method_27_code
abbrev yJ8_newLength_cabcc : MethodName := ⟨RJ8, "newLength", "(III)I"⟩
abbrev cJ8_hugeLength_7cf53 : ByteArray := prog_33_method_28_code
abbrev yJ8_hugeLength_7cf53 : MethodName := ⟨RJ8, "hugeLength", "(II)I"⟩
abbrev RJ3 : String := "jdk/internal/util/Preconditions"
def TJ3 : u_T := fun k => match k with
  | _ => ("", "", "", false)
def tyJ3 : Nat → FieldType := fun k => match k with
  | _ => .int
abbrev wsJ30 : List Cond := u_ws RJ3 TJ3 0
theorem nmJ3 : ∀ a, a < 0 → ∀ b, b < 0 → a ≠ b → (TJ3 a).2.1 ≠ (TJ3 b).2.1 := by decide +kernel
theorem tyJ3_ok : ∀ k, k < 0 → parseFieldDescriptor (TJ3 k).2.2.1 = some (tyJ3 k) := by decide +kernel
abbrev cJ3_checkIndex_8e157 : ByteArray := prog_34_method_11_code
abbrev yJ3_checkIndex_8e157 : MethodName := ⟨RJ3, "checkIndex", "(IILjava/util/function/BiFunction;)I"⟩
abbrev cJ3_checkFromIndexSize_8c36e : ByteArray := prog_34_method_13_code
abbrev yJ3_checkFromIndexSize_8c36e : MethodName := ⟨RJ3, "checkFromIndexSize", "(IIILjava/util/function/BiFunction;)I"⟩
abbrev RL : String := "BidLanguageLaw"
abbrev cL_law : ByteArray := code
abbrev yL_law : MethodName := ⟨RL, "law", "([I)Z"⟩
abbrev vwCl : List vw_C := [(RJ4, TJ4, 4), (RJx4a65c, TJx4a65c, 3), (RX0, TX0, 4), (RX2, TX2, 3), (RX3, TX3, 3), (RX4, TX4, 6), (RX5, TX5, 4), (RX6, TX6, 5), (RX7, TX7, 19)]
/-- which words of the tables this proof carries along -/
def tOk : Cond → Bool
  | .arrayClass _ => true
  | .fieldLinkNest .. => true
  | .methodLinkNest .. => true
  | w => w.onTables && w.keeps
def tG : List Cond := lw_tbl.filter tOk
end
section
theorem tw_0 : (.selects "BidLanguage" ⟨"BidLanguage", "addRule", "(LBidLanguage$Rule;)I"⟩ ⟨"BidLanguage", "addRule", "(LBidLanguage$Rule;)I"⟩ : Cond) ∈ tG := List.mem_filter.mpr ⟨List.mem_of_getElem? (i := 0) (by decide +kernel), by decide +kernel⟩
theorem tw_1 : (.selects "java/util/ArrayList" ⟨"java/util/ArrayList", "add", "(Ljava/lang/Object;[Ljava/lang/Object;I)V"⟩ ⟨"java/util/ArrayList", "add", "(Ljava/lang/Object;[Ljava/lang/Object;I)V"⟩ : Cond) ∈ tG := List.mem_filter.mpr ⟨List.mem_of_getElem? (i := 1) (by decide +kernel), by decide +kernel⟩
theorem tw_2 : (.selects "java/util/ArrayList" ⟨"java/util/ArrayList", "grow", "()[Ljava/lang/Object;"⟩ ⟨"java/util/ArrayList", "grow", "()[Ljava/lang/Object;"⟩ : Cond) ∈ tG := List.mem_filter.mpr ⟨List.mem_of_getElem? (i := 2) (by decide +kernel), by decide +kernel⟩
theorem tw_3 : (.selects "java/util/ArrayList" ⟨"java/util/ArrayList", "grow", "(I)[Ljava/lang/Object;"⟩ ⟨"java/util/ArrayList", "grow", "(I)[Ljava/lang/Object;"⟩ : Cond) ∈ tG := List.mem_filter.mpr ⟨List.mem_of_getElem? (i := 3) (by decide +kernel), by decide +kernel⟩
theorem tw_4 : (.selects "BidLanguage" ⟨"BidLanguage", "isRule", "(I)Z"⟩ ⟨"BidLanguage", "isRule", "(I)Z"⟩ : Cond) ∈ tG := List.mem_filter.mpr ⟨List.mem_of_getElem? (i := 4) (by decide +kernel), by decide +kernel⟩
theorem tw_5 : (.selects "BidLanguage" ⟨"BidLanguage", "countAdmitted", "(LBidLanguage$Rule;)I"⟩ ⟨"BidLanguage", "countAdmitted", "(LBidLanguage$Rule;)I"⟩ : Cond) ∈ tG := List.mem_filter.mpr ⟨List.mem_of_getElem? (i := 5) (by decide +kernel), by decide +kernel⟩
theorem tw_6 : (.selects "java/util/ArrayList" ⟨"java/util/ArrayList", "fastRemove", "([Ljava/lang/Object;I)V"⟩ ⟨"java/util/ArrayList", "fastRemove", "([Ljava/lang/Object;I)V"⟩ : Cond) ∈ tG := List.mem_filter.mpr ⟨List.mem_of_getElem? (i := 6) (by decide +kernel), by decide +kernel⟩
theorem tw_7 : (.selects "java/util/ArrayList" ⟨"java/util/ArrayList", "rangeCheckForAdd", "(I)V"⟩ ⟨"java/util/ArrayList", "rangeCheckForAdd", "(I)V"⟩ : Cond) ∈ tG := List.mem_filter.mpr ⟨List.mem_of_getElem? (i := 7) (by decide +kernel), by decide +kernel⟩
theorem tw_8 : (.selects "BidLanguage" ⟨"BidLanguage", "handOf", "(I)I"⟩ ⟨"BidLanguage", "handOf", "(I)I"⟩ : Cond) ∈ tG := List.mem_filter.mpr ⟨List.mem_of_getElem? (i := 8) (by decide +kernel), by decide +kernel⟩
theorem tw_9 : (.selects "BidLanguage$Auction" ⟨"BidLanguage$Auction", "hasPass", "()Z"⟩ ⟨"BidLanguage$Auction", "hasPass", "()Z"⟩ : Cond) ∈ tG := List.mem_filter.mpr ⟨List.mem_of_getElem? (i := 9) (by decide +kernel), by decide +kernel⟩
theorem tw_10 : (.selects "BidLanguage" ⟨"BidLanguage", "firstRule", "(LBidLanguage$Position;I)I"⟩ ⟨"BidLanguage", "firstRule", "(LBidLanguage$Position;I)I"⟩ : Cond) ∈ tG := List.mem_filter.mpr ⟨List.mem_of_getElem? (i := 10) (by decide +kernel), by decide +kernel⟩
theorem tw_11 : (.selects "BidLanguage" ⟨"BidLanguage", "openRule", "(I)I"⟩ ⟨"BidLanguage", "openRule", "(I)I"⟩ : Cond) ∈ tG := List.mem_filter.mpr ⟨List.mem_of_getElem? (i := 11) (by decide +kernel), by decide +kernel⟩
theorem tw_12 : (.selects "BidLanguage" ⟨"BidLanguage", "countHidden", "(II)I"⟩ ⟨"BidLanguage", "countHidden", "(II)I"⟩ : Cond) ∈ tG := List.mem_filter.mpr ⟨List.mem_of_getElem? (i := 12) (by decide +kernel), by decide +kernel⟩
theorem tw_13 : (.selects "BidLanguage" ⟨"BidLanguage", "isHidden", "(III)Z"⟩ ⟨"BidLanguage", "isHidden", "(III)Z"⟩ : Cond) ∈ tG := List.mem_filter.mpr ⟨List.mem_of_getElem? (i := 13) (by decide +kernel), by decide +kernel⟩
theorem tw_14 : (.selects "BidLanguage" ⟨"BidLanguage", "fitsAuction", "(II)Z"⟩ ⟨"BidLanguage", "fitsAuction", "(II)Z"⟩ : Cond) ∈ tG := List.mem_filter.mpr ⟨List.mem_of_getElem? (i := 14) (by decide +kernel), by decide +kernel⟩
theorem tw_15 : (.selects "BidLanguage" ⟨"BidLanguage", "countWithRule", "(LBidLanguage$Position;I)I"⟩ ⟨"BidLanguage", "countWithRule", "(LBidLanguage$Position;I)I"⟩ : Cond) ∈ tG := List.mem_filter.mpr ⟨List.mem_of_getElem? (i := 15) (by decide +kernel), by decide +kernel⟩
theorem tw_16 : (.selects "BidLanguage" ⟨"BidLanguage", "sumOfTricks", "(II)J"⟩ ⟨"BidLanguage", "sumOfTricks", "(II)J"⟩ : Cond) ∈ tG := List.mem_filter.mpr ⟨List.mem_of_getElem? (i := 16) (by decide +kernel), by decide +kernel⟩
theorem tw_17 : (.selects "BidLanguage$RuleReader" ⟨"BidLanguage$RuleReader", "readsHead", "()Z"⟩ ⟨"BidLanguage$RuleReader", "readsHead", "()Z"⟩ : Cond) ∈ tG := List.mem_filter.mpr ⟨List.mem_of_getElem? (i := 17) (by decide +kernel), by decide +kernel⟩
theorem tw_18 : (.selects "BidLanguage$RuleReader" ⟨"BidLanguage$RuleReader", "readDigit", "(II)I"⟩ ⟨"BidLanguage$RuleReader", "readDigit", "(II)I"⟩ : Cond) ∈ tG := List.mem_filter.mpr ⟨List.mem_of_getElem? (i := 18) (by decide +kernel), by decide +kernel⟩
theorem tw_19 : (.selects "BidLanguage$RuleReader" ⟨"BidLanguage$RuleReader", "sign", "()I"⟩ ⟨"BidLanguage$RuleReader", "sign", "()I"⟩ : Cond) ∈ tG := List.mem_filter.mpr ⟨List.mem_of_getElem? (i := 19) (by decide +kernel), by decide +kernel⟩
theorem tw_20 : (.selects "BidLanguage$RuleReader" ⟨"BidLanguage$RuleReader", "reads", "(C)Z"⟩ ⟨"BidLanguage$RuleReader", "reads", "(C)Z"⟩ : Cond) ∈ tG := List.mem_filter.mpr ⟨List.mem_of_getElem? (i := 20) (by decide +kernel), by decide +kernel⟩
theorem tw_21 : (.selects "BidLanguage$RuleReader" ⟨"BidLanguage$RuleReader", "readCall", "()I"⟩ ⟨"BidLanguage$RuleReader", "readCall", "()I"⟩ : Cond) ∈ tG := List.mem_filter.mpr ⟨List.mem_of_getElem? (i := 21) (by decide +kernel), by decide +kernel⟩
theorem tw_22 : (.selects "BidLanguage$RuleReader" ⟨"BidLanguage$RuleReader", "suitOfSign", "()I"⟩ ⟨"BidLanguage$RuleReader", "suitOfSign", "()I"⟩ : Cond) ∈ tG := List.mem_filter.mpr ⟨List.mem_of_getElem? (i := 22) (by decide +kernel), by decide +kernel⟩
theorem tw_23 : (.selects "BidLanguage$RuleReader" ⟨"BidLanguage$RuleReader", "readKind", "()I"⟩ ⟨"BidLanguage$RuleReader", "readKind", "()I"⟩ : Cond) ∈ tG := List.mem_filter.mpr ⟨List.mem_of_getElem? (i := 23) (by decide +kernel), by decide +kernel⟩
theorem tw_24 : (.selects "BidLanguage$RuleReader" ⟨"BidLanguage$RuleReader", "readsRange", "(I)Z"⟩ ⟨"BidLanguage$RuleReader", "readsRange", "(I)Z"⟩ : Cond) ∈ tG := List.mem_filter.mpr ⟨List.mem_of_getElem? (i := 24) (by decide +kernel), by decide +kernel⟩
theorem tw_25 : (.selects "BidLanguage$RuleReader" ⟨"BidLanguage$RuleReader", "readNumber", "(I)I"⟩ ⟨"BidLanguage$RuleReader", "readNumber", "(I)I"⟩ : Cond) ∈ tG := List.mem_filter.mpr ⟨List.mem_of_getElem? (i := 25) (by decide +kernel), by decide +kernel⟩
theorem tw_26 : (.selects "BidLanguageModel" ⟨"BidLanguageModel", "anew", "()V"⟩ ⟨"BidLanguageModel", "anew", "()V"⟩ : Cond) ∈ tG := List.mem_filter.mpr ⟨List.mem_of_getElem? (i := 26) (by decide +kernel), by decide +kernel⟩
theorem tw_27 : (.selects "BidLanguageModel" ⟨"BidLanguageModel", "clearFresh", "()V"⟩ ⟨"BidLanguageModel", "clearFresh", "()V"⟩ : Cond) ∈ tG := List.mem_filter.mpr ⟨List.mem_of_getElem? (i := 27) (by decide +kernel), by decide +kernel⟩
theorem tw_28 : (.selects "BidLanguageModel" ⟨"BidLanguageModel", "addFresh", "()I"⟩ ⟨"BidLanguageModel", "addFresh", "()I"⟩ : Cond) ∈ tG := List.mem_filter.mpr ⟨List.mem_of_getElem? (i := 28) (by decide +kernel), by decide +kernel⟩
theorem tw_29 : (.selects "BidLanguageModel" ⟨"BidLanguageModel", "isThere", "(II)Z"⟩ ⟨"BidLanguageModel", "isThere", "(II)Z"⟩ : Cond) ∈ tG := List.mem_filter.mpr ⟨List.mem_of_getElem? (i := 29) (by decide +kernel), by decide +kernel⟩
theorem tw_30 : (.selects "BidLanguageModel" ⟨"BidLanguageModel", "of", "(II)I"⟩ ⟨"BidLanguageModel", "of", "(II)I"⟩ : Cond) ∈ tG := List.mem_filter.mpr ⟨List.mem_of_getElem? (i := 30) (by decide +kernel), by decide +kernel⟩
theorem tw_31 : (.selects "BidLanguageModel" ⟨"BidLanguageModel", "isRule", "(I)Z"⟩ ⟨"BidLanguageModel", "isRule", "(I)Z"⟩ : Cond) ∈ tG := List.mem_filter.mpr ⟨List.mem_of_getElem? (i := 31) (by decide +kernel), by decide +kernel⟩
theorem tw_32 : (.selects "BidLanguageModel" ⟨"BidLanguageModel", "fitsRule", "(II)Z"⟩ ⟨"BidLanguageModel", "fitsRule", "(II)Z"⟩ : Cond) ∈ tG := List.mem_filter.mpr ⟨List.mem_of_getElem? (i := 32) (by decide +kernel), by decide +kernel⟩
theorem tw_33 : (.selects "BidLanguageModel" ⟨"BidLanguageModel", "strength", "(I)I"⟩ ⟨"BidLanguageModel", "strength", "(I)I"⟩ : Cond) ∈ tG := List.mem_filter.mpr ⟨List.mem_of_getElem? (i := 33) (by decide +kernel), by decide +kernel⟩
theorem tw_34 : (.selects "BidLanguageModel" ⟨"BidLanguageModel", "length", "(II)I"⟩ ⟨"BidLanguageModel", "length", "(II)I"⟩ : Cond) ∈ tG := List.mem_filter.mpr ⟨List.mem_of_getElem? (i := 34) (by decide +kernel), by decide +kernel⟩
theorem tw_35 : (.selects "BidLanguageModel" ⟨"BidLanguageModel", "takeOut", "(I)V"⟩ ⟨"BidLanguageModel", "takeOut", "(I)V"⟩ : Cond) ∈ tG := List.mem_filter.mpr ⟨List.mem_of_getElem? (i := 35) (by decide +kernel), by decide +kernel⟩
theorem tw_36 : (.selects "BidLanguageModel" ⟨"BidLanguageModel", "isHand", "(I)Z"⟩ ⟨"BidLanguageModel", "isHand", "(I)Z"⟩ : Cond) ∈ tG := List.mem_filter.mpr ⟨List.mem_of_getElem? (i := 36) (by decide +kernel), by decide +kernel⟩
theorem tw_37 : (.selects "BidLanguageModel" ⟨"BidLanguageModel", "size", "(I)I"⟩ ⟨"BidLanguageModel", "size", "(I)I"⟩ : Cond) ∈ tG := List.mem_filter.mpr ⟨List.mem_of_getElem? (i := 37) (by decide +kernel), by decide +kernel⟩
theorem tw_38 : (.selects "BidLanguageModel" ⟨"BidLanguageModel", "isOver", "()Z"⟩ ⟨"BidLanguageModel", "isOver", "()Z"⟩ : Cond) ∈ tG := List.mem_filter.mpr ⟨List.mem_of_getElem? (i := 38) (by decide +kernel), by decide +kernel⟩
theorem tw_39 : (.selects "BidLanguageModel" ⟨"BidLanguageModel", "ruleFor", "(IIII)I"⟩ ⟨"BidLanguageModel", "ruleFor", "(IIII)I"⟩ : Cond) ∈ tG := List.mem_filter.mpr ⟨List.mem_of_getElem? (i := 39) (by decide +kernel), by decide +kernel⟩
theorem tw_40 : (.selects "BidLanguageModel" ⟨"BidLanguageModel", "isOpen", "(IIII)Z"⟩ ⟨"BidLanguageModel", "isOpen", "(IIII)Z"⟩ : Cond) ∈ tG := List.mem_filter.mpr ⟨List.mem_of_getElem? (i := 40) (by decide +kernel), by decide +kernel⟩
theorem tw_41 : (.selects "BidLanguageModel" ⟨"BidLanguageModel", "callBy", "(I)V"⟩ ⟨"BidLanguageModel", "callBy", "(I)V"⟩ : Cond) ∈ tG := List.mem_filter.mpr ⟨List.mem_of_getElem? (i := 41) (by decide +kernel), by decide +kernel⟩
theorem tw_42 : (.selects "BidLanguageModel" ⟨"BidLanguageModel", "fitsAuction", "(II)Z"⟩ ⟨"BidLanguageModel", "fitsAuction", "(II)Z"⟩ : Cond) ∈ tG := List.mem_filter.mpr ⟨List.mem_of_getElem? (i := 42) (by decide +kernel), by decide +kernel⟩
theorem tw_43 : (.selects "BidLanguageModel" ⟨"BidLanguageModel", "shownOf", "(II)I"⟩ ⟨"BidLanguageModel", "shownOf", "(II)I"⟩ : Cond) ∈ tG := List.mem_filter.mpr ⟨List.mem_of_getElem? (i := 43) (by decide +kernel), by decide +kernel⟩
theorem tw_44 : (.selects "BidLanguageModel" ⟨"BidLanguageModel", "manyWith", "(IIII)I"⟩ ⟨"BidLanguageModel", "manyWith", "(IIII)I"⟩ : Cond) ∈ tG := List.mem_filter.mpr ⟨List.mem_of_getElem? (i := 44) (by decide +kernel), by decide +kernel⟩
theorem tw_45 : (.selects "BidLanguageModel" ⟨"BidLanguageModel", "tricksOf", "(III)I"⟩ ⟨"BidLanguageModel", "tricksOf", "(III)I"⟩ : Cond) ∈ tG := List.mem_filter.mpr ⟨List.mem_of_getElem? (i := 45) (by decide +kernel), by decide +kernel⟩
theorem tw_46 : (.selects "BidLanguageModel" ⟨"BidLanguageModel", "winners", "(III)I"⟩ ⟨"BidLanguageModel", "winners", "(III)I"⟩ : Cond) ∈ tG := List.mem_filter.mpr ⟨List.mem_of_getElem? (i := 46) (by decide +kernel), by decide +kernel⟩
theorem tw_47 : (.selects "BidLanguageModel" ⟨"BidLanguageModel", "ruffs", "(IIII)Z"⟩ ⟨"BidLanguageModel", "ruffs", "(IIII)Z"⟩ : Cond) ∈ tG := List.mem_filter.mpr ⟨List.mem_of_getElem? (i := 47) (by decide +kernel), by decide +kernel⟩
theorem tw_48 : (.selects "BidLanguageModel" ⟨"BidLanguageModel", "laySums", "(I)V"⟩ ⟨"BidLanguageModel", "laySums", "(I)V"⟩ : Cond) ∈ tG := List.mem_filter.mpr ⟨List.mem_of_getElem? (i := 48) (by decide +kernel), by decide +kernel⟩
theorem tw_49 : (.selects "BidLanguageModel" ⟨"BidLanguageModel", "takeOne", "(II)I"⟩ ⟨"BidLanguageModel", "takeOne", "(II)I"⟩ : Cond) ∈ tG := List.mem_filter.mpr ⟨List.mem_of_getElem? (i := 49) (by decide +kernel), by decide +kernel⟩
theorem tw_50 : (.selects "BidLanguageModel" ⟨"BidLanguageModel", "next", "()I"⟩ ⟨"BidLanguageModel", "next", "()I"⟩ : Cond) ∈ tG := List.mem_filter.mpr ⟨List.mem_of_getElem? (i := 50) (by decide +kernel), by decide +kernel⟩
theorem tw_51 : (.selects "BidLanguageModel" ⟨"BidLanguageModel", "takeCall", "()V"⟩ ⟨"BidLanguageModel", "takeCall", "()V"⟩ : Cond) ∈ tG := List.mem_filter.mpr ⟨List.mem_of_getElem? (i := 51) (by decide +kernel), by decide +kernel⟩
theorem tw_52 : (.selects "BidLanguageModel" ⟨"BidLanguageModel", "takeCondition", "(I)I"⟩ ⟨"BidLanguageModel", "takeCondition", "(I)I"⟩ : Cond) ∈ tG := List.mem_filter.mpr ⟨List.mem_of_getElem? (i := 52) (by decide +kernel), by decide +kernel⟩
theorem tw_53 : (.selects "BidLanguageModel" ⟨"BidLanguageModel", "takeNumber", "(I)I"⟩ ⟨"BidLanguageModel", "takeNumber", "(I)I"⟩ : Cond) ∈ tG := List.mem_filter.mpr ⟨List.mem_of_getElem? (i := 53) (by decide +kernel), by decide +kernel⟩
theorem tw_54 : (.initialized "BidLanguageLaw" : Cond) ∈ tG := List.mem_filter.mpr ⟨List.mem_of_getElem? (i := 54) (by decide +kernel), by decide +kernel⟩
theorem tw_55 : (.initialized "BidLanguage" : Cond) ∈ tG := List.mem_filter.mpr ⟨List.mem_of_getElem? (i := 55) (by decide +kernel), by decide +kernel⟩
theorem tw_56 : (.initialized "java/util/AbstractCollection" : Cond) ∈ tG := List.mem_filter.mpr ⟨List.mem_of_getElem? (i := 56) (by decide +kernel), by decide +kernel⟩
theorem tw_57 : (.initialized "java/util/AbstractList" : Cond) ∈ tG := List.mem_filter.mpr ⟨List.mem_of_getElem? (i := 57) (by decide +kernel), by decide +kernel⟩
theorem tw_58 : (.initialized "java/util/ArrayList" : Cond) ∈ tG := List.mem_filter.mpr ⟨List.mem_of_getElem? (i := 58) (by decide +kernel), by decide +kernel⟩
theorem tw_59 : (.initialized "BidLanguage$Auction" : Cond) ∈ tG := List.mem_filter.mpr ⟨List.mem_of_getElem? (i := 59) (by decide +kernel), by decide +kernel⟩
theorem tw_60 : (.initialized "BidLanguage$Position" : Cond) ∈ tG := List.mem_filter.mpr ⟨List.mem_of_getElem? (i := 60) (by decide +kernel), by decide +kernel⟩
theorem tw_61 : (.initialized "java/lang/AbstractStringBuilder" : Cond) ∈ tG := List.mem_filter.mpr ⟨List.mem_of_getElem? (i := 61) (by decide +kernel), by decide +kernel⟩
theorem tw_62 : (.initialized "java/lang/StringBuilder" : Cond) ∈ tG := List.mem_filter.mpr ⟨List.mem_of_getElem? (i := 62) (by decide +kernel), by decide +kernel⟩
theorem tw_63 : (.initialized "java/lang/String" : Cond) ∈ tG := List.mem_filter.mpr ⟨List.mem_of_getElem? (i := 63) (by decide +kernel), by decide +kernel⟩
theorem tw_64 : (.initialized "java/lang/StringUTF16" : Cond) ∈ tG := List.mem_filter.mpr ⟨List.mem_of_getElem? (i := 64) (by decide +kernel), by decide +kernel⟩
theorem tw_65 : (.initialized "BidLanguageModel" : Cond) ∈ tG := List.mem_filter.mpr ⟨List.mem_of_getElem? (i := 65) (by decide +kernel), by decide +kernel⟩
theorem tw_66 : (.initialized "BidLanguage$Rule" : Cond) ∈ tG := List.mem_filter.mpr ⟨List.mem_of_getElem? (i := 66) (by decide +kernel), by decide +kernel⟩
theorem tw_67 : (.initialized "java/util/Objects" : Cond) ∈ tG := List.mem_filter.mpr ⟨List.mem_of_getElem? (i := 67) (by decide +kernel), by decide +kernel⟩
theorem tw_68 : (.initialized "jdk/internal/util/Preconditions" : Cond) ∈ tG := List.mem_filter.mpr ⟨List.mem_of_getElem? (i := 68) (by decide +kernel), by decide +kernel⟩
theorem tw_69 : (.initialized "jdk/internal/util/ArraysSupport" : Cond) ∈ tG := List.mem_filter.mpr ⟨List.mem_of_getElem? (i := 69) (by decide +kernel), by decide +kernel⟩
theorem tw_70 : (.initialized "java/lang/Math" : Cond) ∈ tG := List.mem_filter.mpr ⟨List.mem_of_getElem? (i := 70) (by decide +kernel), by decide +kernel⟩
theorem tw_71 : (.initialized "java/util/Arrays" : Cond) ∈ tG := List.mem_filter.mpr ⟨List.mem_of_getElem? (i := 71) (by decide +kernel), by decide +kernel⟩
theorem tw_72 : (.initialized "java/lang/System" : Cond) ∈ tG := List.mem_filter.mpr ⟨List.mem_of_getElem? (i := 72) (by decide +kernel), by decide +kernel⟩
theorem tw_73 : (.initialized "BidLanguage$Cards" : Cond) ∈ tG := List.mem_filter.mpr ⟨List.mem_of_getElem? (i := 73) (by decide +kernel), by decide +kernel⟩
theorem tw_74 : (.initialized "java/lang/Integer" : Cond) ∈ tG := List.mem_filter.mpr ⟨List.mem_of_getElem? (i := 74) (by decide +kernel), by decide +kernel⟩
theorem tw_75 : (.initialized "BidLanguage$MadeCall" : Cond) ∈ tG := List.mem_filter.mpr ⟨List.mem_of_getElem? (i := 75) (by decide +kernel), by decide +kernel⟩
theorem tw_76 : (.initialized "java/lang/StringLatin1" : Cond) ∈ tG := List.mem_filter.mpr ⟨List.mem_of_getElem? (i := 76) (by decide +kernel), by decide +kernel⟩
theorem tw_77 : (.initialized "BidLanguage$RuleReader" : Cond) ∈ tG := List.mem_filter.mpr ⟨List.mem_of_getElem? (i := 77) (by decide +kernel), by decide +kernel⟩
theorem tw_78 : (.classLink "BidLanguageLaw" 7 "BidLanguage" : Cond) ∈ tG := List.mem_filter.mpr ⟨List.mem_of_getElem? (i := 78) (by decide +kernel), by decide +kernel⟩
theorem tw_79 : (.instantiable "BidLanguage" 5 : Cond) ∈ tG := List.mem_filter.mpr ⟨List.mem_of_getElem? (i := 79) (by decide +kernel), by decide +kernel⟩
theorem tw_80 : (.methodLink "BidLanguageLaw" 9 ⟨"BidLanguage", "<init>", "()V"⟩ : Cond) ∈ tG := List.mem_filter.mpr ⟨List.mem_of_getElem? (i := 80) (by decide +kernel), by decide +kernel⟩
theorem tw_81 : (.instanceMethod ⟨"BidLanguage", "<init>", "()V"⟩ : Cond) ∈ tG := List.mem_filter.mpr ⟨List.mem_of_getElem? (i := 81) (by decide +kernel), by decide +kernel⟩
theorem tw_82 : (.code ⟨"BidLanguage", "<init>", "()V"⟩ prog_1_method_1_code 1 (none : Option ClassFile.FieldType) : Cond) ∈ tG := List.mem_filter.mpr ⟨List.mem_of_getElem? (i := 82) (by decide +kernel), by decide +kernel⟩
theorem tw_83 : (.methodLink "BidLanguage" 3 ⟨"java/lang/Object", "<init>", "()V"⟩ : Cond) ∈ tG := List.mem_filter.mpr ⟨List.mem_of_getElem? (i := 83) (by decide +kernel), by decide +kernel⟩
theorem tw_84 : (.instanceMethod ⟨"java/lang/Object", "<init>", "()V"⟩ : Cond) ∈ tG := List.mem_filter.mpr ⟨List.mem_of_getElem? (i := 84) (by decide +kernel), by decide +kernel⟩
theorem tw_85 : (.code ⟨"java/lang/Object", "<init>", "()V"⟩ object_method_1_code 1 (none : Option ClassFile.FieldType) : Cond) ∈ tG := List.mem_filter.mpr ⟨List.mem_of_getElem? (i := 85) (by decide +kernel), by decide +kernel⟩
theorem tw_86 : (.classLink "BidLanguage" 9 "java/util/ArrayList" : Cond) ∈ tG := List.mem_filter.mpr ⟨List.mem_of_getElem? (i := 86) (by decide +kernel), by decide +kernel⟩
theorem tw_87 : (.instantiable "java/util/ArrayList" 3 : Cond) ∈ tG := List.mem_filter.mpr ⟨List.mem_of_getElem? (i := 87) (by decide +kernel), by decide +kernel⟩
theorem tw_88 : (.methodLink "BidLanguage" 11 ⟨"java/util/ArrayList", "<init>", "()V"⟩ : Cond) ∈ tG := List.mem_filter.mpr ⟨List.mem_of_getElem? (i := 88) (by decide +kernel), by decide +kernel⟩
theorem tw_89 : (.instanceMethod ⟨"java/util/ArrayList", "<init>", "()V"⟩ : Cond) ∈ tG := List.mem_filter.mpr ⟨List.mem_of_getElem? (i := 89) (by decide +kernel), by decide +kernel⟩
theorem tw_90 : (.code ⟨"java/util/ArrayList", "<init>", "()V"⟩ prog_26_method_2_code 1 (none : Option ClassFile.FieldType) : Cond) ∈ tG := List.mem_filter.mpr ⟨List.mem_of_getElem? (i := 90) (by decide +kernel), by decide +kernel⟩
theorem tw_91 : (.methodLink "java/util/ArrayList" 1 ⟨"java/util/AbstractList", "<init>", "()V"⟩ : Cond) ∈ tG := List.mem_filter.mpr ⟨List.mem_of_getElem? (i := 91) (by decide +kernel), by decide +kernel⟩
theorem tw_92 : (.instanceMethod ⟨"java/util/AbstractList", "<init>", "()V"⟩ : Cond) ∈ tG := List.mem_filter.mpr ⟨List.mem_of_getElem? (i := 92) (by decide +kernel), by decide +kernel⟩
theorem tw_93 : (.code ⟨"java/util/AbstractList", "<init>", "()V"⟩ prog_25_method_1_code 1 (none : Option ClassFile.FieldType) : Cond) ∈ tG := List.mem_filter.mpr ⟨List.mem_of_getElem? (i := 93) (by decide +kernel), by decide +kernel⟩
theorem tw_94 : (.methodLink "java/util/AbstractList" 1 ⟨"java/util/AbstractCollection", "<init>", "()V"⟩ : Cond) ∈ tG := List.mem_filter.mpr ⟨List.mem_of_getElem? (i := 94) (by decide +kernel), by decide +kernel⟩
theorem tw_95 : (.instanceMethod ⟨"java/util/AbstractCollection", "<init>", "()V"⟩ : Cond) ∈ tG := List.mem_filter.mpr ⟨List.mem_of_getElem? (i := 95) (by decide +kernel), by decide +kernel⟩
theorem tw_96 : (.code ⟨"java/util/AbstractCollection", "<init>", "()V"⟩ prog_24_method_1_code 1 (none : Option ClassFile.FieldType) : Cond) ∈ tG := List.mem_filter.mpr ⟨List.mem_of_getElem? (i := 96) (by decide +kernel), by decide +kernel⟩
theorem tw_97 : (.methodLink "java/util/AbstractCollection" 1 ⟨"java/lang/Object", "<init>", "()V"⟩ : Cond) ∈ tG := List.mem_filter.mpr ⟨List.mem_of_getElem? (i := 97) (by decide +kernel), by decide +kernel⟩
theorem tw_98 : (.fieldLink "java/util/ArrayList" 39 "java/util/ArrayList" "DEFAULTCAPACITY_EMPTY_ELEMENTDATA" "[Ljava/lang/Object;" : Cond) ∈ tG := List.mem_filter.mpr ⟨List.mem_of_getElem? (i := 98) (by decide +kernel), by decide +kernel⟩
theorem tw_100 : (.fieldLink "java/util/ArrayList" 9 "java/util/ArrayList" "elementData" "[Ljava/lang/Object;" : Cond) ∈ tG := List.mem_filter.mpr ⟨List.mem_of_getElem? (i := 100) (by decide +kernel), by decide +kernel⟩
theorem tw_101 : (.fieldLink "java/util/ArrayList" 48 "java/util/ArrayList" "size" "I" : Cond) ∈ tG := List.mem_filter.mpr ⟨List.mem_of_getElem? (i := 101) (by decide +kernel), by decide +kernel⟩
theorem tw_102 : (.fieldLink "java/util/AbstractList" 7 "java/util/AbstractList" "modCount" "I" : Cond) ∈ tG := List.mem_filter.mpr ⟨List.mem_of_getElem? (i := 102) (by decide +kernel), by decide +kernel⟩
theorem tw_103 : (.fieldLink "java/util/ArrayList" 63 "java/util/ArrayList" "modCount" "I" : Cond) ∈ tG := List.mem_filter.mpr ⟨List.mem_of_getElem? (i := 103) (by decide +kernel), by decide +kernel⟩
theorem tw_104 : (.sameField "java/util/ArrayList" "java/util/AbstractList" "modCount" "I" : Cond) ∈ tG := List.mem_filter.mpr ⟨List.mem_of_getElem? (i := 104) (by decide +kernel), by decide +kernel⟩
theorem tw_112 : (.classLink "BidLanguage" 16 "BidLanguage$Auction" : Cond) ∈ tG := List.mem_filter.mpr ⟨List.mem_of_getElem? (i := 112) (by decide +kernel), by decide +kernel⟩
theorem tw_113 : (.instantiable "BidLanguage$Auction" 4 : Cond) ∈ tG := List.mem_filter.mpr ⟨List.mem_of_getElem? (i := 113) (by decide +kernel), by decide +kernel⟩
theorem tw_114 : (.methodLinkNest "BidLanguage" 18 ⟨"BidLanguage$Auction", "<init>", "()V"⟩ "BidLanguage" : Cond) ∈ tG := List.mem_filter.mpr ⟨List.mem_of_getElem? (i := 114) (by decide +kernel), by decide +kernel⟩
theorem tw_115 : (.instanceMethod ⟨"BidLanguage$Auction", "<init>", "()V"⟩ : Cond) ∈ tG := List.mem_filter.mpr ⟨List.mem_of_getElem? (i := 115) (by decide +kernel), by decide +kernel⟩
theorem tw_116 : (.code ⟨"BidLanguage$Auction", "<init>", "()V"⟩ prog_2_method_1_code 1 (none : Option ClassFile.FieldType) : Cond) ∈ tG := List.mem_filter.mpr ⟨List.mem_of_getElem? (i := 116) (by decide +kernel), by decide +kernel⟩
theorem tw_117 : (.methodLink "BidLanguage$Auction" 3 ⟨"java/lang/Object", "<init>", "()V"⟩ : Cond) ∈ tG := List.mem_filter.mpr ⟨List.mem_of_getElem? (i := 117) (by decide +kernel), by decide +kernel⟩
theorem tw_118 : (.classLink "BidLanguage$Auction" 9 "java/util/ArrayList" : Cond) ∈ tG := List.mem_filter.mpr ⟨List.mem_of_getElem? (i := 118) (by decide +kernel), by decide +kernel⟩
theorem tw_119 : (.methodLink "BidLanguage$Auction" 11 ⟨"java/util/ArrayList", "<init>", "()V"⟩ : Cond) ∈ tG := List.mem_filter.mpr ⟨List.mem_of_getElem? (i := 119) (by decide +kernel), by decide +kernel⟩
theorem tw_120 : (.classLink "BidLanguage$Auction" 18 "BidLanguage$Position" : Cond) ∈ tG := List.mem_filter.mpr ⟨List.mem_of_getElem? (i := 120) (by decide +kernel), by decide +kernel⟩
theorem tw_121 : (.instantiable "BidLanguage$Position" 3 : Cond) ∈ tG := List.mem_filter.mpr ⟨List.mem_of_getElem? (i := 121) (by decide +kernel), by decide +kernel⟩
theorem tw_122 : (.methodLink "BidLanguage$Auction" 20 ⟨"BidLanguage$Position", "<init>", "(III)V"⟩ : Cond) ∈ tG := List.mem_filter.mpr ⟨List.mem_of_getElem? (i := 122) (by decide +kernel), by decide +kernel⟩
theorem tw_123 : (.instanceMethod ⟨"BidLanguage$Position", "<init>", "(III)V"⟩ : Cond) ∈ tG := List.mem_filter.mpr ⟨List.mem_of_getElem? (i := 123) (by decide +kernel), by decide +kernel⟩
theorem tw_124 : (.code ⟨"BidLanguage$Position", "<init>", "(III)V"⟩ prog_5_method_1_code 4 (none : Option ClassFile.FieldType) : Cond) ∈ tG := List.mem_filter.mpr ⟨List.mem_of_getElem? (i := 124) (by decide +kernel), by decide +kernel⟩
theorem tw_125 : (.methodLink "BidLanguage$Position" 1 ⟨"java/lang/Object", "<init>", "()V"⟩ : Cond) ∈ tG := List.mem_filter.mpr ⟨List.mem_of_getElem? (i := 125) (by decide +kernel), by decide +kernel⟩
theorem tw_126 : (.fieldLink "BidLanguage$Position" 7 "BidLanguage$Position" "state" "I" : Cond) ∈ tG := List.mem_filter.mpr ⟨List.mem_of_getElem? (i := 126) (by decide +kernel), by decide +kernel⟩
theorem tw_127 : (.fieldLinkNest "BidLanguage$MadeCall" 20 "BidLanguage$Position" "state" "I" "BidLanguage" : Cond) ∈ tG := List.mem_filter.mpr ⟨List.mem_of_getElem? (i := 127) (by decide +kernel), by decide +kernel⟩
theorem tw_128 : (.fieldLinkNest "BidLanguage$Rule" 32 "BidLanguage$Position" "state" "I" "BidLanguage" : Cond) ∈ tG := List.mem_filter.mpr ⟨List.mem_of_getElem? (i := 128) (by decide +kernel), by decide +kernel⟩
theorem tw_129 : (.fieldLinkNest "BidLanguage" 152 "BidLanguage$Position" "state" "I" "BidLanguage" : Cond) ∈ tG := List.mem_filter.mpr ⟨List.mem_of_getElem? (i := 129) (by decide +kernel), by decide +kernel⟩
theorem tw_130 : (.fieldLink "BidLanguage$Position" 13 "BidLanguage$Position" "last" "I" : Cond) ∈ tG := List.mem_filter.mpr ⟨List.mem_of_getElem? (i := 130) (by decide +kernel), by decide +kernel⟩
theorem tw_131 : (.fieldLinkNest "BidLanguage$Rule" 36 "BidLanguage$Position" "last" "I" "BidLanguage" : Cond) ∈ tG := List.mem_filter.mpr ⟨List.mem_of_getElem? (i := 131) (by decide +kernel), by decide +kernel⟩
theorem tw_132 : (.fieldLinkNest "BidLanguage" 157 "BidLanguage$Position" "last" "I" "BidLanguage" : Cond) ∈ tG := List.mem_filter.mpr ⟨List.mem_of_getElem? (i := 132) (by decide +kernel), by decide +kernel⟩
theorem tw_133 : (.fieldLink "BidLanguage$Position" 16 "BidLanguage$Position" "force" "I" : Cond) ∈ tG := List.mem_filter.mpr ⟨List.mem_of_getElem? (i := 133) (by decide +kernel), by decide +kernel⟩
theorem tw_134 : (.fieldLinkNest "BidLanguage$MadeCall" 25 "BidLanguage$Position" "force" "I" "BidLanguage" : Cond) ∈ tG := List.mem_filter.mpr ⟨List.mem_of_getElem? (i := 134) (by decide +kernel), by decide +kernel⟩
theorem tw_135 : (.fieldLinkNest "BidLanguage$Rule" 35 "BidLanguage$Position" "force" "I" "BidLanguage" : Cond) ∈ tG := List.mem_filter.mpr ⟨List.mem_of_getElem? (i := 135) (by decide +kernel), by decide +kernel⟩
theorem tw_136 : (.fieldLinkNest "BidLanguage" 160 "BidLanguage$Position" "force" "I" "BidLanguage" : Cond) ∈ tG := List.mem_filter.mpr ⟨List.mem_of_getElem? (i := 136) (by decide +kernel), by decide +kernel⟩
theorem tw_144 : (.fieldLink "BidLanguage$Auction" 12 "BidLanguage$Auction" "calls" "Ljava/util/ArrayList;" : Cond) ∈ tG := List.mem_filter.mpr ⟨List.mem_of_getElem? (i := 144) (by decide +kernel), by decide +kernel⟩
theorem tw_145 : (.fieldLinkNest "BidLanguage" 115 "BidLanguage$Auction" "calls" "Ljava/util/ArrayList;" "BidLanguage" : Cond) ∈ tG := List.mem_filter.mpr ⟨List.mem_of_getElem? (i := 145) (by decide +kernel), by decide +kernel⟩
theorem tw_146 : (.fieldLink "BidLanguage$Auction" 23 "BidLanguage$Auction" "start" "LBidLanguage$Position;" : Cond) ∈ tG := List.mem_filter.mpr ⟨List.mem_of_getElem? (i := 146) (by decide +kernel), by decide +kernel⟩
theorem tw_147 : (.fieldLink "BidLanguage$Auction" 27 "BidLanguage$Auction" "now" "LBidLanguage$Position;" : Cond) ∈ tG := List.mem_filter.mpr ⟨List.mem_of_getElem? (i := 147) (by decide +kernel), by decide +kernel⟩
theorem tw_148 : (.fieldLinkNest "BidLanguage" 122 "BidLanguage$Auction" "now" "LBidLanguage$Position;" "BidLanguage" : Cond) ∈ tG := List.mem_filter.mpr ⟨List.mem_of_getElem? (i := 148) (by decide +kernel), by decide +kernel⟩
theorem tw_149 : (.fieldLink "BidLanguage$Auction" 30 "BidLanguage$Auction" "stuck" "Z" : Cond) ∈ tG := List.mem_filter.mpr ⟨List.mem_of_getElem? (i := 149) (by decide +kernel), by decide +kernel⟩
theorem tw_150 : (.fieldLinkNest "BidLanguage" 136 "BidLanguage$Auction" "stuck" "Z" "BidLanguage" : Cond) ∈ tG := List.mem_filter.mpr ⟨List.mem_of_getElem? (i := 150) (by decide +kernel), by decide +kernel⟩
theorem tw_160 : (.classLink "BidLanguage" 23 "java/lang/StringBuilder" : Cond) ∈ tG := List.mem_filter.mpr ⟨List.mem_of_getElem? (i := 160) (by decide +kernel), by decide +kernel⟩
theorem tw_161 : (.instantiable "java/lang/StringBuilder" 4 : Cond) ∈ tG := List.mem_filter.mpr ⟨List.mem_of_getElem? (i := 161) (by decide +kernel), by decide +kernel⟩
theorem tw_162 : (.methodLink "BidLanguage" 25 ⟨"java/lang/StringBuilder", "<init>", "()V"⟩ : Cond) ∈ tG := List.mem_filter.mpr ⟨List.mem_of_getElem? (i := 162) (by decide +kernel), by decide +kernel⟩
theorem tw_163 : (.instanceMethod ⟨"java/lang/StringBuilder", "<init>", "()V"⟩ : Cond) ∈ tG := List.mem_filter.mpr ⟨List.mem_of_getElem? (i := 163) (by decide +kernel), by decide +kernel⟩
theorem tw_164 : (.code ⟨"java/lang/StringBuilder", "<init>", "()V"⟩ prog_20_method_1_code 1 (none : Option ClassFile.FieldType) : Cond) ∈ tG := List.mem_filter.mpr ⟨List.mem_of_getElem? (i := 164) (by decide +kernel), by decide +kernel⟩
theorem tw_165 : (.methodLink "java/lang/StringBuilder" 1 ⟨"java/lang/AbstractStringBuilder", "<init>", "(I)V"⟩ : Cond) ∈ tG := List.mem_filter.mpr ⟨List.mem_of_getElem? (i := 165) (by decide +kernel), by decide +kernel⟩
theorem tw_166 : (.instanceMethod ⟨"java/lang/AbstractStringBuilder", "<init>", "(I)V"⟩ : Cond) ∈ tG := List.mem_filter.mpr ⟨List.mem_of_getElem? (i := 166) (by decide +kernel), by decide +kernel⟩
theorem tw_167 : (.code ⟨"java/lang/AbstractStringBuilder", "<init>", "(I)V"⟩ prog_11_method_2_code 2 (none : Option ClassFile.FieldType) : Cond) ∈ tG := List.mem_filter.mpr ⟨List.mem_of_getElem? (i := 167) (by decide +kernel), by decide +kernel⟩
theorem tw_168 : (.methodLink "java/lang/AbstractStringBuilder" 3 ⟨"java/lang/Object", "<init>", "()V"⟩ : Cond) ∈ tG := List.mem_filter.mpr ⟨List.mem_of_getElem? (i := 168) (by decide +kernel), by decide +kernel⟩
theorem tw_169 : (.fieldLink "java/lang/AbstractStringBuilder" 18 "java/lang/String" "COMPACT_STRINGS" "Z" : Cond) ∈ tG := List.mem_filter.mpr ⟨List.mem_of_getElem? (i := 169) (by decide +kernel), by decide +kernel⟩
theorem tw_171 : (.methodLink "java/lang/AbstractStringBuilder" 26 ⟨"java/lang/StringUTF16", "newBytesFor", "(I)[B"⟩ : Cond) ∈ tG := List.mem_filter.mpr ⟨List.mem_of_getElem? (i := 171) (by decide +kernel), by decide +kernel⟩
theorem tw_172 : (.static ⟨"java/lang/StringUTF16", "newBytesFor", "(I)[B"⟩ : Cond) ∈ tG := List.mem_filter.mpr ⟨List.mem_of_getElem? (i := 172) (by decide +kernel), by decide +kernel⟩
theorem tw_173 : (.code ⟨"java/lang/StringUTF16", "newBytesFor", "(I)[B"⟩ prog_22_method_2_code 1 (some (.array .byte)) : Cond) ∈ tG := List.mem_filter.mpr ⟨List.mem_of_getElem? (i := 173) (by decide +kernel), by decide +kernel⟩
theorem tw_174 : (.methodLink "java/lang/StringUTF16" 11 ⟨"java/lang/StringUTF16", "newBytesLength", "(I)I"⟩ : Cond) ∈ tG := List.mem_filter.mpr ⟨List.mem_of_getElem? (i := 174) (by decide +kernel), by decide +kernel⟩
theorem tw_175 : (.static ⟨"java/lang/StringUTF16", "newBytesLength", "(I)I"⟩ : Cond) ∈ tG := List.mem_filter.mpr ⟨List.mem_of_getElem? (i := 175) (by decide +kernel), by decide +kernel⟩
theorem tw_176 : (.code ⟨"java/lang/StringUTF16", "newBytesLength", "(I)I"⟩ prog_22_method_3_code 1 (some .int) : Cond) ∈ tG := List.mem_filter.mpr ⟨List.mem_of_getElem? (i := 176) (by decide +kernel), by decide +kernel⟩
theorem tw_177 : (.constant "java/lang/StringUTF16" 20 1073741823 : Cond) ∈ tG := List.mem_filter.mpr ⟨List.mem_of_getElem? (i := 177) (by decide +kernel), by decide +kernel⟩
theorem tw_178 : (.fieldLink "java/lang/AbstractStringBuilder" 15 "java/lang/AbstractStringBuilder" "value" "[B" : Cond) ∈ tG := List.mem_filter.mpr ⟨List.mem_of_getElem? (i := 178) (by decide +kernel), by decide +kernel⟩
theorem tw_179 : (.fieldLink "java/lang/AbstractStringBuilder" 22 "java/lang/AbstractStringBuilder" "coder" "B" : Cond) ∈ tG := List.mem_filter.mpr ⟨List.mem_of_getElem? (i := 179) (by decide +kernel), by decide +kernel⟩
theorem tw_180 : (.fieldLink "java/lang/AbstractStringBuilder" 73 "java/lang/AbstractStringBuilder" "maybeLatin1" "Z" : Cond) ∈ tG := List.mem_filter.mpr ⟨List.mem_of_getElem? (i := 180) (by decide +kernel), by decide +kernel⟩
theorem tw_181 : (.fieldLink "java/lang/AbstractStringBuilder" 79 "java/lang/AbstractStringBuilder" "count" "I" : Cond) ∈ tG := List.mem_filter.mpr ⟨List.mem_of_getElem? (i := 181) (by decide +kernel), by decide +kernel⟩
theorem tw_191 : (.arrayClass .byte : Cond) ∈ tG := List.mem_filter.mpr ⟨List.mem_of_getElem? (i := 191) (by decide +kernel), by decide +kernel⟩
theorem tw_192 : (.fieldLink "BidLanguage" 12 "BidLanguage" "rules" "Ljava/util/ArrayList;" : Cond) ∈ tG := List.mem_filter.mpr ⟨List.mem_of_getElem? (i := 192) (by decide +kernel), by decide +kernel⟩
theorem tw_193 : (.fieldLink "BidLanguage" 19 "BidLanguage" "auction" "LBidLanguage$Auction;" : Cond) ∈ tG := List.mem_filter.mpr ⟨List.mem_of_getElem? (i := 193) (by decide +kernel), by decide +kernel⟩
theorem tw_194 : (.fieldLink "BidLanguage" 26 "BidLanguage" "pad" "Ljava/lang/StringBuilder;" : Cond) ∈ tG := List.mem_filter.mpr ⟨List.mem_of_getElem? (i := 194) (by decide +kernel), by decide +kernel⟩
theorem tw_195 : (.fieldLink "BidLanguage" 30 "BidLanguage" "firstHand" "I" : Cond) ∈ tG := List.mem_filter.mpr ⟨List.mem_of_getElem? (i := 195) (by decide +kernel), by decide +kernel⟩
theorem tw_196 : (.fieldLink "BidLanguage" 34 "BidLanguage" "secondHand" "I" : Cond) ∈ tG := List.mem_filter.mpr ⟨List.mem_of_getElem? (i := 196) (by decide +kernel), by decide +kernel⟩
theorem tw_208 : (.methodLink "BidLanguageLaw" 13 ⟨"BidLanguage", "rule", "(IIII)I"⟩ : Cond) ∈ tG := List.mem_filter.mpr ⟨List.mem_of_getElem? (i := 208) (by decide +kernel), by decide +kernel⟩
theorem tw_209 : (.instanceMethod ⟨"BidLanguage", "rule", "(IIII)I"⟩ : Cond) ∈ tG := List.mem_filter.mpr ⟨List.mem_of_getElem? (i := 209) (by decide +kernel), by decide +kernel⟩
theorem tw_210 : (.selects "BidLanguage" ⟨"BidLanguage", "rule", "(IIII)I"⟩ ⟨"BidLanguage", "rule", "(IIII)I"⟩ : Cond) ∈ tG := List.mem_filter.mpr ⟨List.mem_of_getElem? (i := 210) (by decide +kernel), by decide +kernel⟩
theorem tw_211 : (.code ⟨"BidLanguage", "rule", "(IIII)I"⟩ prog_1_method_2_code 5 (some .int) : Cond) ∈ tG := List.mem_filter.mpr ⟨List.mem_of_getElem? (i := 211) (by decide +kernel), by decide +kernel⟩
theorem tw_212 : (.methodLink "BidLanguage" 37 ⟨"BidLanguage", "isState", "(I)Z"⟩ : Cond) ∈ tG := List.mem_filter.mpr ⟨List.mem_of_getElem? (i := 212) (by decide +kernel), by decide +kernel⟩
theorem tw_213 : (.static ⟨"BidLanguage", "isState", "(I)Z"⟩ : Cond) ∈ tG := List.mem_filter.mpr ⟨List.mem_of_getElem? (i := 213) (by decide +kernel), by decide +kernel⟩
theorem tw_214 : (.code ⟨"BidLanguage", "isState", "(I)Z"⟩ prog_1_method_29_code 1 (some .boolean) : Cond) ∈ tG := List.mem_filter.mpr ⟨List.mem_of_getElem? (i := 214) (by decide +kernel), by decide +kernel⟩
theorem tw_215 : (.methodLink "BidLanguage" 41 ⟨"BidLanguage", "isCall", "(I)Z"⟩ : Cond) ∈ tG := List.mem_filter.mpr ⟨List.mem_of_getElem? (i := 215) (by decide +kernel), by decide +kernel⟩
theorem tw_216 : (.static ⟨"BidLanguage", "isCall", "(I)Z"⟩ : Cond) ∈ tG := List.mem_filter.mpr ⟨List.mem_of_getElem? (i := 216) (by decide +kernel), by decide +kernel⟩
theorem tw_217 : (.code ⟨"BidLanguage", "isCall", "(I)Z"⟩ prog_1_method_30_code 1 (some .boolean) : Cond) ∈ tG := List.mem_filter.mpr ⟨List.mem_of_getElem? (i := 217) (by decide +kernel), by decide +kernel⟩
theorem tw_218 : (.methodLink "BidLanguage" 44 ⟨"BidLanguage", "isFlag", "(I)Z"⟩ : Cond) ∈ tG := List.mem_filter.mpr ⟨List.mem_of_getElem? (i := 218) (by decide +kernel), by decide +kernel⟩
theorem tw_219 : (.static ⟨"BidLanguage", "isFlag", "(I)Z"⟩ : Cond) ∈ tG := List.mem_filter.mpr ⟨List.mem_of_getElem? (i := 219) (by decide +kernel), by decide +kernel⟩
theorem tw_220 : (.code ⟨"BidLanguage", "isFlag", "(I)Z"⟩ prog_1_method_31_code 1 (some .boolean) : Cond) ∈ tG := List.mem_filter.mpr ⟨List.mem_of_getElem? (i := 220) (by decide +kernel), by decide +kernel⟩
theorem tw_221 : (.classLink "BidLanguage" 47 "BidLanguage$Rule" : Cond) ∈ tG := List.mem_filter.mpr ⟨List.mem_of_getElem? (i := 221) (by decide +kernel), by decide +kernel⟩
theorem tw_222 : (.instantiable "BidLanguage$Rule" 6 : Cond) ∈ tG := List.mem_filter.mpr ⟨List.mem_of_getElem? (i := 222) (by decide +kernel), by decide +kernel⟩
theorem tw_223 : (.methodLink "BidLanguage" 49 ⟨"BidLanguage$Rule", "<init>", "(IIII)V"⟩ : Cond) ∈ tG := List.mem_filter.mpr ⟨List.mem_of_getElem? (i := 223) (by decide +kernel), by decide +kernel⟩
theorem tw_224 : (.instanceMethod ⟨"BidLanguage$Rule", "<init>", "(IIII)V"⟩ : Cond) ∈ tG := List.mem_filter.mpr ⟨List.mem_of_getElem? (i := 224) (by decide +kernel), by decide +kernel⟩
theorem tw_225 : (.code ⟨"BidLanguage$Rule", "<init>", "(IIII)V"⟩ prog_6_method_1_code 5 (none : Option ClassFile.FieldType) : Cond) ∈ tG := List.mem_filter.mpr ⟨List.mem_of_getElem? (i := 225) (by decide +kernel), by decide +kernel⟩
theorem tw_226 : (.methodLink "BidLanguage$Rule" 3 ⟨"java/lang/Object", "<init>", "()V"⟩ : Cond) ∈ tG := List.mem_filter.mpr ⟨List.mem_of_getElem? (i := 226) (by decide +kernel), by decide +kernel⟩
theorem tw_227 : (.constant "BidLanguage$Rule" 15 336875845 : Cond) ∈ tG := List.mem_filter.mpr ⟨List.mem_of_getElem? (i := 227) (by decide +kernel), by decide +kernel⟩
theorem tw_228 : (.fieldLink "BidLanguage$Rule" 19 "BidLanguage$Rule" "state" "I" : Cond) ∈ tG := List.mem_filter.mpr ⟨List.mem_of_getElem? (i := 228) (by decide +kernel), by decide +kernel⟩
theorem tw_229 : (.fieldLinkNest "BidLanguage$RuleReader" 52 "BidLanguage$Rule" "state" "I" "BidLanguage" : Cond) ∈ tG := List.mem_filter.mpr ⟨List.mem_of_getElem? (i := 229) (by decide +kernel), by decide +kernel⟩
theorem tw_230 : (.fieldLinkNest "BidLanguage" 193 "BidLanguage$Rule" "state" "I" "BidLanguage" : Cond) ∈ tG := List.mem_filter.mpr ⟨List.mem_of_getElem? (i := 230) (by decide +kernel), by decide +kernel⟩
theorem tw_231 : (.fieldLink "BidLanguage$Rule" 22 "BidLanguage$Rule" "call" "I" : Cond) ∈ tG := List.mem_filter.mpr ⟨List.mem_of_getElem? (i := 231) (by decide +kernel), by decide +kernel⟩
theorem tw_232 : (.fieldLinkNest "BidLanguage$RuleReader" 62 "BidLanguage$Rule" "call" "I" "BidLanguage" : Cond) ∈ tG := List.mem_filter.mpr ⟨List.mem_of_getElem? (i := 232) (by decide +kernel), by decide +kernel⟩
theorem tw_233 : (.fieldLinkNest "BidLanguage" 90 "BidLanguage$Rule" "call" "I" "BidLanguage" : Cond) ∈ tG := List.mem_filter.mpr ⟨List.mem_of_getElem? (i := 233) (by decide +kernel), by decide +kernel⟩
theorem tw_234 : (.fieldLinkNest "BidLanguage$Auction" 58 "BidLanguage$Rule" "call" "I" "BidLanguage" : Cond) ∈ tG := List.mem_filter.mpr ⟨List.mem_of_getElem? (i := 234) (by decide +kernel), by decide +kernel⟩
theorem tw_235 : (.fieldLink "BidLanguage$Rule" 25 "BidLanguage$Rule" "next" "I" : Cond) ∈ tG := List.mem_filter.mpr ⟨List.mem_of_getElem? (i := 235) (by decide +kernel), by decide +kernel⟩
theorem tw_236 : (.fieldLinkNest "BidLanguage$RuleReader" 65 "BidLanguage$Rule" "next" "I" "BidLanguage" : Cond) ∈ tG := List.mem_filter.mpr ⟨List.mem_of_getElem? (i := 236) (by decide +kernel), by decide +kernel⟩
theorem tw_237 : (.fieldLinkNest "BidLanguage$Auction" 68 "BidLanguage$Rule" "next" "I" "BidLanguage" : Cond) ∈ tG := List.mem_filter.mpr ⟨List.mem_of_getElem? (i := 237) (by decide +kernel), by decide +kernel⟩
theorem tw_238 : (.fieldLink "BidLanguage$Rule" 28 "BidLanguage$Rule" "force" "I" : Cond) ∈ tG := List.mem_filter.mpr ⟨List.mem_of_getElem? (i := 238) (by decide +kernel), by decide +kernel⟩
theorem tw_239 : (.fieldLinkNest "BidLanguage$RuleReader" 68 "BidLanguage$Rule" "force" "I" "BidLanguage" : Cond) ∈ tG := List.mem_filter.mpr ⟨List.mem_of_getElem? (i := 239) (by decide +kernel), by decide +kernel⟩
theorem tw_240 : (.fieldLinkNest "BidLanguage$Auction" 71 "BidLanguage$Rule" "force" "I" "BidLanguage" : Cond) ∈ tG := List.mem_filter.mpr ⟨List.mem_of_getElem? (i := 240) (by decide +kernel), by decide +kernel⟩
theorem tw_241 : (.fieldLink "BidLanguage$Rule" 9 "BidLanguage$Rule" "least" "I" : Cond) ∈ tG := List.mem_filter.mpr ⟨List.mem_of_getElem? (i := 241) (by decide +kernel), by decide +kernel⟩
theorem tw_242 : (.fieldLink "BidLanguage$Rule" 16 "BidLanguage$Rule" "greatest" "I" : Cond) ∈ tG := List.mem_filter.mpr ⟨List.mem_of_getElem? (i := 242) (by decide +kernel), by decide +kernel⟩
theorem tw_256 : (.methodLink "BidLanguage" 52 ⟨"BidLanguage", "addRule", "(LBidLanguage$Rule;)I"⟩ : Cond) ∈ tG := List.mem_filter.mpr ⟨List.mem_of_getElem? (i := 256) (by decide +kernel), by decide +kernel⟩
theorem tw_258 : (.instanceMethod ⟨"BidLanguage", "addRule", "(LBidLanguage$Rule;)I"⟩ : Cond) ∈ tG := List.mem_filter.mpr ⟨List.mem_of_getElem? (i := 258) (by decide +kernel), by decide +kernel⟩
theorem tw_259 : (.code ⟨"BidLanguage", "addRule", "(LBidLanguage$Rule;)I"⟩ prog_1_method_37_code 4 (some .int) : Cond) ∈ tG := List.mem_filter.mpr ⟨List.mem_of_getElem? (i := 259) (by decide +kernel), by decide +kernel⟩
theorem tw_260 : (.methodLink "BidLanguage" 82 ⟨"java/util/ArrayList", "size", "()I"⟩ : Cond) ∈ tG := List.mem_filter.mpr ⟨List.mem_of_getElem? (i := 260) (by decide +kernel), by decide +kernel⟩
theorem tw_261 : (.instanceMethod ⟨"java/util/ArrayList", "size", "()I"⟩ : Cond) ∈ tG := List.mem_filter.mpr ⟨List.mem_of_getElem? (i := 261) (by decide +kernel), by decide +kernel⟩
theorem tw_262 : (.selects "java/util/ArrayList" ⟨"java/util/ArrayList", "size", "()I"⟩ ⟨"java/util/ArrayList", "size", "()I"⟩ : Cond) ∈ tG := List.mem_filter.mpr ⟨List.mem_of_getElem? (i := 262) (by decide +kernel), by decide +kernel⟩
theorem tw_263 : (.code ⟨"java/util/ArrayList", "size", "()I"⟩ prog_26_method_8_code 1 (some .int) : Cond) ∈ tG := List.mem_filter.mpr ⟨List.mem_of_getElem? (i := 263) (by decide +kernel), by decide +kernel⟩
theorem tw_264 : (.methodLink "BidLanguage" 65 ⟨"java/util/ArrayList", "get", "(I)Ljava/lang/Object;"⟩ : Cond) ∈ tG := List.mem_filter.mpr ⟨List.mem_of_getElem? (i := 264) (by decide +kernel), by decide +kernel⟩
theorem tw_265 : (.instanceMethod ⟨"java/util/ArrayList", "get", "(I)Ljava/lang/Object;"⟩ : Cond) ∈ tG := List.mem_filter.mpr ⟨List.mem_of_getElem? (i := 265) (by decide +kernel), by decide +kernel⟩
theorem tw_266 : (.selects "java/util/ArrayList" ⟨"java/util/ArrayList", "get", "(I)Ljava/lang/Object;"⟩ ⟨"java/util/ArrayList", "get", "(I)Ljava/lang/Object;"⟩ : Cond) ∈ tG := List.mem_filter.mpr ⟨List.mem_of_getElem? (i := 266) (by decide +kernel), by decide +kernel⟩
theorem tw_267 : (.code ⟨"java/util/ArrayList", "get", "(I)Ljava/lang/Object;"⟩ prog_26_method_20_code 2 (some (.object "java/lang/Object")) : Cond) ∈ tG := List.mem_filter.mpr ⟨List.mem_of_getElem? (i := 267) (by decide +kernel), by decide +kernel⟩
theorem tw_268 : (.methodLink "java/util/ArrayList" 118 ⟨"java/util/Objects", "checkIndex", "(II)I"⟩ : Cond) ∈ tG := List.mem_filter.mpr ⟨List.mem_of_getElem? (i := 268) (by decide +kernel), by decide +kernel⟩
theorem tw_269 : (.static ⟨"java/util/Objects", "checkIndex", "(II)I"⟩ : Cond) ∈ tG := List.mem_filter.mpr ⟨List.mem_of_getElem? (i := 269) (by decide +kernel), by decide +kernel⟩
theorem tw_270 : (.code ⟨"java/util/Objects", "checkIndex", "(II)I"⟩ prog_30_method_17_code 2 (some .int) : Cond) ∈ tG := List.mem_filter.mpr ⟨List.mem_of_getElem? (i := 270) (by decide +kernel), by decide +kernel⟩
theorem tw_271 : (.methodLink "java/util/Objects" 105 ⟨"jdk/internal/util/Preconditions", "checkIndex", "(IILjava/util/function/BiFunction;)I"⟩ : Cond) ∈ tG := List.mem_filter.mpr ⟨List.mem_of_getElem? (i := 271) (by decide +kernel), by decide +kernel⟩
theorem tw_272 : (.static ⟨"jdk/internal/util/Preconditions", "checkIndex", "(IILjava/util/function/BiFunction;)I"⟩ : Cond) ∈ tG := List.mem_filter.mpr ⟨List.mem_of_getElem? (i := 272) (by decide +kernel), by decide +kernel⟩
theorem tw_273 : (.code ⟨"jdk/internal/util/Preconditions", "checkIndex", "(IILjava/util/function/BiFunction;)I"⟩ prog_34_method_11_code 3 (some .int) : Cond) ∈ tG := List.mem_filter.mpr ⟨List.mem_of_getElem? (i := 273) (by decide +kernel), by decide +kernel⟩
theorem tw_274 : (.methodLink "java/util/ArrayList" 123 ⟨"java/util/ArrayList", "elementData", "(I)Ljava/lang/Object;"⟩ : Cond) ∈ tG := List.mem_filter.mpr ⟨List.mem_of_getElem? (i := 274) (by decide +kernel), by decide +kernel⟩
theorem tw_275 : (.instanceMethod ⟨"java/util/ArrayList", "elementData", "(I)Ljava/lang/Object;"⟩ : Cond) ∈ tG := List.mem_filter.mpr ⟨List.mem_of_getElem? (i := 275) (by decide +kernel), by decide +kernel⟩
theorem tw_276 : (.selects "java/util/ArrayList" ⟨"java/util/ArrayList", "elementData", "(I)Ljava/lang/Object;"⟩ ⟨"java/util/ArrayList", "elementData", "(I)Ljava/lang/Object;"⟩ : Cond) ∈ tG := List.mem_filter.mpr ⟨List.mem_of_getElem? (i := 276) (by decide +kernel), by decide +kernel⟩
theorem tw_277 : (.code ⟨"java/util/ArrayList", "elementData", "(I)Ljava/lang/Object;"⟩ prog_26_method_18_code 2 (some (.object "java/lang/Object")) : Cond) ∈ tG := List.mem_filter.mpr ⟨List.mem_of_getElem? (i := 277) (by decide +kernel), by decide +kernel⟩
theorem tw_278 : (.methodLink "BidLanguage" 241 ⟨"java/util/ArrayList", "add", "(Ljava/lang/Object;)Z"⟩ : Cond) ∈ tG := List.mem_filter.mpr ⟨List.mem_of_getElem? (i := 278) (by decide +kernel), by decide +kernel⟩
theorem tw_279 : (.instanceMethod ⟨"java/util/ArrayList", "add", "(Ljava/lang/Object;)Z"⟩ : Cond) ∈ tG := List.mem_filter.mpr ⟨List.mem_of_getElem? (i := 279) (by decide +kernel), by decide +kernel⟩
theorem tw_280 : (.selects "java/util/ArrayList" ⟨"java/util/ArrayList", "add", "(Ljava/lang/Object;)Z"⟩ ⟨"java/util/ArrayList", "add", "(Ljava/lang/Object;)Z"⟩ : Cond) ∈ tG := List.mem_filter.mpr ⟨List.mem_of_getElem? (i := 280) (by decide +kernel), by decide +kernel⟩
theorem tw_281 : (.code ⟨"java/util/ArrayList", "add", "(Ljava/lang/Object;)Z"⟩ prog_26_method_25_code 2 (some .boolean) : Cond) ∈ tG := List.mem_filter.mpr ⟨List.mem_of_getElem? (i := 281) (by decide +kernel), by decide +kernel⟩
theorem tw_282 : (.methodLink "java/util/ArrayList" 131 ⟨"java/util/ArrayList", "add", "(Ljava/lang/Object;[Ljava/lang/Object;I)V"⟩ : Cond) ∈ tG := List.mem_filter.mpr ⟨List.mem_of_getElem? (i := 282) (by decide +kernel), by decide +kernel⟩
theorem tw_284 : (.instanceMethod ⟨"java/util/ArrayList", "add", "(Ljava/lang/Object;[Ljava/lang/Object;I)V"⟩ : Cond) ∈ tG := List.mem_filter.mpr ⟨List.mem_of_getElem? (i := 284) (by decide +kernel), by decide +kernel⟩
theorem tw_285 : (.code ⟨"java/util/ArrayList", "add", "(Ljava/lang/Object;[Ljava/lang/Object;I)V"⟩ prog_26_method_24_code 4 (none : Option ClassFile.FieldType) : Cond) ∈ tG := List.mem_filter.mpr ⟨List.mem_of_getElem? (i := 285) (by decide +kernel), by decide +kernel⟩
theorem tw_286 : (.methodLink "java/util/ArrayList" 129 ⟨"java/util/ArrayList", "grow", "()[Ljava/lang/Object;"⟩ : Cond) ∈ tG := List.mem_filter.mpr ⟨List.mem_of_getElem? (i := 286) (by decide +kernel), by decide +kernel⟩
theorem tw_288 : (.instanceMethod ⟨"java/util/ArrayList", "grow", "()[Ljava/lang/Object;"⟩ : Cond) ∈ tG := List.mem_filter.mpr ⟨List.mem_of_getElem? (i := 288) (by decide +kernel), by decide +kernel⟩
theorem tw_289 : (.code ⟨"java/util/ArrayList", "grow", "()[Ljava/lang/Object;"⟩ prog_26_method_7_code 1 (some (.array (.object "java/lang/Object"))) : Cond) ∈ tG := List.mem_filter.mpr ⟨List.mem_of_getElem? (i := 289) (by decide +kernel), by decide +kernel⟩
theorem tw_290 : (.methodLink "java/util/ArrayList" 69 ⟨"java/util/ArrayList", "grow", "(I)[Ljava/lang/Object;"⟩ : Cond) ∈ tG := List.mem_filter.mpr ⟨List.mem_of_getElem? (i := 290) (by decide +kernel), by decide +kernel⟩
theorem tw_292 : (.instanceMethod ⟨"java/util/ArrayList", "grow", "(I)[Ljava/lang/Object;"⟩ : Cond) ∈ tG := List.mem_filter.mpr ⟨List.mem_of_getElem? (i := 292) (by decide +kernel), by decide +kernel⟩
theorem tw_293 : (.code ⟨"java/util/ArrayList", "grow", "(I)[Ljava/lang/Object;"⟩ prog_26_method_6_code 4 (some (.array (.object "java/lang/Object"))) : Cond) ∈ tG := List.mem_filter.mpr ⟨List.mem_of_getElem? (i := 293) (by decide +kernel), by decide +kernel⟩
theorem tw_294 : (.methodLink "java/util/ArrayList" 73 ⟨"jdk/internal/util/ArraysSupport", "newLength", "(III)I"⟩ : Cond) ∈ tG := List.mem_filter.mpr ⟨List.mem_of_getElem? (i := 294) (by decide +kernel), by decide +kernel⟩
theorem tw_295 : (.static ⟨"jdk/internal/util/ArraysSupport", "newLength", "(III)I"⟩ : Cond) ∈ tG := List.mem_filter.mpr ⟨List.mem_of_getElem? (i := 295) (by decide +kernel), by decide +kernel⟩
theorem tw_296 : (.code ⟨"jdk/internal/util/ArraysSupport", "newLength", "(III)I"⟩ prog_33_method_27_code 4 (some .int) : Cond) ∈ tG := List.mem_filter.mpr ⟨List.mem_of_getElem? (i := 296) (by decide +kernel), by decide +kernel⟩
theorem tw_297 : (.methodLink "jdk/internal/util/ArraysSupport" 194 ⟨"java/lang/Math", "max", "(II)I"⟩ : Cond) ∈ tG := List.mem_filter.mpr ⟨List.mem_of_getElem? (i := 297) (by decide +kernel), by decide +kernel⟩
theorem tw_298 : (.static ⟨"java/lang/Math", "max", "(II)I"⟩ : Cond) ∈ tG := List.mem_filter.mpr ⟨List.mem_of_getElem? (i := 298) (by decide +kernel), by decide +kernel⟩
theorem tw_299 : (.code ⟨"java/lang/Math", "max", "(II)I"⟩ prog_18_method_65_code 2 (some .int) : Cond) ∈ tG := List.mem_filter.mpr ⟨List.mem_of_getElem? (i := 299) (by decide +kernel), by decide +kernel⟩
theorem tw_300 : (.constant "jdk/internal/util/ArraysSupport" 200 2147483639 : Cond) ∈ tG := List.mem_filter.mpr ⟨List.mem_of_getElem? (i := 300) (by decide +kernel), by decide +kernel⟩
theorem tw_301 : (.methodLink "jdk/internal/util/ArraysSupport" 201 ⟨"jdk/internal/util/ArraysSupport", "hugeLength", "(II)I"⟩ : Cond) ∈ tG := List.mem_filter.mpr ⟨List.mem_of_getElem? (i := 301) (by decide +kernel), by decide +kernel⟩
theorem tw_302 : (.static ⟨"jdk/internal/util/ArraysSupport", "hugeLength", "(II)I"⟩ : Cond) ∈ tG := List.mem_filter.mpr ⟨List.mem_of_getElem? (i := 302) (by decide +kernel), by decide +kernel⟩
theorem tw_303 : (.code ⟨"jdk/internal/util/ArraysSupport", "hugeLength", "(II)I"⟩ prog_33_method_28_code 3 (some .int) : Cond) ∈ tG := List.mem_filter.mpr ⟨List.mem_of_getElem? (i := 303) (by decide +kernel), by decide +kernel⟩
theorem tw_304 : (.methodLink "java/util/ArrayList" 66 ⟨"java/util/Arrays", "copyOf", "([Ljava/lang/Object;I)[Ljava/lang/Object;"⟩ : Cond) ∈ tG := List.mem_filter.mpr ⟨List.mem_of_getElem? (i := 304) (by decide +kernel), by decide +kernel⟩
theorem tw_305 : (.static ⟨"java/util/Arrays", "copyOf", "([Ljava/lang/Object;I)[Ljava/lang/Object;"⟩ : Cond) ∈ tG := List.mem_filter.mpr ⟨List.mem_of_getElem? (i := 305) (by decide +kernel), by decide +kernel⟩
theorem tw_306 : (.code ⟨"java/util/Arrays", "copyOf", "([Ljava/lang/Object;I)[Ljava/lang/Object;"⟩ prog_27_method_119_code 2 (some (.array (.object "java/lang/Object"))) : Cond) ∈ tG := List.mem_filter.mpr ⟨List.mem_of_getElem? (i := 306) (by decide +kernel), by decide +kernel⟩
theorem tw_307 : (.methodLink "java/util/Arrays" 86 ⟨"java/lang/Object", "getClass", "()Ljava/lang/Class;"⟩ : Cond) ∈ tG := List.mem_filter.mpr ⟨List.mem_of_getElem? (i := 307) (by decide +kernel), by decide +kernel⟩
theorem tw_308 : (.instanceMethod ⟨"java/lang/Object", "getClass", "()Ljava/lang/Class;"⟩ : Cond) ∈ tG := List.mem_filter.mpr ⟨List.mem_of_getElem? (i := 308) (by decide +kernel), by decide +kernel⟩
theorem tw_310 : (.selects "BidLanguage" ⟨"java/lang/Object", "getClass", "()Ljava/lang/Class;"⟩ ⟨"java/lang/Object", "getClass", "()Ljava/lang/Class;"⟩ : Cond) ∈ tG := List.mem_filter.mpr ⟨List.mem_of_getElem? (i := 310) (by decide +kernel), by decide +kernel⟩
theorem tw_311 : (.selects "BidLanguage$Auction" ⟨"java/lang/Object", "getClass", "()Ljava/lang/Class;"⟩ ⟨"java/lang/Object", "getClass", "()Ljava/lang/Class;"⟩ : Cond) ∈ tG := List.mem_filter.mpr ⟨List.mem_of_getElem? (i := 311) (by decide +kernel), by decide +kernel⟩
theorem tw_312 : (.selects "BidLanguage$MadeCall" ⟨"java/lang/Object", "getClass", "()Ljava/lang/Class;"⟩ ⟨"java/lang/Object", "getClass", "()Ljava/lang/Class;"⟩ : Cond) ∈ tG := List.mem_filter.mpr ⟨List.mem_of_getElem? (i := 312) (by decide +kernel), by decide +kernel⟩
theorem tw_313 : (.selects "BidLanguage$Position" ⟨"java/lang/Object", "getClass", "()Ljava/lang/Class;"⟩ ⟨"java/lang/Object", "getClass", "()Ljava/lang/Class;"⟩ : Cond) ∈ tG := List.mem_filter.mpr ⟨List.mem_of_getElem? (i := 313) (by decide +kernel), by decide +kernel⟩
theorem tw_314 : (.selects "BidLanguage$Rule" ⟨"java/lang/Object", "getClass", "()Ljava/lang/Class;"⟩ ⟨"java/lang/Object", "getClass", "()Ljava/lang/Class;"⟩ : Cond) ∈ tG := List.mem_filter.mpr ⟨List.mem_of_getElem? (i := 314) (by decide +kernel), by decide +kernel⟩
theorem tw_315 : (.selects "BidLanguage$RuleReader" ⟨"java/lang/Object", "getClass", "()Ljava/lang/Class;"⟩ ⟨"java/lang/Object", "getClass", "()Ljava/lang/Class;"⟩ : Cond) ∈ tG := List.mem_filter.mpr ⟨List.mem_of_getElem? (i := 315) (by decide +kernel), by decide +kernel⟩
theorem tw_316 : (.selects "BidLanguageModel" ⟨"java/lang/Object", "getClass", "()Ljava/lang/Class;"⟩ ⟨"java/lang/Object", "getClass", "()Ljava/lang/Class;"⟩ : Cond) ∈ tG := List.mem_filter.mpr ⟨List.mem_of_getElem? (i := 316) (by decide +kernel), by decide +kernel⟩
theorem tw_317 : (.selects "java/lang/StringBuilder" ⟨"java/lang/Object", "getClass", "()Ljava/lang/Class;"⟩ ⟨"java/lang/Object", "getClass", "()Ljava/lang/Class;"⟩ : Cond) ∈ tG := List.mem_filter.mpr ⟨List.mem_of_getElem? (i := 317) (by decide +kernel), by decide +kernel⟩
theorem tw_318 : (.selects "java/util/ArrayList" ⟨"java/lang/Object", "getClass", "()Ljava/lang/Class;"⟩ ⟨"java/lang/Object", "getClass", "()Ljava/lang/Class;"⟩ : Cond) ∈ tG := List.mem_filter.mpr ⟨List.mem_of_getElem? (i := 318) (by decide +kernel), by decide +kernel⟩
theorem tw_319 : (.native ⟨"java/lang/Object", "getClass", "()Ljava/lang/Class;"⟩ : Cond) ∈ tG := List.mem_filter.mpr ⟨List.mem_of_getElem? (i := 319) (by decide +kernel), by decide +kernel⟩
theorem tw_320 : (.methodLink "java/util/Arrays" 300 ⟨"java/util/Arrays", "copyOf", "([Ljava/lang/Object;ILjava/lang/Class;)[Ljava/lang/Object;"⟩ : Cond) ∈ tG := List.mem_filter.mpr ⟨List.mem_of_getElem? (i := 320) (by decide +kernel), by decide +kernel⟩
theorem tw_321 : (.static ⟨"java/util/Arrays", "copyOf", "([Ljava/lang/Object;ILjava/lang/Class;)[Ljava/lang/Object;"⟩ : Cond) ∈ tG := List.mem_filter.mpr ⟨List.mem_of_getElem? (i := 321) (by decide +kernel), by decide +kernel⟩
theorem tw_322 : (.code ⟨"java/util/Arrays", "copyOf", "([Ljava/lang/Object;ILjava/lang/Class;)[Ljava/lang/Object;"⟩ prog_27_method_120_code 4 (some (.array (.object "java/lang/Object"))) : Cond) ∈ tG := List.mem_filter.mpr ⟨List.mem_of_getElem? (i := 322) (by decide +kernel), by decide +kernel⟩
theorem tw_323 : (.classLink "java/util/Arrays" 110 "[Ljava/lang/Object;" : Cond) ∈ tG := List.mem_filter.mpr ⟨List.mem_of_getElem? (i := 323) (by decide +kernel), by decide +kernel⟩
theorem tw_325 : (.classLink "java/util/Arrays" 2 "java/lang/Object" : Cond) ∈ tG := List.mem_filter.mpr ⟨List.mem_of_getElem? (i := 325) (by decide +kernel), by decide +kernel⟩
theorem tw_326 : (.methodLink "java/util/Arrays" 304 ⟨"java/lang/Math", "min", "(II)I"⟩ : Cond) ∈ tG := List.mem_filter.mpr ⟨List.mem_of_getElem? (i := 326) (by decide +kernel), by decide +kernel⟩
theorem tw_327 : (.static ⟨"java/lang/Math", "min", "(II)I"⟩ : Cond) ∈ tG := List.mem_filter.mpr ⟨List.mem_of_getElem? (i := 327) (by decide +kernel), by decide +kernel⟩
theorem tw_328 : (.code ⟨"java/lang/Math", "min", "(II)I"⟩ prog_18_method_69_code 2 (some .int) : Cond) ∈ tG := List.mem_filter.mpr ⟨List.mem_of_getElem? (i := 328) (by decide +kernel), by decide +kernel⟩
theorem tw_329 : (.methodLink "java/util/Arrays" 150 ⟨"java/lang/System", "arraycopy", "(Ljava/lang/Object;ILjava/lang/Object;II)V"⟩ : Cond) ∈ tG := List.mem_filter.mpr ⟨List.mem_of_getElem? (i := 329) (by decide +kernel), by decide +kernel⟩
theorem tw_330 : (.static ⟨"java/lang/System", "arraycopy", "(Ljava/lang/Object;ILjava/lang/Object;II)V"⟩ : Cond) ∈ tG := List.mem_filter.mpr ⟨List.mem_of_getElem? (i := 330) (by decide +kernel), by decide +kernel⟩
theorem tw_331 : (.native ⟨"java/lang/System", "arraycopy", "(Ljava/lang/Object;ILjava/lang/Object;II)V"⟩ : Cond) ∈ tG := List.mem_filter.mpr ⟨List.mem_of_getElem? (i := 331) (by decide +kernel), by decide +kernel⟩
theorem tw_332 : (.methodLink "java/util/ArrayList" 79 ⟨"java/lang/Math", "max", "(II)I"⟩ : Cond) ∈ tG := List.mem_filter.mpr ⟨List.mem_of_getElem? (i := 332) (by decide +kernel), by decide +kernel⟩
theorem tw_333 : (.classLink "java/util/ArrayList" 7 "java/lang/Object" : Cond) ∈ tG := List.mem_filter.mpr ⟨List.mem_of_getElem? (i := 333) (by decide +kernel), by decide +kernel⟩
theorem tw_334 : (.methodLink "BidLanguage" 73 ⟨"BidLanguage$Auction", "restart", "()V"⟩ : Cond) ∈ tG := List.mem_filter.mpr ⟨List.mem_of_getElem? (i := 334) (by decide +kernel), by decide +kernel⟩
theorem tw_335 : (.instanceMethod ⟨"BidLanguage$Auction", "restart", "()V"⟩ : Cond) ∈ tG := List.mem_filter.mpr ⟨List.mem_of_getElem? (i := 335) (by decide +kernel), by decide +kernel⟩
theorem tw_336 : (.selects "BidLanguage$Auction" ⟨"BidLanguage$Auction", "restart", "()V"⟩ ⟨"BidLanguage$Auction", "restart", "()V"⟩ : Cond) ∈ tG := List.mem_filter.mpr ⟨List.mem_of_getElem? (i := 336) (by decide +kernel), by decide +kernel⟩
theorem tw_337 : (.code ⟨"BidLanguage$Auction", "restart", "()V"⟩ prog_2_method_2_code 1 (none : Option ClassFile.FieldType) : Cond) ∈ tG := List.mem_filter.mpr ⟨List.mem_of_getElem? (i := 337) (by decide +kernel), by decide +kernel⟩
theorem tw_338 : (.methodLink "BidLanguage$Auction" 34 ⟨"java/util/ArrayList", "clear", "()V"⟩ : Cond) ∈ tG := List.mem_filter.mpr ⟨List.mem_of_getElem? (i := 338) (by decide +kernel), by decide +kernel⟩
theorem tw_339 : (.instanceMethod ⟨"java/util/ArrayList", "clear", "()V"⟩ : Cond) ∈ tG := List.mem_filter.mpr ⟨List.mem_of_getElem? (i := 339) (by decide +kernel), by decide +kernel⟩
theorem tw_340 : (.selects "java/util/ArrayList" ⟨"java/util/ArrayList", "clear", "()V"⟩ ⟨"java/util/ArrayList", "clear", "()V"⟩ : Cond) ∈ tG := List.mem_filter.mpr ⟨List.mem_of_getElem? (i := 340) (by decide +kernel), by decide +kernel⟩
theorem tw_341 : (.code ⟨"java/util/ArrayList", "clear", "()V"⟩ prog_26_method_40_code 4 (none : Option ClassFile.FieldType) : Cond) ∈ tG := List.mem_filter.mpr ⟨List.mem_of_getElem? (i := 341) (by decide +kernel), by decide +kernel⟩
theorem tw_342 : (.methodLink "BidLanguageLaw" 18 ⟨"BidLanguage", "limit", "(IIII)I"⟩ : Cond) ∈ tG := List.mem_filter.mpr ⟨List.mem_of_getElem? (i := 342) (by decide +kernel), by decide +kernel⟩
theorem tw_343 : (.instanceMethod ⟨"BidLanguage", "limit", "(IIII)I"⟩ : Cond) ∈ tG := List.mem_filter.mpr ⟨List.mem_of_getElem? (i := 343) (by decide +kernel), by decide +kernel⟩
theorem tw_344 : (.selects "BidLanguage" ⟨"BidLanguage", "limit", "(IIII)I"⟩ ⟨"BidLanguage", "limit", "(IIII)I"⟩ : Cond) ∈ tG := List.mem_filter.mpr ⟨List.mem_of_getElem? (i := 344) (by decide +kernel), by decide +kernel⟩
theorem tw_345 : (.code ⟨"BidLanguage", "limit", "(IIII)I"⟩ prog_1_method_3_code 6 (some .int) : Cond) ∈ tG := List.mem_filter.mpr ⟨List.mem_of_getElem? (i := 345) (by decide +kernel), by decide +kernel⟩
theorem tw_346 : (.methodLink "BidLanguage" 56 ⟨"BidLanguage", "isRule", "(I)Z"⟩ : Cond) ∈ tG := List.mem_filter.mpr ⟨List.mem_of_getElem? (i := 346) (by decide +kernel), by decide +kernel⟩
theorem tw_348 : (.instanceMethod ⟨"BidLanguage", "isRule", "(I)Z"⟩ : Cond) ∈ tG := List.mem_filter.mpr ⟨List.mem_of_getElem? (i := 348) (by decide +kernel), by decide +kernel⟩
theorem tw_349 : (.code ⟨"BidLanguage", "isRule", "(I)Z"⟩ prog_1_method_35_code 2 (some .boolean) : Cond) ∈ tG := List.mem_filter.mpr ⟨List.mem_of_getElem? (i := 349) (by decide +kernel), by decide +kernel⟩
theorem tw_350 : (.methodLink "BidLanguage" 59 ⟨"BidLanguage$Cards", "greatestMeasure", "(I)I"⟩ : Cond) ∈ tG := List.mem_filter.mpr ⟨List.mem_of_getElem? (i := 350) (by decide +kernel), by decide +kernel⟩
theorem tw_351 : (.static ⟨"BidLanguage$Cards", "greatestMeasure", "(I)I"⟩ : Cond) ∈ tG := List.mem_filter.mpr ⟨List.mem_of_getElem? (i := 351) (by decide +kernel), by decide +kernel⟩
theorem tw_352 : (.code ⟨"BidLanguage$Cards", "greatestMeasure", "(I)I"⟩ prog_3_method_8_code 1 (some .int) : Cond) ∈ tG := List.mem_filter.mpr ⟨List.mem_of_getElem? (i := 352) (by decide +kernel), by decide +kernel⟩
theorem tw_353 : (.methodLink "BidLanguage" 69 ⟨"BidLanguage$Rule", "setRange", "(III)V"⟩ : Cond) ∈ tG := List.mem_filter.mpr ⟨List.mem_of_getElem? (i := 353) (by decide +kernel), by decide +kernel⟩
theorem tw_354 : (.instanceMethod ⟨"BidLanguage$Rule", "setRange", "(III)V"⟩ : Cond) ∈ tG := List.mem_filter.mpr ⟨List.mem_of_getElem? (i := 354) (by decide +kernel), by decide +kernel⟩
theorem tw_355 : (.selects "BidLanguage$Rule" ⟨"BidLanguage$Rule", "setRange", "(III)V"⟩ ⟨"BidLanguage$Rule", "setRange", "(III)V"⟩ : Cond) ∈ tG := List.mem_filter.mpr ⟨List.mem_of_getElem? (i := 355) (by decide +kernel), by decide +kernel⟩
theorem tw_356 : (.code ⟨"BidLanguage$Rule", "setRange", "(III)V"⟩ prog_6_method_2_code 5 (none : Option ClassFile.FieldType) : Cond) ∈ tG := List.mem_filter.mpr ⟨List.mem_of_getElem? (i := 356) (by decide +kernel), by decide +kernel⟩
theorem tw_357 : (.methodLink "BidLanguage" 76 ⟨"BidLanguage", "countAdmitted", "(LBidLanguage$Rule;)I"⟩ : Cond) ∈ tG := List.mem_filter.mpr ⟨List.mem_of_getElem? (i := 357) (by decide +kernel), by decide +kernel⟩
theorem tw_359 : (.instanceMethod ⟨"BidLanguage", "countAdmitted", "(LBidLanguage$Rule;)I"⟩ : Cond) ∈ tG := List.mem_filter.mpr ⟨List.mem_of_getElem? (i := 359) (by decide +kernel), by decide +kernel⟩
theorem tw_360 : (.code ⟨"BidLanguage", "countAdmitted", "(LBidLanguage$Rule;)I"⟩ prog_1_method_40_code 5 (some .int) : Cond) ∈ tG := List.mem_filter.mpr ⟨List.mem_of_getElem? (i := 360) (by decide +kernel), by decide +kernel⟩
theorem tw_361 : (.methodLink "BidLanguage" 129 ⟨"BidLanguage$Cards", "profile", "(I)I"⟩ : Cond) ∈ tG := List.mem_filter.mpr ⟨List.mem_of_getElem? (i := 361) (by decide +kernel), by decide +kernel⟩
theorem tw_362 : (.static ⟨"BidLanguage$Cards", "profile", "(I)I"⟩ : Cond) ∈ tG := List.mem_filter.mpr ⟨List.mem_of_getElem? (i := 362) (by decide +kernel), by decide +kernel⟩
theorem tw_363 : (.code ⟨"BidLanguage$Cards", "profile", "(I)I"⟩ prog_3_method_10_code 3 (some .int) : Cond) ∈ tG := List.mem_filter.mpr ⟨List.mem_of_getElem? (i := 363) (by decide +kernel), by decide +kernel⟩
theorem tw_364 : (.methodLink "BidLanguage$Cards" 25 ⟨"BidLanguage$Cards", "strength", "(I)I"⟩ : Cond) ∈ tG := List.mem_filter.mpr ⟨List.mem_of_getElem? (i := 364) (by decide +kernel), by decide +kernel⟩
theorem tw_365 : (.static ⟨"BidLanguage$Cards", "strength", "(I)I"⟩ : Cond) ∈ tG := List.mem_filter.mpr ⟨List.mem_of_getElem? (i := 365) (by decide +kernel), by decide +kernel⟩
theorem tw_366 : (.code ⟨"BidLanguage$Cards", "strength", "(I)I"⟩ prog_3_method_9_code 3 (some .int) : Cond) ∈ tG := List.mem_filter.mpr ⟨List.mem_of_getElem? (i := 366) (by decide +kernel), by decide +kernel⟩
theorem tw_367 : (.constant "BidLanguage$Cards" 32 33825 : Cond) ∈ tG := List.mem_filter.mpr ⟨List.mem_of_getElem? (i := 367) (by decide +kernel), by decide +kernel⟩
theorem tw_368 : (.methodLink "BidLanguage$Cards" 16 ⟨"java/lang/Integer", "bitCount", "(I)I"⟩ : Cond) ∈ tG := List.mem_filter.mpr ⟨List.mem_of_getElem? (i := 368) (by decide +kernel), by decide +kernel⟩
theorem tw_369 : (.static ⟨"java/lang/Integer", "bitCount", "(I)I"⟩ : Cond) ∈ tG := List.mem_filter.mpr ⟨List.mem_of_getElem? (i := 369) (by decide +kernel), by decide +kernel⟩
theorem tw_370 : (.code ⟨"java/lang/Integer", "bitCount", "(I)I"⟩ prog_16_method_49_code 1 (some .int) : Cond) ∈ tG := List.mem_filter.mpr ⟨List.mem_of_getElem? (i := 370) (by decide +kernel), by decide +kernel⟩
theorem tw_371 : (.constant "java/lang/Integer" 265 1431655765 : Cond) ∈ tG := List.mem_filter.mpr ⟨List.mem_of_getElem? (i := 371) (by decide +kernel), by decide +kernel⟩
theorem tw_372 : (.constant "java/lang/Integer" 266 858993459 : Cond) ∈ tG := List.mem_filter.mpr ⟨List.mem_of_getElem? (i := 372) (by decide +kernel), by decide +kernel⟩
theorem tw_373 : (.constant "java/lang/Integer" 267 252645135 : Cond) ∈ tG := List.mem_filter.mpr ⟨List.mem_of_getElem? (i := 373) (by decide +kernel), by decide +kernel⟩
theorem tw_374 : (.methodLink "BidLanguage$Cards" 28 ⟨"BidLanguage$Cards", "ofSuit", "(II)I"⟩ : Cond) ∈ tG := List.mem_filter.mpr ⟨List.mem_of_getElem? (i := 374) (by decide +kernel), by decide +kernel⟩
theorem tw_375 : (.static ⟨"BidLanguage$Cards", "ofSuit", "(II)I"⟩ : Cond) ∈ tG := List.mem_filter.mpr ⟨List.mem_of_getElem? (i := 375) (by decide +kernel), by decide +kernel⟩
theorem tw_376 : (.code ⟨"BidLanguage$Cards", "ofSuit", "(II)I"⟩ prog_3_method_6_code 2 (some .int) : Cond) ∈ tG := List.mem_filter.mpr ⟨List.mem_of_getElem? (i := 376) (by decide +kernel), by decide +kernel⟩
theorem tw_377 : (.methodLink "BidLanguage" 248 ⟨"BidLanguage$Rule", "admits", "(I)Z"⟩ : Cond) ∈ tG := List.mem_filter.mpr ⟨List.mem_of_getElem? (i := 377) (by decide +kernel), by decide +kernel⟩
theorem tw_378 : (.instanceMethod ⟨"BidLanguage$Rule", "admits", "(I)Z"⟩ : Cond) ∈ tG := List.mem_filter.mpr ⟨List.mem_of_getElem? (i := 378) (by decide +kernel), by decide +kernel⟩
theorem tw_379 : (.selects "BidLanguage$Rule" ⟨"BidLanguage$Rule", "admits", "(I)Z"⟩ ⟨"BidLanguage$Rule", "admits", "(I)Z"⟩ : Cond) ∈ tG := List.mem_filter.mpr ⟨List.mem_of_getElem? (i := 379) (by decide +kernel), by decide +kernel⟩
theorem tw_380 : (.code ⟨"BidLanguage$Rule", "admits", "(I)Z"⟩ prog_6_method_4_code 4 (some .boolean) : Cond) ∈ tG := List.mem_filter.mpr ⟨List.mem_of_getElem? (i := 380) (by decide +kernel), by decide +kernel⟩
theorem tw_381 : (.constant "BidLanguage$Rule" 31 545392672 : Cond) ∈ tG := List.mem_filter.mpr ⟨List.mem_of_getElem? (i := 381) (by decide +kernel), by decide +kernel⟩
theorem tw_382 : (.methodLink "BidLanguage" 186 ⟨"BidLanguage$Cards", "handAfter", "(I)I"⟩ : Cond) ∈ tG := List.mem_filter.mpr ⟨List.mem_of_getElem? (i := 382) (by decide +kernel), by decide +kernel⟩
theorem tw_383 : (.static ⟨"BidLanguage$Cards", "handAfter", "(I)I"⟩ : Cond) ∈ tG := List.mem_filter.mpr ⟨List.mem_of_getElem? (i := 383) (by decide +kernel), by decide +kernel⟩
theorem tw_384 : (.code ⟨"BidLanguage$Cards", "handAfter", "(I)I"⟩ prog_3_method_4_code 2 (some .int) : Cond) ∈ tG := List.mem_filter.mpr ⟨List.mem_of_getElem? (i := 384) (by decide +kernel), by decide +kernel⟩
theorem tw_385 : (.methodLink "BidLanguage$Cards" 22 ⟨"java/lang/Integer", "numberOfTrailingZeros", "(I)I"⟩ : Cond) ∈ tG := List.mem_filter.mpr ⟨List.mem_of_getElem? (i := 385) (by decide +kernel), by decide +kernel⟩
theorem tw_386 : (.static ⟨"java/lang/Integer", "numberOfTrailingZeros", "(I)I"⟩ : Cond) ∈ tG := List.mem_filter.mpr ⟨List.mem_of_getElem? (i := 386) (by decide +kernel), by decide +kernel⟩
theorem tw_387 : (.code ⟨"java/lang/Integer", "numberOfTrailingZeros", "(I)I"⟩ prog_16_method_48_code 2 (some .int) : Cond) ∈ tG := List.mem_filter.mpr ⟨List.mem_of_getElem? (i := 387) (by decide +kernel), by decide +kernel⟩
theorem tw_388 : (.constant "java/lang/Integer" 264 65536 : Cond) ∈ tG := List.mem_filter.mpr ⟨List.mem_of_getElem? (i := 388) (by decide +kernel), by decide +kernel⟩
theorem tw_389 : (.methodLink "BidLanguageLaw" 22 ⟨"BidLanguage", "remove", "(I)I"⟩ : Cond) ∈ tG := List.mem_filter.mpr ⟨List.mem_of_getElem? (i := 389) (by decide +kernel), by decide +kernel⟩
theorem tw_390 : (.instanceMethod ⟨"BidLanguage", "remove", "(I)I"⟩ : Cond) ∈ tG := List.mem_filter.mpr ⟨List.mem_of_getElem? (i := 390) (by decide +kernel), by decide +kernel⟩
theorem tw_391 : (.selects "BidLanguage" ⟨"BidLanguage", "remove", "(I)I"⟩ ⟨"BidLanguage", "remove", "(I)I"⟩ : Cond) ∈ tG := List.mem_filter.mpr ⟨List.mem_of_getElem? (i := 391) (by decide +kernel), by decide +kernel⟩
theorem tw_392 : (.code ⟨"BidLanguage", "remove", "(I)I"⟩ prog_1_method_4_code 2 (some .int) : Cond) ∈ tG := List.mem_filter.mpr ⟨List.mem_of_getElem? (i := 392) (by decide +kernel), by decide +kernel⟩
theorem tw_393 : (.methodLink "BidLanguage" 79 ⟨"java/util/ArrayList", "remove", "(I)Ljava/lang/Object;"⟩ : Cond) ∈ tG := List.mem_filter.mpr ⟨List.mem_of_getElem? (i := 393) (by decide +kernel), by decide +kernel⟩
theorem tw_394 : (.instanceMethod ⟨"java/util/ArrayList", "remove", "(I)Ljava/lang/Object;"⟩ : Cond) ∈ tG := List.mem_filter.mpr ⟨List.mem_of_getElem? (i := 394) (by decide +kernel), by decide +kernel⟩
theorem tw_395 : (.selects "java/util/ArrayList" ⟨"java/util/ArrayList", "remove", "(I)Ljava/lang/Object;"⟩ ⟨"java/util/ArrayList", "remove", "(I)Ljava/lang/Object;"⟩ : Cond) ∈ tG := List.mem_filter.mpr ⟨List.mem_of_getElem? (i := 395) (by decide +kernel), by decide +kernel⟩
theorem tw_396 : (.code ⟨"java/util/ArrayList", "remove", "(I)Ljava/lang/Object;"⟩ prog_26_method_29_code 4 (some (.object "java/lang/Object")) : Cond) ∈ tG := List.mem_filter.mpr ⟨List.mem_of_getElem? (i := 396) (by decide +kernel), by decide +kernel⟩
theorem tw_397 : (.methodLink "java/util/ArrayList" 144 ⟨"java/util/ArrayList", "fastRemove", "([Ljava/lang/Object;I)V"⟩ : Cond) ∈ tG := List.mem_filter.mpr ⟨List.mem_of_getElem? (i := 397) (by decide +kernel), by decide +kernel⟩
theorem tw_399 : (.instanceMethod ⟨"java/util/ArrayList", "fastRemove", "([Ljava/lang/Object;I)V"⟩ : Cond) ∈ tG := List.mem_filter.mpr ⟨List.mem_of_getElem? (i := 399) (by decide +kernel), by decide +kernel⟩
theorem tw_400 : (.code ⟨"java/util/ArrayList", "fastRemove", "([Ljava/lang/Object;I)V"⟩ prog_26_method_39_code 4 (none : Option ClassFile.FieldType) : Cond) ∈ tG := List.mem_filter.mpr ⟨List.mem_of_getElem? (i := 400) (by decide +kernel), by decide +kernel⟩
theorem tw_401 : (.methodLink "java/util/ArrayList" 112 ⟨"java/lang/System", "arraycopy", "(Ljava/lang/Object;ILjava/lang/Object;II)V"⟩ : Cond) ∈ tG := List.mem_filter.mpr ⟨List.mem_of_getElem? (i := 401) (by decide +kernel), by decide +kernel⟩
theorem tw_402 : (.methodLink "BidLanguageLaw" 27 ⟨"BidLanguage", "move", "(II)I"⟩ : Cond) ∈ tG := List.mem_filter.mpr ⟨List.mem_of_getElem? (i := 402) (by decide +kernel), by decide +kernel⟩
theorem tw_403 : (.instanceMethod ⟨"BidLanguage", "move", "(II)I"⟩ : Cond) ∈ tG := List.mem_filter.mpr ⟨List.mem_of_getElem? (i := 403) (by decide +kernel), by decide +kernel⟩
theorem tw_404 : (.selects "BidLanguage" ⟨"BidLanguage", "move", "(II)I"⟩ ⟨"BidLanguage", "move", "(II)I"⟩ : Cond) ∈ tG := List.mem_filter.mpr ⟨List.mem_of_getElem? (i := 404) (by decide +kernel), by decide +kernel⟩
theorem tw_405 : (.code ⟨"BidLanguage", "move", "(II)I"⟩ prog_1_method_5_code 4 (some .int) : Cond) ∈ tG := List.mem_filter.mpr ⟨List.mem_of_getElem? (i := 405) (by decide +kernel), by decide +kernel⟩
theorem tw_406 : (.methodLink "BidLanguage" 86 ⟨"java/util/ArrayList", "add", "(ILjava/lang/Object;)V"⟩ : Cond) ∈ tG := List.mem_filter.mpr ⟨List.mem_of_getElem? (i := 406) (by decide +kernel), by decide +kernel⟩
theorem tw_407 : (.instanceMethod ⟨"java/util/ArrayList", "add", "(ILjava/lang/Object;)V"⟩ : Cond) ∈ tG := List.mem_filter.mpr ⟨List.mem_of_getElem? (i := 407) (by decide +kernel), by decide +kernel⟩
theorem tw_408 : (.selects "java/util/ArrayList" ⟨"java/util/ArrayList", "add", "(ILjava/lang/Object;)V"⟩ ⟨"java/util/ArrayList", "add", "(ILjava/lang/Object;)V"⟩ : Cond) ∈ tG := List.mem_filter.mpr ⟨List.mem_of_getElem? (i := 408) (by decide +kernel), by decide +kernel⟩
theorem tw_409 : (.code ⟨"java/util/ArrayList", "add", "(ILjava/lang/Object;)V"⟩ prog_26_method_26_code 5 (none : Option ClassFile.FieldType) : Cond) ∈ tG := List.mem_filter.mpr ⟨List.mem_of_getElem? (i := 409) (by decide +kernel), by decide +kernel⟩
theorem tw_410 : (.methodLink "java/util/ArrayList" 135 ⟨"java/util/ArrayList", "rangeCheckForAdd", "(I)V"⟩ : Cond) ∈ tG := List.mem_filter.mpr ⟨List.mem_of_getElem? (i := 410) (by decide +kernel), by decide +kernel⟩
theorem tw_412 : (.instanceMethod ⟨"java/util/ArrayList", "rangeCheckForAdd", "(I)V"⟩ : Cond) ∈ tG := List.mem_filter.mpr ⟨List.mem_of_getElem? (i := 412) (by decide +kernel), by decide +kernel⟩
theorem tw_413 : (.code ⟨"java/util/ArrayList", "rangeCheckForAdd", "(I)V"⟩ prog_26_method_45_code 2 (none : Option ClassFile.FieldType) : Cond) ∈ tG := List.mem_filter.mpr ⟨List.mem_of_getElem? (i := 413) (by decide +kernel), by decide +kernel⟩
theorem tw_414 : (.methodLink "BidLanguageLaw" 32 ⟨"BidLanguage", "part", "(II)I"⟩ : Cond) ∈ tG := List.mem_filter.mpr ⟨List.mem_of_getElem? (i := 414) (by decide +kernel), by decide +kernel⟩
theorem tw_415 : (.instanceMethod ⟨"BidLanguage", "part", "(II)I"⟩ : Cond) ∈ tG := List.mem_filter.mpr ⟨List.mem_of_getElem? (i := 415) (by decide +kernel), by decide +kernel⟩
theorem tw_416 : (.selects "BidLanguage" ⟨"BidLanguage", "part", "(II)I"⟩ ⟨"BidLanguage", "part", "(II)I"⟩ : Cond) ∈ tG := List.mem_filter.mpr ⟨List.mem_of_getElem? (i := 416) (by decide +kernel), by decide +kernel⟩
theorem tw_417 : (.code ⟨"BidLanguage", "part", "(II)I"⟩ prog_1_method_6_code 3 (some .int) : Cond) ∈ tG := List.mem_filter.mpr ⟨List.mem_of_getElem? (i := 417) (by decide +kernel), by decide +kernel⟩
theorem tw_418 : (.methodLink "BidLanguage" 93 ⟨"BidLanguage$Rule", "number", "(I)I"⟩ : Cond) ∈ tG := List.mem_filter.mpr ⟨List.mem_of_getElem? (i := 418) (by decide +kernel), by decide +kernel⟩
theorem tw_419 : (.instanceMethod ⟨"BidLanguage$Rule", "number", "(I)I"⟩ : Cond) ∈ tG := List.mem_filter.mpr ⟨List.mem_of_getElem? (i := 419) (by decide +kernel), by decide +kernel⟩
theorem tw_420 : (.selects "BidLanguage$Rule" ⟨"BidLanguage$Rule", "number", "(I)I"⟩ ⟨"BidLanguage$Rule", "number", "(I)I"⟩ : Cond) ∈ tG := List.mem_filter.mpr ⟨List.mem_of_getElem? (i := 420) (by decide +kernel), by decide +kernel⟩
theorem tw_421 : (.code ⟨"BidLanguage$Rule", "number", "(I)I"⟩ prog_6_method_3_code 2 (some .int) : Cond) ∈ tG := List.mem_filter.mpr ⟨List.mem_of_getElem? (i := 421) (by decide +kernel), by decide +kernel⟩
theorem tw_422 : (.methodLink "BidLanguageLaw" 36 ⟨"BidLanguage", "give", "(II)I"⟩ : Cond) ∈ tG := List.mem_filter.mpr ⟨List.mem_of_getElem? (i := 422) (by decide +kernel), by decide +kernel⟩
theorem tw_423 : (.instanceMethod ⟨"BidLanguage", "give", "(II)I"⟩ : Cond) ∈ tG := List.mem_filter.mpr ⟨List.mem_of_getElem? (i := 423) (by decide +kernel), by decide +kernel⟩
theorem tw_424 : (.selects "BidLanguage" ⟨"BidLanguage", "give", "(II)I"⟩ ⟨"BidLanguage", "give", "(II)I"⟩ : Cond) ∈ tG := List.mem_filter.mpr ⟨List.mem_of_getElem? (i := 424) (by decide +kernel), by decide +kernel⟩
theorem tw_425 : (.code ⟨"BidLanguage", "give", "(II)I"⟩ prog_1_method_7_code 4 (some .int) : Cond) ∈ tG := List.mem_filter.mpr ⟨List.mem_of_getElem? (i := 425) (by decide +kernel), by decide +kernel⟩
theorem tw_426 : (.methodLink "BidLanguage" 96 ⟨"BidLanguage", "isPartner", "(I)Z"⟩ : Cond) ∈ tG := List.mem_filter.mpr ⟨List.mem_of_getElem? (i := 426) (by decide +kernel), by decide +kernel⟩
theorem tw_427 : (.static ⟨"BidLanguage", "isPartner", "(I)Z"⟩ : Cond) ∈ tG := List.mem_filter.mpr ⟨List.mem_of_getElem? (i := 427) (by decide +kernel), by decide +kernel⟩
theorem tw_428 : (.code ⟨"BidLanguage", "isPartner", "(I)Z"⟩ prog_1_method_32_code 1 (some .boolean) : Cond) ∈ tG := List.mem_filter.mpr ⟨List.mem_of_getElem? (i := 428) (by decide +kernel), by decide +kernel⟩
theorem tw_429 : (.methodLink "BidLanguage" 99 ⟨"BidLanguage$Cards", "isHand", "(I)Z"⟩ : Cond) ∈ tG := List.mem_filter.mpr ⟨List.mem_of_getElem? (i := 429) (by decide +kernel), by decide +kernel⟩
theorem tw_430 : (.static ⟨"BidLanguage$Cards", "isHand", "(I)Z"⟩ : Cond) ∈ tG := List.mem_filter.mpr ⟨List.mem_of_getElem? (i := 430) (by decide +kernel), by decide +kernel⟩
theorem tw_431 : (.code ⟨"BidLanguage$Cards", "isHand", "(I)Z"⟩ prog_3_method_3_code 1 (some .boolean) : Cond) ∈ tG := List.mem_filter.mpr ⟨List.mem_of_getElem? (i := 431) (by decide +kernel), by decide +kernel⟩
theorem tw_432 : (.methodLink "BidLanguage$Cards" 10 ⟨"BidLanguage$Cards", "isSet", "(I)Z"⟩ : Cond) ∈ tG := List.mem_filter.mpr ⟨List.mem_of_getElem? (i := 432) (by decide +kernel), by decide +kernel⟩
theorem tw_433 : (.static ⟨"BidLanguage$Cards", "isSet", "(I)Z"⟩ : Cond) ∈ tG := List.mem_filter.mpr ⟨List.mem_of_getElem? (i := 433) (by decide +kernel), by decide +kernel⟩
theorem tw_434 : (.code ⟨"BidLanguage$Cards", "isSet", "(I)Z"⟩ prog_3_method_2_code 1 (some .boolean) : Cond) ∈ tG := List.mem_filter.mpr ⟨List.mem_of_getElem? (i := 434) (by decide +kernel), by decide +kernel⟩
theorem tw_435 : (.constant "BidLanguage$Cards" 9 1048575 : Cond) ∈ tG := List.mem_filter.mpr ⟨List.mem_of_getElem? (i := 435) (by decide +kernel), by decide +kernel⟩
theorem tw_436 : (.methodLink "BidLanguage" 102 ⟨"BidLanguage", "handOf", "(I)I"⟩ : Cond) ∈ tG := List.mem_filter.mpr ⟨List.mem_of_getElem? (i := 436) (by decide +kernel), by decide +kernel⟩
theorem tw_438 : (.instanceMethod ⟨"BidLanguage", "handOf", "(I)I"⟩ : Cond) ∈ tG := List.mem_filter.mpr ⟨List.mem_of_getElem? (i := 438) (by decide +kernel), by decide +kernel⟩
theorem tw_439 : (.code ⟨"BidLanguage", "handOf", "(I)I"⟩ prog_1_method_36_code 2 (some .int) : Cond) ∈ tG := List.mem_filter.mpr ⟨List.mem_of_getElem? (i := 439) (by decide +kernel), by decide +kernel⟩
theorem tw_440 : (.methodLink "BidLanguageLaw" 40 ⟨"BidLanguage", "draw", "(I)I"⟩ : Cond) ∈ tG := List.mem_filter.mpr ⟨List.mem_of_getElem? (i := 440) (by decide +kernel), by decide +kernel⟩
theorem tw_441 : (.instanceMethod ⟨"BidLanguage", "draw", "(I)I"⟩ : Cond) ∈ tG := List.mem_filter.mpr ⟨List.mem_of_getElem? (i := 441) (by decide +kernel), by decide +kernel⟩
theorem tw_442 : (.selects "BidLanguage" ⟨"BidLanguage", "draw", "(I)I"⟩ ⟨"BidLanguage", "draw", "(I)I"⟩ : Cond) ∈ tG := List.mem_filter.mpr ⟨List.mem_of_getElem? (i := 442) (by decide +kernel), by decide +kernel⟩
theorem tw_443 : (.code ⟨"BidLanguage", "draw", "(I)I"⟩ prog_1_method_8_code 6 (some .int) : Cond) ∈ tG := List.mem_filter.mpr ⟨List.mem_of_getElem? (i := 443) (by decide +kernel), by decide +kernel⟩
theorem tw_444 : (.constant "BidLanguage" 105 65535 : Cond) ∈ tG := List.mem_filter.mpr ⟨List.mem_of_getElem? (i := 444) (by decide +kernel), by decide +kernel⟩
theorem tw_445 : (.constant "BidLanguage" 106 1048575 : Cond) ∈ tG := List.mem_filter.mpr ⟨List.mem_of_getElem? (i := 445) (by decide +kernel), by decide +kernel⟩
theorem tw_446 : (.constant "BidLanguage" 107 65536 : Cond) ∈ tG := List.mem_filter.mpr ⟨List.mem_of_getElem? (i := 446) (by decide +kernel), by decide +kernel⟩
theorem tw_447 : (.methodLink "BidLanguage" 108 ⟨"BidLanguage$Cards", "cardAt", "(II)I"⟩ : Cond) ∈ tG := List.mem_filter.mpr ⟨List.mem_of_getElem? (i := 447) (by decide +kernel), by decide +kernel⟩
theorem tw_448 : (.static ⟨"BidLanguage$Cards", "cardAt", "(II)I"⟩ : Cond) ∈ tG := List.mem_filter.mpr ⟨List.mem_of_getElem? (i := 448) (by decide +kernel), by decide +kernel⟩
theorem tw_449 : (.code ⟨"BidLanguage$Cards", "cardAt", "(II)I"⟩ prog_3_method_5_code 4 (some .int) : Cond) ∈ tG := List.mem_filter.mpr ⟨List.mem_of_getElem? (i := 449) (by decide +kernel), by decide +kernel⟩
theorem tw_450 : (.methodLink "BidLanguageLaw" 44 ⟨"BidLanguage", "hand", "(II)I"⟩ : Cond) ∈ tG := List.mem_filter.mpr ⟨List.mem_of_getElem? (i := 450) (by decide +kernel), by decide +kernel⟩
theorem tw_451 : (.instanceMethod ⟨"BidLanguage", "hand", "(II)I"⟩ : Cond) ∈ tG := List.mem_filter.mpr ⟨List.mem_of_getElem? (i := 451) (by decide +kernel), by decide +kernel⟩
theorem tw_452 : (.selects "BidLanguage" ⟨"BidLanguage", "hand", "(II)I"⟩ ⟨"BidLanguage", "hand", "(II)I"⟩ : Cond) ∈ tG := List.mem_filter.mpr ⟨List.mem_of_getElem? (i := 452) (by decide +kernel), by decide +kernel⟩
theorem tw_453 : (.code ⟨"BidLanguage", "hand", "(II)I"⟩ prog_1_method_9_code 3 (some .int) : Cond) ∈ tG := List.mem_filter.mpr ⟨List.mem_of_getElem? (i := 453) (by decide +kernel), by decide +kernel⟩
theorem tw_454 : (.methodLink "BidLanguage" 112 ⟨"BidLanguage$Cards", "measure", "(II)I"⟩ : Cond) ∈ tG := List.mem_filter.mpr ⟨List.mem_of_getElem? (i := 454) (by decide +kernel), by decide +kernel⟩
theorem tw_455 : (.static ⟨"BidLanguage$Cards", "measure", "(II)I"⟩ : Cond) ∈ tG := List.mem_filter.mpr ⟨List.mem_of_getElem? (i := 455) (by decide +kernel), by decide +kernel⟩
theorem tw_456 : (.code ⟨"BidLanguage$Cards", "measure", "(II)I"⟩ prog_3_method_7_code 2 (some .int) : Cond) ∈ tG := List.mem_filter.mpr ⟨List.mem_of_getElem? (i := 456) (by decide +kernel), by decide +kernel⟩
theorem tw_457 : (.methodLink "BidLanguageLaw" 48 ⟨"BidLanguage", "begin", "()I"⟩ : Cond) ∈ tG := List.mem_filter.mpr ⟨List.mem_of_getElem? (i := 457) (by decide +kernel), by decide +kernel⟩
theorem tw_458 : (.instanceMethod ⟨"BidLanguage", "begin", "()I"⟩ : Cond) ∈ tG := List.mem_filter.mpr ⟨List.mem_of_getElem? (i := 458) (by decide +kernel), by decide +kernel⟩
theorem tw_459 : (.selects "BidLanguage" ⟨"BidLanguage", "begin", "()I"⟩ ⟨"BidLanguage", "begin", "()I"⟩ : Cond) ∈ tG := List.mem_filter.mpr ⟨List.mem_of_getElem? (i := 459) (by decide +kernel), by decide +kernel⟩
theorem tw_460 : (.code ⟨"BidLanguage", "begin", "()I"⟩ prog_1_method_10_code 2 (some .int) : Cond) ∈ tG := List.mem_filter.mpr ⟨List.mem_of_getElem? (i := 460) (by decide +kernel), by decide +kernel⟩
theorem tw_461 : (.methodLink "BidLanguageLaw" 53 ⟨"BidLanguage", "call", "()I"⟩ : Cond) ∈ tG := List.mem_filter.mpr ⟨List.mem_of_getElem? (i := 461) (by decide +kernel), by decide +kernel⟩
theorem tw_462 : (.instanceMethod ⟨"BidLanguage", "call", "()I"⟩ : Cond) ∈ tG := List.mem_filter.mpr ⟨List.mem_of_getElem? (i := 462) (by decide +kernel), by decide +kernel⟩
theorem tw_463 : (.selects "BidLanguage" ⟨"BidLanguage", "call", "()I"⟩ ⟨"BidLanguage", "call", "()I"⟩ : Cond) ∈ tG := List.mem_filter.mpr ⟨List.mem_of_getElem? (i := 463) (by decide +kernel), by decide +kernel⟩
theorem tw_464 : (.code ⟨"BidLanguage", "call", "()I"⟩ prog_1_method_11_code 3 (some .int) : Cond) ∈ tG := List.mem_filter.mpr ⟨List.mem_of_getElem? (i := 464) (by decide +kernel), by decide +kernel⟩
theorem tw_465 : (.methodLink "BidLanguage" 118 ⟨"BidLanguage$Auction", "isOver", "()Z"⟩ : Cond) ∈ tG := List.mem_filter.mpr ⟨List.mem_of_getElem? (i := 465) (by decide +kernel), by decide +kernel⟩
theorem tw_466 : (.instanceMethod ⟨"BidLanguage$Auction", "isOver", "()Z"⟩ : Cond) ∈ tG := List.mem_filter.mpr ⟨List.mem_of_getElem? (i := 466) (by decide +kernel), by decide +kernel⟩
theorem tw_467 : (.selects "BidLanguage$Auction" ⟨"BidLanguage$Auction", "isOver", "()Z"⟩ ⟨"BidLanguage$Auction", "isOver", "()Z"⟩ : Cond) ∈ tG := List.mem_filter.mpr ⟨List.mem_of_getElem? (i := 467) (by decide +kernel), by decide +kernel⟩
theorem tw_468 : (.code ⟨"BidLanguage$Auction", "isOver", "()Z"⟩ prog_2_method_4_code 1 (some .boolean) : Cond) ∈ tG := List.mem_filter.mpr ⟨List.mem_of_getElem? (i := 468) (by decide +kernel), by decide +kernel⟩
theorem tw_469 : (.methodLink "BidLanguage$Auction" 41 ⟨"BidLanguage$Auction", "hasPass", "()Z"⟩ : Cond) ∈ tG := List.mem_filter.mpr ⟨List.mem_of_getElem? (i := 469) (by decide +kernel), by decide +kernel⟩
theorem tw_471 : (.instanceMethod ⟨"BidLanguage$Auction", "hasPass", "()Z"⟩ : Cond) ∈ tG := List.mem_filter.mpr ⟨List.mem_of_getElem? (i := 471) (by decide +kernel), by decide +kernel⟩
theorem tw_472 : (.code ⟨"BidLanguage$Auction", "hasPass", "()Z"⟩ prog_2_method_5_code 2 (some .boolean) : Cond) ∈ tG := List.mem_filter.mpr ⟨List.mem_of_getElem? (i := 472) (by decide +kernel), by decide +kernel⟩
theorem tw_473 : (.methodLink "BidLanguage$Auction" 37 ⟨"java/util/ArrayList", "size", "()I"⟩ : Cond) ∈ tG := List.mem_filter.mpr ⟨List.mem_of_getElem? (i := 473) (by decide +kernel), by decide +kernel⟩
theorem tw_474 : (.methodLink "BidLanguage$Auction" 45 ⟨"java/util/ArrayList", "get", "(I)Ljava/lang/Object;"⟩ : Cond) ∈ tG := List.mem_filter.mpr ⟨List.mem_of_getElem? (i := 474) (by decide +kernel), by decide +kernel⟩
theorem tw_475 : (.classLink "BidLanguage$Auction" 49 "BidLanguage$MadeCall" : Cond) ∈ tG := List.mem_filter.mpr ⟨List.mem_of_getElem? (i := 475) (by decide +kernel), by decide +kernel⟩
theorem tw_476 : (.methodLink "BidLanguage" 126 ⟨"BidLanguage$Auction", "turn", "()I"⟩ : Cond) ∈ tG := List.mem_filter.mpr ⟨List.mem_of_getElem? (i := 476) (by decide +kernel), by decide +kernel⟩
theorem tw_477 : (.instanceMethod ⟨"BidLanguage$Auction", "turn", "()I"⟩ : Cond) ∈ tG := List.mem_filter.mpr ⟨List.mem_of_getElem? (i := 477) (by decide +kernel), by decide +kernel⟩
theorem tw_478 : (.selects "BidLanguage$Auction" ⟨"BidLanguage$Auction", "turn", "()I"⟩ ⟨"BidLanguage$Auction", "turn", "()I"⟩ : Cond) ∈ tG := List.mem_filter.mpr ⟨List.mem_of_getElem? (i := 478) (by decide +kernel), by decide +kernel⟩
theorem tw_479 : (.code ⟨"BidLanguage$Auction", "turn", "()I"⟩ prog_2_method_3_code 1 (some .int) : Cond) ∈ tG := List.mem_filter.mpr ⟨List.mem_of_getElem? (i := 479) (by decide +kernel), by decide +kernel⟩
theorem tw_480 : (.methodLink "BidLanguage" 132 ⟨"BidLanguage", "firstRule", "(LBidLanguage$Position;I)I"⟩ : Cond) ∈ tG := List.mem_filter.mpr ⟨List.mem_of_getElem? (i := 480) (by decide +kernel), by decide +kernel⟩
theorem tw_482 : (.instanceMethod ⟨"BidLanguage", "firstRule", "(LBidLanguage$Position;I)I"⟩ : Cond) ∈ tG := List.mem_filter.mpr ⟨List.mem_of_getElem? (i := 482) (by decide +kernel), by decide +kernel⟩
theorem tw_483 : (.code ⟨"BidLanguage", "firstRule", "(LBidLanguage$Position;I)I"⟩ prog_1_method_38_code 5 (some .int) : Cond) ∈ tG := List.mem_filter.mpr ⟨List.mem_of_getElem? (i := 483) (by decide +kernel), by decide +kernel⟩
theorem tw_484 : (.methodLink "BidLanguage" 244 ⟨"BidLanguage$Rule", "isOpen", "(LBidLanguage$Position;)Z"⟩ : Cond) ∈ tG := List.mem_filter.mpr ⟨List.mem_of_getElem? (i := 484) (by decide +kernel), by decide +kernel⟩
theorem tw_485 : (.instanceMethod ⟨"BidLanguage$Rule", "isOpen", "(LBidLanguage$Position;)Z"⟩ : Cond) ∈ tG := List.mem_filter.mpr ⟨List.mem_of_getElem? (i := 485) (by decide +kernel), by decide +kernel⟩
theorem tw_486 : (.selects "BidLanguage$Rule" ⟨"BidLanguage$Rule", "isOpen", "(LBidLanguage$Position;)Z"⟩ ⟨"BidLanguage$Rule", "isOpen", "(LBidLanguage$Position;)Z"⟩ : Cond) ∈ tG := List.mem_filter.mpr ⟨List.mem_of_getElem? (i := 486) (by decide +kernel), by decide +kernel⟩
theorem tw_487 : (.code ⟨"BidLanguage$Rule", "isOpen", "(LBidLanguage$Position;)Z"⟩ prog_6_method_5_code 2 (some .boolean) : Cond) ∈ tG := List.mem_filter.mpr ⟨List.mem_of_getElem? (i := 487) (by decide +kernel), by decide +kernel⟩
theorem tw_488 : (.methodLink "BidLanguage" 140 ⟨"BidLanguage$Auction", "add", "(LBidLanguage$Rule;I)V"⟩ : Cond) ∈ tG := List.mem_filter.mpr ⟨List.mem_of_getElem? (i := 488) (by decide +kernel), by decide +kernel⟩
theorem tw_489 : (.instanceMethod ⟨"BidLanguage$Auction", "add", "(LBidLanguage$Rule;I)V"⟩ : Cond) ∈ tG := List.mem_filter.mpr ⟨List.mem_of_getElem? (i := 489) (by decide +kernel), by decide +kernel⟩
theorem tw_490 : (.selects "BidLanguage$Auction" ⟨"BidLanguage$Auction", "add", "(LBidLanguage$Rule;I)V"⟩ ⟨"BidLanguage$Auction", "add", "(LBidLanguage$Rule;I)V"⟩ : Cond) ∈ tG := List.mem_filter.mpr ⟨List.mem_of_getElem? (i := 490) (by decide +kernel), by decide +kernel⟩
theorem tw_491 : (.code ⟨"BidLanguage$Auction", "add", "(LBidLanguage$Rule;I)V"⟩ prog_2_method_7_code 3 (none : Option ClassFile.FieldType) : Cond) ∈ tG := List.mem_filter.mpr ⟨List.mem_of_getElem? (i := 491) (by decide +kernel), by decide +kernel⟩
theorem tw_492 : (.instantiable "BidLanguage$MadeCall" 3 : Cond) ∈ tG := List.mem_filter.mpr ⟨List.mem_of_getElem? (i := 492) (by decide +kernel), by decide +kernel⟩
theorem tw_493 : (.methodLink "BidLanguage$Auction" 61 ⟨"BidLanguage$MadeCall", "<init>", "(IILBidLanguage$Position;)V"⟩ : Cond) ∈ tG := List.mem_filter.mpr ⟨List.mem_of_getElem? (i := 493) (by decide +kernel), by decide +kernel⟩
theorem tw_494 : (.instanceMethod ⟨"BidLanguage$MadeCall", "<init>", "(IILBidLanguage$Position;)V"⟩ : Cond) ∈ tG := List.mem_filter.mpr ⟨List.mem_of_getElem? (i := 494) (by decide +kernel), by decide +kernel⟩
theorem tw_495 : (.code ⟨"BidLanguage$MadeCall", "<init>", "(IILBidLanguage$Position;)V"⟩ prog_4_method_1_code 4 (none : Option ClassFile.FieldType) : Cond) ∈ tG := List.mem_filter.mpr ⟨List.mem_of_getElem? (i := 495) (by decide +kernel), by decide +kernel⟩
theorem tw_496 : (.methodLink "BidLanguage$MadeCall" 1 ⟨"java/lang/Object", "<init>", "()V"⟩ : Cond) ∈ tG := List.mem_filter.mpr ⟨List.mem_of_getElem? (i := 496) (by decide +kernel), by decide +kernel⟩
theorem tw_497 : (.fieldLink "BidLanguage$MadeCall" 7 "BidLanguage$MadeCall" "call" "I" : Cond) ∈ tG := List.mem_filter.mpr ⟨List.mem_of_getElem? (i := 497) (by decide +kernel), by decide +kernel⟩
theorem tw_498 : (.fieldLinkNest "BidLanguage$Auction" 51 "BidLanguage$MadeCall" "call" "I" "BidLanguage" : Cond) ∈ tG := List.mem_filter.mpr ⟨List.mem_of_getElem? (i := 498) (by decide +kernel), by decide +kernel⟩
theorem tw_499 : (.fieldLink "BidLanguage$MadeCall" 13 "BidLanguage$MadeCall" "rule" "I" : Cond) ∈ tG := List.mem_filter.mpr ⟨List.mem_of_getElem? (i := 499) (by decide +kernel), by decide +kernel⟩
theorem tw_500 : (.fieldLinkNest "BidLanguage" 254 "BidLanguage$MadeCall" "rule" "I" "BidLanguage" : Cond) ∈ tG := List.mem_filter.mpr ⟨List.mem_of_getElem? (i := 500) (by decide +kernel), by decide +kernel⟩
theorem tw_501 : (.fieldLink "BidLanguage$MadeCall" 16 "BidLanguage$MadeCall" "before" "LBidLanguage$Position;" : Cond) ∈ tG := List.mem_filter.mpr ⟨List.mem_of_getElem? (i := 501) (by decide +kernel), by decide +kernel⟩
theorem tw_502 : (.fieldLinkNest "BidLanguage$Auction" 74 "BidLanguage$MadeCall" "before" "LBidLanguage$Position;" "BidLanguage" : Cond) ∈ tG := List.mem_filter.mpr ⟨List.mem_of_getElem? (i := 502) (by decide +kernel), by decide +kernel⟩
theorem tw_503 : (.fieldLinkNest "BidLanguage" 251 "BidLanguage$MadeCall" "before" "LBidLanguage$Position;" "BidLanguage" : Cond) ∈ tG := List.mem_filter.mpr ⟨List.mem_of_getElem? (i := 503) (by decide +kernel), by decide +kernel⟩
theorem tw_511 : (.methodLink "BidLanguage$Auction" 64 ⟨"java/util/ArrayList", "add", "(Ljava/lang/Object;)Z"⟩ : Cond) ∈ tG := List.mem_filter.mpr ⟨List.mem_of_getElem? (i := 511) (by decide +kernel), by decide +kernel⟩
theorem tw_512 : (.methodLink "BidLanguageLaw" 57 ⟨"BidLanguage", "make", "(I)I"⟩ : Cond) ∈ tG := List.mem_filter.mpr ⟨List.mem_of_getElem? (i := 512) (by decide +kernel), by decide +kernel⟩
theorem tw_513 : (.instanceMethod ⟨"BidLanguage", "make", "(I)I"⟩ : Cond) ∈ tG := List.mem_filter.mpr ⟨List.mem_of_getElem? (i := 513) (by decide +kernel), by decide +kernel⟩
theorem tw_514 : (.selects "BidLanguage" ⟨"BidLanguage", "make", "(I)I"⟩ ⟨"BidLanguage", "make", "(I)I"⟩ : Cond) ∈ tG := List.mem_filter.mpr ⟨List.mem_of_getElem? (i := 514) (by decide +kernel), by decide +kernel⟩
theorem tw_515 : (.code ⟨"BidLanguage", "make", "(I)I"⟩ prog_1_method_12_code 3 (some .int) : Cond) ∈ tG := List.mem_filter.mpr ⟨List.mem_of_getElem? (i := 515) (by decide +kernel), by decide +kernel⟩
theorem tw_516 : (.methodLink "BidLanguage" 143 ⟨"BidLanguage", "openRule", "(I)I"⟩ : Cond) ∈ tG := List.mem_filter.mpr ⟨List.mem_of_getElem? (i := 516) (by decide +kernel), by decide +kernel⟩
theorem tw_518 : (.instanceMethod ⟨"BidLanguage", "openRule", "(I)I"⟩ : Cond) ∈ tG := List.mem_filter.mpr ⟨List.mem_of_getElem? (i := 518) (by decide +kernel), by decide +kernel⟩
theorem tw_519 : (.code ⟨"BidLanguage", "openRule", "(I)I"⟩ prog_1_method_39_code 4 (some .int) : Cond) ∈ tG := List.mem_filter.mpr ⟨List.mem_of_getElem? (i := 519) (by decide +kernel), by decide +kernel⟩
theorem tw_520 : (.methodLink "BidLanguageLaw" 61 ⟨"BidLanguage", "back", "()I"⟩ : Cond) ∈ tG := List.mem_filter.mpr ⟨List.mem_of_getElem? (i := 520) (by decide +kernel), by decide +kernel⟩
theorem tw_521 : (.instanceMethod ⟨"BidLanguage", "back", "()I"⟩ : Cond) ∈ tG := List.mem_filter.mpr ⟨List.mem_of_getElem? (i := 521) (by decide +kernel), by decide +kernel⟩
theorem tw_522 : (.selects "BidLanguage" ⟨"BidLanguage", "back", "()I"⟩ ⟨"BidLanguage", "back", "()I"⟩ : Cond) ∈ tG := List.mem_filter.mpr ⟨List.mem_of_getElem? (i := 522) (by decide +kernel), by decide +kernel⟩
theorem tw_523 : (.code ⟨"BidLanguage", "back", "()I"⟩ prog_1_method_13_code 1 (some .int) : Cond) ∈ tG := List.mem_filter.mpr ⟨List.mem_of_getElem? (i := 523) (by decide +kernel), by decide +kernel⟩
theorem tw_524 : (.methodLink "BidLanguage" 146 ⟨"BidLanguage$Auction", "takeBack", "()Z"⟩ : Cond) ∈ tG := List.mem_filter.mpr ⟨List.mem_of_getElem? (i := 524) (by decide +kernel), by decide +kernel⟩
theorem tw_525 : (.instanceMethod ⟨"BidLanguage$Auction", "takeBack", "()Z"⟩ : Cond) ∈ tG := List.mem_filter.mpr ⟨List.mem_of_getElem? (i := 525) (by decide +kernel), by decide +kernel⟩
theorem tw_526 : (.selects "BidLanguage$Auction" ⟨"BidLanguage$Auction", "takeBack", "()Z"⟩ ⟨"BidLanguage$Auction", "takeBack", "()Z"⟩ : Cond) ∈ tG := List.mem_filter.mpr ⟨List.mem_of_getElem? (i := 526) (by decide +kernel), by decide +kernel⟩
theorem tw_527 : (.code ⟨"BidLanguage$Auction", "takeBack", "()Z"⟩ prog_2_method_8_code 2 (some .boolean) : Cond) ∈ tG := List.mem_filter.mpr ⟨List.mem_of_getElem? (i := 527) (by decide +kernel), by decide +kernel⟩
theorem tw_528 : (.methodLink "BidLanguage$Auction" 77 ⟨"java/util/ArrayList", "remove", "(I)Ljava/lang/Object;"⟩ : Cond) ∈ tG := List.mem_filter.mpr ⟨List.mem_of_getElem? (i := 528) (by decide +kernel), by decide +kernel⟩
theorem tw_529 : (.methodLink "BidLanguageLaw" 65 ⟨"BidLanguage", "made", "(II)I"⟩ : Cond) ∈ tG := List.mem_filter.mpr ⟨List.mem_of_getElem? (i := 529) (by decide +kernel), by decide +kernel⟩
theorem tw_530 : (.instanceMethod ⟨"BidLanguage", "made", "(II)I"⟩ : Cond) ∈ tG := List.mem_filter.mpr ⟨List.mem_of_getElem? (i := 530) (by decide +kernel), by decide +kernel⟩
theorem tw_531 : (.selects "BidLanguage" ⟨"BidLanguage", "made", "(II)I"⟩ ⟨"BidLanguage", "made", "(II)I"⟩ : Cond) ∈ tG := List.mem_filter.mpr ⟨List.mem_of_getElem? (i := 531) (by decide +kernel), by decide +kernel⟩
theorem tw_532 : (.code ⟨"BidLanguage", "made", "(II)I"⟩ prog_1_method_14_code 3 (some .int) : Cond) ∈ tG := List.mem_filter.mpr ⟨List.mem_of_getElem? (i := 532) (by decide +kernel), by decide +kernel⟩
theorem tw_533 : (.classLink "BidLanguage" 149 "BidLanguage$MadeCall" : Cond) ∈ tG := List.mem_filter.mpr ⟨List.mem_of_getElem? (i := 533) (by decide +kernel), by decide +kernel⟩
theorem tw_534 : (.methodLink "BidLanguage" 151 ⟨"BidLanguage$MadeCall", "number", "(I)I"⟩ : Cond) ∈ tG := List.mem_filter.mpr ⟨List.mem_of_getElem? (i := 534) (by decide +kernel), by decide +kernel⟩
theorem tw_535 : (.instanceMethod ⟨"BidLanguage$MadeCall", "number", "(I)I"⟩ : Cond) ∈ tG := List.mem_filter.mpr ⟨List.mem_of_getElem? (i := 535) (by decide +kernel), by decide +kernel⟩
theorem tw_536 : (.selects "BidLanguage$MadeCall" ⟨"BidLanguage$MadeCall", "number", "(I)I"⟩ ⟨"BidLanguage$MadeCall", "number", "(I)I"⟩ : Cond) ∈ tG := List.mem_filter.mpr ⟨List.mem_of_getElem? (i := 536) (by decide +kernel), by decide +kernel⟩
theorem tw_537 : (.code ⟨"BidLanguage$MadeCall", "number", "(I)I"⟩ prog_4_method_2_code 2 (some .int) : Cond) ∈ tG := List.mem_filter.mpr ⟨List.mem_of_getElem? (i := 537) (by decide +kernel), by decide +kernel⟩
theorem tw_538 : (.methodLink "BidLanguageLaw" 69 ⟨"BidLanguage", "state", "(I)I"⟩ : Cond) ∈ tG := List.mem_filter.mpr ⟨List.mem_of_getElem? (i := 538) (by decide +kernel), by decide +kernel⟩
theorem tw_539 : (.instanceMethod ⟨"BidLanguage", "state", "(I)I"⟩ : Cond) ∈ tG := List.mem_filter.mpr ⟨List.mem_of_getElem? (i := 539) (by decide +kernel), by decide +kernel⟩
theorem tw_540 : (.selects "BidLanguage" ⟨"BidLanguage", "state", "(I)I"⟩ ⟨"BidLanguage", "state", "(I)I"⟩ : Cond) ∈ tG := List.mem_filter.mpr ⟨List.mem_of_getElem? (i := 540) (by decide +kernel), by decide +kernel⟩
theorem tw_541 : (.code ⟨"BidLanguage", "state", "(I)I"⟩ prog_1_method_15_code 2 (some .int) : Cond) ∈ tG := List.mem_filter.mpr ⟨List.mem_of_getElem? (i := 541) (by decide +kernel), by decide +kernel⟩
theorem tw_542 : (.methodLink "BidLanguage" 163 ⟨"BidLanguage$Auction", "ending", "()I"⟩ : Cond) ∈ tG := List.mem_filter.mpr ⟨List.mem_of_getElem? (i := 542) (by decide +kernel), by decide +kernel⟩
theorem tw_543 : (.instanceMethod ⟨"BidLanguage$Auction", "ending", "()I"⟩ : Cond) ∈ tG := List.mem_filter.mpr ⟨List.mem_of_getElem? (i := 543) (by decide +kernel), by decide +kernel⟩
theorem tw_544 : (.selects "BidLanguage$Auction" ⟨"BidLanguage$Auction", "ending", "()I"⟩ ⟨"BidLanguage$Auction", "ending", "()I"⟩ : Cond) ∈ tG := List.mem_filter.mpr ⟨List.mem_of_getElem? (i := 544) (by decide +kernel), by decide +kernel⟩
theorem tw_545 : (.code ⟨"BidLanguage$Auction", "ending", "()I"⟩ prog_2_method_6_code 1 (some .int) : Cond) ∈ tG := List.mem_filter.mpr ⟨List.mem_of_getElem? (i := 545) (by decide +kernel), by decide +kernel⟩
theorem tw_546 : (.methodLink "BidLanguage$Auction" 55 ⟨"BidLanguage$Auction", "isOver", "()Z"⟩ : Cond) ∈ tG := List.mem_filter.mpr ⟨List.mem_of_getElem? (i := 546) (by decide +kernel), by decide +kernel⟩
theorem tw_547 : (.methodLink "BidLanguage" 166 ⟨"java/lang/StringBuilder", "length", "()I"⟩ : Cond) ∈ tG := List.mem_filter.mpr ⟨List.mem_of_getElem? (i := 547) (by decide +kernel), by decide +kernel⟩
theorem tw_548 : (.instanceMethod ⟨"java/lang/StringBuilder", "length", "()I"⟩ : Cond) ∈ tG := List.mem_filter.mpr ⟨List.mem_of_getElem? (i := 548) (by decide +kernel), by decide +kernel⟩
theorem tw_549 : (.selects "java/lang/StringBuilder" ⟨"java/lang/StringBuilder", "length", "()I"⟩ ⟨"java/lang/StringBuilder", "length", "()I"⟩ : Cond) ∈ tG := List.mem_filter.mpr ⟨List.mem_of_getElem? (i := 549) (by decide +kernel), by decide +kernel⟩
theorem tw_550 : (.code ⟨"java/lang/StringBuilder", "length", "()I"⟩ prog_20_method_93_code 1 (some .int) : Cond) ∈ tG := List.mem_filter.mpr ⟨List.mem_of_getElem? (i := 550) (by decide +kernel), by decide +kernel⟩
theorem tw_551 : (.methodLink "java/lang/StringBuilder" 343 ⟨"java/lang/AbstractStringBuilder", "length", "()I"⟩ : Cond) ∈ tG := List.mem_filter.mpr ⟨List.mem_of_getElem? (i := 551) (by decide +kernel), by decide +kernel⟩
theorem tw_552 : (.instanceMethod ⟨"java/lang/AbstractStringBuilder", "length", "()I"⟩ : Cond) ∈ tG := List.mem_filter.mpr ⟨List.mem_of_getElem? (i := 552) (by decide +kernel), by decide +kernel⟩
theorem tw_553 : (.code ⟨"java/lang/AbstractStringBuilder", "length", "()I"⟩ prog_11_method_6_code 1 (some .int) : Cond) ∈ tG := List.mem_filter.mpr ⟨List.mem_of_getElem? (i := 553) (by decide +kernel), by decide +kernel⟩
theorem tw_554 : (.methodLink "BidLanguageLaw" 73 ⟨"BidLanguage", "hands", "(II)I"⟩ : Cond) ∈ tG := List.mem_filter.mpr ⟨List.mem_of_getElem? (i := 554) (by decide +kernel), by decide +kernel⟩
theorem tw_555 : (.instanceMethod ⟨"BidLanguage", "hands", "(II)I"⟩ : Cond) ∈ tG := List.mem_filter.mpr ⟨List.mem_of_getElem? (i := 555) (by decide +kernel), by decide +kernel⟩
theorem tw_556 : (.selects "BidLanguage" ⟨"BidLanguage", "hands", "(II)I"⟩ ⟨"BidLanguage", "hands", "(II)I"⟩ : Cond) ∈ tG := List.mem_filter.mpr ⟨List.mem_of_getElem? (i := 556) (by decide +kernel), by decide +kernel⟩
theorem tw_557 : (.code ⟨"BidLanguage", "hands", "(II)I"⟩ prog_1_method_16_code 3 (some .int) : Cond) ∈ tG := List.mem_filter.mpr ⟨List.mem_of_getElem? (i := 557) (by decide +kernel), by decide +kernel⟩
theorem tw_558 : (.methodLink "BidLanguage" 169 ⟨"BidLanguage$Cards", "isSet", "(I)Z"⟩ : Cond) ∈ tG := List.mem_filter.mpr ⟨List.mem_of_getElem? (i := 558) (by decide +kernel), by decide +kernel⟩
theorem tw_559 : (.methodLink "BidLanguage" 172 ⟨"BidLanguage", "countHidden", "(II)I"⟩ : Cond) ∈ tG := List.mem_filter.mpr ⟨List.mem_of_getElem? (i := 559) (by decide +kernel), by decide +kernel⟩
theorem tw_561 : (.instanceMethod ⟨"BidLanguage", "countHidden", "(II)I"⟩ : Cond) ∈ tG := List.mem_filter.mpr ⟨List.mem_of_getElem? (i := 561) (by decide +kernel), by decide +kernel⟩
theorem tw_562 : (.code ⟨"BidLanguage", "countHidden", "(II)I"⟩ prog_1_method_44_code 6 (some .int) : Cond) ∈ tG := List.mem_filter.mpr ⟨List.mem_of_getElem? (i := 562) (by decide +kernel), by decide +kernel⟩
theorem tw_563 : (.methodLink "BidLanguage" 175 ⟨"BidLanguage", "isHidden", "(III)Z"⟩ : Cond) ∈ tG := List.mem_filter.mpr ⟨List.mem_of_getElem? (i := 563) (by decide +kernel), by decide +kernel⟩
theorem tw_565 : (.instanceMethod ⟨"BidLanguage", "isHidden", "(III)Z"⟩ : Cond) ∈ tG := List.mem_filter.mpr ⟨List.mem_of_getElem? (i := 565) (by decide +kernel), by decide +kernel⟩
theorem tw_566 : (.code ⟨"BidLanguage", "isHidden", "(III)Z"⟩ prog_1_method_43_code 4 (some .boolean) : Cond) ∈ tG := List.mem_filter.mpr ⟨List.mem_of_getElem? (i := 566) (by decide +kernel), by decide +kernel⟩
theorem tw_567 : (.methodLink "BidLanguage" 189 ⟨"BidLanguage", "fitsAuction", "(II)Z"⟩ : Cond) ∈ tG := List.mem_filter.mpr ⟨List.mem_of_getElem? (i := 567) (by decide +kernel), by decide +kernel⟩
theorem tw_569 : (.instanceMethod ⟨"BidLanguage", "fitsAuction", "(II)Z"⟩ : Cond) ∈ tG := List.mem_filter.mpr ⟨List.mem_of_getElem? (i := 569) (by decide +kernel), by decide +kernel⟩
theorem tw_570 : (.code ⟨"BidLanguage", "fitsAuction", "(II)Z"⟩ prog_1_method_42_code 6 (some .boolean) : Cond) ∈ tG := List.mem_filter.mpr ⟨List.mem_of_getElem? (i := 570) (by decide +kernel), by decide +kernel⟩
theorem tw_571 : (.methodLink "BidLanguageLaw" 77 ⟨"BidLanguage", "shown", "(III)I"⟩ : Cond) ∈ tG := List.mem_filter.mpr ⟨List.mem_of_getElem? (i := 571) (by decide +kernel), by decide +kernel⟩
theorem tw_572 : (.instanceMethod ⟨"BidLanguage", "shown", "(III)I"⟩ : Cond) ∈ tG := List.mem_filter.mpr ⟨List.mem_of_getElem? (i := 572) (by decide +kernel), by decide +kernel⟩
theorem tw_573 : (.selects "BidLanguage" ⟨"BidLanguage", "shown", "(III)I"⟩ ⟨"BidLanguage", "shown", "(III)I"⟩ : Cond) ∈ tG := List.mem_filter.mpr ⟨List.mem_of_getElem? (i := 573) (by decide +kernel), by decide +kernel⟩
theorem tw_574 : (.code ⟨"BidLanguage", "shown", "(III)I"⟩ prog_1_method_17_code 8 (some .int) : Cond) ∈ tG := List.mem_filter.mpr ⟨List.mem_of_getElem? (i := 574) (by decide +kernel), by decide +kernel⟩
theorem tw_575 : (.methodLink "BidLanguage" 179 ⟨"BidLanguage$Cards", "shownNumber", "(II)I"⟩ : Cond) ∈ tG := List.mem_filter.mpr ⟨List.mem_of_getElem? (i := 575) (by decide +kernel), by decide +kernel⟩
theorem tw_576 : (.static ⟨"BidLanguage$Cards", "shownNumber", "(II)I"⟩ : Cond) ∈ tG := List.mem_filter.mpr ⟨List.mem_of_getElem? (i := 576) (by decide +kernel), by decide +kernel⟩
theorem tw_577 : (.code ⟨"BidLanguage$Cards", "shownNumber", "(II)I"⟩ prog_3_method_11_code 2 (some .int) : Cond) ∈ tG := List.mem_filter.mpr ⟨List.mem_of_getElem? (i := 577) (by decide +kernel), by decide +kernel⟩
theorem tw_578 : (.methodLink "BidLanguage$Cards" 35 ⟨"BidLanguage$Cards", "measure", "(II)I"⟩ : Cond) ∈ tG := List.mem_filter.mpr ⟨List.mem_of_getElem? (i := 578) (by decide +kernel), by decide +kernel⟩
theorem tw_579 : (.methodLink "BidLanguage" 182 ⟨"BidLanguage$Cards", "joinShown", "(III)I"⟩ : Cond) ∈ tG := List.mem_filter.mpr ⟨List.mem_of_getElem? (i := 579) (by decide +kernel), by decide +kernel⟩
theorem tw_580 : (.static ⟨"BidLanguage$Cards", "joinShown", "(III)I"⟩ : Cond) ∈ tG := List.mem_filter.mpr ⟨List.mem_of_getElem? (i := 580) (by decide +kernel), by decide +kernel⟩
theorem tw_581 : (.code ⟨"BidLanguage$Cards", "joinShown", "(III)I"⟩ prog_3_method_12_code 3 (some .int) : Cond) ∈ tG := List.mem_filter.mpr ⟨List.mem_of_getElem? (i := 581) (by decide +kernel), by decide +kernel⟩
theorem tw_582 : (.methodLink "BidLanguage$Cards" 38 ⟨"java/lang/Math", "min", "(II)I"⟩ : Cond) ∈ tG := List.mem_filter.mpr ⟨List.mem_of_getElem? (i := 582) (by decide +kernel), by decide +kernel⟩
theorem tw_583 : (.methodLink "BidLanguage$Cards" 43 ⟨"java/lang/Math", "max", "(II)I"⟩ : Cond) ∈ tG := List.mem_filter.mpr ⟨List.mem_of_getElem? (i := 583) (by decide +kernel), by decide +kernel⟩
theorem tw_584 : (.methodLink "BidLanguageLaw" 82 ⟨"BidLanguage", "fits", "(II)I"⟩ : Cond) ∈ tG := List.mem_filter.mpr ⟨List.mem_of_getElem? (i := 584) (by decide +kernel), by decide +kernel⟩
theorem tw_585 : (.instanceMethod ⟨"BidLanguage", "fits", "(II)I"⟩ : Cond) ∈ tG := List.mem_filter.mpr ⟨List.mem_of_getElem? (i := 585) (by decide +kernel), by decide +kernel⟩
theorem tw_586 : (.selects "BidLanguage" ⟨"BidLanguage", "fits", "(II)I"⟩ ⟨"BidLanguage", "fits", "(II)I"⟩ : Cond) ∈ tG := List.mem_filter.mpr ⟨List.mem_of_getElem? (i := 586) (by decide +kernel), by decide +kernel⟩
theorem tw_587 : (.code ⟨"BidLanguage", "fits", "(II)I"⟩ prog_1_method_18_code 3 (some .int) : Cond) ∈ tG := List.mem_filter.mpr ⟨List.mem_of_getElem? (i := 587) (by decide +kernel), by decide +kernel⟩
theorem tw_588 : (.methodLink "BidLanguageLaw" 86 ⟨"BidLanguage", "ruleOf", "(I)I"⟩ : Cond) ∈ tG := List.mem_filter.mpr ⟨List.mem_of_getElem? (i := 588) (by decide +kernel), by decide +kernel⟩
theorem tw_589 : (.instanceMethod ⟨"BidLanguage", "ruleOf", "(I)I"⟩ : Cond) ∈ tG := List.mem_filter.mpr ⟨List.mem_of_getElem? (i := 589) (by decide +kernel), by decide +kernel⟩
theorem tw_590 : (.selects "BidLanguage" ⟨"BidLanguage", "ruleOf", "(I)I"⟩ ⟨"BidLanguage", "ruleOf", "(I)I"⟩ : Cond) ∈ tG := List.mem_filter.mpr ⟨List.mem_of_getElem? (i := 590) (by decide +kernel), by decide +kernel⟩
theorem tw_591 : (.code ⟨"BidLanguage", "ruleOf", "(I)I"⟩ prog_1_method_19_code 2 (some .int) : Cond) ∈ tG := List.mem_filter.mpr ⟨List.mem_of_getElem? (i := 591) (by decide +kernel), by decide +kernel⟩
theorem tw_592 : (.methodLink "BidLanguageLaw" 90 ⟨"BidLanguage", "reach", "(I)I"⟩ : Cond) ∈ tG := List.mem_filter.mpr ⟨List.mem_of_getElem? (i := 592) (by decide +kernel), by decide +kernel⟩
theorem tw_593 : (.instanceMethod ⟨"BidLanguage", "reach", "(I)I"⟩ : Cond) ∈ tG := List.mem_filter.mpr ⟨List.mem_of_getElem? (i := 593) (by decide +kernel), by decide +kernel⟩
theorem tw_594 : (.selects "BidLanguage" ⟨"BidLanguage", "reach", "(I)I"⟩ ⟨"BidLanguage", "reach", "(I)I"⟩ : Cond) ∈ tG := List.mem_filter.mpr ⟨List.mem_of_getElem? (i := 594) (by decide +kernel), by decide +kernel⟩
theorem tw_595 : (.code ⟨"BidLanguage", "reach", "(I)I"⟩ prog_1_method_20_code 2 (some .int) : Cond) ∈ tG := List.mem_filter.mpr ⟨List.mem_of_getElem? (i := 595) (by decide +kernel), by decide +kernel⟩
theorem tw_596 : (.classLink "BidLanguage" 153 "BidLanguage$Position" : Cond) ∈ tG := List.mem_filter.mpr ⟨List.mem_of_getElem? (i := 596) (by decide +kernel), by decide +kernel⟩
theorem tw_597 : (.methodLink "BidLanguage" 194 ⟨"BidLanguage$Position", "<init>", "(III)V"⟩ : Cond) ∈ tG := List.mem_filter.mpr ⟨List.mem_of_getElem? (i := 597) (by decide +kernel), by decide +kernel⟩
theorem tw_598 : (.methodLink "BidLanguage" 196 ⟨"BidLanguage", "countWithRule", "(LBidLanguage$Position;I)I"⟩ : Cond) ∈ tG := List.mem_filter.mpr ⟨List.mem_of_getElem? (i := 598) (by decide +kernel), by decide +kernel⟩
theorem tw_600 : (.instanceMethod ⟨"BidLanguage", "countWithRule", "(LBidLanguage$Position;I)I"⟩ : Cond) ∈ tG := List.mem_filter.mpr ⟨List.mem_of_getElem? (i := 600) (by decide +kernel), by decide +kernel⟩
theorem tw_601 : (.code ⟨"BidLanguage", "countWithRule", "(LBidLanguage$Position;I)I"⟩ prog_1_method_41_code 6 (some .int) : Cond) ∈ tG := List.mem_filter.mpr ⟨List.mem_of_getElem? (i := 601) (by decide +kernel), by decide +kernel⟩
theorem tw_602 : (.methodLink "BidLanguageLaw" 94 ⟨"BidLanguage", "holes", "(III)I"⟩ : Cond) ∈ tG := List.mem_filter.mpr ⟨List.mem_of_getElem? (i := 602) (by decide +kernel), by decide +kernel⟩
theorem tw_603 : (.instanceMethod ⟨"BidLanguage", "holes", "(III)I"⟩ : Cond) ∈ tG := List.mem_filter.mpr ⟨List.mem_of_getElem? (i := 603) (by decide +kernel), by decide +kernel⟩
theorem tw_604 : (.selects "BidLanguage" ⟨"BidLanguage", "holes", "(III)I"⟩ ⟨"BidLanguage", "holes", "(III)I"⟩ : Cond) ∈ tG := List.mem_filter.mpr ⟨List.mem_of_getElem? (i := 604) (by decide +kernel), by decide +kernel⟩
theorem tw_605 : (.code ⟨"BidLanguage", "holes", "(III)I"⟩ prog_1_method_21_code 4 (some .int) : Cond) ∈ tG := List.mem_filter.mpr ⟨List.mem_of_getElem? (i := 605) (by decide +kernel), by decide +kernel⟩
theorem tw_606 : (.methodLink "BidLanguageLaw" 98 ⟨"BidLanguage", "tricks", "(III)I"⟩ : Cond) ∈ tG := List.mem_filter.mpr ⟨List.mem_of_getElem? (i := 606) (by decide +kernel), by decide +kernel⟩
theorem tw_607 : (.instanceMethod ⟨"BidLanguage", "tricks", "(III)I"⟩ : Cond) ∈ tG := List.mem_filter.mpr ⟨List.mem_of_getElem? (i := 607) (by decide +kernel), by decide +kernel⟩
theorem tw_608 : (.selects "BidLanguage" ⟨"BidLanguage", "tricks", "(III)I"⟩ ⟨"BidLanguage", "tricks", "(III)I"⟩ : Cond) ∈ tG := List.mem_filter.mpr ⟨List.mem_of_getElem? (i := 608) (by decide +kernel), by decide +kernel⟩
theorem tw_609 : (.code ⟨"BidLanguage", "tricks", "(III)I"⟩ prog_1_method_22_code 4 (some .int) : Cond) ∈ tG := List.mem_filter.mpr ⟨List.mem_of_getElem? (i := 609) (by decide +kernel), by decide +kernel⟩
theorem tw_610 : (.methodLink "BidLanguage" 199 ⟨"BidLanguage", "isStrain", "(I)Z"⟩ : Cond) ∈ tG := List.mem_filter.mpr ⟨List.mem_of_getElem? (i := 610) (by decide +kernel), by decide +kernel⟩
theorem tw_611 : (.static ⟨"BidLanguage", "isStrain", "(I)Z"⟩ : Cond) ∈ tG := List.mem_filter.mpr ⟨List.mem_of_getElem? (i := 611) (by decide +kernel), by decide +kernel⟩
theorem tw_612 : (.code ⟨"BidLanguage", "isStrain", "(I)Z"⟩ prog_1_method_33_code 1 (some .boolean) : Cond) ∈ tG := List.mem_filter.mpr ⟨List.mem_of_getElem? (i := 612) (by decide +kernel), by decide +kernel⟩
theorem tw_613 : (.methodLink "BidLanguage" 202 ⟨"BidLanguage$Cards", "tricksOf", "(III)I"⟩ : Cond) ∈ tG := List.mem_filter.mpr ⟨List.mem_of_getElem? (i := 613) (by decide +kernel), by decide +kernel⟩
theorem tw_614 : (.static ⟨"BidLanguage$Cards", "tricksOf", "(III)I"⟩ : Cond) ∈ tG := List.mem_filter.mpr ⟨List.mem_of_getElem? (i := 614) (by decide +kernel), by decide +kernel⟩
theorem tw_615 : (.code ⟨"BidLanguage$Cards", "tricksOf", "(III)I"⟩ prog_3_method_13_code 5 (some .int) : Cond) ∈ tG := List.mem_filter.mpr ⟨List.mem_of_getElem? (i := 615) (by decide +kernel), by decide +kernel⟩
theorem tw_616 : (.methodLink "BidLanguage$Cards" 46 ⟨"BidLanguage$Cards", "winners", "(II)I"⟩ : Cond) ∈ tG := List.mem_filter.mpr ⟨List.mem_of_getElem? (i := 616) (by decide +kernel), by decide +kernel⟩
theorem tw_617 : (.static ⟨"BidLanguage$Cards", "winners", "(II)I"⟩ : Cond) ∈ tG := List.mem_filter.mpr ⟨List.mem_of_getElem? (i := 617) (by decide +kernel), by decide +kernel⟩
theorem tw_618 : (.code ⟨"BidLanguage$Cards", "winners", "(II)I"⟩ prog_3_method_14_code 5 (some .int) : Cond) ∈ tG := List.mem_filter.mpr ⟨List.mem_of_getElem? (i := 618) (by decide +kernel), by decide +kernel⟩
theorem tw_619 : (.methodLink "BidLanguage$Cards" 49 ⟨"BidLanguage$Cards", "ruffs", "(IIII)I"⟩ : Cond) ∈ tG := List.mem_filter.mpr ⟨List.mem_of_getElem? (i := 619) (by decide +kernel), by decide +kernel⟩
theorem tw_620 : (.static ⟨"BidLanguage$Cards", "ruffs", "(IIII)I"⟩ : Cond) ∈ tG := List.mem_filter.mpr ⟨List.mem_of_getElem? (i := 620) (by decide +kernel), by decide +kernel⟩
theorem tw_621 : (.code ⟨"BidLanguage$Cards", "ruffs", "(IIII)I"⟩ prog_3_method_15_code 5 (some .int) : Cond) ∈ tG := List.mem_filter.mpr ⟨List.mem_of_getElem? (i := 621) (by decide +kernel), by decide +kernel⟩
theorem tw_622 : (.methodLink "BidLanguageLaw" 102 ⟨"BidLanguage", "expected", "(II)J"⟩ : Cond) ∈ tG := List.mem_filter.mpr ⟨List.mem_of_getElem? (i := 622) (by decide +kernel), by decide +kernel⟩
theorem tw_623 : (.instanceMethod ⟨"BidLanguage", "expected", "(II)J"⟩ : Cond) ∈ tG := List.mem_filter.mpr ⟨List.mem_of_getElem? (i := 623) (by decide +kernel), by decide +kernel⟩
theorem tw_624 : (.selects "BidLanguage" ⟨"BidLanguage", "expected", "(II)J"⟩ ⟨"BidLanguage", "expected", "(II)J"⟩ : Cond) ∈ tG := List.mem_filter.mpr ⟨List.mem_of_getElem? (i := 624) (by decide +kernel), by decide +kernel⟩
theorem tw_625 : (.code ⟨"BidLanguage", "expected", "(II)J"⟩ prog_1_method_23_code 3 (some .long) : Cond) ∈ tG := List.mem_filter.mpr ⟨List.mem_of_getElem? (i := 625) (by decide +kernel), by decide +kernel⟩
theorem tw_626 : (.constantLong "BidLanguage" 205 (-1) : Cond) ∈ tG := List.mem_filter.mpr ⟨List.mem_of_getElem? (i := 626) (by decide +kernel), by decide +kernel⟩
theorem tw_627 : (.constantLong "BidLanguage" 207 (-2) : Cond) ∈ tG := List.mem_filter.mpr ⟨List.mem_of_getElem? (i := 627) (by decide +kernel), by decide +kernel⟩
theorem tw_628 : (.methodLink "BidLanguage" 209 ⟨"BidLanguage", "sumOfTricks", "(II)J"⟩ : Cond) ∈ tG := List.mem_filter.mpr ⟨List.mem_of_getElem? (i := 628) (by decide +kernel), by decide +kernel⟩
theorem tw_630 : (.instanceMethod ⟨"BidLanguage", "sumOfTricks", "(II)J"⟩ : Cond) ∈ tG := List.mem_filter.mpr ⟨List.mem_of_getElem? (i := 630) (by decide +kernel), by decide +kernel⟩
theorem tw_631 : (.code ⟨"BidLanguage", "sumOfTricks", "(II)J"⟩ prog_1_method_45_code 8 (some .long) : Cond) ∈ tG := List.mem_filter.mpr ⟨List.mem_of_getElem? (i := 631) (by decide +kernel), by decide +kernel⟩
theorem tw_632 : (.methodLink "BidLanguageLaw" 107 ⟨"BidLanguage", "contract", "(I)I"⟩ : Cond) ∈ tG := List.mem_filter.mpr ⟨List.mem_of_getElem? (i := 632) (by decide +kernel), by decide +kernel⟩
theorem tw_633 : (.instanceMethod ⟨"BidLanguage", "contract", "(I)I"⟩ : Cond) ∈ tG := List.mem_filter.mpr ⟨List.mem_of_getElem? (i := 633) (by decide +kernel), by decide +kernel⟩
theorem tw_634 : (.selects "BidLanguage" ⟨"BidLanguage", "contract", "(I)I"⟩ ⟨"BidLanguage", "contract", "(I)I"⟩ : Cond) ∈ tG := List.mem_filter.mpr ⟨List.mem_of_getElem? (i := 634) (by decide +kernel), by decide +kernel⟩
theorem tw_635 : (.code ⟨"BidLanguage", "contract", "(I)I"⟩ prog_1_method_24_code 9 (some .int) : Cond) ∈ tG := List.mem_filter.mpr ⟨List.mem_of_getElem? (i := 635) (by decide +kernel), by decide +kernel⟩
theorem tw_636 : (.methodLink "BidLanguageLaw" 113 ⟨"BidLanguage", "put", "(J)I"⟩ : Cond) ∈ tG := List.mem_filter.mpr ⟨List.mem_of_getElem? (i := 636) (by decide +kernel), by decide +kernel⟩
theorem tw_637 : (.instanceMethod ⟨"BidLanguage", "put", "(J)I"⟩ : Cond) ∈ tG := List.mem_filter.mpr ⟨List.mem_of_getElem? (i := 637) (by decide +kernel), by decide +kernel⟩
theorem tw_638 : (.selects "BidLanguage" ⟨"BidLanguage", "put", "(J)I"⟩ ⟨"BidLanguage", "put", "(J)I"⟩ : Cond) ∈ tG := List.mem_filter.mpr ⟨List.mem_of_getElem? (i := 638) (by decide +kernel), by decide +kernel⟩
theorem tw_639 : (.code ⟨"BidLanguage", "put", "(J)I"⟩ prog_1_method_25_code 7 (some .int) : Cond) ∈ tG := List.mem_filter.mpr ⟨List.mem_of_getElem? (i := 639) (by decide +kernel), by decide +kernel⟩
theorem tw_640 : (.constantLong "BidLanguage" 213 255 : Cond) ∈ tG := List.mem_filter.mpr ⟨List.mem_of_getElem? (i := 640) (by decide +kernel), by decide +kernel⟩
theorem tw_641 : (.methodLink "BidLanguage" 215 ⟨"BidLanguage", "isCharacter", "(I)Z"⟩ : Cond) ∈ tG := List.mem_filter.mpr ⟨List.mem_of_getElem? (i := 641) (by decide +kernel), by decide +kernel⟩
theorem tw_642 : (.static ⟨"BidLanguage", "isCharacter", "(I)Z"⟩ : Cond) ∈ tG := List.mem_filter.mpr ⟨List.mem_of_getElem? (i := 642) (by decide +kernel), by decide +kernel⟩
theorem tw_643 : (.code ⟨"BidLanguage", "isCharacter", "(I)Z"⟩ prog_1_method_34_code 1 (some .boolean) : Cond) ∈ tG := List.mem_filter.mpr ⟨List.mem_of_getElem? (i := 643) (by decide +kernel), by decide +kernel⟩
theorem tw_644 : (.methodLink "BidLanguage" 218 ⟨"java/lang/StringBuilder", "append", "(C)Ljava/lang/StringBuilder;"⟩ : Cond) ∈ tG := List.mem_filter.mpr ⟨List.mem_of_getElem? (i := 644) (by decide +kernel), by decide +kernel⟩
theorem tw_645 : (.instanceMethod ⟨"java/lang/StringBuilder", "append", "(C)Ljava/lang/StringBuilder;"⟩ : Cond) ∈ tG := List.mem_filter.mpr ⟨List.mem_of_getElem? (i := 645) (by decide +kernel), by decide +kernel⟩
theorem tw_646 : (.selects "java/lang/StringBuilder" ⟨"java/lang/StringBuilder", "append", "(C)Ljava/lang/StringBuilder;"⟩ ⟨"java/lang/StringBuilder", "append", "(C)Ljava/lang/StringBuilder;"⟩ : Cond) ∈ tG := List.mem_filter.mpr ⟨List.mem_of_getElem? (i := 646) (by decide +kernel), by decide +kernel⟩
theorem tw_647 : (.code ⟨"java/lang/StringBuilder", "append", "(C)Ljava/lang/StringBuilder;"⟩ prog_20_method_14_code 2 (some (.object "java/lang/StringBuilder")) : Cond) ∈ tG := List.mem_filter.mpr ⟨List.mem_of_getElem? (i := 647) (by decide +kernel), by decide +kernel⟩
theorem tw_648 : (.methodLink "java/lang/StringBuilder" 50 ⟨"java/lang/AbstractStringBuilder", "append", "(C)Ljava/lang/AbstractStringBuilder;"⟩ : Cond) ∈ tG := List.mem_filter.mpr ⟨List.mem_of_getElem? (i := 648) (by decide +kernel), by decide +kernel⟩
theorem tw_649 : (.instanceMethod ⟨"java/lang/AbstractStringBuilder", "append", "(C)Ljava/lang/AbstractStringBuilder;"⟩ : Cond) ∈ tG := List.mem_filter.mpr ⟨List.mem_of_getElem? (i := 649) (by decide +kernel), by decide +kernel⟩
theorem tw_650 : (.code ⟨"java/lang/AbstractStringBuilder", "append", "(C)Ljava/lang/AbstractStringBuilder;"⟩ prog_11_method_31_code 2 (some (.object "java/lang/AbstractStringBuilder")) : Cond) ∈ tG := List.mem_filter.mpr ⟨List.mem_of_getElem? (i := 650) (by decide +kernel), by decide +kernel⟩
theorem tw_651 : (.methodLink "java/lang/AbstractStringBuilder" 100 ⟨"java/lang/AbstractStringBuilder", "ensureCapacityInternal", "(I)V"⟩ : Cond) ∈ tG := List.mem_filter.mpr ⟨List.mem_of_getElem? (i := 651) (by decide +kernel), by decide +kernel⟩
theorem tw_653 : (.instanceMethod ⟨"java/lang/AbstractStringBuilder", "ensureCapacityInternal", "(I)V"⟩ : Cond) ∈ tG := List.mem_filter.mpr ⟨List.mem_of_getElem? (i := 653) (by decide +kernel), by decide +kernel⟩
theorem tw_654 : (.code ⟨"java/lang/AbstractStringBuilder", "ensureCapacityInternal", "(I)V"⟩ prog_11_method_9_code 3 (none : Option ClassFile.FieldType) : Cond) ∈ tG := List.mem_filter.mpr ⟨List.mem_of_getElem? (i := 654) (by decide +kernel), by decide +kernel⟩
theorem tw_655 : (.methodLink "java/lang/AbstractStringBuilder" 104 ⟨"java/lang/AbstractStringBuilder", "newCapacity", "(I)I"⟩ : Cond) ∈ tG := List.mem_filter.mpr ⟨List.mem_of_getElem? (i := 655) (by decide +kernel), by decide +kernel⟩
theorem tw_657 : (.instanceMethod ⟨"java/lang/AbstractStringBuilder", "newCapacity", "(I)I"⟩ : Cond) ∈ tG := List.mem_filter.mpr ⟨List.mem_of_getElem? (i := 657) (by decide +kernel), by decide +kernel⟩
theorem tw_658 : (.code ⟨"java/lang/AbstractStringBuilder", "newCapacity", "(I)I"⟩ prog_11_method_10_code 6 (some .int) : Cond) ∈ tG := List.mem_filter.mpr ⟨List.mem_of_getElem? (i := 658) (by decide +kernel), by decide +kernel⟩
theorem tw_659 : (.methodLink "java/lang/AbstractStringBuilder" 114 ⟨"jdk/internal/util/ArraysSupport", "newLength", "(III)I"⟩ : Cond) ∈ tG := List.mem_filter.mpr ⟨List.mem_of_getElem? (i := 659) (by decide +kernel), by decide +kernel⟩
theorem tw_660 : (.constant "java/lang/AbstractStringBuilder" 39 2147483647 : Cond) ∈ tG := List.mem_filter.mpr ⟨List.mem_of_getElem? (i := 660) (by decide +kernel), by decide +kernel⟩
theorem tw_661 : (.methodLink "java/lang/AbstractStringBuilder" 108 ⟨"java/util/Arrays", "copyOf", "([BI)[B"⟩ : Cond) ∈ tG := List.mem_filter.mpr ⟨List.mem_of_getElem? (i := 661) (by decide +kernel), by decide +kernel⟩
theorem tw_662 : (.static ⟨"java/util/Arrays", "copyOf", "([BI)[B"⟩ : Cond) ∈ tG := List.mem_filter.mpr ⟨List.mem_of_getElem? (i := 662) (by decide +kernel), by decide +kernel⟩
theorem tw_663 : (.code ⟨"java/util/Arrays", "copyOf", "([BI)[B"⟩ prog_27_method_121_code 3 (some (.array .byte)) : Cond) ∈ tG := List.mem_filter.mpr ⟨List.mem_of_getElem? (i := 663) (by decide +kernel), by decide +kernel⟩
theorem tw_664 : (.methodLink "java/util/Arrays" 310 ⟨"[B", "clone", "()Ljava/lang/Object;"⟩ : Cond) ∈ tG := List.mem_filter.mpr ⟨List.mem_of_getElem? (i := 664) (by decide +kernel), by decide +kernel⟩
theorem tw_666 : (.native ⟨"java/lang/Object", "clone", "()Ljava/lang/Object;"⟩ : Cond) ∈ tG := List.mem_filter.mpr ⟨List.mem_of_getElem? (i := 666) (by decide +kernel), by decide +kernel⟩
theorem tw_667 : (.instanceMethod ⟨"java/lang/Object", "clone", "()Ljava/lang/Object;"⟩ : Cond) ∈ tG := List.mem_filter.mpr ⟨List.mem_of_getElem? (i := 667) (by decide +kernel), by decide +kernel⟩
theorem tw_668 : (.selects "[B" ⟨"[B", "clone", "()Ljava/lang/Object;"⟩ ⟨"java/lang/Object", "clone", "()Ljava/lang/Object;"⟩ : Cond) ∈ tG := List.mem_filter.mpr ⟨List.mem_of_getElem? (i := 668) (by decide +kernel), by decide +kernel⟩
theorem tw_670 : (.classLink "java/util/Arrays" 311 "[B" : Cond) ∈ tG := List.mem_filter.mpr ⟨List.mem_of_getElem? (i := 670) (by decide +kernel), by decide +kernel⟩
theorem tw_671 : (.methodLink "java/lang/AbstractStringBuilder" 83 ⟨"java/lang/AbstractStringBuilder", "isLatin1", "()Z"⟩ : Cond) ∈ tG := List.mem_filter.mpr ⟨List.mem_of_getElem? (i := 671) (by decide +kernel), by decide +kernel⟩
theorem tw_672 : (.instanceMethod ⟨"java/lang/AbstractStringBuilder", "isLatin1", "()Z"⟩ : Cond) ∈ tG := List.mem_filter.mpr ⟨List.mem_of_getElem? (i := 672) (by decide +kernel), by decide +kernel⟩
theorem tw_674 : (.selects "java/lang/StringBuilder" ⟨"java/lang/AbstractStringBuilder", "isLatin1", "()Z"⟩ ⟨"java/lang/AbstractStringBuilder", "isLatin1", "()Z"⟩ : Cond) ∈ tG := List.mem_filter.mpr ⟨List.mem_of_getElem? (i := 674) (by decide +kernel), by decide +kernel⟩
theorem tw_675 : (.code ⟨"java/lang/AbstractStringBuilder", "isLatin1", "()Z"⟩ prog_11_method_68_code 1 (some .boolean) : Cond) ∈ tG := List.mem_filter.mpr ⟨List.mem_of_getElem? (i := 675) (by decide +kernel), by decide +kernel⟩
theorem tw_676 : (.methodLink "java/lang/AbstractStringBuilder" 191 ⟨"java/lang/StringLatin1", "canEncode", "(C)Z"⟩ : Cond) ∈ tG := List.mem_filter.mpr ⟨List.mem_of_getElem? (i := 676) (by decide +kernel), by decide +kernel⟩
theorem tw_677 : (.static ⟨"java/lang/StringLatin1", "canEncode", "(C)Z"⟩ : Cond) ∈ tG := List.mem_filter.mpr ⟨List.mem_of_getElem? (i := 677) (by decide +kernel), by decide +kernel⟩
theorem tw_678 : (.code ⟨"java/lang/StringLatin1", "canEncode", "(C)Z"⟩ prog_21_method_3_code 1 (some .boolean) : Cond) ∈ tG := List.mem_filter.mpr ⟨List.mem_of_getElem? (i := 678) (by decide +kernel), by decide +kernel⟩
theorem tw_679 : (.methodLink "java/lang/AbstractStringBuilder" 195 ⟨"java/lang/AbstractStringBuilder", "inflate", "()V"⟩ : Cond) ∈ tG := List.mem_filter.mpr ⟨List.mem_of_getElem? (i := 679) (by decide +kernel), by decide +kernel⟩
theorem tw_681 : (.instanceMethod ⟨"java/lang/AbstractStringBuilder", "inflate", "()V"⟩ : Cond) ∈ tG := List.mem_filter.mpr ⟨List.mem_of_getElem? (i := 681) (by decide +kernel), by decide +kernel⟩
theorem tw_682 : (.code ⟨"java/lang/AbstractStringBuilder", "inflate", "()V"⟩ prog_11_method_11_code 2 (none : Option ClassFile.FieldType) : Cond) ∈ tG := List.mem_filter.mpr ⟨List.mem_of_getElem? (i := 682) (by decide +kernel), by decide +kernel⟩
theorem tw_683 : (.methodLink "java/lang/AbstractStringBuilder" 125 ⟨"java/lang/StringLatin1", "inflate", "([BI[BII)V"⟩ : Cond) ∈ tG := List.mem_filter.mpr ⟨List.mem_of_getElem? (i := 683) (by decide +kernel), by decide +kernel⟩
theorem tw_684 : (.static ⟨"java/lang/StringLatin1", "inflate", "([BI[BII)V"⟩ : Cond) ∈ tG := List.mem_filter.mpr ⟨List.mem_of_getElem? (i := 684) (by decide +kernel), by decide +kernel⟩
theorem tw_685 : (.code ⟨"java/lang/StringLatin1", "inflate", "([BI[BII)V"⟩ prog_21_method_50_code 5 (none : Option ClassFile.FieldType) : Cond) ∈ tG := List.mem_filter.mpr ⟨List.mem_of_getElem? (i := 685) (by decide +kernel), by decide +kernel⟩
theorem tw_686 : (.methodLink "java/lang/StringLatin1" 240 ⟨"java/lang/StringUTF16", "inflate", "([BI[BII)V"⟩ : Cond) ∈ tG := List.mem_filter.mpr ⟨List.mem_of_getElem? (i := 686) (by decide +kernel), by decide +kernel⟩
theorem tw_687 : (.static ⟨"java/lang/StringUTF16", "inflate", "([BI[BII)V"⟩ : Cond) ∈ tG := List.mem_filter.mpr ⟨List.mem_of_getElem? (i := 687) (by decide +kernel), by decide +kernel⟩
theorem tw_688 : (.code ⟨"java/lang/StringUTF16", "inflate", "([BI[BII)V"⟩ prog_22_method_86_code 6 (none : Option ClassFile.FieldType) : Cond) ∈ tG := List.mem_filter.mpr ⟨List.mem_of_getElem? (i := 688) (by decide +kernel), by decide +kernel⟩
theorem tw_689 : (.methodLink "java/lang/StringUTF16" 173 ⟨"java/lang/StringUTF16", "checkBoundsOffCount", "(II[B)V"⟩ : Cond) ∈ tG := List.mem_filter.mpr ⟨List.mem_of_getElem? (i := 689) (by decide +kernel), by decide +kernel⟩
theorem tw_690 : (.static ⟨"java/lang/StringUTF16", "checkBoundsOffCount", "(II[B)V"⟩ : Cond) ∈ tG := List.mem_filter.mpr ⟨List.mem_of_getElem? (i := 690) (by decide +kernel), by decide +kernel⟩
theorem tw_691 : (.code ⟨"java/lang/StringUTF16", "checkBoundsOffCount", "(II[B)V"⟩ prog_22_method_94_code 3 (none : Option ClassFile.FieldType) : Cond) ∈ tG := List.mem_filter.mpr ⟨List.mem_of_getElem? (i := 691) (by decide +kernel), by decide +kernel⟩
theorem tw_692 : (.methodLink "java/lang/StringUTF16" 48 ⟨"java/lang/StringUTF16", "length", "([B)I"⟩ : Cond) ∈ tG := List.mem_filter.mpr ⟨List.mem_of_getElem? (i := 692) (by decide +kernel), by decide +kernel⟩
theorem tw_693 : (.static ⟨"java/lang/StringUTF16", "length", "([B)I"⟩ : Cond) ∈ tG := List.mem_filter.mpr ⟨List.mem_of_getElem? (i := 693) (by decide +kernel), by decide +kernel⟩
theorem tw_694 : (.code ⟨"java/lang/StringUTF16", "length", "([B)I"⟩ prog_22_method_6_code 1 (some .int) : Cond) ∈ tG := List.mem_filter.mpr ⟨List.mem_of_getElem? (i := 694) (by decide +kernel), by decide +kernel⟩
theorem tw_695 : (.methodLink "java/lang/StringUTF16" 419 ⟨"java/lang/String", "checkBoundsOffCount", "(III)I"⟩ : Cond) ∈ tG := List.mem_filter.mpr ⟨List.mem_of_getElem? (i := 695) (by decide +kernel), by decide +kernel⟩
theorem tw_696 : (.static ⟨"java/lang/String", "checkBoundsOffCount", "(III)I"⟩ : Cond) ∈ tG := List.mem_filter.mpr ⟨List.mem_of_getElem? (i := 696) (by decide +kernel), by decide +kernel⟩
theorem tw_697 : (.code ⟨"java/lang/String", "checkBoundsOffCount", "(III)I"⟩ prog_19_method_157_code 3 (some .int) : Cond) ∈ tG := List.mem_filter.mpr ⟨List.mem_of_getElem? (i := 697) (by decide +kernel), by decide +kernel⟩
theorem tw_698 : (.fieldLink "java/lang/String" 1053 "jdk/internal/util/Preconditions" "SIOOBE_FORMATTER" "Ljava/util/function/BiFunction;" : Cond) ∈ tG := List.mem_filter.mpr ⟨List.mem_of_getElem? (i := 698) (by decide +kernel), by decide +kernel⟩
theorem tw_700 : (.methodLink "java/lang/String" 1065 ⟨"jdk/internal/util/Preconditions", "checkFromIndexSize", "(IIILjava/util/function/BiFunction;)I"⟩ : Cond) ∈ tG := List.mem_filter.mpr ⟨List.mem_of_getElem? (i := 700) (by decide +kernel), by decide +kernel⟩
theorem tw_701 : (.static ⟨"jdk/internal/util/Preconditions", "checkFromIndexSize", "(IIILjava/util/function/BiFunction;)I"⟩ : Cond) ∈ tG := List.mem_filter.mpr ⟨List.mem_of_getElem? (i := 701) (by decide +kernel), by decide +kernel⟩
theorem tw_702 : (.code ⟨"jdk/internal/util/Preconditions", "checkFromIndexSize", "(IIILjava/util/function/BiFunction;)I"⟩ prog_34_method_13_code 4 (some .int) : Cond) ∈ tG := List.mem_filter.mpr ⟨List.mem_of_getElem? (i := 702) (by decide +kernel), by decide +kernel⟩
theorem tw_703 : (.methodLink "java/lang/StringUTF16" 111 ⟨"java/lang/StringUTF16", "putChar", "([BII)V"⟩ : Cond) ∈ tG := List.mem_filter.mpr ⟨List.mem_of_getElem? (i := 703) (by decide +kernel), by decide +kernel⟩
theorem tw_704 : (.static ⟨"java/lang/StringUTF16", "putChar", "([BII)V"⟩ : Cond) ∈ tG := List.mem_filter.mpr ⟨List.mem_of_getElem? (i := 704) (by decide +kernel), by decide +kernel⟩
theorem tw_705 : (.code ⟨"java/lang/StringUTF16", "putChar", "([BII)V"⟩ prog_22_method_4_code 3 (none : Option ClassFile.FieldType) : Cond) ∈ tG := List.mem_filter.mpr ⟨List.mem_of_getElem? (i := 705) (by decide +kernel), by decide +kernel⟩
theorem tw_706 : (.fieldLink "java/lang/StringUTF16" 44 "java/lang/StringUTF16" "$assertionsDisabled" "Z" : Cond) ∈ tG := List.mem_filter.mpr ⟨List.mem_of_getElem? (i := 706) (by decide +kernel), by decide +kernel⟩
theorem tw_708 : (.fieldLink "java/lang/StringUTF16" 59 "java/lang/StringUTF16" "HI_BYTE_SHIFT" "I" : Cond) ∈ tG := List.mem_filter.mpr ⟨List.mem_of_getElem? (i := 708) (by decide +kernel), by decide +kernel⟩
theorem tw_710 : (.fieldLink "java/lang/StringUTF16" 63 "java/lang/StringUTF16" "LO_BYTE_SHIFT" "I" : Cond) ∈ tG := List.mem_filter.mpr ⟨List.mem_of_getElem? (i := 710) (by decide +kernel), by decide +kernel⟩
theorem tw_712 : (.methodLink "java/lang/AbstractStringBuilder" 197 ⟨"java/lang/StringUTF16", "putCharSB", "([BII)V"⟩ : Cond) ∈ tG := List.mem_filter.mpr ⟨List.mem_of_getElem? (i := 712) (by decide +kernel), by decide +kernel⟩
theorem tw_713 : (.static ⟨"java/lang/StringUTF16", "putCharSB", "([BII)V"⟩ : Cond) ∈ tG := List.mem_filter.mpr ⟨List.mem_of_getElem? (i := 713) (by decide +kernel), by decide +kernel⟩
theorem tw_714 : (.code ⟨"java/lang/StringUTF16", "putCharSB", "([BII)V"⟩ prog_22_method_71_code 3 (none : Option ClassFile.FieldType) : Cond) ∈ tG := List.mem_filter.mpr ⟨List.mem_of_getElem? (i := 714) (by decide +kernel), by decide +kernel⟩
theorem tw_715 : (.methodLink "java/lang/StringUTF16" 67 ⟨"java/lang/StringUTF16", "checkIndex", "(I[B)V"⟩ : Cond) ∈ tG := List.mem_filter.mpr ⟨List.mem_of_getElem? (i := 715) (by decide +kernel), by decide +kernel⟩
theorem tw_716 : (.static ⟨"java/lang/StringUTF16", "checkIndex", "(I[B)V"⟩ : Cond) ∈ tG := List.mem_filter.mpr ⟨List.mem_of_getElem? (i := 716) (by decide +kernel), by decide +kernel⟩
theorem tw_717 : (.code ⟨"java/lang/StringUTF16", "checkIndex", "(I[B)V"⟩ prog_22_method_91_code 2 (none : Option ClassFile.FieldType) : Cond) ∈ tG := List.mem_filter.mpr ⟨List.mem_of_getElem? (i := 717) (by decide +kernel), by decide +kernel⟩
theorem tw_718 : (.methodLink "java/lang/StringUTF16" 414 ⟨"java/lang/String", "checkIndex", "(II)V"⟩ : Cond) ∈ tG := List.mem_filter.mpr ⟨List.mem_of_getElem? (i := 718) (by decide +kernel), by decide +kernel⟩
theorem tw_719 : (.static ⟨"java/lang/String", "checkIndex", "(II)V"⟩ : Cond) ∈ tG := List.mem_filter.mpr ⟨List.mem_of_getElem? (i := 719) (by decide +kernel), by decide +kernel⟩
theorem tw_720 : (.code ⟨"java/lang/String", "checkIndex", "(II)V"⟩ prog_19_method_155_code 2 (none : Option ClassFile.FieldType) : Cond) ∈ tG := List.mem_filter.mpr ⟨List.mem_of_getElem? (i := 720) (by decide +kernel), by decide +kernel⟩
theorem tw_721 : (.methodLink "java/lang/String" 1059 ⟨"jdk/internal/util/Preconditions", "checkIndex", "(IILjava/util/function/BiFunction;)I"⟩ : Cond) ∈ tG := List.mem_filter.mpr ⟨List.mem_of_getElem? (i := 721) (by decide +kernel), by decide +kernel⟩
theorem tw_722 : (.methodLink "BidLanguageLaw" 118 ⟨"BidLanguage", "wipe", "()I"⟩ : Cond) ∈ tG := List.mem_filter.mpr ⟨List.mem_of_getElem? (i := 722) (by decide +kernel), by decide +kernel⟩
theorem tw_723 : (.instanceMethod ⟨"BidLanguage", "wipe", "()I"⟩ : Cond) ∈ tG := List.mem_filter.mpr ⟨List.mem_of_getElem? (i := 723) (by decide +kernel), by decide +kernel⟩
theorem tw_724 : (.selects "BidLanguage" ⟨"BidLanguage", "wipe", "()I"⟩ ⟨"BidLanguage", "wipe", "()I"⟩ : Cond) ∈ tG := List.mem_filter.mpr ⟨List.mem_of_getElem? (i := 724) (by decide +kernel), by decide +kernel⟩
theorem tw_725 : (.code ⟨"BidLanguage", "wipe", "()I"⟩ prog_1_method_26_code 2 (some .int) : Cond) ∈ tG := List.mem_filter.mpr ⟨List.mem_of_getElem? (i := 725) (by decide +kernel), by decide +kernel⟩
theorem tw_726 : (.methodLink "BidLanguage" 222 ⟨"java/lang/StringBuilder", "setLength", "(I)V"⟩ : Cond) ∈ tG := List.mem_filter.mpr ⟨List.mem_of_getElem? (i := 726) (by decide +kernel), by decide +kernel⟩
theorem tw_727 : (.instanceMethod ⟨"java/lang/StringBuilder", "setLength", "(I)V"⟩ : Cond) ∈ tG := List.mem_filter.mpr ⟨List.mem_of_getElem? (i := 727) (by decide +kernel), by decide +kernel⟩
theorem tw_728 : (.selects "java/lang/StringBuilder" ⟨"java/lang/StringBuilder", "setLength", "(I)V"⟩ ⟨"java/lang/StringBuilder", "setLength", "(I)V"⟩ : Cond) ∈ tG := List.mem_filter.mpr ⟨List.mem_of_getElem? (i := 728) (by decide +kernel), by decide +kernel⟩
theorem tw_729 : (.code ⟨"java/lang/StringBuilder", "setLength", "(I)V"⟩ prog_20_method_89_code 2 (none : Option ClassFile.FieldType) : Cond) ∈ tG := List.mem_filter.mpr ⟨List.mem_of_getElem? (i := 729) (by decide +kernel), by decide +kernel⟩
theorem tw_730 : (.methodLink "java/lang/StringBuilder" 333 ⟨"java/lang/AbstractStringBuilder", "setLength", "(I)V"⟩ : Cond) ∈ tG := List.mem_filter.mpr ⟨List.mem_of_getElem? (i := 730) (by decide +kernel), by decide +kernel⟩
theorem tw_731 : (.instanceMethod ⟨"java/lang/AbstractStringBuilder", "setLength", "(I)V"⟩ : Cond) ∈ tG := List.mem_filter.mpr ⟨List.mem_of_getElem? (i := 731) (by decide +kernel), by decide +kernel⟩
theorem tw_732 : (.code ⟨"java/lang/AbstractStringBuilder", "setLength", "(I)V"⟩ prog_11_method_13_code 2 (none : Option ClassFile.FieldType) : Cond) ∈ tG := List.mem_filter.mpr ⟨List.mem_of_getElem? (i := 732) (by decide +kernel), by decide +kernel⟩
theorem tw_733 : (.methodLink "java/lang/AbstractStringBuilder" 133 ⟨"java/lang/StringLatin1", "fillNull", "([BII)V"⟩ : Cond) ∈ tG := List.mem_filter.mpr ⟨List.mem_of_getElem? (i := 733) (by decide +kernel), by decide +kernel⟩
theorem tw_734 : (.static ⟨"java/lang/StringLatin1", "fillNull", "([BII)V"⟩ : Cond) ∈ tG := List.mem_filter.mpr ⟨List.mem_of_getElem? (i := 734) (by decide +kernel), by decide +kernel⟩
theorem tw_735 : (.code ⟨"java/lang/StringLatin1", "fillNull", "([BII)V"⟩ prog_21_method_48_code 3 (none : Option ClassFile.FieldType) : Cond) ∈ tG := List.mem_filter.mpr ⟨List.mem_of_getElem? (i := 735) (by decide +kernel), by decide +kernel⟩
theorem tw_736 : (.methodLink "java/lang/StringLatin1" 236 ⟨"java/util/Arrays", "fill", "([BIIB)V"⟩ : Cond) ∈ tG := List.mem_filter.mpr ⟨List.mem_of_getElem? (i := 736) (by decide +kernel), by decide +kernel⟩
theorem tw_737 : (.static ⟨"java/util/Arrays", "fill", "([BIIB)V"⟩ : Cond) ∈ tG := List.mem_filter.mpr ⟨List.mem_of_getElem? (i := 737) (by decide +kernel), by decide +kernel⟩
theorem tw_738 : (.code ⟨"java/util/Arrays", "fill", "([BIIB)V"⟩ prog_27_method_110_code 5 (none : Option ClassFile.FieldType) : Cond) ∈ tG := List.mem_filter.mpr ⟨List.mem_of_getElem? (i := 738) (by decide +kernel), by decide +kernel⟩
theorem tw_739 : (.methodLink "java/util/Arrays" 13 ⟨"java/util/Arrays", "rangeCheck", "(III)V"⟩ : Cond) ∈ tG := List.mem_filter.mpr ⟨List.mem_of_getElem? (i := 739) (by decide +kernel), by decide +kernel⟩
theorem tw_740 : (.static ⟨"java/util/Arrays", "rangeCheck", "(III)V"⟩ : Cond) ∈ tG := List.mem_filter.mpr ⟨List.mem_of_getElem? (i := 740) (by decide +kernel), by decide +kernel⟩
theorem tw_741 : (.code ⟨"java/util/Arrays", "rangeCheck", "(III)V"⟩ prog_27_method_30_code 3 (none : Option ClassFile.FieldType) : Cond) ∈ tG := List.mem_filter.mpr ⟨List.mem_of_getElem? (i := 741) (by decide +kernel), by decide +kernel⟩
theorem tw_742 : (.methodLink "java/lang/AbstractStringBuilder" 137 ⟨"java/lang/StringUTF16", "fillNull", "([BII)V"⟩ : Cond) ∈ tG := List.mem_filter.mpr ⟨List.mem_of_getElem? (i := 742) (by decide +kernel), by decide +kernel⟩
theorem tw_743 : (.static ⟨"java/lang/StringUTF16", "fillNull", "([BII)V"⟩ : Cond) ∈ tG := List.mem_filter.mpr ⟨List.mem_of_getElem? (i := 743) (by decide +kernel), by decide +kernel⟩
theorem tw_744 : (.code ⟨"java/lang/StringUTF16", "fillNull", "([BII)V"⟩ prog_22_method_70_code 3 (none : Option ClassFile.FieldType) : Cond) ∈ tG := List.mem_filter.mpr ⟨List.mem_of_getElem? (i := 744) (by decide +kernel), by decide +kernel⟩
theorem tw_745 : (.methodLink "java/lang/StringUTF16" 380 ⟨"java/util/Arrays", "fill", "([BIIB)V"⟩ : Cond) ∈ tG := List.mem_filter.mpr ⟨List.mem_of_getElem? (i := 745) (by decide +kernel), by decide +kernel⟩
theorem tw_746 : (.methodLink "BidLanguageLaw" 122 ⟨"BidLanguage", "fault", "()I"⟩ : Cond) ∈ tG := List.mem_filter.mpr ⟨List.mem_of_getElem? (i := 746) (by decide +kernel), by decide +kernel⟩
theorem tw_747 : (.instanceMethod ⟨"BidLanguage", "fault", "()I"⟩ : Cond) ∈ tG := List.mem_filter.mpr ⟨List.mem_of_getElem? (i := 747) (by decide +kernel), by decide +kernel⟩
theorem tw_748 : (.selects "BidLanguage" ⟨"BidLanguage", "fault", "()I"⟩ ⟨"BidLanguage", "fault", "()I"⟩ : Cond) ∈ tG := List.mem_filter.mpr ⟨List.mem_of_getElem? (i := 748) (by decide +kernel), by decide +kernel⟩
theorem tw_749 : (.code ⟨"BidLanguage", "fault", "()I"⟩ prog_1_method_27_code 2 (some .int) : Cond) ∈ tG := List.mem_filter.mpr ⟨List.mem_of_getElem? (i := 749) (by decide +kernel), by decide +kernel⟩
theorem tw_750 : (.classLink "BidLanguage" 226 "BidLanguage$RuleReader" : Cond) ∈ tG := List.mem_filter.mpr ⟨List.mem_of_getElem? (i := 750) (by decide +kernel), by decide +kernel⟩
theorem tw_751 : (.instantiable "BidLanguage$RuleReader" 4 : Cond) ∈ tG := List.mem_filter.mpr ⟨List.mem_of_getElem? (i := 751) (by decide +kernel), by decide +kernel⟩
theorem tw_752 : (.methodLink "BidLanguage" 228 ⟨"BidLanguage$RuleReader", "<init>", "(Ljava/lang/StringBuilder;)V"⟩ : Cond) ∈ tG := List.mem_filter.mpr ⟨List.mem_of_getElem? (i := 752) (by decide +kernel), by decide +kernel⟩
theorem tw_753 : (.instanceMethod ⟨"BidLanguage$RuleReader", "<init>", "(Ljava/lang/StringBuilder;)V"⟩ : Cond) ∈ tG := List.mem_filter.mpr ⟨List.mem_of_getElem? (i := 753) (by decide +kernel), by decide +kernel⟩
theorem tw_754 : (.code ⟨"BidLanguage$RuleReader", "<init>", "(Ljava/lang/StringBuilder;)V"⟩ prog_7_method_1_code 2 (none : Option ClassFile.FieldType) : Cond) ∈ tG := List.mem_filter.mpr ⟨List.mem_of_getElem? (i := 754) (by decide +kernel), by decide +kernel⟩
theorem tw_755 : (.methodLink "BidLanguage$RuleReader" 3 ⟨"java/lang/Object", "<init>", "()V"⟩ : Cond) ∈ tG := List.mem_filter.mpr ⟨List.mem_of_getElem? (i := 755) (by decide +kernel), by decide +kernel⟩
theorem tw_756 : (.classLink "BidLanguage$RuleReader" 9 "BidLanguage$Rule" : Cond) ∈ tG := List.mem_filter.mpr ⟨List.mem_of_getElem? (i := 756) (by decide +kernel), by decide +kernel⟩
theorem tw_757 : (.methodLink "BidLanguage$RuleReader" 11 ⟨"BidLanguage$Rule", "<init>", "(IIII)V"⟩ : Cond) ∈ tG := List.mem_filter.mpr ⟨List.mem_of_getElem? (i := 757) (by decide +kernel), by decide +kernel⟩
theorem tw_758 : (.fieldLink "BidLanguage$RuleReader" 27 "BidLanguage$RuleReader" "text" "Ljava/lang/StringBuilder;" : Cond) ∈ tG := List.mem_filter.mpr ⟨List.mem_of_getElem? (i := 758) (by decide +kernel), by decide +kernel⟩
theorem tw_759 : (.fieldLink "BidLanguage$RuleReader" 14 "BidLanguage$RuleReader" "rule" "LBidLanguage$Rule;" : Cond) ∈ tG := List.mem_filter.mpr ⟨List.mem_of_getElem? (i := 759) (by decide +kernel), by decide +kernel⟩
theorem tw_760 : (.fieldLinkNest "BidLanguage" 237 "BidLanguage$RuleReader" "rule" "LBidLanguage$Rule;" "BidLanguage" : Cond) ∈ tG := List.mem_filter.mpr ⟨List.mem_of_getElem? (i := 760) (by decide +kernel), by decide +kernel⟩
theorem tw_761 : (.fieldLink "BidLanguage$RuleReader" 20 "BidLanguage$RuleReader" "at" "I" : Cond) ∈ tG := List.mem_filter.mpr ⟨List.mem_of_getElem? (i := 761) (by decide +kernel), by decide +kernel⟩
theorem tw_762 : (.fieldLinkNest "BidLanguage" 234 "BidLanguage$RuleReader" "at" "I" "BidLanguage" : Cond) ∈ tG := List.mem_filter.mpr ⟨List.mem_of_getElem? (i := 762) (by decide +kernel), by decide +kernel⟩
theorem tw_763 : (.fieldLink "BidLanguage$RuleReader" 24 "BidLanguage$RuleReader" "limited" "I" : Cond) ∈ tG := List.mem_filter.mpr ⟨List.mem_of_getElem? (i := 763) (by decide +kernel), by decide +kernel⟩
theorem tw_773 : (.methodLink "BidLanguage" 231 ⟨"BidLanguage$RuleReader", "readsWhole", "()Z"⟩ : Cond) ∈ tG := List.mem_filter.mpr ⟨List.mem_of_getElem? (i := 773) (by decide +kernel), by decide +kernel⟩
theorem tw_774 : (.instanceMethod ⟨"BidLanguage$RuleReader", "readsWhole", "()Z"⟩ : Cond) ∈ tG := List.mem_filter.mpr ⟨List.mem_of_getElem? (i := 774) (by decide +kernel), by decide +kernel⟩
theorem tw_775 : (.selects "BidLanguage$RuleReader" ⟨"BidLanguage$RuleReader", "readsWhole", "()Z"⟩ ⟨"BidLanguage$RuleReader", "readsWhole", "()Z"⟩ : Cond) ∈ tG := List.mem_filter.mpr ⟨List.mem_of_getElem? (i := 775) (by decide +kernel), by decide +kernel⟩
theorem tw_776 : (.code ⟨"BidLanguage$RuleReader", "readsWhole", "()Z"⟩ prog_7_method_2_code 3 (some .boolean) : Cond) ∈ tG := List.mem_filter.mpr ⟨List.mem_of_getElem? (i := 776) (by decide +kernel), by decide +kernel⟩
theorem tw_777 : (.methodLink "BidLanguage$RuleReader" 31 ⟨"BidLanguage$RuleReader", "readsHead", "()Z"⟩ : Cond) ∈ tG := List.mem_filter.mpr ⟨List.mem_of_getElem? (i := 777) (by decide +kernel), by decide +kernel⟩
theorem tw_779 : (.instanceMethod ⟨"BidLanguage$RuleReader", "readsHead", "()Z"⟩ : Cond) ∈ tG := List.mem_filter.mpr ⟨List.mem_of_getElem? (i := 779) (by decide +kernel), by decide +kernel⟩
theorem tw_780 : (.code ⟨"BidLanguage$RuleReader", "readsHead", "()Z"⟩ prog_7_method_3_code 1 (some .boolean) : Cond) ∈ tG := List.mem_filter.mpr ⟨List.mem_of_getElem? (i := 780) (by decide +kernel), by decide +kernel⟩
theorem tw_781 : (.methodLink "BidLanguage$RuleReader" 48 ⟨"BidLanguage$RuleReader", "readDigit", "(II)I"⟩ : Cond) ∈ tG := List.mem_filter.mpr ⟨List.mem_of_getElem? (i := 781) (by decide +kernel), by decide +kernel⟩
theorem tw_783 : (.instanceMethod ⟨"BidLanguage$RuleReader", "readDigit", "(II)I"⟩ : Cond) ∈ tG := List.mem_filter.mpr ⟨List.mem_of_getElem? (i := 783) (by decide +kernel), by decide +kernel⟩
theorem tw_784 : (.code ⟨"BidLanguage$RuleReader", "readDigit", "(II)I"⟩ prog_7_method_8_code 4 (some .int) : Cond) ∈ tG := List.mem_filter.mpr ⟨List.mem_of_getElem? (i := 784) (by decide +kernel), by decide +kernel⟩
theorem tw_785 : (.methodLink "BidLanguage$RuleReader" 71 ⟨"BidLanguage$RuleReader", "sign", "()I"⟩ : Cond) ∈ tG := List.mem_filter.mpr ⟨List.mem_of_getElem? (i := 785) (by decide +kernel), by decide +kernel⟩
theorem tw_787 : (.instanceMethod ⟨"BidLanguage$RuleReader", "sign", "()I"⟩ : Cond) ∈ tG := List.mem_filter.mpr ⟨List.mem_of_getElem? (i := 787) (by decide +kernel), by decide +kernel⟩
theorem tw_788 : (.code ⟨"BidLanguage$RuleReader", "sign", "()I"⟩ prog_7_method_11_code 1 (some .int) : Cond) ∈ tG := List.mem_filter.mpr ⟨List.mem_of_getElem? (i := 788) (by decide +kernel), by decide +kernel⟩
theorem tw_789 : (.methodLink "BidLanguage$RuleReader" 35 ⟨"java/lang/StringBuilder", "length", "()I"⟩ : Cond) ∈ tG := List.mem_filter.mpr ⟨List.mem_of_getElem? (i := 789) (by decide +kernel), by decide +kernel⟩
theorem tw_790 : (.methodLink "BidLanguage$RuleReader" 95 ⟨"java/lang/StringBuilder", "charAt", "(I)C"⟩ : Cond) ∈ tG := List.mem_filter.mpr ⟨List.mem_of_getElem? (i := 790) (by decide +kernel), by decide +kernel⟩
theorem tw_791 : (.instanceMethod ⟨"java/lang/StringBuilder", "charAt", "(I)C"⟩ : Cond) ∈ tG := List.mem_filter.mpr ⟨List.mem_of_getElem? (i := 791) (by decide +kernel), by decide +kernel⟩
theorem tw_792 : (.selects "java/lang/StringBuilder" ⟨"java/lang/StringBuilder", "charAt", "(I)C"⟩ ⟨"java/lang/StringBuilder", "charAt", "(I)C"⟩ : Cond) ∈ tG := List.mem_filter.mpr ⟨List.mem_of_getElem? (i := 792) (by decide +kernel), by decide +kernel⟩
theorem tw_793 : (.code ⟨"java/lang/StringBuilder", "charAt", "(I)C"⟩ prog_20_method_88_code 2 (some .char) : Cond) ∈ tG := List.mem_filter.mpr ⟨List.mem_of_getElem? (i := 793) (by decide +kernel), by decide +kernel⟩
theorem tw_794 : (.methodLink "java/lang/StringBuilder" 329 ⟨"java/lang/AbstractStringBuilder", "charAt", "(I)C"⟩ : Cond) ∈ tG := List.mem_filter.mpr ⟨List.mem_of_getElem? (i := 794) (by decide +kernel), by decide +kernel⟩
theorem tw_795 : (.instanceMethod ⟨"java/lang/AbstractStringBuilder", "charAt", "(I)C"⟩ : Cond) ∈ tG := List.mem_filter.mpr ⟨List.mem_of_getElem? (i := 795) (by decide +kernel), by decide +kernel⟩
theorem tw_796 : (.code ⟨"java/lang/AbstractStringBuilder", "charAt", "(I)C"⟩ prog_11_method_14_code 5 (some .char) : Cond) ∈ tG := List.mem_filter.mpr ⟨List.mem_of_getElem? (i := 796) (by decide +kernel), by decide +kernel⟩
theorem tw_797 : (.methodLink "java/lang/AbstractStringBuilder" 138 ⟨"java/lang/Math", "min", "(II)I"⟩ : Cond) ∈ tG := List.mem_filter.mpr ⟨List.mem_of_getElem? (i := 797) (by decide +kernel), by decide +kernel⟩
theorem tw_798 : (.methodLink "java/lang/AbstractStringBuilder" 144 ⟨"java/lang/String", "checkIndex", "(II)V"⟩ : Cond) ∈ tG := List.mem_filter.mpr ⟨List.mem_of_getElem? (i := 798) (by decide +kernel), by decide +kernel⟩
theorem tw_799 : (.methodLink "java/lang/AbstractStringBuilder" 148 ⟨"java/lang/StringUTF16", "getChar", "([BI)C"⟩ : Cond) ∈ tG := List.mem_filter.mpr ⟨List.mem_of_getElem? (i := 799) (by decide +kernel), by decide +kernel⟩
theorem tw_800 : (.static ⟨"java/lang/StringUTF16", "getChar", "([BI)C"⟩ : Cond) ∈ tG := List.mem_filter.mpr ⟨List.mem_of_getElem? (i := 800) (by decide +kernel), by decide +kernel⟩
theorem tw_801 : (.code ⟨"java/lang/StringUTF16", "getChar", "([BI)C"⟩ prog_22_method_5_code 2 (some .char) : Cond) ∈ tG := List.mem_filter.mpr ⟨List.mem_of_getElem? (i := 801) (by decide +kernel), by decide +kernel⟩
theorem tw_802 : (.methodLink "BidLanguage$RuleReader" 55 ⟨"BidLanguage$RuleReader", "reads", "(C)Z"⟩ : Cond) ∈ tG := List.mem_filter.mpr ⟨List.mem_of_getElem? (i := 802) (by decide +kernel), by decide +kernel⟩
theorem tw_804 : (.instanceMethod ⟨"BidLanguage$RuleReader", "reads", "(C)Z"⟩ : Cond) ∈ tG := List.mem_filter.mpr ⟨List.mem_of_getElem? (i := 804) (by decide +kernel), by decide +kernel⟩
theorem tw_805 : (.code ⟨"BidLanguage$RuleReader", "reads", "(C)Z"⟩ prog_7_method_9_code 2 (some .boolean) : Cond) ∈ tG := List.mem_filter.mpr ⟨List.mem_of_getElem? (i := 805) (by decide +kernel), by decide +kernel⟩
theorem tw_806 : (.methodLink "BidLanguage$RuleReader" 59 ⟨"BidLanguage$RuleReader", "readCall", "()I"⟩ : Cond) ∈ tG := List.mem_filter.mpr ⟨List.mem_of_getElem? (i := 806) (by decide +kernel), by decide +kernel⟩
theorem tw_808 : (.instanceMethod ⟨"BidLanguage$RuleReader", "readCall", "()I"⟩ : Cond) ∈ tG := List.mem_filter.mpr ⟨List.mem_of_getElem? (i := 808) (by decide +kernel), by decide +kernel⟩
theorem tw_809 : (.code ⟨"BidLanguage$RuleReader", "readCall", "()I"⟩ prog_7_method_4_code 3 (some .int) : Cond) ∈ tG := List.mem_filter.mpr ⟨List.mem_of_getElem? (i := 809) (by decide +kernel), by decide +kernel⟩
theorem tw_810 : (.methodLink "BidLanguage$RuleReader" 74 ⟨"BidLanguage$RuleReader", "suitOfSign", "()I"⟩ : Cond) ∈ tG := List.mem_filter.mpr ⟨List.mem_of_getElem? (i := 810) (by decide +kernel), by decide +kernel⟩
theorem tw_812 : (.instanceMethod ⟨"BidLanguage$RuleReader", "suitOfSign", "()I"⟩ : Cond) ∈ tG := List.mem_filter.mpr ⟨List.mem_of_getElem? (i := 812) (by decide +kernel), by decide +kernel⟩
theorem tw_813 : (.code ⟨"BidLanguage$RuleReader", "suitOfSign", "()I"⟩ prog_7_method_10_code 1 (some .int) : Cond) ∈ tG := List.mem_filter.mpr ⟨List.mem_of_getElem? (i := 813) (by decide +kernel), by decide +kernel⟩
theorem tw_814 : (.methodLink "BidLanguage$RuleReader" 41 ⟨"BidLanguage$RuleReader", "readKind", "()I"⟩ : Cond) ∈ tG := List.mem_filter.mpr ⟨List.mem_of_getElem? (i := 814) (by decide +kernel), by decide +kernel⟩
theorem tw_816 : (.instanceMethod ⟨"BidLanguage$RuleReader", "readKind", "()I"⟩ : Cond) ∈ tG := List.mem_filter.mpr ⟨List.mem_of_getElem? (i := 816) (by decide +kernel), by decide +kernel⟩
theorem tw_817 : (.code ⟨"BidLanguage$RuleReader", "readKind", "()I"⟩ prog_7_method_5_code 2 (some .int) : Cond) ∈ tG := List.mem_filter.mpr ⟨List.mem_of_getElem? (i := 817) (by decide +kernel), by decide +kernel⟩
theorem tw_818 : (.methodLink "BidLanguage$RuleReader" 44 ⟨"BidLanguage$RuleReader", "readsRange", "(I)Z"⟩ : Cond) ∈ tG := List.mem_filter.mpr ⟨List.mem_of_getElem? (i := 818) (by decide +kernel), by decide +kernel⟩
theorem tw_820 : (.instanceMethod ⟨"BidLanguage$RuleReader", "readsRange", "(I)Z"⟩ : Cond) ∈ tG := List.mem_filter.mpr ⟨List.mem_of_getElem? (i := 820) (by decide +kernel), by decide +kernel⟩
theorem tw_821 : (.code ⟨"BidLanguage$RuleReader", "readsRange", "(I)Z"⟩ prog_7_method_6_code 5 (some .boolean) : Cond) ∈ tG := List.mem_filter.mpr ⟨List.mem_of_getElem? (i := 821) (by decide +kernel), by decide +kernel⟩
theorem tw_822 : (.methodLink "BidLanguage$RuleReader" 77 ⟨"BidLanguage$Cards", "greatestMeasure", "(I)I"⟩ : Cond) ∈ tG := List.mem_filter.mpr ⟨List.mem_of_getElem? (i := 822) (by decide +kernel), by decide +kernel⟩
theorem tw_823 : (.methodLink "BidLanguage$RuleReader" 83 ⟨"BidLanguage$RuleReader", "readNumber", "(I)I"⟩ : Cond) ∈ tG := List.mem_filter.mpr ⟨List.mem_of_getElem? (i := 823) (by decide +kernel), by decide +kernel⟩
theorem tw_825 : (.instanceMethod ⟨"BidLanguage$RuleReader", "readNumber", "(I)I"⟩ : Cond) ∈ tG := List.mem_filter.mpr ⟨List.mem_of_getElem? (i := 825) (by decide +kernel), by decide +kernel⟩
theorem tw_826 : (.code ⟨"BidLanguage$RuleReader", "readNumber", "(I)I"⟩ prog_7_method_7_code 4 (some .int) : Cond) ∈ tG := List.mem_filter.mpr ⟨List.mem_of_getElem? (i := 826) (by decide +kernel), by decide +kernel⟩
theorem tw_827 : (.methodLink "BidLanguage$RuleReader" 90 ⟨"java/lang/Math", "min", "(II)I"⟩ : Cond) ∈ tG := List.mem_filter.mpr ⟨List.mem_of_getElem? (i := 827) (by decide +kernel), by decide +kernel⟩
theorem tw_828 : (.methodLink "BidLanguage$RuleReader" 86 ⟨"BidLanguage$Rule", "setRange", "(III)V"⟩ : Cond) ∈ tG := List.mem_filter.mpr ⟨List.mem_of_getElem? (i := 828) (by decide +kernel), by decide +kernel⟩
theorem tw_829 : (.methodLink "BidLanguageLaw" 126 ⟨"BidLanguage", "load", "()I"⟩ : Cond) ∈ tG := List.mem_filter.mpr ⟨List.mem_of_getElem? (i := 829) (by decide +kernel), by decide +kernel⟩
theorem tw_830 : (.instanceMethod ⟨"BidLanguage", "load", "()I"⟩ : Cond) ∈ tG := List.mem_filter.mpr ⟨List.mem_of_getElem? (i := 830) (by decide +kernel), by decide +kernel⟩
theorem tw_831 : (.selects "BidLanguage" ⟨"BidLanguage", "load", "()I"⟩ ⟨"BidLanguage", "load", "()I"⟩ : Cond) ∈ tG := List.mem_filter.mpr ⟨List.mem_of_getElem? (i := 831) (by decide +kernel), by decide +kernel⟩
theorem tw_832 : (.code ⟨"BidLanguage", "load", "()I"⟩ prog_1_method_28_code 3 (some .int) : Cond) ∈ tG := List.mem_filter.mpr ⟨List.mem_of_getElem? (i := 832) (by decide +kernel), by decide +kernel⟩
theorem tw_833 : (.classLink "BidLanguageLaw" 10 "BidLanguageModel" : Cond) ∈ tG := List.mem_filter.mpr ⟨List.mem_of_getElem? (i := 833) (by decide +kernel), by decide +kernel⟩
theorem tw_834 : (.instantiable "BidLanguageModel" 19 : Cond) ∈ tG := List.mem_filter.mpr ⟨List.mem_of_getElem? (i := 834) (by decide +kernel), by decide +kernel⟩
theorem tw_835 : (.methodLink "BidLanguageLaw" 12 ⟨"BidLanguageModel", "<init>", "()V"⟩ : Cond) ∈ tG := List.mem_filter.mpr ⟨List.mem_of_getElem? (i := 835) (by decide +kernel), by decide +kernel⟩
theorem tw_836 : (.instanceMethod ⟨"BidLanguageModel", "<init>", "()V"⟩ : Cond) ∈ tG := List.mem_filter.mpr ⟨List.mem_of_getElem? (i := 836) (by decide +kernel), by decide +kernel⟩
theorem tw_837 : (.code ⟨"BidLanguageModel", "<init>", "()V"⟩ prog_9_method_1_code 3 (none : Option ClassFile.FieldType) : Cond) ∈ tG := List.mem_filter.mpr ⟨List.mem_of_getElem? (i := 837) (by decide +kernel), by decide +kernel⟩
theorem tw_838 : (.methodLink "BidLanguageModel" 1 ⟨"java/lang/Object", "<init>", "()V"⟩ : Cond) ∈ tG := List.mem_filter.mpr ⟨List.mem_of_getElem? (i := 838) (by decide +kernel), by decide +kernel⟩
theorem tw_839 : (.methodLink "BidLanguageModel" 47 ⟨"BidLanguageModel", "anew", "()V"⟩ : Cond) ∈ tG := List.mem_filter.mpr ⟨List.mem_of_getElem? (i := 839) (by decide +kernel), by decide +kernel⟩
theorem tw_841 : (.instanceMethod ⟨"BidLanguageModel", "anew", "()V"⟩ : Cond) ∈ tG := List.mem_filter.mpr ⟨List.mem_of_getElem? (i := 841) (by decide +kernel), by decide +kernel⟩
theorem tw_842 : (.code ⟨"BidLanguageModel", "anew", "()V"⟩ prog_9_method_11_code 1 (none : Option ClassFile.FieldType) : Cond) ∈ tG := List.mem_filter.mpr ⟨List.mem_of_getElem? (i := 842) (by decide +kernel), by decide +kernel⟩
theorem tw_843 : (.fieldLink "BidLanguageModel" 7 "BidLanguageModel" "rules" "[I" : Cond) ∈ tG := List.mem_filter.mpr ⟨List.mem_of_getElem? (i := 843) (by decide +kernel), by decide +kernel⟩
theorem tw_844 : (.fieldLink "BidLanguageModel" 63 "BidLanguageModel" "ruleMany" "I" : Cond) ∈ tG := List.mem_filter.mpr ⟨List.mem_of_getElem? (i := 844) (by decide +kernel), by decide +kernel⟩
theorem tw_845 : (.fieldLink "BidLanguageModel" 13 "BidLanguageModel" "hand" "[I" : Cond) ∈ tG := List.mem_filter.mpr ⟨List.mem_of_getElem? (i := 845) (by decide +kernel), by decide +kernel⟩
theorem tw_846 : (.fieldLink "BidLanguageModel" 16 "BidLanguageModel" "manyOf" "[I" : Cond) ∈ tG := List.mem_filter.mpr ⟨List.mem_of_getElem? (i := 846) (by decide +kernel), by decide +kernel⟩
theorem tw_847 : (.fieldLink "BidLanguageModel" 19 "BidLanguageModel" "sumOf" "[I" : Cond) ∈ tG := List.mem_filter.mpr ⟨List.mem_of_getElem? (i := 847) (by decide +kernel), by decide +kernel⟩
theorem tw_848 : (.fieldLink "BidLanguageModel" 22 "BidLanguageModel" "callAt" "[I" : Cond) ∈ tG := List.mem_filter.mpr ⟨List.mem_of_getElem? (i := 848) (by decide +kernel), by decide +kernel⟩
theorem tw_849 : (.fieldLink "BidLanguageModel" 25 "BidLanguageModel" "ruleAt" "[I" : Cond) ∈ tG := List.mem_filter.mpr ⟨List.mem_of_getElem? (i := 849) (by decide +kernel), by decide +kernel⟩
theorem tw_850 : (.fieldLink "BidLanguageModel" 28 "BidLanguageModel" "stateAt" "[I" : Cond) ∈ tG := List.mem_filter.mpr ⟨List.mem_of_getElem? (i := 850) (by decide +kernel), by decide +kernel⟩
theorem tw_851 : (.fieldLink "BidLanguageModel" 31 "BidLanguageModel" "forcedAt" "[I" : Cond) ∈ tG := List.mem_filter.mpr ⟨List.mem_of_getElem? (i := 851) (by decide +kernel), by decide +kernel⟩
theorem tw_852 : (.fieldLink "BidLanguageModel" 34 "BidLanguageModel" "lastAt" "[I" : Cond) ∈ tG := List.mem_filter.mpr ⟨List.mem_of_getElem? (i := 852) (by decide +kernel), by decide +kernel⟩
theorem tw_853 : (.fieldLink "BidLanguageModel" 67 "BidLanguageModel" "calls" "I" : Cond) ∈ tG := List.mem_filter.mpr ⟨List.mem_of_getElem? (i := 853) (by decide +kernel), by decide +kernel⟩
theorem tw_854 : (.fieldLink "BidLanguageModel" 70 "BidLanguageModel" "isStuck" "Z" : Cond) ∈ tG := List.mem_filter.mpr ⟨List.mem_of_getElem? (i := 854) (by decide +kernel), by decide +kernel⟩
theorem tw_855 : (.fieldLink "BidLanguageModel" 37 "BidLanguageModel" "pad" "[I" : Cond) ∈ tG := List.mem_filter.mpr ⟨List.mem_of_getElem? (i := 855) (by decide +kernel), by decide +kernel⟩
theorem tw_856 : (.fieldLink "BidLanguageModel" 131 "BidLanguageModel" "padMany" "I" : Cond) ∈ tG := List.mem_filter.mpr ⟨List.mem_of_getElem? (i := 856) (by decide +kernel), by decide +kernel⟩
theorem tw_857 : (.fieldLink "BidLanguageModel" 40 "BidLanguageModel" "fresh" "[I" : Cond) ∈ tG := List.mem_filter.mpr ⟨List.mem_of_getElem? (i := 857) (by decide +kernel), by decide +kernel⟩
theorem tw_858 : (.fieldLink "BidLanguageModel" 43 "BidLanguageModel" "sums" "[J" : Cond) ∈ tG := List.mem_filter.mpr ⟨List.mem_of_getElem? (i := 858) (by decide +kernel), by decide +kernel⟩
theorem tw_859 : (.fieldLink "BidLanguageModel" 156 "BidLanguageModel" "handMany" "I" : Cond) ∈ tG := List.mem_filter.mpr ⟨List.mem_of_getElem? (i := 859) (by decide +kernel), by decide +kernel⟩
theorem tw_860 : (.fieldLink "BidLanguageModel" 168 "BidLanguageModel" "spot" "I" : Cond) ∈ tG := List.mem_filter.mpr ⟨List.mem_of_getElem? (i := 860) (by decide +kernel), by decide +kernel⟩
theorem tw_861 : (.fieldLink "BidLanguageModel" 171 "BidLanguageModel" "isWrong" "Z" : Cond) ∈ tG := List.mem_filter.mpr ⟨List.mem_of_getElem? (i := 861) (by decide +kernel), by decide +kernel⟩
theorem tw_901 : (.arrayClass .int : Cond) ∈ tG := List.mem_filter.mpr ⟨List.mem_of_getElem? (i := 901) (by decide +kernel), by decide +kernel⟩
theorem tw_902 : (.arrayClass .long : Cond) ∈ tG := List.mem_filter.mpr ⟨List.mem_of_getElem? (i := 902) (by decide +kernel), by decide +kernel⟩
theorem tw_903 : (.methodLink "BidLanguageLaw" 17 ⟨"BidLanguageModel", "rule", "(IIII)I"⟩ : Cond) ∈ tG := List.mem_filter.mpr ⟨List.mem_of_getElem? (i := 903) (by decide +kernel), by decide +kernel⟩
theorem tw_904 : (.instanceMethod ⟨"BidLanguageModel", "rule", "(IIII)I"⟩ : Cond) ∈ tG := List.mem_filter.mpr ⟨List.mem_of_getElem? (i := 904) (by decide +kernel), by decide +kernel⟩
theorem tw_905 : (.selects "BidLanguageModel" ⟨"BidLanguageModel", "rule", "(IIII)I"⟩ ⟨"BidLanguageModel", "rule", "(IIII)I"⟩ : Cond) ∈ tG := List.mem_filter.mpr ⟨List.mem_of_getElem? (i := 905) (by decide +kernel), by decide +kernel⟩
theorem tw_906 : (.code ⟨"BidLanguageModel", "rule", "(IIII)I"⟩ prog_9_method_16_code 5 (some .int) : Cond) ∈ tG := List.mem_filter.mpr ⟨List.mem_of_getElem? (i := 906) (by decide +kernel), by decide +kernel⟩
theorem tw_907 : (.methodLink "BidLanguageModel" 55 ⟨"BidLanguageModel", "in", "(III)Z"⟩ : Cond) ∈ tG := List.mem_filter.mpr ⟨List.mem_of_getElem? (i := 907) (by decide +kernel), by decide +kernel⟩
theorem tw_908 : (.static ⟨"BidLanguageModel", "in", "(III)Z"⟩ : Cond) ∈ tG := List.mem_filter.mpr ⟨List.mem_of_getElem? (i := 908) (by decide +kernel), by decide +kernel⟩
theorem tw_909 : (.code ⟨"BidLanguageModel", "in", "(III)Z"⟩ prog_9_method_3_code 3 (some .boolean) : Cond) ∈ tG := List.mem_filter.mpr ⟨List.mem_of_getElem? (i := 909) (by decide +kernel), by decide +kernel⟩
theorem tw_910 : (.methodLink "BidLanguageModel" 84 ⟨"BidLanguageModel", "clearFresh", "()V"⟩ : Cond) ∈ tG := List.mem_filter.mpr ⟨List.mem_of_getElem? (i := 910) (by decide +kernel), by decide +kernel⟩
theorem tw_912 : (.instanceMethod ⟨"BidLanguageModel", "clearFresh", "()V"⟩ : Cond) ∈ tG := List.mem_filter.mpr ⟨List.mem_of_getElem? (i := 912) (by decide +kernel), by decide +kernel⟩
theorem tw_913 : (.code ⟨"BidLanguageModel", "clearFresh", "()V"⟩ prog_9_method_14_code 2 (none : Option ClassFile.FieldType) : Cond) ∈ tG := List.mem_filter.mpr ⟨List.mem_of_getElem? (i := 913) (by decide +kernel), by decide +kernel⟩
theorem tw_914 : (.methodLink "BidLanguageModel" 87 ⟨"BidLanguageModel", "addFresh", "()I"⟩ : Cond) ∈ tG := List.mem_filter.mpr ⟨List.mem_of_getElem? (i := 914) (by decide +kernel), by decide +kernel⟩
theorem tw_916 : (.instanceMethod ⟨"BidLanguageModel", "addFresh", "()I"⟩ : Cond) ∈ tG := List.mem_filter.mpr ⟨List.mem_of_getElem? (i := 916) (by decide +kernel), by decide +kernel⟩
theorem tw_917 : (.code ⟨"BidLanguageModel", "addFresh", "()I"⟩ prog_9_method_15_code 2 (some .int) : Cond) ∈ tG := List.mem_filter.mpr ⟨List.mem_of_getElem? (i := 917) (by decide +kernel), by decide +kernel⟩
theorem tw_918 : (.methodLink "BidLanguageModel" 80 ⟨"BidLanguageModel", "isThere", "(II)Z"⟩ : Cond) ∈ tG := List.mem_filter.mpr ⟨List.mem_of_getElem? (i := 918) (by decide +kernel), by decide +kernel⟩
theorem tw_920 : (.instanceMethod ⟨"BidLanguageModel", "isThere", "(II)Z"⟩ : Cond) ∈ tG := List.mem_filter.mpr ⟨List.mem_of_getElem? (i := 920) (by decide +kernel), by decide +kernel⟩
theorem tw_921 : (.code ⟨"BidLanguageModel", "isThere", "(II)Z"⟩ prog_9_method_13_code 5 (some .boolean) : Cond) ∈ tG := List.mem_filter.mpr ⟨List.mem_of_getElem? (i := 921) (by decide +kernel), by decide +kernel⟩
theorem tw_922 : (.methodLink "BidLanguageModel" 77 ⟨"BidLanguageModel", "of", "(II)I"⟩ : Cond) ∈ tG := List.mem_filter.mpr ⟨List.mem_of_getElem? (i := 922) (by decide +kernel), by decide +kernel⟩
theorem tw_924 : (.instanceMethod ⟨"BidLanguageModel", "of", "(II)I"⟩ : Cond) ∈ tG := List.mem_filter.mpr ⟨List.mem_of_getElem? (i := 924) (by decide +kernel), by decide +kernel⟩
theorem tw_925 : (.code ⟨"BidLanguageModel", "of", "(II)I"⟩ prog_9_method_9_code 3 (some .int) : Cond) ∈ tG := List.mem_filter.mpr ⟨List.mem_of_getElem? (i := 925) (by decide +kernel), by decide +kernel⟩
theorem tw_926 : (.methodLink "BidLanguageLaw" 21 ⟨"BidLanguageModel", "limit", "(IIII)I"⟩ : Cond) ∈ tG := List.mem_filter.mpr ⟨List.mem_of_getElem? (i := 926) (by decide +kernel), by decide +kernel⟩
theorem tw_927 : (.instanceMethod ⟨"BidLanguageModel", "limit", "(IIII)I"⟩ : Cond) ∈ tG := List.mem_filter.mpr ⟨List.mem_of_getElem? (i := 927) (by decide +kernel), by decide +kernel⟩
theorem tw_928 : (.selects "BidLanguageModel" ⟨"BidLanguageModel", "limit", "(IIII)I"⟩ ⟨"BidLanguageModel", "limit", "(IIII)I"⟩ : Cond) ∈ tG := List.mem_filter.mpr ⟨List.mem_of_getElem? (i := 928) (by decide +kernel), by decide +kernel⟩
theorem tw_929 : (.code ⟨"BidLanguageModel", "limit", "(IIII)I"⟩ prog_9_method_17_code 7 (some .int) : Cond) ∈ tG := List.mem_filter.mpr ⟨List.mem_of_getElem? (i := 929) (by decide +kernel), by decide +kernel⟩
theorem tw_930 : (.methodLink "BidLanguageModel" 91 ⟨"BidLanguageModel", "isRule", "(I)Z"⟩ : Cond) ∈ tG := List.mem_filter.mpr ⟨List.mem_of_getElem? (i := 930) (by decide +kernel), by decide +kernel⟩
theorem tw_932 : (.instanceMethod ⟨"BidLanguageModel", "isRule", "(I)Z"⟩ : Cond) ∈ tG := List.mem_filter.mpr ⟨List.mem_of_getElem? (i := 932) (by decide +kernel), by decide +kernel⟩
theorem tw_933 : (.code ⟨"BidLanguageModel", "isRule", "(I)Z"⟩ prog_9_method_10_code 2 (some .boolean) : Cond) ∈ tG := List.mem_filter.mpr ⟨List.mem_of_getElem? (i := 933) (by decide +kernel), by decide +kernel⟩
theorem tw_934 : (.constant "BidLanguageModel" 54 1048575 : Cond) ∈ tG := List.mem_filter.mpr ⟨List.mem_of_getElem? (i := 934) (by decide +kernel), by decide +kernel⟩
theorem tw_935 : (.methodLink "BidLanguageModel" 95 ⟨"BidLanguageModel", "fitsRule", "(II)Z"⟩ : Cond) ∈ tG := List.mem_filter.mpr ⟨List.mem_of_getElem? (i := 935) (by decide +kernel), by decide +kernel⟩
theorem tw_937 : (.instanceMethod ⟨"BidLanguageModel", "fitsRule", "(II)Z"⟩ : Cond) ∈ tG := List.mem_filter.mpr ⟨List.mem_of_getElem? (i := 937) (by decide +kernel), by decide +kernel⟩
theorem tw_938 : (.code ⟨"BidLanguageModel", "fitsRule", "(II)Z"⟩ prog_9_method_12_code 5 (some .boolean) : Cond) ∈ tG := List.mem_filter.mpr ⟨List.mem_of_getElem? (i := 938) (by decide +kernel), by decide +kernel⟩
theorem tw_939 : (.methodLink "BidLanguageModel" 74 ⟨"BidLanguageModel", "strength", "(I)I"⟩ : Cond) ∈ tG := List.mem_filter.mpr ⟨List.mem_of_getElem? (i := 939) (by decide +kernel), by decide +kernel⟩
theorem tw_941 : (.instanceMethod ⟨"BidLanguageModel", "strength", "(I)I"⟩ : Cond) ∈ tG := List.mem_filter.mpr ⟨List.mem_of_getElem? (i := 941) (by decide +kernel), by decide +kernel⟩
theorem tw_942 : (.code ⟨"BidLanguageModel", "strength", "(I)I"⟩ prog_9_method_5_code 4 (some .int) : Cond) ∈ tG := List.mem_filter.mpr ⟨List.mem_of_getElem? (i := 942) (by decide +kernel), by decide +kernel⟩
theorem tw_943 : (.methodLink "BidLanguageModel" 50 ⟨"BidLanguageModel", "length", "(II)I"⟩ : Cond) ∈ tG := List.mem_filter.mpr ⟨List.mem_of_getElem? (i := 943) (by decide +kernel), by decide +kernel⟩
theorem tw_945 : (.instanceMethod ⟨"BidLanguageModel", "length", "(II)I"⟩ : Cond) ∈ tG := List.mem_filter.mpr ⟨List.mem_of_getElem? (i := 945) (by decide +kernel), by decide +kernel⟩
theorem tw_946 : (.code ⟨"BidLanguageModel", "length", "(II)I"⟩ prog_9_method_4_code 3 (some .int) : Cond) ∈ tG := List.mem_filter.mpr ⟨List.mem_of_getElem? (i := 946) (by decide +kernel), by decide +kernel⟩
theorem tw_947 : (.methodLink "BidLanguageModel" 98 ⟨"BidLanguageModel", "nextHand", "(I)I"⟩ : Cond) ∈ tG := List.mem_filter.mpr ⟨List.mem_of_getElem? (i := 947) (by decide +kernel), by decide +kernel⟩
theorem tw_948 : (.static ⟨"BidLanguageModel", "nextHand", "(I)I"⟩ : Cond) ∈ tG := List.mem_filter.mpr ⟨List.mem_of_getElem? (i := 948) (by decide +kernel), by decide +kernel⟩
theorem tw_949 : (.code ⟨"BidLanguageModel", "nextHand", "(I)I"⟩ prog_9_method_8_code 3 (some .int) : Cond) ∈ tG := List.mem_filter.mpr ⟨List.mem_of_getElem? (i := 949) (by decide +kernel), by decide +kernel⟩
theorem tw_950 : (.methodLink "BidLanguageLaw" 26 ⟨"BidLanguageModel", "remove", "(I)I"⟩ : Cond) ∈ tG := List.mem_filter.mpr ⟨List.mem_of_getElem? (i := 950) (by decide +kernel), by decide +kernel⟩
theorem tw_951 : (.instanceMethod ⟨"BidLanguageModel", "remove", "(I)I"⟩ : Cond) ∈ tG := List.mem_filter.mpr ⟨List.mem_of_getElem? (i := 951) (by decide +kernel), by decide +kernel⟩
theorem tw_952 : (.selects "BidLanguageModel" ⟨"BidLanguageModel", "remove", "(I)I"⟩ ⟨"BidLanguageModel", "remove", "(I)I"⟩ : Cond) ∈ tG := List.mem_filter.mpr ⟨List.mem_of_getElem? (i := 952) (by decide +kernel), by decide +kernel⟩
theorem tw_953 : (.code ⟨"BidLanguageModel", "remove", "(I)I"⟩ prog_9_method_19_code 2 (some .int) : Cond) ∈ tG := List.mem_filter.mpr ⟨List.mem_of_getElem? (i := 953) (by decide +kernel), by decide +kernel⟩
theorem tw_954 : (.methodLink "BidLanguageModel" 101 ⟨"BidLanguageModel", "takeOut", "(I)V"⟩ : Cond) ∈ tG := List.mem_filter.mpr ⟨List.mem_of_getElem? (i := 954) (by decide +kernel), by decide +kernel⟩
theorem tw_956 : (.instanceMethod ⟨"BidLanguageModel", "takeOut", "(I)V"⟩ : Cond) ∈ tG := List.mem_filter.mpr ⟨List.mem_of_getElem? (i := 956) (by decide +kernel), by decide +kernel⟩
theorem tw_957 : (.code ⟨"BidLanguageModel", "takeOut", "(I)V"⟩ prog_9_method_18_code 3 (none : Option ClassFile.FieldType) : Cond) ∈ tG := List.mem_filter.mpr ⟨List.mem_of_getElem? (i := 957) (by decide +kernel), by decide +kernel⟩
theorem tw_958 : (.methodLink "BidLanguageLaw" 31 ⟨"BidLanguageModel", "move", "(II)I"⟩ : Cond) ∈ tG := List.mem_filter.mpr ⟨List.mem_of_getElem? (i := 958) (by decide +kernel), by decide +kernel⟩
theorem tw_959 : (.instanceMethod ⟨"BidLanguageModel", "move", "(II)I"⟩ : Cond) ∈ tG := List.mem_filter.mpr ⟨List.mem_of_getElem? (i := 959) (by decide +kernel), by decide +kernel⟩
theorem tw_960 : (.selects "BidLanguageModel" ⟨"BidLanguageModel", "move", "(II)I"⟩ ⟨"BidLanguageModel", "move", "(II)I"⟩ : Cond) ∈ tG := List.mem_filter.mpr ⟨List.mem_of_getElem? (i := 960) (by decide +kernel), by decide +kernel⟩
theorem tw_961 : (.code ⟨"BidLanguageModel", "move", "(II)I"⟩ prog_9_method_20_code 4 (some .int) : Cond) ∈ tG := List.mem_filter.mpr ⟨List.mem_of_getElem? (i := 961) (by decide +kernel), by decide +kernel⟩
theorem tw_962 : (.methodLink "BidLanguageLaw" 35 ⟨"BidLanguageModel", "part", "(II)I"⟩ : Cond) ∈ tG := List.mem_filter.mpr ⟨List.mem_of_getElem? (i := 962) (by decide +kernel), by decide +kernel⟩
theorem tw_963 : (.instanceMethod ⟨"BidLanguageModel", "part", "(II)I"⟩ : Cond) ∈ tG := List.mem_filter.mpr ⟨List.mem_of_getElem? (i := 963) (by decide +kernel), by decide +kernel⟩
theorem tw_964 : (.selects "BidLanguageModel" ⟨"BidLanguageModel", "part", "(II)I"⟩ ⟨"BidLanguageModel", "part", "(II)I"⟩ : Cond) ∈ tG := List.mem_filter.mpr ⟨List.mem_of_getElem? (i := 964) (by decide +kernel), by decide +kernel⟩
theorem tw_965 : (.code ⟨"BidLanguageModel", "part", "(II)I"⟩ prog_9_method_21_code 3 (some .int) : Cond) ∈ tG := List.mem_filter.mpr ⟨List.mem_of_getElem? (i := 965) (by decide +kernel), by decide +kernel⟩
theorem tw_966 : (.methodLink "BidLanguageLaw" 39 ⟨"BidLanguageModel", "give", "(II)I"⟩ : Cond) ∈ tG := List.mem_filter.mpr ⟨List.mem_of_getElem? (i := 966) (by decide +kernel), by decide +kernel⟩
theorem tw_967 : (.instanceMethod ⟨"BidLanguageModel", "give", "(II)I"⟩ : Cond) ∈ tG := List.mem_filter.mpr ⟨List.mem_of_getElem? (i := 967) (by decide +kernel), by decide +kernel⟩
theorem tw_968 : (.selects "BidLanguageModel" ⟨"BidLanguageModel", "give", "(II)I"⟩ ⟨"BidLanguageModel", "give", "(II)I"⟩ : Cond) ∈ tG := List.mem_filter.mpr ⟨List.mem_of_getElem? (i := 968) (by decide +kernel), by decide +kernel⟩
theorem tw_969 : (.code ⟨"BidLanguageModel", "give", "(II)I"⟩ prog_9_method_23_code 4 (some .int) : Cond) ∈ tG := List.mem_filter.mpr ⟨List.mem_of_getElem? (i := 969) (by decide +kernel), by decide +kernel⟩
theorem tw_970 : (.methodLink "BidLanguageModel" 105 ⟨"BidLanguageModel", "isPartner", "(I)Z"⟩ : Cond) ∈ tG := List.mem_filter.mpr ⟨List.mem_of_getElem? (i := 970) (by decide +kernel), by decide +kernel⟩
theorem tw_971 : (.static ⟨"BidLanguageModel", "isPartner", "(I)Z"⟩ : Cond) ∈ tG := List.mem_filter.mpr ⟨List.mem_of_getElem? (i := 971) (by decide +kernel), by decide +kernel⟩
theorem tw_972 : (.code ⟨"BidLanguageModel", "isPartner", "(I)Z"⟩ prog_9_method_22_code 1 (some .boolean) : Cond) ∈ tG := List.mem_filter.mpr ⟨List.mem_of_getElem? (i := 972) (by decide +kernel), by decide +kernel⟩
theorem tw_973 : (.methodLink "BidLanguageModel" 108 ⟨"BidLanguageModel", "isHand", "(I)Z"⟩ : Cond) ∈ tG := List.mem_filter.mpr ⟨List.mem_of_getElem? (i := 973) (by decide +kernel), by decide +kernel⟩
theorem tw_975 : (.instanceMethod ⟨"BidLanguageModel", "isHand", "(I)Z"⟩ : Cond) ∈ tG := List.mem_filter.mpr ⟨List.mem_of_getElem? (i := 975) (by decide +kernel), by decide +kernel⟩
theorem tw_976 : (.code ⟨"BidLanguageModel", "isHand", "(I)Z"⟩ prog_9_method_7_code 2 (some .boolean) : Cond) ∈ tG := List.mem_filter.mpr ⟨List.mem_of_getElem? (i := 976) (by decide +kernel), by decide +kernel⟩
theorem tw_977 : (.methodLink "BidLanguageModel" 59 ⟨"BidLanguageModel", "size", "(I)I"⟩ : Cond) ∈ tG := List.mem_filter.mpr ⟨List.mem_of_getElem? (i := 977) (by decide +kernel), by decide +kernel⟩
theorem tw_979 : (.instanceMethod ⟨"BidLanguageModel", "size", "(I)I"⟩ : Cond) ∈ tG := List.mem_filter.mpr ⟨List.mem_of_getElem? (i := 979) (by decide +kernel), by decide +kernel⟩
theorem tw_980 : (.code ⟨"BidLanguageModel", "size", "(I)I"⟩ prog_9_method_6_code 4 (some .int) : Cond) ∈ tG := List.mem_filter.mpr ⟨List.mem_of_getElem? (i := 980) (by decide +kernel), by decide +kernel⟩
theorem tw_981 : (.methodLink "BidLanguageLaw" 43 ⟨"BidLanguageModel", "draw", "(I)I"⟩ : Cond) ∈ tG := List.mem_filter.mpr ⟨List.mem_of_getElem? (i := 981) (by decide +kernel), by decide +kernel⟩
theorem tw_982 : (.instanceMethod ⟨"BidLanguageModel", "draw", "(I)I"⟩ : Cond) ∈ tG := List.mem_filter.mpr ⟨List.mem_of_getElem? (i := 982) (by decide +kernel), by decide +kernel⟩
theorem tw_983 : (.selects "BidLanguageModel" ⟨"BidLanguageModel", "draw", "(I)I"⟩ ⟨"BidLanguageModel", "draw", "(I)I"⟩ : Cond) ∈ tG := List.mem_filter.mpr ⟨List.mem_of_getElem? (i := 983) (by decide +kernel), by decide +kernel⟩
theorem tw_984 : (.code ⟨"BidLanguageModel", "draw", "(I)I"⟩ prog_9_method_25_code 6 (some .int) : Cond) ∈ tG := List.mem_filter.mpr ⟨List.mem_of_getElem? (i := 984) (by decide +kernel), by decide +kernel⟩
theorem tw_985 : (.constant "BidLanguageModel" 111 65535 : Cond) ∈ tG := List.mem_filter.mpr ⟨List.mem_of_getElem? (i := 985) (by decide +kernel), by decide +kernel⟩
theorem tw_986 : (.constant "BidLanguageModel" 112 65536 : Cond) ∈ tG := List.mem_filter.mpr ⟨List.mem_of_getElem? (i := 986) (by decide +kernel), by decide +kernel⟩
theorem tw_987 : (.methodLink "BidLanguageModel" 113 ⟨"BidLanguageModel", "cardLeft", "(II)I"⟩ : Cond) ∈ tG := List.mem_filter.mpr ⟨List.mem_of_getElem? (i := 987) (by decide +kernel), by decide +kernel⟩
theorem tw_988 : (.static ⟨"BidLanguageModel", "cardLeft", "(II)I"⟩ : Cond) ∈ tG := List.mem_filter.mpr ⟨List.mem_of_getElem? (i := 988) (by decide +kernel), by decide +kernel⟩
theorem tw_989 : (.code ⟨"BidLanguageModel", "cardLeft", "(II)I"⟩ prog_9_method_24_code 4 (some .int) : Cond) ∈ tG := List.mem_filter.mpr ⟨List.mem_of_getElem? (i := 989) (by decide +kernel), by decide +kernel⟩
theorem tw_990 : (.methodLink "BidLanguageLaw" 47 ⟨"BidLanguageModel", "hand", "(II)I"⟩ : Cond) ∈ tG := List.mem_filter.mpr ⟨List.mem_of_getElem? (i := 990) (by decide +kernel), by decide +kernel⟩
theorem tw_991 : (.instanceMethod ⟨"BidLanguageModel", "hand", "(II)I"⟩ : Cond) ∈ tG := List.mem_filter.mpr ⟨List.mem_of_getElem? (i := 991) (by decide +kernel), by decide +kernel⟩
theorem tw_992 : (.selects "BidLanguageModel" ⟨"BidLanguageModel", "hand", "(II)I"⟩ ⟨"BidLanguageModel", "hand", "(II)I"⟩ : Cond) ∈ tG := List.mem_filter.mpr ⟨List.mem_of_getElem? (i := 992) (by decide +kernel), by decide +kernel⟩
theorem tw_993 : (.code ⟨"BidLanguageModel", "hand", "(II)I"⟩ prog_9_method_26_code 3 (some .int) : Cond) ∈ tG := List.mem_filter.mpr ⟨List.mem_of_getElem? (i := 993) (by decide +kernel), by decide +kernel⟩
theorem tw_994 : (.methodLink "BidLanguageLaw" 52 ⟨"BidLanguageModel", "begin", "()I"⟩ : Cond) ∈ tG := List.mem_filter.mpr ⟨List.mem_of_getElem? (i := 994) (by decide +kernel), by decide +kernel⟩
theorem tw_995 : (.instanceMethod ⟨"BidLanguageModel", "begin", "()I"⟩ : Cond) ∈ tG := List.mem_filter.mpr ⟨List.mem_of_getElem? (i := 995) (by decide +kernel), by decide +kernel⟩
theorem tw_996 : (.selects "BidLanguageModel" ⟨"BidLanguageModel", "begin", "()I"⟩ ⟨"BidLanguageModel", "begin", "()I"⟩ : Cond) ∈ tG := List.mem_filter.mpr ⟨List.mem_of_getElem? (i := 996) (by decide +kernel), by decide +kernel⟩
theorem tw_997 : (.code ⟨"BidLanguageModel", "begin", "()I"⟩ prog_9_method_31_code 2 (some .int) : Cond) ∈ tG := List.mem_filter.mpr ⟨List.mem_of_getElem? (i := 997) (by decide +kernel), by decide +kernel⟩
theorem tw_998 : (.methodLink "BidLanguageLaw" 56 ⟨"BidLanguageModel", "call", "()I"⟩ : Cond) ∈ tG := List.mem_filter.mpr ⟨List.mem_of_getElem? (i := 998) (by decide +kernel), by decide +kernel⟩
theorem tw_999 : (.instanceMethod ⟨"BidLanguageModel", "call", "()I"⟩ : Cond) ∈ tG := List.mem_filter.mpr ⟨List.mem_of_getElem? (i := 999) (by decide +kernel), by decide +kernel⟩
theorem tw_1000 : (.selects "BidLanguageModel" ⟨"BidLanguageModel", "call", "()I"⟩ ⟨"BidLanguageModel", "call", "()I"⟩ : Cond) ∈ tG := List.mem_filter.mpr ⟨List.mem_of_getElem? (i := 1000) (by decide +kernel), by decide +kernel⟩
theorem tw_1001 : (.code ⟨"BidLanguageModel", "call", "()I"⟩ prog_9_method_32_code 2 (some .int) : Cond) ∈ tG := List.mem_filter.mpr ⟨List.mem_of_getElem? (i := 1001) (by decide +kernel), by decide +kernel⟩
theorem tw_1002 : (.methodLink "BidLanguageModel" 120 ⟨"BidLanguageModel", "isOver", "()Z"⟩ : Cond) ∈ tG := List.mem_filter.mpr ⟨List.mem_of_getElem? (i := 1002) (by decide +kernel), by decide +kernel⟩
theorem tw_1004 : (.instanceMethod ⟨"BidLanguageModel", "isOver", "()Z"⟩ : Cond) ∈ tG := List.mem_filter.mpr ⟨List.mem_of_getElem? (i := 1004) (by decide +kernel), by decide +kernel⟩
theorem tw_1005 : (.code ⟨"BidLanguageModel", "isOver", "()Z"⟩ prog_9_method_29_code 1 (some .boolean) : Cond) ∈ tG := List.mem_filter.mpr ⟨List.mem_of_getElem? (i := 1005) (by decide +kernel), by decide +kernel⟩
theorem tw_1006 : (.methodLink "BidLanguageModel" 124 ⟨"BidLanguageModel", "ruleFor", "(IIII)I"⟩ : Cond) ∈ tG := List.mem_filter.mpr ⟨List.mem_of_getElem? (i := 1006) (by decide +kernel), by decide +kernel⟩
theorem tw_1008 : (.instanceMethod ⟨"BidLanguageModel", "ruleFor", "(IIII)I"⟩ : Cond) ∈ tG := List.mem_filter.mpr ⟨List.mem_of_getElem? (i := 1008) (by decide +kernel), by decide +kernel⟩
theorem tw_1009 : (.code ⟨"BidLanguageModel", "ruleFor", "(IIII)I"⟩ prog_9_method_28_code 6 (some .int) : Cond) ∈ tG := List.mem_filter.mpr ⟨List.mem_of_getElem? (i := 1009) (by decide +kernel), by decide +kernel⟩
theorem tw_1010 : (.methodLink "BidLanguageModel" 116 ⟨"BidLanguageModel", "isOpen", "(IIII)Z"⟩ : Cond) ∈ tG := List.mem_filter.mpr ⟨List.mem_of_getElem? (i := 1010) (by decide +kernel), by decide +kernel⟩
theorem tw_1012 : (.instanceMethod ⟨"BidLanguageModel", "isOpen", "(IIII)Z"⟩ : Cond) ∈ tG := List.mem_filter.mpr ⟨List.mem_of_getElem? (i := 1012) (by decide +kernel), by decide +kernel⟩
theorem tw_1013 : (.code ⟨"BidLanguageModel", "isOpen", "(IIII)Z"⟩ prog_9_method_27_code 6 (some .boolean) : Cond) ∈ tG := List.mem_filter.mpr ⟨List.mem_of_getElem? (i := 1013) (by decide +kernel), by decide +kernel⟩
theorem tw_1014 : (.methodLink "BidLanguageModel" 128 ⟨"BidLanguageModel", "callBy", "(I)V"⟩ : Cond) ∈ tG := List.mem_filter.mpr ⟨List.mem_of_getElem? (i := 1014) (by decide +kernel), by decide +kernel⟩
theorem tw_1016 : (.instanceMethod ⟨"BidLanguageModel", "callBy", "(I)V"⟩ : Cond) ∈ tG := List.mem_filter.mpr ⟨List.mem_of_getElem? (i := 1016) (by decide +kernel), by decide +kernel⟩
theorem tw_1017 : (.code ⟨"BidLanguageModel", "callBy", "(I)V"⟩ prog_9_method_30_code 4 (none : Option ClassFile.FieldType) : Cond) ∈ tG := List.mem_filter.mpr ⟨List.mem_of_getElem? (i := 1017) (by decide +kernel), by decide +kernel⟩
theorem tw_1018 : (.methodLink "BidLanguageLaw" 60 ⟨"BidLanguageModel", "make", "(I)I"⟩ : Cond) ∈ tG := List.mem_filter.mpr ⟨List.mem_of_getElem? (i := 1018) (by decide +kernel), by decide +kernel⟩
theorem tw_1019 : (.instanceMethod ⟨"BidLanguageModel", "make", "(I)I"⟩ : Cond) ∈ tG := List.mem_filter.mpr ⟨List.mem_of_getElem? (i := 1019) (by decide +kernel), by decide +kernel⟩
theorem tw_1020 : (.selects "BidLanguageModel" ⟨"BidLanguageModel", "make", "(I)I"⟩ ⟨"BidLanguageModel", "make", "(I)I"⟩ : Cond) ∈ tG := List.mem_filter.mpr ⟨List.mem_of_getElem? (i := 1020) (by decide +kernel), by decide +kernel⟩
theorem tw_1021 : (.code ⟨"BidLanguageModel", "make", "(I)I"⟩ prog_9_method_33_code 4 (some .int) : Cond) ∈ tG := List.mem_filter.mpr ⟨List.mem_of_getElem? (i := 1021) (by decide +kernel), by decide +kernel⟩
theorem tw_1022 : (.methodLink "BidLanguageLaw" 64 ⟨"BidLanguageModel", "back", "()I"⟩ : Cond) ∈ tG := List.mem_filter.mpr ⟨List.mem_of_getElem? (i := 1022) (by decide +kernel), by decide +kernel⟩
theorem tw_1023 : (.instanceMethod ⟨"BidLanguageModel", "back", "()I"⟩ : Cond) ∈ tG := List.mem_filter.mpr ⟨List.mem_of_getElem? (i := 1023) (by decide +kernel), by decide +kernel⟩
theorem tw_1024 : (.selects "BidLanguageModel" ⟨"BidLanguageModel", "back", "()I"⟩ ⟨"BidLanguageModel", "back", "()I"⟩ : Cond) ∈ tG := List.mem_filter.mpr ⟨List.mem_of_getElem? (i := 1024) (by decide +kernel), by decide +kernel⟩
theorem tw_1025 : (.code ⟨"BidLanguageModel", "back", "()I"⟩ prog_9_method_34_code 1 (some .int) : Cond) ∈ tG := List.mem_filter.mpr ⟨List.mem_of_getElem? (i := 1025) (by decide +kernel), by decide +kernel⟩
theorem tw_1026 : (.methodLink "BidLanguageLaw" 68 ⟨"BidLanguageModel", "made", "(II)I"⟩ : Cond) ∈ tG := List.mem_filter.mpr ⟨List.mem_of_getElem? (i := 1026) (by decide +kernel), by decide +kernel⟩
theorem tw_1027 : (.instanceMethod ⟨"BidLanguageModel", "made", "(II)I"⟩ : Cond) ∈ tG := List.mem_filter.mpr ⟨List.mem_of_getElem? (i := 1027) (by decide +kernel), by decide +kernel⟩
theorem tw_1028 : (.selects "BidLanguageModel" ⟨"BidLanguageModel", "made", "(II)I"⟩ ⟨"BidLanguageModel", "made", "(II)I"⟩ : Cond) ∈ tG := List.mem_filter.mpr ⟨List.mem_of_getElem? (i := 1028) (by decide +kernel), by decide +kernel⟩
theorem tw_1029 : (.code ⟨"BidLanguageModel", "made", "(II)I"⟩ prog_9_method_35_code 3 (some .int) : Cond) ∈ tG := List.mem_filter.mpr ⟨List.mem_of_getElem? (i := 1029) (by decide +kernel), by decide +kernel⟩
theorem tw_1030 : (.methodLink "BidLanguageLaw" 72 ⟨"BidLanguageModel", "state", "(I)I"⟩ : Cond) ∈ tG := List.mem_filter.mpr ⟨List.mem_of_getElem? (i := 1030) (by decide +kernel), by decide +kernel⟩
theorem tw_1031 : (.instanceMethod ⟨"BidLanguageModel", "state", "(I)I"⟩ : Cond) ∈ tG := List.mem_filter.mpr ⟨List.mem_of_getElem? (i := 1031) (by decide +kernel), by decide +kernel⟩
theorem tw_1032 : (.selects "BidLanguageModel" ⟨"BidLanguageModel", "state", "(I)I"⟩ ⟨"BidLanguageModel", "state", "(I)I"⟩ : Cond) ∈ tG := List.mem_filter.mpr ⟨List.mem_of_getElem? (i := 1032) (by decide +kernel), by decide +kernel⟩
theorem tw_1033 : (.code ⟨"BidLanguageModel", "state", "(I)I"⟩ prog_9_method_36_code 2 (some .int) : Cond) ∈ tG := List.mem_filter.mpr ⟨List.mem_of_getElem? (i := 1033) (by decide +kernel), by decide +kernel⟩
theorem tw_1034 : (.methodLink "BidLanguageLaw" 76 ⟨"BidLanguageModel", "hands", "(II)I"⟩ : Cond) ∈ tG := List.mem_filter.mpr ⟨List.mem_of_getElem? (i := 1034) (by decide +kernel), by decide +kernel⟩
theorem tw_1035 : (.instanceMethod ⟨"BidLanguageModel", "hands", "(II)I"⟩ : Cond) ∈ tG := List.mem_filter.mpr ⟨List.mem_of_getElem? (i := 1035) (by decide +kernel), by decide +kernel⟩
theorem tw_1036 : (.selects "BidLanguageModel" ⟨"BidLanguageModel", "hands", "(II)I"⟩ ⟨"BidLanguageModel", "hands", "(II)I"⟩ : Cond) ∈ tG := List.mem_filter.mpr ⟨List.mem_of_getElem? (i := 1036) (by decide +kernel), by decide +kernel⟩
theorem tw_1037 : (.code ⟨"BidLanguageModel", "hands", "(II)I"⟩ prog_9_method_38_code 5 (some .int) : Cond) ∈ tG := List.mem_filter.mpr ⟨List.mem_of_getElem? (i := 1037) (by decide +kernel), by decide +kernel⟩
theorem tw_1038 : (.methodLink "BidLanguageModel" 134 ⟨"BidLanguageModel", "fitsAuction", "(II)Z"⟩ : Cond) ∈ tG := List.mem_filter.mpr ⟨List.mem_of_getElem? (i := 1038) (by decide +kernel), by decide +kernel⟩
theorem tw_1040 : (.instanceMethod ⟨"BidLanguageModel", "fitsAuction", "(II)Z"⟩ : Cond) ∈ tG := List.mem_filter.mpr ⟨List.mem_of_getElem? (i := 1040) (by decide +kernel), by decide +kernel⟩
theorem tw_1041 : (.code ⟨"BidLanguageModel", "fitsAuction", "(II)Z"⟩ prog_9_method_37_code 5 (some .boolean) : Cond) ∈ tG := List.mem_filter.mpr ⟨List.mem_of_getElem? (i := 1041) (by decide +kernel), by decide +kernel⟩
theorem tw_1042 : (.methodLink "BidLanguageLaw" 81 ⟨"BidLanguageModel", "shown", "(III)I"⟩ : Cond) ∈ tG := List.mem_filter.mpr ⟨List.mem_of_getElem? (i := 1042) (by decide +kernel), by decide +kernel⟩
theorem tw_1043 : (.instanceMethod ⟨"BidLanguageModel", "shown", "(III)I"⟩ : Cond) ∈ tG := List.mem_filter.mpr ⟨List.mem_of_getElem? (i := 1043) (by decide +kernel), by decide +kernel⟩
theorem tw_1044 : (.selects "BidLanguageModel" ⟨"BidLanguageModel", "shown", "(III)I"⟩ ⟨"BidLanguageModel", "shown", "(III)I"⟩ : Cond) ∈ tG := List.mem_filter.mpr ⟨List.mem_of_getElem? (i := 1044) (by decide +kernel), by decide +kernel⟩
theorem tw_1045 : (.code ⟨"BidLanguageModel", "shown", "(III)I"⟩ prog_9_method_41_code 7 (some .int) : Cond) ∈ tG := List.mem_filter.mpr ⟨List.mem_of_getElem? (i := 1045) (by decide +kernel), by decide +kernel⟩
theorem tw_1046 : (.methodLink "BidLanguageModel" 137 ⟨"BidLanguageModel", "shownOf", "(II)I"⟩ : Cond) ∈ tG := List.mem_filter.mpr ⟨List.mem_of_getElem? (i := 1046) (by decide +kernel), by decide +kernel⟩
theorem tw_1048 : (.instanceMethod ⟨"BidLanguageModel", "shownOf", "(II)I"⟩ : Cond) ∈ tG := List.mem_filter.mpr ⟨List.mem_of_getElem? (i := 1048) (by decide +kernel), by decide +kernel⟩
theorem tw_1049 : (.code ⟨"BidLanguageModel", "shownOf", "(II)I"⟩ prog_9_method_39_code 3 (some .int) : Cond) ∈ tG := List.mem_filter.mpr ⟨List.mem_of_getElem? (i := 1049) (by decide +kernel), by decide +kernel⟩
theorem tw_1050 : (.methodLink "BidLanguageModel" 140 ⟨"BidLanguageModel", "joined", "(III)I"⟩ : Cond) ∈ tG := List.mem_filter.mpr ⟨List.mem_of_getElem? (i := 1050) (by decide +kernel), by decide +kernel⟩
theorem tw_1051 : (.static ⟨"BidLanguageModel", "joined", "(III)I"⟩ : Cond) ∈ tG := List.mem_filter.mpr ⟨List.mem_of_getElem? (i := 1051) (by decide +kernel), by decide +kernel⟩
theorem tw_1052 : (.code ⟨"BidLanguageModel", "joined", "(III)I"⟩ prog_9_method_40_code 4 (some .int) : Cond) ∈ tG := List.mem_filter.mpr ⟨List.mem_of_getElem? (i := 1052) (by decide +kernel), by decide +kernel⟩
theorem tw_1053 : (.methodLink "BidLanguageLaw" 85 ⟨"BidLanguageModel", "fits", "(II)I"⟩ : Cond) ∈ tG := List.mem_filter.mpr ⟨List.mem_of_getElem? (i := 1053) (by decide +kernel), by decide +kernel⟩
theorem tw_1054 : (.instanceMethod ⟨"BidLanguageModel", "fits", "(II)I"⟩ : Cond) ∈ tG := List.mem_filter.mpr ⟨List.mem_of_getElem? (i := 1054) (by decide +kernel), by decide +kernel⟩
theorem tw_1055 : (.selects "BidLanguageModel" ⟨"BidLanguageModel", "fits", "(II)I"⟩ ⟨"BidLanguageModel", "fits", "(II)I"⟩ : Cond) ∈ tG := List.mem_filter.mpr ⟨List.mem_of_getElem? (i := 1055) (by decide +kernel), by decide +kernel⟩
theorem tw_1056 : (.code ⟨"BidLanguageModel", "fits", "(II)I"⟩ prog_9_method_42_code 3 (some .int) : Cond) ∈ tG := List.mem_filter.mpr ⟨List.mem_of_getElem? (i := 1056) (by decide +kernel), by decide +kernel⟩
theorem tw_1057 : (.methodLink "BidLanguageLaw" 89 ⟨"BidLanguageModel", "ruleOf", "(I)I"⟩ : Cond) ∈ tG := List.mem_filter.mpr ⟨List.mem_of_getElem? (i := 1057) (by decide +kernel), by decide +kernel⟩
theorem tw_1058 : (.instanceMethod ⟨"BidLanguageModel", "ruleOf", "(I)I"⟩ : Cond) ∈ tG := List.mem_filter.mpr ⟨List.mem_of_getElem? (i := 1058) (by decide +kernel), by decide +kernel⟩
theorem tw_1059 : (.selects "BidLanguageModel" ⟨"BidLanguageModel", "ruleOf", "(I)I"⟩ ⟨"BidLanguageModel", "ruleOf", "(I)I"⟩ : Cond) ∈ tG := List.mem_filter.mpr ⟨List.mem_of_getElem? (i := 1059) (by decide +kernel), by decide +kernel⟩
theorem tw_1060 : (.code ⟨"BidLanguageModel", "ruleOf", "(I)I"⟩ prog_9_method_43_code 2 (some .int) : Cond) ∈ tG := List.mem_filter.mpr ⟨List.mem_of_getElem? (i := 1060) (by decide +kernel), by decide +kernel⟩
theorem tw_1061 : (.methodLink "BidLanguageLaw" 93 ⟨"BidLanguageModel", "reach", "(I)I"⟩ : Cond) ∈ tG := List.mem_filter.mpr ⟨List.mem_of_getElem? (i := 1061) (by decide +kernel), by decide +kernel⟩
theorem tw_1062 : (.instanceMethod ⟨"BidLanguageModel", "reach", "(I)I"⟩ : Cond) ∈ tG := List.mem_filter.mpr ⟨List.mem_of_getElem? (i := 1062) (by decide +kernel), by decide +kernel⟩
theorem tw_1063 : (.selects "BidLanguageModel" ⟨"BidLanguageModel", "reach", "(I)I"⟩ ⟨"BidLanguageModel", "reach", "(I)I"⟩ : Cond) ∈ tG := List.mem_filter.mpr ⟨List.mem_of_getElem? (i := 1063) (by decide +kernel), by decide +kernel⟩
theorem tw_1064 : (.code ⟨"BidLanguageModel", "reach", "(I)I"⟩ prog_9_method_45_code 2 (some .int) : Cond) ∈ tG := List.mem_filter.mpr ⟨List.mem_of_getElem? (i := 1064) (by decide +kernel), by decide +kernel⟩
theorem tw_1065 : (.methodLink "BidLanguageModel" 144 ⟨"BidLanguageModel", "manyWith", "(IIII)I"⟩ : Cond) ∈ tG := List.mem_filter.mpr ⟨List.mem_of_getElem? (i := 1065) (by decide +kernel), by decide +kernel⟩
theorem tw_1067 : (.instanceMethod ⟨"BidLanguageModel", "manyWith", "(IIII)I"⟩ : Cond) ∈ tG := List.mem_filter.mpr ⟨List.mem_of_getElem? (i := 1067) (by decide +kernel), by decide +kernel⟩
theorem tw_1068 : (.code ⟨"BidLanguageModel", "manyWith", "(IIII)I"⟩ prog_9_method_44_code 7 (some .int) : Cond) ∈ tG := List.mem_filter.mpr ⟨List.mem_of_getElem? (i := 1068) (by decide +kernel), by decide +kernel⟩
theorem tw_1069 : (.methodLink "BidLanguageLaw" 97 ⟨"BidLanguageModel", "holes", "(III)I"⟩ : Cond) ∈ tG := List.mem_filter.mpr ⟨List.mem_of_getElem? (i := 1069) (by decide +kernel), by decide +kernel⟩
theorem tw_1070 : (.instanceMethod ⟨"BidLanguageModel", "holes", "(III)I"⟩ : Cond) ∈ tG := List.mem_filter.mpr ⟨List.mem_of_getElem? (i := 1070) (by decide +kernel), by decide +kernel⟩
theorem tw_1071 : (.selects "BidLanguageModel" ⟨"BidLanguageModel", "holes", "(III)I"⟩ ⟨"BidLanguageModel", "holes", "(III)I"⟩ : Cond) ∈ tG := List.mem_filter.mpr ⟨List.mem_of_getElem? (i := 1071) (by decide +kernel), by decide +kernel⟩
theorem tw_1072 : (.code ⟨"BidLanguageModel", "holes", "(III)I"⟩ prog_9_method_46_code 4 (some .int) : Cond) ∈ tG := List.mem_filter.mpr ⟨List.mem_of_getElem? (i := 1072) (by decide +kernel), by decide +kernel⟩
theorem tw_1073 : (.methodLink "BidLanguageLaw" 101 ⟨"BidLanguageModel", "tricks", "(III)I"⟩ : Cond) ∈ tG := List.mem_filter.mpr ⟨List.mem_of_getElem? (i := 1073) (by decide +kernel), by decide +kernel⟩
theorem tw_1074 : (.instanceMethod ⟨"BidLanguageModel", "tricks", "(III)I"⟩ : Cond) ∈ tG := List.mem_filter.mpr ⟨List.mem_of_getElem? (i := 1074) (by decide +kernel), by decide +kernel⟩
theorem tw_1075 : (.selects "BidLanguageModel" ⟨"BidLanguageModel", "tricks", "(III)I"⟩ ⟨"BidLanguageModel", "tricks", "(III)I"⟩ : Cond) ∈ tG := List.mem_filter.mpr ⟨List.mem_of_getElem? (i := 1075) (by decide +kernel), by decide +kernel⟩
theorem tw_1076 : (.code ⟨"BidLanguageModel", "tricks", "(III)I"⟩ prog_9_method_50_code 4 (some .int) : Cond) ∈ tG := List.mem_filter.mpr ⟨List.mem_of_getElem? (i := 1076) (by decide +kernel), by decide +kernel⟩
theorem tw_1077 : (.methodLink "BidLanguageModel" 153 ⟨"BidLanguageModel", "tricksOf", "(III)I"⟩ : Cond) ∈ tG := List.mem_filter.mpr ⟨List.mem_of_getElem? (i := 1077) (by decide +kernel), by decide +kernel⟩
theorem tw_1079 : (.instanceMethod ⟨"BidLanguageModel", "tricksOf", "(III)I"⟩ : Cond) ∈ tG := List.mem_filter.mpr ⟨List.mem_of_getElem? (i := 1079) (by decide +kernel), by decide +kernel⟩
theorem tw_1080 : (.code ⟨"BidLanguageModel", "tricksOf", "(III)I"⟩ prog_9_method_49_code 6 (some .int) : Cond) ∈ tG := List.mem_filter.mpr ⟨List.mem_of_getElem? (i := 1080) (by decide +kernel), by decide +kernel⟩
theorem tw_1081 : (.methodLink "BidLanguageModel" 147 ⟨"BidLanguageModel", "winners", "(III)I"⟩ : Cond) ∈ tG := List.mem_filter.mpr ⟨List.mem_of_getElem? (i := 1081) (by decide +kernel), by decide +kernel⟩
theorem tw_1083 : (.instanceMethod ⟨"BidLanguageModel", "winners", "(III)I"⟩ : Cond) ∈ tG := List.mem_filter.mpr ⟨List.mem_of_getElem? (i := 1083) (by decide +kernel), by decide +kernel⟩
theorem tw_1084 : (.code ⟨"BidLanguageModel", "winners", "(III)I"⟩ prog_9_method_47_code 7 (some .int) : Cond) ∈ tG := List.mem_filter.mpr ⟨List.mem_of_getElem? (i := 1084) (by decide +kernel), by decide +kernel⟩
theorem tw_1085 : (.methodLink "BidLanguageModel" 150 ⟨"BidLanguageModel", "ruffs", "(IIII)Z"⟩ : Cond) ∈ tG := List.mem_filter.mpr ⟨List.mem_of_getElem? (i := 1085) (by decide +kernel), by decide +kernel⟩
theorem tw_1087 : (.instanceMethod ⟨"BidLanguageModel", "ruffs", "(IIII)Z"⟩ : Cond) ∈ tG := List.mem_filter.mpr ⟨List.mem_of_getElem? (i := 1087) (by decide +kernel), by decide +kernel⟩
theorem tw_1088 : (.code ⟨"BidLanguageModel", "ruffs", "(IIII)Z"⟩ prog_9_method_48_code 5 (some .boolean) : Cond) ∈ tG := List.mem_filter.mpr ⟨List.mem_of_getElem? (i := 1088) (by decide +kernel), by decide +kernel⟩
theorem tw_1089 : (.methodLink "BidLanguageLaw" 106 ⟨"BidLanguageModel", "expected", "(II)J"⟩ : Cond) ∈ tG := List.mem_filter.mpr ⟨List.mem_of_getElem? (i := 1089) (by decide +kernel), by decide +kernel⟩
theorem tw_1090 : (.instanceMethod ⟨"BidLanguageModel", "expected", "(II)J"⟩ : Cond) ∈ tG := List.mem_filter.mpr ⟨List.mem_of_getElem? (i := 1090) (by decide +kernel), by decide +kernel⟩
theorem tw_1091 : (.selects "BidLanguageModel" ⟨"BidLanguageModel", "expected", "(II)J"⟩ ⟨"BidLanguageModel", "expected", "(II)J"⟩ : Cond) ∈ tG := List.mem_filter.mpr ⟨List.mem_of_getElem? (i := 1091) (by decide +kernel), by decide +kernel⟩
theorem tw_1092 : (.code ⟨"BidLanguageModel", "expected", "(II)J"⟩ prog_9_method_52_code 3 (some .long) : Cond) ∈ tG := List.mem_filter.mpr ⟨List.mem_of_getElem? (i := 1092) (by decide +kernel), by decide +kernel⟩
theorem tw_1093 : (.constantLong "BidLanguageModel" 159 (-1) : Cond) ∈ tG := List.mem_filter.mpr ⟨List.mem_of_getElem? (i := 1093) (by decide +kernel), by decide +kernel⟩
theorem tw_1094 : (.constantLong "BidLanguageModel" 161 (-2) : Cond) ∈ tG := List.mem_filter.mpr ⟨List.mem_of_getElem? (i := 1094) (by decide +kernel), by decide +kernel⟩
theorem tw_1095 : (.methodLink "BidLanguageModel" 163 ⟨"BidLanguageModel", "laySums", "(I)V"⟩ : Cond) ∈ tG := List.mem_filter.mpr ⟨List.mem_of_getElem? (i := 1095) (by decide +kernel), by decide +kernel⟩
theorem tw_1097 : (.instanceMethod ⟨"BidLanguageModel", "laySums", "(I)V"⟩ : Cond) ∈ tG := List.mem_filter.mpr ⟨List.mem_of_getElem? (i := 1097) (by decide +kernel), by decide +kernel⟩
theorem tw_1098 : (.code ⟨"BidLanguageModel", "laySums", "(I)V"⟩ prog_9_method_51_code 5 (none : Option ClassFile.FieldType) : Cond) ∈ tG := List.mem_filter.mpr ⟨List.mem_of_getElem? (i := 1098) (by decide +kernel), by decide +kernel⟩
theorem tw_1099 : (.methodLink "BidLanguageLaw" 110 ⟨"BidLanguageModel", "contract", "(I)I"⟩ : Cond) ∈ tG := List.mem_filter.mpr ⟨List.mem_of_getElem? (i := 1099) (by decide +kernel), by decide +kernel⟩
theorem tw_1100 : (.instanceMethod ⟨"BidLanguageModel", "contract", "(I)I"⟩ : Cond) ∈ tG := List.mem_filter.mpr ⟨List.mem_of_getElem? (i := 1100) (by decide +kernel), by decide +kernel⟩
theorem tw_1101 : (.selects "BidLanguageModel" ⟨"BidLanguageModel", "contract", "(I)I"⟩ ⟨"BidLanguageModel", "contract", "(I)I"⟩ : Cond) ∈ tG := List.mem_filter.mpr ⟨List.mem_of_getElem? (i := 1101) (by decide +kernel), by decide +kernel⟩
theorem tw_1102 : (.code ⟨"BidLanguageModel", "contract", "(I)I"⟩ prog_9_method_53_code 4 (some .int) : Cond) ∈ tG := List.mem_filter.mpr ⟨List.mem_of_getElem? (i := 1102) (by decide +kernel), by decide +kernel⟩
theorem tw_1103 : (.methodLink "BidLanguageLaw" 117 ⟨"BidLanguageModel", "put", "(J)I"⟩ : Cond) ∈ tG := List.mem_filter.mpr ⟨List.mem_of_getElem? (i := 1103) (by decide +kernel), by decide +kernel⟩
theorem tw_1104 : (.instanceMethod ⟨"BidLanguageModel", "put", "(J)I"⟩ : Cond) ∈ tG := List.mem_filter.mpr ⟨List.mem_of_getElem? (i := 1104) (by decide +kernel), by decide +kernel⟩
theorem tw_1105 : (.selects "BidLanguageModel" ⟨"BidLanguageModel", "put", "(J)I"⟩ ⟨"BidLanguageModel", "put", "(J)I"⟩ : Cond) ∈ tG := List.mem_filter.mpr ⟨List.mem_of_getElem? (i := 1105) (by decide +kernel), by decide +kernel⟩
theorem tw_1106 : (.code ⟨"BidLanguageModel", "put", "(J)I"⟩ prog_9_method_54_code 7 (some .int) : Cond) ∈ tG := List.mem_filter.mpr ⟨List.mem_of_getElem? (i := 1106) (by decide +kernel), by decide +kernel⟩
theorem tw_1107 : (.constantLong "BidLanguageModel" 166 255 : Cond) ∈ tG := List.mem_filter.mpr ⟨List.mem_of_getElem? (i := 1107) (by decide +kernel), by decide +kernel⟩
theorem tw_1108 : (.methodLink "BidLanguageLaw" 121 ⟨"BidLanguageModel", "wipe", "()I"⟩ : Cond) ∈ tG := List.mem_filter.mpr ⟨List.mem_of_getElem? (i := 1108) (by decide +kernel), by decide +kernel⟩
theorem tw_1109 : (.instanceMethod ⟨"BidLanguageModel", "wipe", "()I"⟩ : Cond) ∈ tG := List.mem_filter.mpr ⟨List.mem_of_getElem? (i := 1109) (by decide +kernel), by decide +kernel⟩
theorem tw_1110 : (.selects "BidLanguageModel" ⟨"BidLanguageModel", "wipe", "()I"⟩ ⟨"BidLanguageModel", "wipe", "()I"⟩ : Cond) ∈ tG := List.mem_filter.mpr ⟨List.mem_of_getElem? (i := 1110) (by decide +kernel), by decide +kernel⟩
theorem tw_1111 : (.code ⟨"BidLanguageModel", "wipe", "()I"⟩ prog_9_method_55_code 2 (some .int) : Cond) ∈ tG := List.mem_filter.mpr ⟨List.mem_of_getElem? (i := 1111) (by decide +kernel), by decide +kernel⟩
theorem tw_1112 : (.methodLink "BidLanguageLaw" 125 ⟨"BidLanguageModel", "fault", "()I"⟩ : Cond) ∈ tG := List.mem_filter.mpr ⟨List.mem_of_getElem? (i := 1112) (by decide +kernel), by decide +kernel⟩
theorem tw_1113 : (.instanceMethod ⟨"BidLanguageModel", "fault", "()I"⟩ : Cond) ∈ tG := List.mem_filter.mpr ⟨List.mem_of_getElem? (i := 1113) (by decide +kernel), by decide +kernel⟩
theorem tw_1114 : (.selects "BidLanguageModel" ⟨"BidLanguageModel", "fault", "()I"⟩ ⟨"BidLanguageModel", "fault", "()I"⟩ : Cond) ∈ tG := List.mem_filter.mpr ⟨List.mem_of_getElem? (i := 1114) (by decide +kernel), by decide +kernel⟩
theorem tw_1115 : (.code ⟨"BidLanguageModel", "fault", "()I"⟩ prog_9_method_62_code 3 (some .int) : Cond) ∈ tG := List.mem_filter.mpr ⟨List.mem_of_getElem? (i := 1115) (by decide +kernel), by decide +kernel⟩
theorem tw_1116 : (.methodLink "BidLanguageModel" 177 ⟨"BidLanguageModel", "takeOne", "(II)I"⟩ : Cond) ∈ tG := List.mem_filter.mpr ⟨List.mem_of_getElem? (i := 1116) (by decide +kernel), by decide +kernel⟩
theorem tw_1118 : (.instanceMethod ⟨"BidLanguageModel", "takeOne", "(II)I"⟩ : Cond) ∈ tG := List.mem_filter.mpr ⟨List.mem_of_getElem? (i := 1118) (by decide +kernel), by decide +kernel⟩
theorem tw_1119 : (.code ⟨"BidLanguageModel", "takeOne", "(II)I"⟩ prog_9_method_57_code 4 (some .int) : Cond) ∈ tG := List.mem_filter.mpr ⟨List.mem_of_getElem? (i := 1119) (by decide +kernel), by decide +kernel⟩
theorem tw_1120 : (.methodLink "BidLanguageModel" 174 ⟨"BidLanguageModel", "next", "()I"⟩ : Cond) ∈ tG := List.mem_filter.mpr ⟨List.mem_of_getElem? (i := 1120) (by decide +kernel), by decide +kernel⟩
theorem tw_1122 : (.instanceMethod ⟨"BidLanguageModel", "next", "()I"⟩ : Cond) ∈ tG := List.mem_filter.mpr ⟨List.mem_of_getElem? (i := 1122) (by decide +kernel), by decide +kernel⟩
theorem tw_1123 : (.code ⟨"BidLanguageModel", "next", "()I"⟩ prog_9_method_56_code 1 (some .int) : Cond) ∈ tG := List.mem_filter.mpr ⟨List.mem_of_getElem? (i := 1123) (by decide +kernel), by decide +kernel⟩
theorem tw_1124 : (.methodLink "BidLanguageModel" 186 ⟨"BidLanguageModel", "takeCall", "()V"⟩ : Cond) ∈ tG := List.mem_filter.mpr ⟨List.mem_of_getElem? (i := 1124) (by decide +kernel), by decide +kernel⟩
theorem tw_1126 : (.instanceMethod ⟨"BidLanguageModel", "takeCall", "()V"⟩ : Cond) ∈ tG := List.mem_filter.mpr ⟨List.mem_of_getElem? (i := 1126) (by decide +kernel), by decide +kernel⟩
theorem tw_1127 : (.code ⟨"BidLanguageModel", "takeCall", "()V"⟩ prog_9_method_60_code 3 (none : Option ClassFile.FieldType) : Cond) ∈ tG := List.mem_filter.mpr ⟨List.mem_of_getElem? (i := 1127) (by decide +kernel), by decide +kernel⟩
theorem tw_1128 : (.methodLink "BidLanguageModel" 180 ⟨"BidLanguageModel", "suitBy", "(I)I"⟩ : Cond) ∈ tG := List.mem_filter.mpr ⟨List.mem_of_getElem? (i := 1128) (by decide +kernel), by decide +kernel⟩
theorem tw_1129 : (.static ⟨"BidLanguageModel", "suitBy", "(I)I"⟩ : Cond) ∈ tG := List.mem_filter.mpr ⟨List.mem_of_getElem? (i := 1129) (by decide +kernel), by decide +kernel⟩
theorem tw_1130 : (.code ⟨"BidLanguageModel", "suitBy", "(I)I"⟩ prog_9_method_58_code 1 (some .int) : Cond) ∈ tG := List.mem_filter.mpr ⟨List.mem_of_getElem? (i := 1130) (by decide +kernel), by decide +kernel⟩
theorem tw_1131 : (.methodLink "BidLanguageModel" 189 ⟨"BidLanguageModel", "takeCondition", "(I)I"⟩ : Cond) ∈ tG := List.mem_filter.mpr ⟨List.mem_of_getElem? (i := 1131) (by decide +kernel), by decide +kernel⟩
theorem tw_1133 : (.instanceMethod ⟨"BidLanguageModel", "takeCondition", "(I)I"⟩ : Cond) ∈ tG := List.mem_filter.mpr ⟨List.mem_of_getElem? (i := 1133) (by decide +kernel), by decide +kernel⟩
theorem tw_1134 : (.code ⟨"BidLanguageModel", "takeCondition", "(I)I"⟩ prog_9_method_61_code 7 (some .int) : Cond) ∈ tG := List.mem_filter.mpr ⟨List.mem_of_getElem? (i := 1134) (by decide +kernel), by decide +kernel⟩
theorem tw_1135 : (.methodLink "BidLanguageModel" 183 ⟨"BidLanguageModel", "takeNumber", "(I)I"⟩ : Cond) ∈ tG := List.mem_filter.mpr ⟨List.mem_of_getElem? (i := 1135) (by decide +kernel), by decide +kernel⟩
theorem tw_1137 : (.instanceMethod ⟨"BidLanguageModel", "takeNumber", "(I)I"⟩ : Cond) ∈ tG := List.mem_filter.mpr ⟨List.mem_of_getElem? (i := 1137) (by decide +kernel), by decide +kernel⟩
theorem tw_1138 : (.code ⟨"BidLanguageModel", "takeNumber", "(I)I"⟩ prog_9_method_59_code 3 (some .int) : Cond) ∈ tG := List.mem_filter.mpr ⟨List.mem_of_getElem? (i := 1138) (by decide +kernel), by decide +kernel⟩
theorem tw_1139 : (.methodLink "BidLanguageLaw" 129 ⟨"BidLanguageModel", "load", "()I"⟩ : Cond) ∈ tG := List.mem_filter.mpr ⟨List.mem_of_getElem? (i := 1139) (by decide +kernel), by decide +kernel⟩
theorem tw_1140 : (.instanceMethod ⟨"BidLanguageModel", "load", "()I"⟩ : Cond) ∈ tG := List.mem_filter.mpr ⟨List.mem_of_getElem? (i := 1140) (by decide +kernel), by decide +kernel⟩
theorem tw_1141 : (.selects "BidLanguageModel" ⟨"BidLanguageModel", "load", "()I"⟩ ⟨"BidLanguageModel", "load", "()I"⟩ : Cond) ∈ tG := List.mem_filter.mpr ⟨List.mem_of_getElem? (i := 1141) (by decide +kernel), by decide +kernel⟩
theorem tw_1142 : (.code ⟨"BidLanguageModel", "load", "()I"⟩ prog_9_method_63_code 2 (some .int) : Cond) ∈ tG := List.mem_filter.mpr ⟨List.mem_of_getElem? (i := 1142) (by decide +kernel), by decide +kernel⟩
theorem tw_1143 : (.methodLink "BidLanguageModel" 192 ⟨"BidLanguageModel", "fault", "()I"⟩ : Cond) ∈ tG := List.mem_filter.mpr ⟨List.mem_of_getElem? (i := 1143) (by decide +kernel), by decide +kernel⟩
theorem tw_1144 : (.constantLong "BidLanguageLaw" 111 4294967295 : Cond) ∈ tG := List.mem_filter.mpr ⟨List.mem_of_getElem? (i := 1144) (by decide +kernel), by decide +kernel⟩
theorem tw_1162 : (.selects "[Ljava/lang/Object;" ⟨"java/lang/Object", "getClass", "()Ljava/lang/Class;"⟩ ⟨"java/lang/Object", "getClass", "()Ljava/lang/Class;"⟩ : Cond) ∈ tG := List.mem_filter.mpr ⟨List.mem_of_getElem? (i := 1162) (by decide +kernel), by decide +kernel⟩
theorem tin_J4 : ∀ w ∈ u_ws RJ4 TJ4 4, w ∈ tG := by decide +kernel
theorem tin_Jx4a65c : ∀ w ∈ u_ws RJx4a65c TJx4a65c 3, w ∈ tG := by decide +kernel
theorem tin_X0 : ∀ w ∈ u_ws RX0 TX0 4, w ∈ tG := by decide +kernel
theorem tin_X2 : ∀ w ∈ u_ws RX2 TX2 3, w ∈ tG := by decide +kernel
theorem tin_X3 : ∀ w ∈ u_ws RX3 TX3 3, w ∈ tG := by decide +kernel
theorem tin_X4 : ∀ w ∈ u_ws RX4 TX4 6, w ∈ tG := by decide +kernel
theorem tin_X5 : ∀ w ∈ u_ws RX5 TX5 4, w ∈ tG := by decide +kernel
theorem tin_X6 : ∀ w ∈ u_ws RX6 TX6 5, w ∈ tG := by decide +kernel
theorem tin_X7 : ∀ w ∈ u_ws RX7 TX7 19, w ∈ tG := by decide +kernel
end
section
theorem dX0_init_0 : decode cX0_init 0 = .ok (.aload_n 0, 1) := by decide +kernel
theorem dX0_init_1 : decode cX0_init 1 = .ok (.invokespecial 3, 3) := by decide +kernel
theorem dX0_init_4 : decode cX0_init 4 = .ok (.aload_n 0, 1) := by decide +kernel
theorem dX0_init_5 : decode cX0_init 5 = .ok (.new 9, 3) := by decide +kernel
theorem dX0_init_8 : decode cX0_init 8 = .ok (.dup, 1) := by decide +kernel
theorem dX0_init_9 : decode cX0_init 9 = .ok (.invokespecial 11, 3) := by decide +kernel
theorem dX0_init_12 : decode cX0_init 12 = .ok (.putfield 12, 3) := by decide +kernel
theorem dX0_init_15 : decode cX0_init 15 = .ok (.aload_n 0, 1) := by decide +kernel
theorem dX0_init_16 : decode cX0_init 16 = .ok (.new 18, 3) := by decide +kernel
theorem dX0_init_19 : decode cX0_init 19 = .ok (.dup, 1) := by decide +kernel
theorem dX0_init_20 : decode cX0_init 20 = .ok (.iconst 0, 1) := by decide +kernel
theorem dX0_init_21 : decode cX0_init 21 = .ok (.bipush (-6), 2) := by decide +kernel
theorem dX0_init_23 : decode cX0_init 23 = .ok (.iconst 0, 1) := by decide +kernel
theorem dX0_init_24 : decode cX0_init 24 = .ok (.invokespecial 20, 3) := by decide +kernel
theorem dX0_init_27 : decode cX0_init 27 = .ok (.putfield 23, 3) := by decide +kernel
theorem dX0_init_30 : decode cX0_init 30 = .ok (.aload_n 0, 1) := by decide +kernel
theorem dX0_init_31 : decode cX0_init 31 = .ok (.aload_n 0, 1) := by decide +kernel
theorem dX0_init_32 : decode cX0_init 32 = .ok (.getfield 23, 3) := by decide +kernel
theorem dX0_init_35 : decode cX0_init 35 = .ok (.putfield 27, 3) := by decide +kernel
theorem dX0_init_38 : decode cX0_init 38 = .ok (.aload_n 0, 1) := by decide +kernel
theorem dX0_init_39 : decode cX0_init 39 = .ok (.iconst 0, 1) := by decide +kernel
theorem dX0_init_40 : decode cX0_init 40 = .ok (.putfield 30, 3) := by decide +kernel
theorem dX0_init_43 : decode cX0_init 43 = .ok (.return_, 1) := by decide +kernel
theorem dX0_restart_0 : decode cX0_restart 0 = .ok (.aload_n 0, 1) := by decide +kernel
theorem dX0_restart_1 : decode cX0_restart 1 = .ok (.getfield 12, 3) := by decide +kernel
theorem dX0_restart_4 : decode cX0_restart 4 = .ok (.invokevirtual 34, 3) := by decide +kernel
theorem dX0_restart_7 : decode cX0_restart 7 = .ok (.aload_n 0, 1) := by decide +kernel
theorem dX0_restart_8 : decode cX0_restart 8 = .ok (.aload_n 0, 1) := by decide +kernel
theorem dX0_restart_9 : decode cX0_restart 9 = .ok (.getfield 23, 3) := by decide +kernel
theorem dX0_restart_12 : decode cX0_restart 12 = .ok (.putfield 27, 3) := by decide +kernel
theorem dX0_restart_15 : decode cX0_restart 15 = .ok (.aload_n 0, 1) := by decide +kernel
theorem dX0_restart_16 : decode cX0_restart 16 = .ok (.iconst 0, 1) := by decide +kernel
theorem dX0_restart_17 : decode cX0_restart 17 = .ok (.putfield 30, 3) := by decide +kernel
theorem dX0_restart_20 : decode cX0_restart 20 = .ok (.return_, 1) := by decide +kernel
theorem dX0_turn_0 : decode cX0_turn 0 = .ok (.aload_n 0, 1) := by decide +kernel
theorem dX0_turn_1 : decode cX0_turn 1 = .ok (.getfield 12, 3) := by decide +kernel
theorem dX0_turn_4 : decode cX0_turn 4 = .ok (.invokevirtual 37, 3) := by decide +kernel
theorem dX0_turn_7 : decode cX0_turn 7 = .ok (.iconst 2, 1) := by decide +kernel
theorem dX0_turn_8 : decode cX0_turn 8 = .ok (.irem, 1) := by decide +kernel
theorem dX0_turn_9 : decode cX0_turn 9 = .ok (.ireturn, 1) := by decide +kernel
theorem dX0_isOver_0 : decode cX0_isOver 0 = .ok (.aload_n 0, 1) := by decide +kernel
theorem dX0_isOver_1 : decode cX0_isOver 1 = .ok (.getfield 30, 3) := by decide +kernel
theorem dX0_isOver_4 : decode cX0_isOver 4 = .ok (.ifCond .ne 22, 3) := by decide +kernel
theorem dX0_isOver_7 : decode cX0_isOver 7 = .ok (.aload_n 0, 1) := by decide +kernel
theorem dX0_isOver_8 : decode cX0_isOver 8 = .ok (.invokevirtual 41, 3) := by decide +kernel
theorem dX0_isOver_11 : decode cX0_isOver 11 = .ok (.ifCond .ne 15, 3) := by decide +kernel
theorem dX0_isOver_14 : decode cX0_isOver 14 = .ok (.aload_n 0, 1) := by decide +kernel
theorem dX0_isOver_15 : decode cX0_isOver 15 = .ok (.getfield 12, 3) := by decide +kernel
theorem dX0_isOver_18 : decode cX0_isOver 18 = .ok (.invokevirtual 37, 3) := by decide +kernel
theorem dX0_isOver_21 : decode cX0_isOver 21 = .ok (.bipush 12, 2) := by decide +kernel
theorem dX0_isOver_23 : decode cX0_isOver 23 = .ok (.if_icmp .lt 7, 3) := by decide +kernel
theorem dX0_isOver_26 : decode cX0_isOver 26 = .ok (.iconst 1, 1) := by decide +kernel
theorem dX0_isOver_27 : decode cX0_isOver 27 = .ok (.goto 4, 3) := by decide +kernel
theorem dX0_isOver_30 : decode cX0_isOver 30 = .ok (.iconst 0, 1) := by decide +kernel
theorem dX0_isOver_31 : decode cX0_isOver 31 = .ok (.ireturn, 1) := by decide +kernel
theorem dX0_hasPass_0 : decode cX0_hasPass 0 = .ok (.aload_n 0, 1) := by decide +kernel
theorem dX0_hasPass_1 : decode cX0_hasPass 1 = .ok (.getfield 12, 3) := by decide +kernel
theorem dX0_hasPass_4 : decode cX0_hasPass 4 = .ok (.invokevirtual 37, 3) := by decide +kernel
theorem dX0_hasPass_7 : decode cX0_hasPass 7 = .ok (.istore_n 1, 1) := by decide +kernel
theorem dX0_hasPass_8 : decode cX0_hasPass 8 = .ok (.iload_n 1, 1) := by decide +kernel
theorem dX0_hasPass_9 : decode cX0_hasPass 9 = .ok (.ifCond .le 28, 3) := by decide +kernel
theorem dX0_hasPass_12 : decode cX0_hasPass 12 = .ok (.aload_n 0, 1) := by decide +kernel
theorem dX0_hasPass_13 : decode cX0_hasPass 13 = .ok (.getfield 12, 3) := by decide +kernel
theorem dX0_hasPass_16 : decode cX0_hasPass 16 = .ok (.iload_n 1, 1) := by decide +kernel
theorem dX0_hasPass_17 : decode cX0_hasPass 17 = .ok (.iconst 1, 1) := by decide +kernel
theorem dX0_hasPass_18 : decode cX0_hasPass 18 = .ok (.isub, 1) := by decide +kernel
theorem dX0_hasPass_19 : decode cX0_hasPass 19 = .ok (.invokevirtual 45, 3) := by decide +kernel
theorem dX0_hasPass_22 : decode cX0_hasPass 22 = .ok (.checkcast 49, 3) := by decide +kernel
theorem dX0_hasPass_25 : decode cX0_hasPass 25 = .ok (.getfield 51, 3) := by decide +kernel
theorem dX0_hasPass_28 : decode cX0_hasPass 28 = .ok (.bipush 25, 2) := by decide +kernel
theorem dX0_hasPass_30 : decode cX0_hasPass 30 = .ok (.if_icmp .ne 7, 3) := by decide +kernel
theorem dX0_hasPass_33 : decode cX0_hasPass 33 = .ok (.iconst 1, 1) := by decide +kernel
theorem dX0_hasPass_34 : decode cX0_hasPass 34 = .ok (.goto 4, 3) := by decide +kernel
theorem dX0_hasPass_37 : decode cX0_hasPass 37 = .ok (.iconst 0, 1) := by decide +kernel
theorem dX0_hasPass_38 : decode cX0_hasPass 38 = .ok (.ireturn, 1) := by decide +kernel
theorem dX0_ending_0 : decode cX0_ending 0 = .ok (.aload_n 0, 1) := by decide +kernel
theorem dX0_ending_1 : decode cX0_ending 1 = .ok (.getfield 30, 3) := by decide +kernel
theorem dX0_ending_4 : decode cX0_ending 4 = .ok (.ifCond .eq 5, 3) := by decide +kernel
theorem dX0_ending_7 : decode cX0_ending 7 = .ok (.iconst 2, 1) := by decide +kernel
theorem dX0_ending_8 : decode cX0_ending 8 = .ok (.ireturn, 1) := by decide +kernel
theorem dX0_ending_9 : decode cX0_ending 9 = .ok (.aload_n 0, 1) := by decide +kernel
theorem dX0_ending_10 : decode cX0_ending 10 = .ok (.invokevirtual 55, 3) := by decide +kernel
theorem dX0_ending_13 : decode cX0_ending 13 = .ok (.ifCond .eq 7, 3) := by decide +kernel
theorem dX0_ending_16 : decode cX0_ending 16 = .ok (.iconst 1, 1) := by decide +kernel
theorem dX0_ending_17 : decode cX0_ending 17 = .ok (.goto 4, 3) := by decide +kernel
theorem dX0_ending_20 : decode cX0_ending 20 = .ok (.iconst 0, 1) := by decide +kernel
theorem dX0_ending_21 : decode cX0_ending 21 = .ok (.ireturn, 1) := by decide +kernel
theorem dX0_add_0 : decode cX0_add 0 = .ok (.aload_n 0, 1) := by decide +kernel
theorem dX0_add_1 : decode cX0_add 1 = .ok (.getfield 12, 3) := by decide +kernel
theorem dX0_add_4 : decode cX0_add 4 = .ok (.new 49, 3) := by decide +kernel
theorem dX0_add_7 : decode cX0_add 7 = .ok (.dup, 1) := by decide +kernel
theorem dX0_add_8 : decode cX0_add 8 = .ok (.aload_n 1, 1) := by decide +kernel
theorem dX0_add_9 : decode cX0_add 9 = .ok (.getfield 58, 3) := by decide +kernel
theorem dX0_add_12 : decode cX0_add 12 = .ok (.iload_n 2, 1) := by decide +kernel
theorem dX0_add_13 : decode cX0_add 13 = .ok (.aload_n 0, 1) := by decide +kernel
theorem dX0_add_14 : decode cX0_add 14 = .ok (.getfield 27, 3) := by decide +kernel
theorem dX0_add_17 : decode cX0_add 17 = .ok (.invokespecial 61, 3) := by decide +kernel
theorem dX0_add_20 : decode cX0_add 20 = .ok (.invokevirtual 64, 3) := by decide +kernel
theorem dX0_add_23 : decode cX0_add 23 = .ok (.pop, 1) := by decide +kernel
theorem dX0_add_24 : decode cX0_add 24 = .ok (.aload_n 1, 1) := by decide +kernel
theorem dX0_add_25 : decode cX0_add 25 = .ok (.getfield 58, 3) := by decide +kernel
theorem dX0_add_28 : decode cX0_add 28 = .ok (.bipush 25, 2) := by decide +kernel
theorem dX0_add_30 : decode cX0_add 30 = .ok (.if_icmp .eq 26, 3) := by decide +kernel
theorem dX0_add_33 : decode cX0_add 33 = .ok (.aload_n 0, 1) := by decide +kernel
theorem dX0_add_34 : decode cX0_add 34 = .ok (.new 18, 3) := by decide +kernel
theorem dX0_add_37 : decode cX0_add 37 = .ok (.dup, 1) := by decide +kernel
theorem dX0_add_38 : decode cX0_add 38 = .ok (.aload_n 1, 1) := by decide +kernel
theorem dX0_add_39 : decode cX0_add 39 = .ok (.getfield 68, 3) := by decide +kernel
theorem dX0_add_42 : decode cX0_add 42 = .ok (.aload_n 1, 1) := by decide +kernel
theorem dX0_add_43 : decode cX0_add 43 = .ok (.getfield 58, 3) := by decide +kernel
theorem dX0_add_46 : decode cX0_add 46 = .ok (.aload_n 1, 1) := by decide +kernel
theorem dX0_add_47 : decode cX0_add 47 = .ok (.getfield 71, 3) := by decide +kernel
theorem dX0_add_50 : decode cX0_add 50 = .ok (.invokespecial 20, 3) := by decide +kernel
theorem dX0_add_53 : decode cX0_add 53 = .ok (.putfield 27, 3) := by decide +kernel
theorem dX0_add_56 : decode cX0_add 56 = .ok (.return_, 1) := by decide +kernel
theorem dX0_takeBack_0 : decode cX0_takeBack 0 = .ok (.aload_n 0, 1) := by decide +kernel
theorem dX0_takeBack_1 : decode cX0_takeBack 1 = .ok (.getfield 30, 3) := by decide +kernel
theorem dX0_takeBack_4 : decode cX0_takeBack 4 = .ok (.ifCond .eq 10, 3) := by decide +kernel
theorem dX0_takeBack_7 : decode cX0_takeBack 7 = .ok (.aload_n 0, 1) := by decide +kernel
theorem dX0_takeBack_8 : decode cX0_takeBack 8 = .ok (.iconst 0, 1) := by decide +kernel
theorem dX0_takeBack_9 : decode cX0_takeBack 9 = .ok (.putfield 30, 3) := by decide +kernel
theorem dX0_takeBack_12 : decode cX0_takeBack 12 = .ok (.iconst 1, 1) := by decide +kernel
theorem dX0_takeBack_13 : decode cX0_takeBack 13 = .ok (.ireturn, 1) := by decide +kernel
theorem dX0_takeBack_14 : decode cX0_takeBack 14 = .ok (.aload_n 0, 1) := by decide +kernel
theorem dX0_takeBack_15 : decode cX0_takeBack 15 = .ok (.getfield 12, 3) := by decide +kernel
theorem dX0_takeBack_18 : decode cX0_takeBack 18 = .ok (.invokevirtual 37, 3) := by decide +kernel
theorem dX0_takeBack_21 : decode cX0_takeBack 21 = .ok (.istore_n 1, 1) := by decide +kernel
theorem dX0_takeBack_22 : decode cX0_takeBack 22 = .ok (.iload_n 1, 1) := by decide +kernel
theorem dX0_takeBack_23 : decode cX0_takeBack 23 = .ok (.ifCond .ne 5, 3) := by decide +kernel
theorem dX0_takeBack_26 : decode cX0_takeBack 26 = .ok (.iconst 0, 1) := by decide +kernel
theorem dX0_takeBack_27 : decode cX0_takeBack 27 = .ok (.ireturn, 1) := by decide +kernel
theorem dX0_takeBack_28 : decode cX0_takeBack 28 = .ok (.aload_n 0, 1) := by decide +kernel
theorem dX0_takeBack_29 : decode cX0_takeBack 29 = .ok (.aload_n 0, 1) := by decide +kernel
theorem dX0_takeBack_30 : decode cX0_takeBack 30 = .ok (.getfield 12, 3) := by decide +kernel
theorem dX0_takeBack_33 : decode cX0_takeBack 33 = .ok (.iload_n 1, 1) := by decide +kernel
theorem dX0_takeBack_34 : decode cX0_takeBack 34 = .ok (.iconst 1, 1) := by decide +kernel
theorem dX0_takeBack_35 : decode cX0_takeBack 35 = .ok (.isub, 1) := by decide +kernel
theorem dX0_takeBack_36 : decode cX0_takeBack 36 = .ok (.invokevirtual 45, 3) := by decide +kernel
theorem dX0_takeBack_39 : decode cX0_takeBack 39 = .ok (.checkcast 49, 3) := by decide +kernel
theorem dX0_takeBack_42 : decode cX0_takeBack 42 = .ok (.getfield 74, 3) := by decide +kernel
theorem dX0_takeBack_45 : decode cX0_takeBack 45 = .ok (.putfield 27, 3) := by decide +kernel
theorem dX0_takeBack_48 : decode cX0_takeBack 48 = .ok (.aload_n 0, 1) := by decide +kernel
theorem dX0_takeBack_49 : decode cX0_takeBack 49 = .ok (.getfield 12, 3) := by decide +kernel
theorem dX0_takeBack_52 : decode cX0_takeBack 52 = .ok (.iload_n 1, 1) := by decide +kernel
theorem dX0_takeBack_53 : decode cX0_takeBack 53 = .ok (.iconst 1, 1) := by decide +kernel
theorem dX0_takeBack_54 : decode cX0_takeBack 54 = .ok (.isub, 1) := by decide +kernel
theorem dX0_takeBack_55 : decode cX0_takeBack 55 = .ok (.invokevirtual 77, 3) := by decide +kernel
theorem dX0_takeBack_58 : decode cX0_takeBack 58 = .ok (.pop, 1) := by decide +kernel
theorem dX0_takeBack_59 : decode cX0_takeBack 59 = .ok (.iconst 1, 1) := by decide +kernel
theorem dX0_takeBack_60 : decode cX0_takeBack 60 = .ok (.ireturn, 1) := by decide +kernel
theorem dX1_isSet_0 : decode cX1_isSet 0 = .ok (.iload_n 0, 1) := by decide +kernel
theorem dX1_isSet_1 : decode cX1_isSet 1 = .ok (.ifCond .lt 13, 3) := by decide +kernel
theorem dX1_isSet_4 : decode cX1_isSet 4 = .ok (.iload_n 0, 1) := by decide +kernel
theorem dX1_isSet_5 : decode cX1_isSet 5 = .ok (.ldc 9, 2) := by decide +kernel
theorem dX1_isSet_7 : decode cX1_isSet 7 = .ok (.if_icmp .gt 7, 3) := by decide +kernel
theorem dX1_isSet_10 : decode cX1_isSet 10 = .ok (.iconst 1, 1) := by decide +kernel
theorem dX1_isSet_11 : decode cX1_isSet 11 = .ok (.goto 4, 3) := by decide +kernel
theorem dX1_isSet_14 : decode cX1_isSet 14 = .ok (.iconst 0, 1) := by decide +kernel
theorem dX1_isSet_15 : decode cX1_isSet 15 = .ok (.ireturn, 1) := by decide +kernel
theorem dX1_isHand_0 : decode cX1_isHand 0 = .ok (.iload_n 0, 1) := by decide +kernel
theorem dX1_isHand_1 : decode cX1_isHand 1 = .ok (.invokestatic 10, 3) := by decide +kernel
theorem dX1_isHand_4 : decode cX1_isHand 4 = .ok (.ifCond .eq 15, 3) := by decide +kernel
theorem dX1_isHand_7 : decode cX1_isHand 7 = .ok (.iload_n 0, 1) := by decide +kernel
theorem dX1_isHand_8 : decode cX1_isHand 8 = .ok (.invokestatic 16, 3) := by decide +kernel
theorem dX1_isHand_11 : decode cX1_isHand 11 = .ok (.iconst 5, 1) := by decide +kernel
theorem dX1_isHand_12 : decode cX1_isHand 12 = .ok (.if_icmp .ne 7, 3) := by decide +kernel
theorem dX1_isHand_15 : decode cX1_isHand 15 = .ok (.iconst 1, 1) := by decide +kernel
theorem dX1_isHand_16 : decode cX1_isHand 16 = .ok (.goto 4, 3) := by decide +kernel
theorem dX1_isHand_19 : decode cX1_isHand 19 = .ok (.iconst 0, 1) := by decide +kernel
theorem dX1_isHand_20 : decode cX1_isHand 20 = .ok (.ireturn, 1) := by decide +kernel
theorem dX1_handAfter_0 : decode cX1_handAfter 0 = .ok (.iload_n 0, 1) := by decide +kernel
theorem dX1_handAfter_1 : decode cX1_handAfter 1 = .ok (.iload_n 0, 1) := by decide +kernel
theorem dX1_handAfter_2 : decode cX1_handAfter 2 = .ok (.iload_n 0, 1) := by decide +kernel
theorem dX1_handAfter_3 : decode cX1_handAfter 3 = .ok (.ineg, 1) := by decide +kernel
theorem dX1_handAfter_4 : decode cX1_handAfter 4 = .ok (.iand, 1) := by decide +kernel
theorem dX1_handAfter_5 : decode cX1_handAfter 5 = .ok (.iadd, 1) := by decide +kernel
theorem dX1_handAfter_6 : decode cX1_handAfter 6 = .ok (.istore_n 1, 1) := by decide +kernel
theorem dX1_handAfter_7 : decode cX1_handAfter 7 = .ok (.iload_n 1, 1) := by decide +kernel
theorem dX1_handAfter_8 : decode cX1_handAfter 8 = .ok (.iload_n 0, 1) := by decide +kernel
theorem dX1_handAfter_9 : decode cX1_handAfter 9 = .ok (.iload_n 1, 1) := by decide +kernel
theorem dX1_handAfter_10 : decode cX1_handAfter 10 = .ok (.ixor, 1) := by decide +kernel
theorem dX1_handAfter_11 : decode cX1_handAfter 11 = .ok (.iconst 2, 1) := by decide +kernel
theorem dX1_handAfter_12 : decode cX1_handAfter 12 = .ok (.iload_n 0, 1) := by decide +kernel
theorem dX1_handAfter_13 : decode cX1_handAfter 13 = .ok (.invokestatic 22, 3) := by decide +kernel
theorem dX1_handAfter_16 : decode cX1_handAfter 16 = .ok (.iadd, 1) := by decide +kernel
theorem dX1_handAfter_17 : decode cX1_handAfter 17 = .ok (.iushr, 1) := by decide +kernel
theorem dX1_handAfter_18 : decode cX1_handAfter 18 = .ok (.ior, 1) := by decide +kernel
theorem dX1_handAfter_19 : decode cX1_handAfter 19 = .ok (.ireturn, 1) := by decide +kernel
theorem dX1_cardAt_0 : decode cX1_cardAt 0 = .ok (.iload_n 0, 1) := by decide +kernel
theorem dX1_cardAt_1 : decode cX1_cardAt 1 = .ok (.istore_n 2, 1) := by decide +kernel
theorem dX1_cardAt_2 : decode cX1_cardAt 2 = .ok (.iconst 0, 1) := by decide +kernel
theorem dX1_cardAt_3 : decode cX1_cardAt 3 = .ok (.istore_n 3, 1) := by decide +kernel
theorem dX1_cardAt_4 : decode cX1_cardAt 4 = .ok (.iload_n 3, 1) := by decide +kernel
theorem dX1_cardAt_5 : decode cX1_cardAt 5 = .ok (.iload_n 1, 1) := by decide +kernel
theorem dX1_cardAt_6 : decode cX1_cardAt 6 = .ok (.if_icmp .ge 15, 3) := by decide +kernel
theorem dX1_cardAt_9 : decode cX1_cardAt 9 = .ok (.iload_n 2, 1) := by decide +kernel
theorem dX1_cardAt_10 : decode cX1_cardAt 10 = .ok (.iload_n 2, 1) := by decide +kernel
theorem dX1_cardAt_11 : decode cX1_cardAt 11 = .ok (.iconst 1, 1) := by decide +kernel
theorem dX1_cardAt_12 : decode cX1_cardAt 12 = .ok (.isub, 1) := by decide +kernel
theorem dX1_cardAt_13 : decode cX1_cardAt 13 = .ok (.iand, 1) := by decide +kernel
theorem dX1_cardAt_14 : decode cX1_cardAt 14 = .ok (.istore_n 2, 1) := by decide +kernel
theorem dX1_cardAt_15 : decode cX1_cardAt 15 = .ok (.iinc 3 1, 3) := by decide +kernel
theorem dX1_cardAt_18 : decode cX1_cardAt 18 = .ok (.goto (-14), 3) := by decide +kernel
theorem dX1_cardAt_21 : decode cX1_cardAt 21 = .ok (.iload_n 2, 1) := by decide +kernel
theorem dX1_cardAt_22 : decode cX1_cardAt 22 = .ok (.iload_n 2, 1) := by decide +kernel
theorem dX1_cardAt_23 : decode cX1_cardAt 23 = .ok (.ineg, 1) := by decide +kernel
theorem dX1_cardAt_24 : decode cX1_cardAt 24 = .ok (.iand, 1) := by decide +kernel
theorem dX1_cardAt_25 : decode cX1_cardAt 25 = .ok (.ireturn, 1) := by decide +kernel
theorem dX1_ofSuit_0 : decode cX1_ofSuit 0 = .ok (.iload_n 0, 1) := by decide +kernel
theorem dX1_ofSuit_1 : decode cX1_ofSuit 1 = .ok (.iconst 5, 1) := by decide +kernel
theorem dX1_ofSuit_2 : decode cX1_ofSuit 2 = .ok (.iload_n 1, 1) := by decide +kernel
theorem dX1_ofSuit_3 : decode cX1_ofSuit 3 = .ok (.imul, 1) := by decide +kernel
theorem dX1_ofSuit_4 : decode cX1_ofSuit 4 = .ok (.ishr, 1) := by decide +kernel
theorem dX1_ofSuit_5 : decode cX1_ofSuit 5 = .ok (.bipush 31, 2) := by decide +kernel
theorem dX1_ofSuit_7 : decode cX1_ofSuit 7 = .ok (.iand, 1) := by decide +kernel
theorem dX1_ofSuit_8 : decode cX1_ofSuit 8 = .ok (.ireturn, 1) := by decide +kernel
theorem dX1_measure_0 : decode cX1_measure 0 = .ok (.iload_n 1, 1) := by decide +kernel
theorem dX1_measure_1 : decode cX1_measure 1 = .ok (.iconst 4, 1) := by decide +kernel
theorem dX1_measure_2 : decode cX1_measure 2 = .ok (.if_icmp .ne 10, 3) := by decide +kernel
theorem dX1_measure_5 : decode cX1_measure 5 = .ok (.iload_n 0, 1) := by decide +kernel
theorem dX1_measure_6 : decode cX1_measure 6 = .ok (.invokestatic 25, 3) := by decide +kernel
theorem dX1_measure_9 : decode cX1_measure 9 = .ok (.goto 11, 3) := by decide +kernel
theorem dX1_measure_12 : decode cX1_measure 12 = .ok (.iload_n 0, 1) := by decide +kernel
theorem dX1_measure_13 : decode cX1_measure 13 = .ok (.iload_n 1, 1) := by decide +kernel
theorem dX1_measure_14 : decode cX1_measure 14 = .ok (.invokestatic 28, 3) := by decide +kernel
theorem dX1_measure_17 : decode cX1_measure 17 = .ok (.invokestatic 16, 3) := by decide +kernel
theorem dX1_measure_20 : decode cX1_measure 20 = .ok (.ireturn, 1) := by decide +kernel
theorem dX1_greatestMeasure_0 : decode cX1_greatestMeasure 0 = .ok (.iload_n 0, 1) := by decide +kernel
theorem dX1_greatestMeasure_1 : decode cX1_greatestMeasure 1 = .ok (.iconst 4, 1) := by decide +kernel
theorem dX1_greatestMeasure_2 : decode cX1_greatestMeasure 2 = .ok (.if_icmp .ne 8, 3) := by decide +kernel
theorem dX1_greatestMeasure_5 : decode cX1_greatestMeasure 5 = .ok (.bipush 20, 2) := by decide +kernel
theorem dX1_greatestMeasure_7 : decode cX1_greatestMeasure 7 = .ok (.goto 4, 3) := by decide +kernel
theorem dX1_greatestMeasure_10 : decode cX1_greatestMeasure 10 = .ok (.iconst 5, 1) := by decide +kernel
theorem dX1_greatestMeasure_11 : decode cX1_greatestMeasure 11 = .ok (.ireturn, 1) := by decide +kernel
theorem dX1_strength_0 : decode cX1_strength 0 = .ok (.iconst 0, 1) := by decide +kernel
theorem dX1_strength_1 : decode cX1_strength 1 = .ok (.istore_n 1, 1) := by decide +kernel
theorem dX1_strength_2 : decode cX1_strength 2 = .ok (.iconst 1, 1) := by decide +kernel
theorem dX1_strength_3 : decode cX1_strength 3 = .ok (.istore_n 2, 1) := by decide +kernel
theorem dX1_strength_4 : decode cX1_strength 4 = .ok (.iload_n 2, 1) := by decide +kernel
theorem dX1_strength_5 : decode cX1_strength 5 = .ok (.iconst 5, 1) := by decide +kernel
theorem dX1_strength_6 : decode cX1_strength 6 = .ok (.if_icmp .ge 23, 3) := by decide +kernel
theorem dX1_strength_9 : decode cX1_strength 9 = .ok (.iload_n 1, 1) := by decide +kernel
theorem dX1_strength_10 : decode cX1_strength 10 = .ok (.iload_n 2, 1) := by decide +kernel
theorem dX1_strength_11 : decode cX1_strength 11 = .ok (.iload_n 0, 1) := by decide +kernel
theorem dX1_strength_12 : decode cX1_strength 12 = .ok (.ldc 32, 2) := by decide +kernel
theorem dX1_strength_14 : decode cX1_strength 14 = .ok (.iload_n 2, 1) := by decide +kernel
theorem dX1_strength_15 : decode cX1_strength 15 = .ok (.ishl, 1) := by decide +kernel
theorem dX1_strength_16 : decode cX1_strength 16 = .ok (.iand, 1) := by decide +kernel
theorem dX1_strength_17 : decode cX1_strength 17 = .ok (.invokestatic 16, 3) := by decide +kernel
theorem dX1_strength_20 : decode cX1_strength 20 = .ok (.imul, 1) := by decide +kernel
theorem dX1_strength_21 : decode cX1_strength 21 = .ok (.iadd, 1) := by decide +kernel
theorem dX1_strength_22 : decode cX1_strength 22 = .ok (.istore_n 1, 1) := by decide +kernel
theorem dX1_strength_23 : decode cX1_strength 23 = .ok (.iinc 2 1, 3) := by decide +kernel
theorem dX1_strength_26 : decode cX1_strength 26 = .ok (.goto (-22), 3) := by decide +kernel
theorem dX1_strength_29 : decode cX1_strength 29 = .ok (.iload_n 1, 1) := by decide +kernel
theorem dX1_strength_30 : decode cX1_strength 30 = .ok (.ireturn, 1) := by decide +kernel
theorem dX1_profile_0 : decode cX1_profile 0 = .ok (.iload_n 0, 1) := by decide +kernel
theorem dX1_profile_1 : decode cX1_profile 1 = .ok (.invokestatic 25, 3) := by decide +kernel
theorem dX1_profile_4 : decode cX1_profile 4 = .ok (.bipush 24, 2) := by decide +kernel
theorem dX1_profile_6 : decode cX1_profile 6 = .ok (.ishl, 1) := by decide +kernel
theorem dX1_profile_7 : decode cX1_profile 7 = .ok (.istore_n 1, 1) := by decide +kernel
theorem dX1_profile_8 : decode cX1_profile 8 = .ok (.iconst 0, 1) := by decide +kernel
theorem dX1_profile_9 : decode cX1_profile 9 = .ok (.istore_n 2, 1) := by decide +kernel
theorem dX1_profile_10 : decode cX1_profile 10 = .ok (.iload_n 2, 1) := by decide +kernel
theorem dX1_profile_11 : decode cX1_profile 11 = .ok (.iconst 4, 1) := by decide +kernel
theorem dX1_profile_12 : decode cX1_profile 12 = .ok (.if_icmp .ge 25, 3) := by decide +kernel
theorem dX1_profile_15 : decode cX1_profile 15 = .ok (.iload_n 1, 1) := by decide +kernel
theorem dX1_profile_16 : decode cX1_profile 16 = .ok (.iload_n 0, 1) := by decide +kernel
theorem dX1_profile_17 : decode cX1_profile 17 = .ok (.iload_n 2, 1) := by decide +kernel
theorem dX1_profile_18 : decode cX1_profile 18 = .ok (.invokestatic 28, 3) := by decide +kernel
theorem dX1_profile_21 : decode cX1_profile 21 = .ok (.invokestatic 16, 3) := by decide +kernel
theorem dX1_profile_24 : decode cX1_profile 24 = .ok (.bipush 6, 2) := by decide +kernel
theorem dX1_profile_26 : decode cX1_profile 26 = .ok (.iload_n 2, 1) := by decide +kernel
theorem dX1_profile_27 : decode cX1_profile 27 = .ok (.imul, 1) := by decide +kernel
theorem dX1_profile_28 : decode cX1_profile 28 = .ok (.ishl, 1) := by decide +kernel
theorem dX1_profile_29 : decode cX1_profile 29 = .ok (.ior, 1) := by decide +kernel
theorem dX1_profile_30 : decode cX1_profile 30 = .ok (.istore_n 1, 1) := by decide +kernel
theorem dX1_profile_31 : decode cX1_profile 31 = .ok (.iinc 2 1, 3) := by decide +kernel
theorem dX1_profile_34 : decode cX1_profile 34 = .ok (.goto (-24), 3) := by decide +kernel
theorem dX1_profile_37 : decode cX1_profile 37 = .ok (.iload_n 1, 1) := by decide +kernel
theorem dX1_profile_38 : decode cX1_profile 38 = .ok (.ireturn, 1) := by decide +kernel
theorem dX1_shownNumber_0 : decode cX1_shownNumber 0 = .ok (.iload_n 1, 1) := by decide +kernel
theorem dX1_shownNumber_1 : decode cX1_shownNumber 1 = .ok (.bipush 10, 2) := by decide +kernel
theorem dX1_shownNumber_3 : decode cX1_shownNumber 3 = .ok (.if_icmp .lt 7, 3) := by decide +kernel
theorem dX1_shownNumber_6 : decode cX1_shownNumber 6 = .ok (.iload_n 0, 1) := by decide +kernel
theorem dX1_shownNumber_7 : decode cX1_shownNumber 7 = .ok (.goto 10, 3) := by decide +kernel
theorem dX1_shownNumber_10 : decode cX1_shownNumber 10 = .ok (.iload_n 0, 1) := by decide +kernel
theorem dX1_shownNumber_11 : decode cX1_shownNumber 11 = .ok (.iload_n 1, 1) := by decide +kernel
theorem dX1_shownNumber_12 : decode cX1_shownNumber 12 = .ok (.iconst 2, 1) := by decide +kernel
theorem dX1_shownNumber_13 : decode cX1_shownNumber 13 = .ok (.idiv, 1) := by decide +kernel
theorem dX1_shownNumber_14 : decode cX1_shownNumber 14 = .ok (.invokestatic 35, 3) := by decide +kernel
theorem dX1_shownNumber_17 : decode cX1_shownNumber 17 = .ok (.ireturn, 1) := by decide +kernel
theorem dX1_joinShown_0 : decode cX1_joinShown 0 = .ok (.iload_n 2, 1) := by decide +kernel
theorem dX1_joinShown_1 : decode cX1_joinShown 1 = .ok (.bipush 10, 2) := by decide +kernel
theorem dX1_joinShown_3 : decode cX1_joinShown 3 = .ok (.if_icmp .ne 7, 3) := by decide +kernel
theorem dX1_joinShown_6 : decode cX1_joinShown 6 = .ok (.iload_n 0, 1) := by decide +kernel
theorem dX1_joinShown_7 : decode cX1_joinShown 7 = .ok (.iload_n 1, 1) := by decide +kernel
theorem dX1_joinShown_8 : decode cX1_joinShown 8 = .ok (.iand, 1) := by decide +kernel
theorem dX1_joinShown_9 : decode cX1_joinShown 9 = .ok (.ireturn, 1) := by decide +kernel
theorem dX1_joinShown_10 : decode cX1_joinShown 10 = .ok (.iload_n 2, 1) := by decide +kernel
theorem dX1_joinShown_11 : decode cX1_joinShown 11 = .ok (.bipush 10, 2) := by decide +kernel
theorem dX1_joinShown_13 : decode cX1_joinShown 13 = .ok (.if_icmp .le 7, 3) := by decide +kernel
theorem dX1_joinShown_16 : decode cX1_joinShown 16 = .ok (.iload_n 0, 1) := by decide +kernel
theorem dX1_joinShown_17 : decode cX1_joinShown 17 = .ok (.iload_n 1, 1) := by decide +kernel
theorem dX1_joinShown_18 : decode cX1_joinShown 18 = .ok (.ior, 1) := by decide +kernel
theorem dX1_joinShown_19 : decode cX1_joinShown 19 = .ok (.ireturn, 1) := by decide +kernel
theorem dX1_joinShown_20 : decode cX1_joinShown 20 = .ok (.iload_n 2, 1) := by decide +kernel
theorem dX1_joinShown_21 : decode cX1_joinShown 21 = .ok (.iconst 2, 1) := by decide +kernel
theorem dX1_joinShown_22 : decode cX1_joinShown 22 = .ok (.irem, 1) := by decide +kernel
theorem dX1_joinShown_23 : decode cX1_joinShown 23 = .ok (.ifCond .ne 11, 3) := by decide +kernel
theorem dX1_joinShown_26 : decode cX1_joinShown 26 = .ok (.iload_n 0, 1) := by decide +kernel
theorem dX1_joinShown_27 : decode cX1_joinShown 27 = .ok (.iload_n 1, 1) := by decide +kernel
theorem dX1_joinShown_28 : decode cX1_joinShown 28 = .ok (.invokestatic 38, 3) := by decide +kernel
theorem dX1_joinShown_31 : decode cX1_joinShown 31 = .ok (.goto 8, 3) := by decide +kernel
theorem dX1_joinShown_34 : decode cX1_joinShown 34 = .ok (.iload_n 0, 1) := by decide +kernel
theorem dX1_joinShown_35 : decode cX1_joinShown 35 = .ok (.iload_n 1, 1) := by decide +kernel
theorem dX1_joinShown_36 : decode cX1_joinShown 36 = .ok (.invokestatic 43, 3) := by decide +kernel
theorem dX1_joinShown_39 : decode cX1_joinShown 39 = .ok (.ireturn, 1) := by decide +kernel
theorem dX1_tricksOf_0 : decode cX1_tricksOf 0 = .ok (.iconst 0, 1) := by decide +kernel
theorem dX1_tricksOf_1 : decode cX1_tricksOf 1 = .ok (.istore_n 3, 1) := by decide +kernel
theorem dX1_tricksOf_2 : decode cX1_tricksOf 2 = .ok (.iconst 0, 1) := by decide +kernel
theorem dX1_tricksOf_3 : decode cX1_tricksOf 3 = .ok (.istore 4, 2) := by decide +kernel
theorem dX1_tricksOf_5 : decode cX1_tricksOf 5 = .ok (.iload 4, 2) := by decide +kernel
theorem dX1_tricksOf_7 : decode cX1_tricksOf 7 = .ok (.iconst 4, 1) := by decide +kernel
theorem dX1_tricksOf_8 : decode cX1_tricksOf 8 = .ok (.if_icmp .ge 58, 3) := by decide +kernel
theorem dX1_tricksOf_11 : decode cX1_tricksOf 11 = .ok (.iload_n 3, 1) := by decide +kernel
theorem dX1_tricksOf_12 : decode cX1_tricksOf 12 = .ok (.iload_n 1, 1) := by decide +kernel
theorem dX1_tricksOf_13 : decode cX1_tricksOf 13 = .ok (.iload 4, 2) := by decide +kernel
theorem dX1_tricksOf_15 : decode cX1_tricksOf 15 = .ok (.invokestatic 28, 3) := by decide +kernel
theorem dX1_tricksOf_18 : decode cX1_tricksOf 18 = .ok (.iload_n 2, 1) := by decide +kernel
theorem dX1_tricksOf_19 : decode cX1_tricksOf 19 = .ok (.iload 4, 2) := by decide +kernel
theorem dX1_tricksOf_21 : decode cX1_tricksOf 21 = .ok (.invokestatic 28, 3) := by decide +kernel
theorem dX1_tricksOf_24 : decode cX1_tricksOf 24 = .ok (.invokestatic 46, 3) := by decide +kernel
theorem dX1_tricksOf_27 : decode cX1_tricksOf 27 = .ok (.iadd, 1) := by decide +kernel
theorem dX1_tricksOf_28 : decode cX1_tricksOf 28 = .ok (.istore_n 3, 1) := by decide +kernel
theorem dX1_tricksOf_29 : decode cX1_tricksOf 29 = .ok (.iload_n 0, 1) := by decide +kernel
theorem dX1_tricksOf_30 : decode cX1_tricksOf 30 = .ok (.iconst 4, 1) := by decide +kernel
theorem dX1_tricksOf_31 : decode cX1_tricksOf 31 = .ok (.if_icmp .eq 29, 3) := by decide +kernel
theorem dX1_tricksOf_34 : decode cX1_tricksOf 34 = .ok (.iload 4, 2) := by decide +kernel
theorem dX1_tricksOf_36 : decode cX1_tricksOf 36 = .ok (.iload_n 0, 1) := by decide +kernel
theorem dX1_tricksOf_37 : decode cX1_tricksOf 37 = .ok (.if_icmp .eq 23, 3) := by decide +kernel
theorem dX1_tricksOf_40 : decode cX1_tricksOf 40 = .ok (.iload_n 3, 1) := by decide +kernel
theorem dX1_tricksOf_41 : decode cX1_tricksOf 41 = .ok (.iload_n 1, 1) := by decide +kernel
theorem dX1_tricksOf_42 : decode cX1_tricksOf 42 = .ok (.iload_n 2, 1) := by decide +kernel
theorem dX1_tricksOf_43 : decode cX1_tricksOf 43 = .ok (.iload 4, 2) := by decide +kernel
theorem dX1_tricksOf_45 : decode cX1_tricksOf 45 = .ok (.iload_n 0, 1) := by decide +kernel
theorem dX1_tricksOf_46 : decode cX1_tricksOf 46 = .ok (.invokestatic 49, 3) := by decide +kernel
theorem dX1_tricksOf_49 : decode cX1_tricksOf 49 = .ok (.iload_n 2, 1) := by decide +kernel
theorem dX1_tricksOf_50 : decode cX1_tricksOf 50 = .ok (.iload_n 1, 1) := by decide +kernel
theorem dX1_tricksOf_51 : decode cX1_tricksOf 51 = .ok (.iload 4, 2) := by decide +kernel
theorem dX1_tricksOf_53 : decode cX1_tricksOf 53 = .ok (.iload_n 0, 1) := by decide +kernel
theorem dX1_tricksOf_54 : decode cX1_tricksOf 54 = .ok (.invokestatic 49, 3) := by decide +kernel
theorem dX1_tricksOf_57 : decode cX1_tricksOf 57 = .ok (.iadd, 1) := by decide +kernel
theorem dX1_tricksOf_58 : decode cX1_tricksOf 58 = .ok (.iadd, 1) := by decide +kernel
theorem dX1_tricksOf_59 : decode cX1_tricksOf 59 = .ok (.istore_n 3, 1) := by decide +kernel
theorem dX1_tricksOf_60 : decode cX1_tricksOf 60 = .ok (.iinc 4 1, 3) := by decide +kernel
theorem dX1_tricksOf_63 : decode cX1_tricksOf 63 = .ok (.goto (-58), 3) := by decide +kernel
theorem dX1_tricksOf_66 : decode cX1_tricksOf 66 = .ok (.iload_n 3, 1) := by decide +kernel
theorem dX1_tricksOf_67 : decode cX1_tricksOf 67 = .ok (.iconst 5, 1) := by decide +kernel
theorem dX1_tricksOf_68 : decode cX1_tricksOf 68 = .ok (.invokestatic 38, 3) := by decide +kernel
theorem dX1_tricksOf_71 : decode cX1_tricksOf 71 = .ok (.ireturn, 1) := by decide +kernel
theorem dX1_winners_0 : decode cX1_winners 0 = .ok (.iload_n 0, 1) := by decide +kernel
theorem dX1_winners_1 : decode cX1_winners 1 = .ok (.iload_n 1, 1) := by decide +kernel
theorem dX1_winners_2 : decode cX1_winners 2 = .ok (.ior, 1) := by decide +kernel
theorem dX1_winners_3 : decode cX1_winners 3 = .ok (.istore_n 2, 1) := by decide +kernel
theorem dX1_winners_4 : decode cX1_winners 4 = .ok (.iconst 0, 1) := by decide +kernel
theorem dX1_winners_5 : decode cX1_winners 5 = .ok (.istore_n 3, 1) := by decide +kernel
theorem dX1_winners_6 : decode cX1_winners 6 = .ok (.iconst 4, 1) := by decide +kernel
theorem dX1_winners_7 : decode cX1_winners 7 = .ok (.istore 4, 2) := by decide +kernel
theorem dX1_winners_9 : decode cX1_winners 9 = .ok (.iload 4, 2) := by decide +kernel
theorem dX1_winners_11 : decode cX1_winners 11 = .ok (.ifCond .lt 22, 3) := by decide +kernel
theorem dX1_winners_14 : decode cX1_winners 14 = .ok (.iload_n 2, 1) := by decide +kernel
theorem dX1_winners_15 : decode cX1_winners 15 = .ok (.iload 4, 2) := by decide +kernel
theorem dX1_winners_17 : decode cX1_winners 17 = .ok (.ishr, 1) := by decide +kernel
theorem dX1_winners_18 : decode cX1_winners 18 = .ok (.iconst 1, 1) := by decide +kernel
theorem dX1_winners_19 : decode cX1_winners 19 = .ok (.iand, 1) := by decide +kernel
theorem dX1_winners_20 : decode cX1_winners 20 = .ok (.iconst 1, 1) := by decide +kernel
theorem dX1_winners_21 : decode cX1_winners 21 = .ok (.if_icmp .ne 12, 3) := by decide +kernel
theorem dX1_winners_24 : decode cX1_winners 24 = .ok (.iinc 3 1, 3) := by decide +kernel
theorem dX1_winners_27 : decode cX1_winners 27 = .ok (.iinc 4 (-1), 3) := by decide +kernel
theorem dX1_winners_30 : decode cX1_winners 30 = .ok (.goto (-21), 3) := by decide +kernel
theorem dX1_winners_33 : decode cX1_winners 33 = .ok (.iload_n 3, 1) := by decide +kernel
theorem dX1_winners_34 : decode cX1_winners 34 = .ok (.iload_n 0, 1) := by decide +kernel
theorem dX1_winners_35 : decode cX1_winners 35 = .ok (.invokestatic 16, 3) := by decide +kernel
theorem dX1_winners_38 : decode cX1_winners 38 = .ok (.iload_n 1, 1) := by decide +kernel
theorem dX1_winners_39 : decode cX1_winners 39 = .ok (.invokestatic 16, 3) := by decide +kernel
theorem dX1_winners_42 : decode cX1_winners 42 = .ok (.invokestatic 43, 3) := by decide +kernel
theorem dX1_winners_45 : decode cX1_winners 45 = .ok (.invokestatic 38, 3) := by decide +kernel
theorem dX1_winners_48 : decode cX1_winners 48 = .ok (.ireturn, 1) := by decide +kernel
theorem dX1_ruffs_0 : decode cX1_ruffs 0 = .ok (.iload_n 0, 1) := by decide +kernel
theorem dX1_ruffs_1 : decode cX1_ruffs 1 = .ok (.iload_n 2, 1) := by decide +kernel
theorem dX1_ruffs_2 : decode cX1_ruffs 2 = .ok (.invokestatic 28, 3) := by decide +kernel
theorem dX1_ruffs_5 : decode cX1_ruffs 5 = .ok (.ifCond .ne 15, 3) := by decide +kernel
theorem dX1_ruffs_8 : decode cX1_ruffs 8 = .ok (.iload_n 0, 1) := by decide +kernel
theorem dX1_ruffs_9 : decode cX1_ruffs 9 = .ok (.iload_n 3, 1) := by decide +kernel
theorem dX1_ruffs_10 : decode cX1_ruffs 10 = .ok (.invokestatic 28, 3) := by decide +kernel
theorem dX1_ruffs_13 : decode cX1_ruffs 13 = .ok (.ifCond .eq 7, 3) := by decide +kernel
theorem dX1_ruffs_16 : decode cX1_ruffs 16 = .ok (.iconst 1, 1) := by decide +kernel
theorem dX1_ruffs_17 : decode cX1_ruffs 17 = .ok (.goto 4, 3) := by decide +kernel
theorem dX1_ruffs_20 : decode cX1_ruffs 20 = .ok (.iconst 0, 1) := by decide +kernel
theorem dX1_ruffs_21 : decode cX1_ruffs 21 = .ok (.istore 4, 2) := by decide +kernel
theorem dX1_ruffs_23 : decode cX1_ruffs 23 = .ok (.iload 4, 2) := by decide +kernel
theorem dX1_ruffs_25 : decode cX1_ruffs 25 = .ok (.ifCond .eq 15, 3) := by decide +kernel
theorem dX1_ruffs_28 : decode cX1_ruffs 28 = .ok (.iload_n 1, 1) := by decide +kernel
theorem dX1_ruffs_29 : decode cX1_ruffs 29 = .ok (.iload_n 2, 1) := by decide +kernel
theorem dX1_ruffs_30 : decode cX1_ruffs 30 = .ok (.invokestatic 28, 3) := by decide +kernel
theorem dX1_ruffs_33 : decode cX1_ruffs 33 = .ok (.ifCond .eq 7, 3) := by decide +kernel
theorem dX1_ruffs_36 : decode cX1_ruffs 36 = .ok (.iconst 1, 1) := by decide +kernel
theorem dX1_ruffs_37 : decode cX1_ruffs 37 = .ok (.goto 4, 3) := by decide +kernel
theorem dX1_ruffs_40 : decode cX1_ruffs 40 = .ok (.iconst 0, 1) := by decide +kernel
theorem dX1_ruffs_41 : decode cX1_ruffs 41 = .ok (.ireturn, 1) := by decide +kernel
theorem dX2_init_0 : decode cX2_init 0 = .ok (.aload_n 0, 1) := by decide +kernel
theorem dX2_init_1 : decode cX2_init 1 = .ok (.invokespecial 1, 3) := by decide +kernel
theorem dX2_init_4 : decode cX2_init 4 = .ok (.aload_n 0, 1) := by decide +kernel
theorem dX2_init_5 : decode cX2_init 5 = .ok (.iload_n 1, 1) := by decide +kernel
theorem dX2_init_6 : decode cX2_init 6 = .ok (.putfield 7, 3) := by decide +kernel
theorem dX2_init_9 : decode cX2_init 9 = .ok (.aload_n 0, 1) := by decide +kernel
theorem dX2_init_10 : decode cX2_init 10 = .ok (.iload_n 2, 1) := by decide +kernel
theorem dX2_init_11 : decode cX2_init 11 = .ok (.putfield 13, 3) := by decide +kernel
theorem dX2_init_14 : decode cX2_init 14 = .ok (.aload_n 0, 1) := by decide +kernel
theorem dX2_init_15 : decode cX2_init 15 = .ok (.aload_n 3, 1) := by decide +kernel
theorem dX2_init_16 : decode cX2_init 16 = .ok (.putfield 16, 3) := by decide +kernel
theorem dX2_init_19 : decode cX2_init 19 = .ok (.return_, 1) := by decide +kernel
theorem dX2_number_0 : decode cX2_number 0 = .ok (.iload_n 1, 1) := by decide +kernel
theorem dX2_number_1 : decode cX2_number 1 = .ok (.tableswitch 45 0 2 #[27, 32, 37], 27) := by decide +kernel
theorem dX2_number_28 : decode cX2_number 28 = .ok (.aload_n 0, 1) := by decide +kernel
theorem dX2_number_29 : decode cX2_number 29 = .ok (.getfield 7, 3) := by decide +kernel
theorem dX2_number_32 : decode cX2_number 32 = .ok (.ireturn, 1) := by decide +kernel
theorem dX2_number_33 : decode cX2_number 33 = .ok (.aload_n 0, 1) := by decide +kernel
theorem dX2_number_34 : decode cX2_number 34 = .ok (.getfield 13, 3) := by decide +kernel
theorem dX2_number_37 : decode cX2_number 37 = .ok (.ireturn, 1) := by decide +kernel
theorem dX2_number_38 : decode cX2_number 38 = .ok (.aload_n 0, 1) := by decide +kernel
theorem dX2_number_39 : decode cX2_number 39 = .ok (.getfield 16, 3) := by decide +kernel
theorem dX2_number_42 : decode cX2_number 42 = .ok (.getfield 20, 3) := by decide +kernel
theorem dX2_number_45 : decode cX2_number 45 = .ok (.ireturn, 1) := by decide +kernel
theorem dX2_number_46 : decode cX2_number 46 = .ok (.aload_n 0, 1) := by decide +kernel
theorem dX2_number_47 : decode cX2_number 47 = .ok (.getfield 16, 3) := by decide +kernel
theorem dX2_number_50 : decode cX2_number 50 = .ok (.getfield 25, 3) := by decide +kernel
theorem dX2_number_53 : decode cX2_number 53 = .ok (.ireturn, 1) := by decide +kernel
theorem dX3_init_0 : decode cX3_init 0 = .ok (.aload_n 0, 1) := by decide +kernel
theorem dX3_init_1 : decode cX3_init 1 = .ok (.invokespecial 1, 3) := by decide +kernel
theorem dX3_init_4 : decode cX3_init 4 = .ok (.aload_n 0, 1) := by decide +kernel
theorem dX3_init_5 : decode cX3_init 5 = .ok (.iload_n 1, 1) := by decide +kernel
theorem dX3_init_6 : decode cX3_init 6 = .ok (.putfield 7, 3) := by decide +kernel
theorem dX3_init_9 : decode cX3_init 9 = .ok (.aload_n 0, 1) := by decide +kernel
theorem dX3_init_10 : decode cX3_init 10 = .ok (.iload_n 2, 1) := by decide +kernel
theorem dX3_init_11 : decode cX3_init 11 = .ok (.putfield 13, 3) := by decide +kernel
theorem dX3_init_14 : decode cX3_init 14 = .ok (.aload_n 0, 1) := by decide +kernel
theorem dX3_init_15 : decode cX3_init 15 = .ok (.iload_n 3, 1) := by decide +kernel
theorem dX3_init_16 : decode cX3_init 16 = .ok (.putfield 16, 3) := by decide +kernel
theorem dX3_init_19 : decode cX3_init 19 = .ok (.return_, 1) := by decide +kernel
theorem dX4_init_0 : decode cX4_init 0 = .ok (.aload_n 0, 1) := by decide +kernel
theorem dX4_init_1 : decode cX4_init 1 = .ok (.invokespecial 3, 3) := by decide +kernel
theorem dX4_init_4 : decode cX4_init 4 = .ok (.aload_n 0, 1) := by decide +kernel
theorem dX4_init_5 : decode cX4_init 5 = .ok (.iconst 0, 1) := by decide +kernel
theorem dX4_init_6 : decode cX4_init 6 = .ok (.putfield 9, 3) := by decide +kernel
theorem dX4_init_9 : decode cX4_init 9 = .ok (.aload_n 0, 1) := by decide +kernel
theorem dX4_init_10 : decode cX4_init 10 = .ok (.ldc 15, 2) := by decide +kernel
theorem dX4_init_12 : decode cX4_init 12 = .ok (.putfield 16, 3) := by decide +kernel
theorem dX4_init_15 : decode cX4_init 15 = .ok (.aload_n 0, 1) := by decide +kernel
theorem dX4_init_16 : decode cX4_init 16 = .ok (.iload_n 1, 1) := by decide +kernel
theorem dX4_init_17 : decode cX4_init 17 = .ok (.putfield 19, 3) := by decide +kernel
theorem dX4_init_20 : decode cX4_init 20 = .ok (.aload_n 0, 1) := by decide +kernel
theorem dX4_init_21 : decode cX4_init 21 = .ok (.iload_n 2, 1) := by decide +kernel
theorem dX4_init_22 : decode cX4_init 22 = .ok (.putfield 22, 3) := by decide +kernel
theorem dX4_init_25 : decode cX4_init 25 = .ok (.aload_n 0, 1) := by decide +kernel
theorem dX4_init_26 : decode cX4_init 26 = .ok (.iload_n 3, 1) := by decide +kernel
theorem dX4_init_27 : decode cX4_init 27 = .ok (.putfield 25, 3) := by decide +kernel
theorem dX4_init_30 : decode cX4_init 30 = .ok (.aload_n 0, 1) := by decide +kernel
theorem dX4_init_31 : decode cX4_init 31 = .ok (.iload 4, 2) := by decide +kernel
theorem dX4_init_33 : decode cX4_init 33 = .ok (.putfield 28, 3) := by decide +kernel
theorem dX4_init_36 : decode cX4_init 36 = .ok (.return_, 1) := by decide +kernel
theorem dX4_setRange_0 : decode cX4_setRange 0 = .ok (.bipush 6, 2) := by decide +kernel
theorem dX4_setRange_2 : decode cX4_setRange 2 = .ok (.iload_n 1, 1) := by decide +kernel
theorem dX4_setRange_3 : decode cX4_setRange 3 = .ok (.imul, 1) := by decide +kernel
theorem dX4_setRange_4 : decode cX4_setRange 4 = .ok (.istore 4, 2) := by decide +kernel
theorem dX4_setRange_6 : decode cX4_setRange 6 = .ok (.aload_n 0, 1) := by decide +kernel
theorem dX4_setRange_7 : decode cX4_setRange 7 = .ok (.aload_n 0, 1) := by decide +kernel
theorem dX4_setRange_8 : decode cX4_setRange 8 = .ok (.getfield 9, 3) := by decide +kernel
theorem dX4_setRange_11 : decode cX4_setRange 11 = .ok (.bipush 31, 2) := by decide +kernel
theorem dX4_setRange_13 : decode cX4_setRange 13 = .ok (.iload 4, 2) := by decide +kernel
theorem dX4_setRange_15 : decode cX4_setRange 15 = .ok (.ishl, 1) := by decide +kernel
theorem dX4_setRange_16 : decode cX4_setRange 16 = .ok (.iconst (-1), 1) := by decide +kernel
theorem dX4_setRange_17 : decode cX4_setRange 17 = .ok (.ixor, 1) := by decide +kernel
theorem dX4_setRange_18 : decode cX4_setRange 18 = .ok (.iand, 1) := by decide +kernel
theorem dX4_setRange_19 : decode cX4_setRange 19 = .ok (.iload_n 2, 1) := by decide +kernel
theorem dX4_setRange_20 : decode cX4_setRange 20 = .ok (.iload 4, 2) := by decide +kernel
theorem dX4_setRange_22 : decode cX4_setRange 22 = .ok (.ishl, 1) := by decide +kernel
theorem dX4_setRange_23 : decode cX4_setRange 23 = .ok (.ior, 1) := by decide +kernel
theorem dX4_setRange_24 : decode cX4_setRange 24 = .ok (.putfield 9, 3) := by decide +kernel
theorem dX4_setRange_27 : decode cX4_setRange 27 = .ok (.aload_n 0, 1) := by decide +kernel
theorem dX4_setRange_28 : decode cX4_setRange 28 = .ok (.aload_n 0, 1) := by decide +kernel
theorem dX4_setRange_29 : decode cX4_setRange 29 = .ok (.getfield 16, 3) := by decide +kernel
theorem dX4_setRange_32 : decode cX4_setRange 32 = .ok (.bipush 31, 2) := by decide +kernel
theorem dX4_setRange_34 : decode cX4_setRange 34 = .ok (.iload 4, 2) := by decide +kernel
theorem dX4_setRange_36 : decode cX4_setRange 36 = .ok (.ishl, 1) := by decide +kernel
theorem dX4_setRange_37 : decode cX4_setRange 37 = .ok (.iconst (-1), 1) := by decide +kernel
theorem dX4_setRange_38 : decode cX4_setRange 38 = .ok (.ixor, 1) := by decide +kernel
theorem dX4_setRange_39 : decode cX4_setRange 39 = .ok (.iand, 1) := by decide +kernel
theorem dX4_setRange_40 : decode cX4_setRange 40 = .ok (.iload_n 3, 1) := by decide +kernel
theorem dX4_setRange_41 : decode cX4_setRange 41 = .ok (.iload 4, 2) := by decide +kernel
theorem dX4_setRange_43 : decode cX4_setRange 43 = .ok (.ishl, 1) := by decide +kernel
theorem dX4_setRange_44 : decode cX4_setRange 44 = .ok (.ior, 1) := by decide +kernel
theorem dX4_setRange_45 : decode cX4_setRange 45 = .ok (.putfield 16, 3) := by decide +kernel
theorem dX4_setRange_48 : decode cX4_setRange 48 = .ok (.return_, 1) := by decide +kernel
theorem dX4_number_0 : decode cX4_number 0 = .ok (.iload_n 1, 1) := by decide +kernel
theorem dX4_number_1 : decode cX4_number 1 = .ok (.tableswitch 51 0 3 #[31, 36, 41, 46], 31) := by decide +kernel
theorem dX4_number_32 : decode cX4_number 32 = .ok (.aload_n 0, 1) := by decide +kernel
theorem dX4_number_33 : decode cX4_number 33 = .ok (.getfield 19, 3) := by decide +kernel
theorem dX4_number_36 : decode cX4_number 36 = .ok (.ireturn, 1) := by decide +kernel
theorem dX4_number_37 : decode cX4_number 37 = .ok (.aload_n 0, 1) := by decide +kernel
theorem dX4_number_38 : decode cX4_number 38 = .ok (.getfield 22, 3) := by decide +kernel
theorem dX4_number_41 : decode cX4_number 41 = .ok (.ireturn, 1) := by decide +kernel
theorem dX4_number_42 : decode cX4_number 42 = .ok (.aload_n 0, 1) := by decide +kernel
theorem dX4_number_43 : decode cX4_number 43 = .ok (.getfield 25, 3) := by decide +kernel
theorem dX4_number_46 : decode cX4_number 46 = .ok (.ireturn, 1) := by decide +kernel
theorem dX4_number_47 : decode cX4_number 47 = .ok (.aload_n 0, 1) := by decide +kernel
theorem dX4_number_48 : decode cX4_number 48 = .ok (.getfield 28, 3) := by decide +kernel
theorem dX4_number_51 : decode cX4_number 51 = .ok (.ireturn, 1) := by decide +kernel
theorem dX4_number_52 : decode cX4_number 52 = .ok (.iload_n 1, 1) := by decide +kernel
theorem dX4_number_53 : decode cX4_number 53 = .ok (.iconst 2, 1) := by decide +kernel
theorem dX4_number_54 : decode cX4_number 54 = .ok (.irem, 1) := by decide +kernel
theorem dX4_number_55 : decode cX4_number 55 = .ok (.ifCond .ne 10, 3) := by decide +kernel
theorem dX4_number_58 : decode cX4_number 58 = .ok (.aload_n 0, 1) := by decide +kernel
theorem dX4_number_59 : decode cX4_number 59 = .ok (.getfield 9, 3) := by decide +kernel
theorem dX4_number_62 : decode cX4_number 62 = .ok (.goto 7, 3) := by decide +kernel
theorem dX4_number_65 : decode cX4_number 65 = .ok (.aload_n 0, 1) := by decide +kernel
theorem dX4_number_66 : decode cX4_number 66 = .ok (.getfield 16, 3) := by decide +kernel
theorem dX4_number_69 : decode cX4_number 69 = .ok (.bipush 6, 2) := by decide +kernel
theorem dX4_number_71 : decode cX4_number 71 = .ok (.iload_n 1, 1) := by decide +kernel
theorem dX4_number_72 : decode cX4_number 72 = .ok (.iconst 2, 1) := by decide +kernel
theorem dX4_number_73 : decode cX4_number 73 = .ok (.idiv, 1) := by decide +kernel
theorem dX4_number_74 : decode cX4_number 74 = .ok (.iconst 2, 1) := by decide +kernel
theorem dX4_number_75 : decode cX4_number 75 = .ok (.isub, 1) := by decide +kernel
theorem dX4_number_76 : decode cX4_number 76 = .ok (.imul, 1) := by decide +kernel
theorem dX4_number_77 : decode cX4_number 77 = .ok (.ishr, 1) := by decide +kernel
theorem dX4_number_78 : decode cX4_number 78 = .ok (.bipush 31, 2) := by decide +kernel
theorem dX4_number_80 : decode cX4_number 80 = .ok (.iand, 1) := by decide +kernel
theorem dX4_number_81 : decode cX4_number 81 = .ok (.ireturn, 1) := by decide +kernel
theorem dX4_admits_0 : decode cX4_admits 0 = .ok (.iload_n 1, 1) := by decide +kernel
theorem dX4_admits_1 : decode cX4_admits 1 = .ok (.ldc 31, 2) := by decide +kernel
theorem dX4_admits_3 : decode cX4_admits 3 = .ok (.ior, 1) := by decide +kernel
theorem dX4_admits_4 : decode cX4_admits 4 = .ok (.aload_n 0, 1) := by decide +kernel
theorem dX4_admits_5 : decode cX4_admits 5 = .ok (.getfield 9, 3) := by decide +kernel
theorem dX4_admits_8 : decode cX4_admits 8 = .ok (.isub, 1) := by decide +kernel
theorem dX4_admits_9 : decode cX4_admits 9 = .ok (.istore_n 2, 1) := by decide +kernel
theorem dX4_admits_10 : decode cX4_admits 10 = .ok (.aload_n 0, 1) := by decide +kernel
theorem dX4_admits_11 : decode cX4_admits 11 = .ok (.getfield 16, 3) := by decide +kernel
theorem dX4_admits_14 : decode cX4_admits 14 = .ok (.ldc 31, 2) := by decide +kernel
theorem dX4_admits_16 : decode cX4_admits 16 = .ok (.ior, 1) := by decide +kernel
theorem dX4_admits_17 : decode cX4_admits 17 = .ok (.iload_n 1, 1) := by decide +kernel
theorem dX4_admits_18 : decode cX4_admits 18 = .ok (.isub, 1) := by decide +kernel
theorem dX4_admits_19 : decode cX4_admits 19 = .ok (.istore_n 3, 1) := by decide +kernel
theorem dX4_admits_20 : decode cX4_admits 20 = .ok (.iload_n 2, 1) := by decide +kernel
theorem dX4_admits_21 : decode cX4_admits 21 = .ok (.iload_n 3, 1) := by decide +kernel
theorem dX4_admits_22 : decode cX4_admits 22 = .ok (.iand, 1) := by decide +kernel
theorem dX4_admits_23 : decode cX4_admits 23 = .ok (.ldc 31, 2) := by decide +kernel
theorem dX4_admits_25 : decode cX4_admits 25 = .ok (.iand, 1) := by decide +kernel
theorem dX4_admits_26 : decode cX4_admits 26 = .ok (.ldc 31, 2) := by decide +kernel
theorem dX4_admits_28 : decode cX4_admits 28 = .ok (.if_icmp .ne 7, 3) := by decide +kernel
theorem dX4_admits_31 : decode cX4_admits 31 = .ok (.iconst 1, 1) := by decide +kernel
theorem dX4_admits_32 : decode cX4_admits 32 = .ok (.goto 4, 3) := by decide +kernel
theorem dX4_admits_35 : decode cX4_admits 35 = .ok (.iconst 0, 1) := by decide +kernel
theorem dX4_admits_36 : decode cX4_admits 36 = .ok (.ireturn, 1) := by decide +kernel
theorem dX4_isOpen_0 : decode cX4_isOpen 0 = .ok (.aload_n 0, 1) := by decide +kernel
theorem dX4_isOpen_1 : decode cX4_isOpen 1 = .ok (.getfield 19, 3) := by decide +kernel
theorem dX4_isOpen_4 : decode cX4_isOpen 4 = .ok (.aload_n 1, 1) := by decide +kernel
theorem dX4_isOpen_5 : decode cX4_isOpen 5 = .ok (.getfield 32, 3) := by decide +kernel
theorem dX4_isOpen_8 : decode cX4_isOpen 8 = .ok (.if_icmp .eq 5, 3) := by decide +kernel
theorem dX4_isOpen_11 : decode cX4_isOpen 11 = .ok (.iconst 0, 1) := by decide +kernel
theorem dX4_isOpen_12 : decode cX4_isOpen 12 = .ok (.ireturn, 1) := by decide +kernel
theorem dX4_isOpen_13 : decode cX4_isOpen 13 = .ok (.aload_n 0, 1) := by decide +kernel
theorem dX4_isOpen_14 : decode cX4_isOpen 14 = .ok (.getfield 22, 3) := by decide +kernel
theorem dX4_isOpen_17 : decode cX4_isOpen 17 = .ok (.bipush 25, 2) := by decide +kernel
theorem dX4_isOpen_19 : decode cX4_isOpen 19 = .ok (.if_icmp .ne 18, 3) := by decide +kernel
theorem dX4_isOpen_22 : decode cX4_isOpen 22 = .ok (.aload_n 1, 1) := by decide +kernel
theorem dX4_isOpen_23 : decode cX4_isOpen 23 = .ok (.getfield 35, 3) := by decide +kernel
theorem dX4_isOpen_26 : decode cX4_isOpen 26 = .ok (.ifCond .ne 7, 3) := by decide +kernel
theorem dX4_isOpen_29 : decode cX4_isOpen 29 = .ok (.iconst 1, 1) := by decide +kernel
theorem dX4_isOpen_30 : decode cX4_isOpen 30 = .ok (.goto 23, 3) := by decide +kernel
theorem dX4_isOpen_33 : decode cX4_isOpen 33 = .ok (.iconst 0, 1) := by decide +kernel
theorem dX4_isOpen_34 : decode cX4_isOpen 34 = .ok (.goto 19, 3) := by decide +kernel
theorem dX4_isOpen_37 : decode cX4_isOpen 37 = .ok (.aload_n 0, 1) := by decide +kernel
theorem dX4_isOpen_38 : decode cX4_isOpen 38 = .ok (.getfield 22, 3) := by decide +kernel
theorem dX4_isOpen_41 : decode cX4_isOpen 41 = .ok (.aload_n 1, 1) := by decide +kernel
theorem dX4_isOpen_42 : decode cX4_isOpen 42 = .ok (.getfield 36, 3) := by decide +kernel
theorem dX4_isOpen_45 : decode cX4_isOpen 45 = .ok (.if_icmp .le 7, 3) := by decide +kernel
theorem dX4_isOpen_48 : decode cX4_isOpen 48 = .ok (.iconst 1, 1) := by decide +kernel
theorem dX4_isOpen_49 : decode cX4_isOpen 49 = .ok (.goto 4, 3) := by decide +kernel
theorem dX4_isOpen_52 : decode cX4_isOpen 52 = .ok (.iconst 0, 1) := by decide +kernel
theorem dX4_isOpen_53 : decode cX4_isOpen 53 = .ok (.ireturn, 1) := by decide +kernel
theorem dX5_init_0 : decode cX5_init 0 = .ok (.aload_n 0, 1) := by decide +kernel
theorem dX5_init_1 : decode cX5_init 1 = .ok (.invokespecial 3, 3) := by decide +kernel
theorem dX5_init_4 : decode cX5_init 4 = .ok (.aload_n 0, 1) := by decide +kernel
theorem dX5_init_5 : decode cX5_init 5 = .ok (.new 9, 3) := by decide +kernel
theorem dX5_init_8 : decode cX5_init 8 = .ok (.dup, 1) := by decide +kernel
theorem dX5_init_9 : decode cX5_init 9 = .ok (.iconst 0, 1) := by decide +kernel
theorem dX5_init_10 : decode cX5_init 10 = .ok (.iconst 0, 1) := by decide +kernel
theorem dX5_init_11 : decode cX5_init 11 = .ok (.iconst 0, 1) := by decide +kernel
theorem dX5_init_12 : decode cX5_init 12 = .ok (.iconst 0, 1) := by decide +kernel
theorem dX5_init_13 : decode cX5_init 13 = .ok (.invokespecial 11, 3) := by decide +kernel
theorem dX5_init_16 : decode cX5_init 16 = .ok (.putfield 14, 3) := by decide +kernel
theorem dX5_init_19 : decode cX5_init 19 = .ok (.aload_n 0, 1) := by decide +kernel
theorem dX5_init_20 : decode cX5_init 20 = .ok (.iconst 0, 1) := by decide +kernel
theorem dX5_init_21 : decode cX5_init 21 = .ok (.putfield 20, 3) := by decide +kernel
theorem dX5_init_24 : decode cX5_init 24 = .ok (.aload_n 0, 1) := by decide +kernel
theorem dX5_init_25 : decode cX5_init 25 = .ok (.iconst 0, 1) := by decide +kernel
theorem dX5_init_26 : decode cX5_init 26 = .ok (.putfield 24, 3) := by decide +kernel
theorem dX5_init_29 : decode cX5_init 29 = .ok (.aload_n 0, 1) := by decide +kernel
theorem dX5_init_30 : decode cX5_init 30 = .ok (.aload_n 1, 1) := by decide +kernel
theorem dX5_init_31 : decode cX5_init 31 = .ok (.putfield 27, 3) := by decide +kernel
theorem dX5_init_34 : decode cX5_init 34 = .ok (.return_, 1) := by decide +kernel
theorem dX5_readsWhole_0 : decode cX5_readsWhole 0 = .ok (.aload_n 0, 1) := by decide +kernel
theorem dX5_readsWhole_1 : decode cX5_readsWhole 1 = .ok (.invokevirtual 31, 3) := by decide +kernel
theorem dX5_readsWhole_4 : decode cX5_readsWhole 4 = .ok (.ifCond .ne 5, 3) := by decide +kernel
theorem dX5_readsWhole_7 : decode cX5_readsWhole 7 = .ok (.iconst 0, 1) := by decide +kernel
theorem dX5_readsWhole_8 : decode cX5_readsWhole 8 = .ok (.ireturn, 1) := by decide +kernel
theorem dX5_readsWhole_9 : decode cX5_readsWhole 9 = .ok (.iconst 0, 1) := by decide +kernel
theorem dX5_readsWhole_10 : decode cX5_readsWhole 10 = .ok (.istore_n 1, 1) := by decide +kernel
theorem dX5_readsWhole_11 : decode cX5_readsWhole 11 = .ok (.iload_n 1, 1) := by decide +kernel
theorem dX5_readsWhole_12 : decode cX5_readsWhole 12 = .ok (.bipush 60, 2) := by decide +kernel
theorem dX5_readsWhole_14 : decode cX5_readsWhole 14 = .ok (.if_icmp .ge 43, 3) := by decide +kernel
theorem dX5_readsWhole_17 : decode cX5_readsWhole 17 = .ok (.aload_n 0, 1) := by decide +kernel
theorem dX5_readsWhole_18 : decode cX5_readsWhole 18 = .ok (.getfield 20, 3) := by decide +kernel
theorem dX5_readsWhole_21 : decode cX5_readsWhole 21 = .ok (.aload_n 0, 1) := by decide +kernel
theorem dX5_readsWhole_22 : decode cX5_readsWhole 22 = .ok (.getfield 27, 3) := by decide +kernel
theorem dX5_readsWhole_25 : decode cX5_readsWhole 25 = .ok (.invokevirtual 35, 3) := by decide +kernel
theorem dX5_readsWhole_28 : decode cX5_readsWhole 28 = .ok (.if_icmp .ge 29, 3) := by decide +kernel
theorem dX5_readsWhole_31 : decode cX5_readsWhole 31 = .ok (.aload_n 0, 1) := by decide +kernel
theorem dX5_readsWhole_32 : decode cX5_readsWhole 32 = .ok (.invokevirtual 41, 3) := by decide +kernel
theorem dX5_readsWhole_35 : decode cX5_readsWhole 35 = .ok (.istore_n 2, 1) := by decide +kernel
theorem dX5_readsWhole_36 : decode cX5_readsWhole 36 = .ok (.iload_n 2, 1) := by decide +kernel
theorem dX5_readsWhole_37 : decode cX5_readsWhole 37 = .ok (.iconst (-1), 1) := by decide +kernel
theorem dX5_readsWhole_38 : decode cX5_readsWhole 38 = .ok (.if_icmp .eq 11, 3) := by decide +kernel
theorem dX5_readsWhole_41 : decode cX5_readsWhole 41 = .ok (.aload_n 0, 1) := by decide +kernel
theorem dX5_readsWhole_42 : decode cX5_readsWhole 42 = .ok (.iload_n 2, 1) := by decide +kernel
theorem dX5_readsWhole_43 : decode cX5_readsWhole 43 = .ok (.invokevirtual 44, 3) := by decide +kernel
theorem dX5_readsWhole_46 : decode cX5_readsWhole 46 = .ok (.ifCond .ne 5, 3) := by decide +kernel
theorem dX5_readsWhole_49 : decode cX5_readsWhole 49 = .ok (.iconst 0, 1) := by decide +kernel
theorem dX5_readsWhole_50 : decode cX5_readsWhole 50 = .ok (.ireturn, 1) := by decide +kernel
theorem dX5_readsWhole_51 : decode cX5_readsWhole 51 = .ok (.iinc 1 1, 3) := by decide +kernel
theorem dX5_readsWhole_54 : decode cX5_readsWhole 54 = .ok (.goto (-43), 3) := by decide +kernel
theorem dX5_readsWhole_57 : decode cX5_readsWhole 57 = .ok (.aload_n 0, 1) := by decide +kernel
theorem dX5_readsWhole_58 : decode cX5_readsWhole 58 = .ok (.getfield 20, 3) := by decide +kernel
theorem dX5_readsWhole_61 : decode cX5_readsWhole 61 = .ok (.aload_n 0, 1) := by decide +kernel
theorem dX5_readsWhole_62 : decode cX5_readsWhole 62 = .ok (.getfield 27, 3) := by decide +kernel
theorem dX5_readsWhole_65 : decode cX5_readsWhole 65 = .ok (.invokevirtual 35, 3) := by decide +kernel
theorem dX5_readsWhole_68 : decode cX5_readsWhole 68 = .ok (.if_icmp .ne 7, 3) := by decide +kernel
theorem dX5_readsWhole_71 : decode cX5_readsWhole 71 = .ok (.iconst 1, 1) := by decide +kernel
theorem dX5_readsWhole_72 : decode cX5_readsWhole 72 = .ok (.goto 4, 3) := by decide +kernel
theorem dX5_readsWhole_75 : decode cX5_readsWhole 75 = .ok (.iconst 0, 1) := by decide +kernel
theorem dX5_readsWhole_76 : decode cX5_readsWhole 76 = .ok (.ireturn, 1) := by decide +kernel
theorem dX5_readsHead_0 : decode cX5_readsHead 0 = .ok (.aload_n 0, 1) := by decide +kernel
theorem dX5_readsHead_1 : decode cX5_readsHead 1 = .ok (.getfield 14, 3) := by decide +kernel
theorem dX5_readsHead_4 : decode cX5_readsHead 4 = .ok (.aload_n 0, 1) := by decide +kernel
theorem dX5_readsHead_5 : decode cX5_readsHead 5 = .ok (.iconst 0, 1) := by decide +kernel
theorem dX5_readsHead_6 : decode cX5_readsHead 6 = .ok (.bipush 7, 2) := by decide +kernel
theorem dX5_readsHead_8 : decode cX5_readsHead 8 = .ok (.invokevirtual 48, 3) := by decide +kernel
theorem dX5_readsHead_11 : decode cX5_readsHead 11 = .ok (.putfield 52, 3) := by decide +kernel
theorem dX5_readsHead_14 : decode cX5_readsHead 14 = .ok (.aload_n 0, 1) := by decide +kernel
theorem dX5_readsHead_15 : decode cX5_readsHead 15 = .ok (.getfield 14, 3) := by decide +kernel
theorem dX5_readsHead_18 : decode cX5_readsHead 18 = .ok (.getfield 52, 3) := by decide +kernel
theorem dX5_readsHead_21 : decode cX5_readsHead 21 = .ok (.iconst (-1), 1) := by decide +kernel
theorem dX5_readsHead_22 : decode cX5_readsHead 22 = .ok (.if_icmp .eq 12, 3) := by decide +kernel
theorem dX5_readsHead_25 : decode cX5_readsHead 25 = .ok (.aload_n 0, 1) := by decide +kernel
theorem dX5_readsHead_26 : decode cX5_readsHead 26 = .ok (.bipush 58, 2) := by decide +kernel
theorem dX5_readsHead_28 : decode cX5_readsHead 28 = .ok (.invokevirtual 55, 3) := by decide +kernel
theorem dX5_readsHead_31 : decode cX5_readsHead 31 = .ok (.ifCond .ne 5, 3) := by decide +kernel
theorem dX5_readsHead_34 : decode cX5_readsHead 34 = .ok (.iconst 0, 1) := by decide +kernel
theorem dX5_readsHead_35 : decode cX5_readsHead 35 = .ok (.ireturn, 1) := by decide +kernel
theorem dX5_readsHead_36 : decode cX5_readsHead 36 = .ok (.aload_n 0, 1) := by decide +kernel
theorem dX5_readsHead_37 : decode cX5_readsHead 37 = .ok (.getfield 14, 3) := by decide +kernel
theorem dX5_readsHead_40 : decode cX5_readsHead 40 = .ok (.aload_n 0, 1) := by decide +kernel
theorem dX5_readsHead_41 : decode cX5_readsHead 41 = .ok (.invokevirtual 59, 3) := by decide +kernel
theorem dX5_readsHead_44 : decode cX5_readsHead 44 = .ok (.putfield 62, 3) := by decide +kernel
theorem dX5_readsHead_47 : decode cX5_readsHead 47 = .ok (.aload_n 0, 1) := by decide +kernel
theorem dX5_readsHead_48 : decode cX5_readsHead 48 = .ok (.getfield 14, 3) := by decide +kernel
theorem dX5_readsHead_51 : decode cX5_readsHead 51 = .ok (.getfield 62, 3) := by decide +kernel
theorem dX5_readsHead_54 : decode cX5_readsHead 54 = .ok (.iconst (-1), 1) := by decide +kernel
theorem dX5_readsHead_55 : decode cX5_readsHead 55 = .ok (.if_icmp .eq 12, 3) := by decide +kernel
theorem dX5_readsHead_58 : decode cX5_readsHead 58 = .ok (.aload_n 0, 1) := by decide +kernel
theorem dX5_readsHead_59 : decode cX5_readsHead 59 = .ok (.bipush 62, 2) := by decide +kernel
theorem dX5_readsHead_61 : decode cX5_readsHead 61 = .ok (.invokevirtual 55, 3) := by decide +kernel
theorem dX5_readsHead_64 : decode cX5_readsHead 64 = .ok (.ifCond .ne 5, 3) := by decide +kernel
theorem dX5_readsHead_67 : decode cX5_readsHead 67 = .ok (.iconst 0, 1) := by decide +kernel
theorem dX5_readsHead_68 : decode cX5_readsHead 68 = .ok (.ireturn, 1) := by decide +kernel
theorem dX5_readsHead_69 : decode cX5_readsHead 69 = .ok (.aload_n 0, 1) := by decide +kernel
theorem dX5_readsHead_70 : decode cX5_readsHead 70 = .ok (.getfield 14, 3) := by decide +kernel
theorem dX5_readsHead_73 : decode cX5_readsHead 73 = .ok (.aload_n 0, 1) := by decide +kernel
theorem dX5_readsHead_74 : decode cX5_readsHead 74 = .ok (.iconst 0, 1) := by decide +kernel
theorem dX5_readsHead_75 : decode cX5_readsHead 75 = .ok (.bipush 7, 2) := by decide +kernel
theorem dX5_readsHead_77 : decode cX5_readsHead 77 = .ok (.invokevirtual 48, 3) := by decide +kernel
theorem dX5_readsHead_80 : decode cX5_readsHead 80 = .ok (.putfield 65, 3) := by decide +kernel
theorem dX5_readsHead_83 : decode cX5_readsHead 83 = .ok (.aload_n 0, 1) := by decide +kernel
theorem dX5_readsHead_84 : decode cX5_readsHead 84 = .ok (.getfield 14, 3) := by decide +kernel
theorem dX5_readsHead_87 : decode cX5_readsHead 87 = .ok (.getfield 65, 3) := by decide +kernel
theorem dX5_readsHead_90 : decode cX5_readsHead 90 = .ok (.iconst (-1), 1) := by decide +kernel
theorem dX5_readsHead_91 : decode cX5_readsHead 91 = .ok (.if_icmp .ne 5, 3) := by decide +kernel
theorem dX5_readsHead_94 : decode cX5_readsHead 94 = .ok (.iconst 0, 1) := by decide +kernel
theorem dX5_readsHead_95 : decode cX5_readsHead 95 = .ok (.ireturn, 1) := by decide +kernel
theorem dX5_readsHead_96 : decode cX5_readsHead 96 = .ok (.aload_n 0, 1) := by decide +kernel
theorem dX5_readsHead_97 : decode cX5_readsHead 97 = .ok (.getfield 14, 3) := by decide +kernel
theorem dX5_readsHead_100 : decode cX5_readsHead 100 = .ok (.aload_n 0, 1) := by decide +kernel
theorem dX5_readsHead_101 : decode cX5_readsHead 101 = .ok (.bipush 33, 2) := by decide +kernel
theorem dX5_readsHead_103 : decode cX5_readsHead 103 = .ok (.invokevirtual 55, 3) := by decide +kernel
theorem dX5_readsHead_106 : decode cX5_readsHead 106 = .ok (.ifCond .eq 7, 3) := by decide +kernel
theorem dX5_readsHead_109 : decode cX5_readsHead 109 = .ok (.iconst 1, 1) := by decide +kernel
theorem dX5_readsHead_110 : decode cX5_readsHead 110 = .ok (.goto 4, 3) := by decide +kernel
theorem dX5_readsHead_113 : decode cX5_readsHead 113 = .ok (.iconst 0, 1) := by decide +kernel
theorem dX5_readsHead_114 : decode cX5_readsHead 114 = .ok (.putfield 68, 3) := by decide +kernel
theorem dX5_readsHead_117 : decode cX5_readsHead 117 = .ok (.iconst 1, 1) := by decide +kernel
theorem dX5_readsHead_118 : decode cX5_readsHead 118 = .ok (.ireturn, 1) := by decide +kernel
theorem dX5_readCall_0 : decode cX5_readCall 0 = .ok (.aload_n 0, 1) := by decide +kernel
theorem dX5_readCall_1 : decode cX5_readCall 1 = .ok (.bipush 112, 2) := by decide +kernel
theorem dX5_readCall_3 : decode cX5_readCall 3 = .ok (.invokevirtual 55, 3) := by decide +kernel
theorem dX5_readCall_6 : decode cX5_readCall 6 = .ok (.ifCond .eq 6, 3) := by decide +kernel
theorem dX5_readCall_9 : decode cX5_readCall 9 = .ok (.bipush 25, 2) := by decide +kernel
theorem dX5_readCall_11 : decode cX5_readCall 11 = .ok (.ireturn, 1) := by decide +kernel
theorem dX5_readCall_12 : decode cX5_readCall 12 = .ok (.aload_n 0, 1) := by decide +kernel
theorem dX5_readCall_13 : decode cX5_readCall 13 = .ok (.iconst 1, 1) := by decide +kernel
theorem dX5_readCall_14 : decode cX5_readCall 14 = .ok (.iconst 5, 1) := by decide +kernel
theorem dX5_readCall_15 : decode cX5_readCall 15 = .ok (.invokevirtual 48, 3) := by decide +kernel
theorem dX5_readCall_18 : decode cX5_readCall 18 = .ok (.istore_n 1, 1) := by decide +kernel
theorem dX5_readCall_19 : decode cX5_readCall 19 = .ok (.iload_n 1, 1) := by decide +kernel
theorem dX5_readCall_20 : decode cX5_readCall 20 = .ok (.iconst (-1), 1) := by decide +kernel
theorem dX5_readCall_21 : decode cX5_readCall 21 = .ok (.if_icmp .ne 5, 3) := by decide +kernel
theorem dX5_readCall_24 : decode cX5_readCall 24 = .ok (.iconst (-1), 1) := by decide +kernel
theorem dX5_readCall_25 : decode cX5_readCall 25 = .ok (.ireturn, 1) := by decide +kernel
theorem dX5_readCall_26 : decode cX5_readCall 26 = .ok (.aload_n 0, 1) := by decide +kernel
theorem dX5_readCall_27 : decode cX5_readCall 27 = .ok (.invokevirtual 71, 3) := by decide +kernel
theorem dX5_readCall_30 : decode cX5_readCall 30 = .ok (.bipush 110, 2) := by decide +kernel
theorem dX5_readCall_32 : decode cX5_readCall 32 = .ok (.if_icmp .ne 7, 3) := by decide +kernel
theorem dX5_readCall_35 : decode cX5_readCall 35 = .ok (.iconst 4, 1) := by decide +kernel
theorem dX5_readCall_36 : decode cX5_readCall 36 = .ok (.goto 7, 3) := by decide +kernel
theorem dX5_readCall_39 : decode cX5_readCall 39 = .ok (.aload_n 0, 1) := by decide +kernel
theorem dX5_readCall_40 : decode cX5_readCall 40 = .ok (.invokevirtual 74, 3) := by decide +kernel
theorem dX5_readCall_43 : decode cX5_readCall 43 = .ok (.istore_n 2, 1) := by decide +kernel
theorem dX5_readCall_44 : decode cX5_readCall 44 = .ok (.iload_n 2, 1) := by decide +kernel
theorem dX5_readCall_45 : decode cX5_readCall 45 = .ok (.iconst (-1), 1) := by decide +kernel
theorem dX5_readCall_46 : decode cX5_readCall 46 = .ok (.if_icmp .ne 5, 3) := by decide +kernel
theorem dX5_readCall_49 : decode cX5_readCall 49 = .ok (.iconst (-1), 1) := by decide +kernel
theorem dX5_readCall_50 : decode cX5_readCall 50 = .ok (.ireturn, 1) := by decide +kernel
theorem dX5_readCall_51 : decode cX5_readCall 51 = .ok (.aload_n 0, 1) := by decide +kernel
theorem dX5_readCall_52 : decode cX5_readCall 52 = .ok (.dup, 1) := by decide +kernel
theorem dX5_readCall_53 : decode cX5_readCall 53 = .ok (.getfield 20, 3) := by decide +kernel
theorem dX5_readCall_56 : decode cX5_readCall 56 = .ok (.iconst 1, 1) := by decide +kernel
theorem dX5_readCall_57 : decode cX5_readCall 57 = .ok (.iadd, 1) := by decide +kernel
theorem dX5_readCall_58 : decode cX5_readCall 58 = .ok (.putfield 20, 3) := by decide +kernel
theorem dX5_readCall_61 : decode cX5_readCall 61 = .ok (.iload_n 1, 1) := by decide +kernel
theorem dX5_readCall_62 : decode cX5_readCall 62 = .ok (.iconst 1, 1) := by decide +kernel
theorem dX5_readCall_63 : decode cX5_readCall 63 = .ok (.isub, 1) := by decide +kernel
theorem dX5_readCall_64 : decode cX5_readCall 64 = .ok (.iconst 5, 1) := by decide +kernel
theorem dX5_readCall_65 : decode cX5_readCall 65 = .ok (.imul, 1) := by decide +kernel
theorem dX5_readCall_66 : decode cX5_readCall 66 = .ok (.iload_n 2, 1) := by decide +kernel
theorem dX5_readCall_67 : decode cX5_readCall 67 = .ok (.iadd, 1) := by decide +kernel
theorem dX5_readCall_68 : decode cX5_readCall 68 = .ok (.ireturn, 1) := by decide +kernel
theorem dX5_readKind_0 : decode cX5_readKind 0 = .ok (.aload_n 0, 1) := by decide +kernel
theorem dX5_readKind_1 : decode cX5_readKind 1 = .ok (.bipush 44, 2) := by decide +kernel
theorem dX5_readKind_3 : decode cX5_readKind 3 = .ok (.invokevirtual 55, 3) := by decide +kernel
theorem dX5_readKind_6 : decode cX5_readKind 6 = .ok (.ifCond .ne 5, 3) := by decide +kernel
theorem dX5_readKind_9 : decode cX5_readKind 9 = .ok (.iconst (-1), 1) := by decide +kernel
theorem dX5_readKind_10 : decode cX5_readKind 10 = .ok (.ireturn, 1) := by decide +kernel
theorem dX5_readKind_11 : decode cX5_readKind 11 = .ok (.aload_n 0, 1) := by decide +kernel
theorem dX5_readKind_12 : decode cX5_readKind 12 = .ok (.invokevirtual 71, 3) := by decide +kernel
theorem dX5_readKind_15 : decode cX5_readKind 15 = .ok (.bipush 43, 2) := by decide +kernel
theorem dX5_readKind_17 : decode cX5_readKind 17 = .ok (.if_icmp .ne 7, 3) := by decide +kernel
theorem dX5_readKind_20 : decode cX5_readKind 20 = .ok (.iconst 4, 1) := by decide +kernel
theorem dX5_readKind_21 : decode cX5_readKind 21 = .ok (.goto 7, 3) := by decide +kernel
theorem dX5_readKind_24 : decode cX5_readKind 24 = .ok (.aload_n 0, 1) := by decide +kernel
theorem dX5_readKind_25 : decode cX5_readKind 25 = .ok (.invokevirtual 74, 3) := by decide +kernel
theorem dX5_readKind_28 : decode cX5_readKind 28 = .ok (.istore_n 1, 1) := by decide +kernel
theorem dX5_readKind_29 : decode cX5_readKind 29 = .ok (.iload_n 1, 1) := by decide +kernel
theorem dX5_readKind_30 : decode cX5_readKind 30 = .ok (.iconst (-1), 1) := by decide +kernel
theorem dX5_readKind_31 : decode cX5_readKind 31 = .ok (.if_icmp .eq 15, 3) := by decide +kernel
theorem dX5_readKind_34 : decode cX5_readKind 34 = .ok (.aload_n 0, 1) := by decide +kernel
theorem dX5_readKind_35 : decode cX5_readKind 35 = .ok (.getfield 24, 3) := by decide +kernel
theorem dX5_readKind_38 : decode cX5_readKind 38 = .ok (.iload_n 1, 1) := by decide +kernel
theorem dX5_readKind_39 : decode cX5_readKind 39 = .ok (.ishr, 1) := by decide +kernel
theorem dX5_readKind_40 : decode cX5_readKind 40 = .ok (.iconst 1, 1) := by decide +kernel
theorem dX5_readKind_41 : decode cX5_readKind 41 = .ok (.iand, 1) := by decide +kernel
theorem dX5_readKind_42 : decode cX5_readKind 42 = .ok (.iconst 1, 1) := by decide +kernel
theorem dX5_readKind_43 : decode cX5_readKind 43 = .ok (.if_icmp .ne 5, 3) := by decide +kernel
theorem dX5_readKind_46 : decode cX5_readKind 46 = .ok (.iconst (-1), 1) := by decide +kernel
theorem dX5_readKind_47 : decode cX5_readKind 47 = .ok (.ireturn, 1) := by decide +kernel
theorem dX5_readKind_48 : decode cX5_readKind 48 = .ok (.aload_n 0, 1) := by decide +kernel
theorem dX5_readKind_49 : decode cX5_readKind 49 = .ok (.dup, 1) := by decide +kernel
theorem dX5_readKind_50 : decode cX5_readKind 50 = .ok (.getfield 20, 3) := by decide +kernel
theorem dX5_readKind_53 : decode cX5_readKind 53 = .ok (.iconst 1, 1) := by decide +kernel
theorem dX5_readKind_54 : decode cX5_readKind 54 = .ok (.iadd, 1) := by decide +kernel
theorem dX5_readKind_55 : decode cX5_readKind 55 = .ok (.putfield 20, 3) := by decide +kernel
theorem dX5_readKind_58 : decode cX5_readKind 58 = .ok (.aload_n 0, 1) := by decide +kernel
theorem dX5_readKind_59 : decode cX5_readKind 59 = .ok (.dup, 1) := by decide +kernel
theorem dX5_readKind_60 : decode cX5_readKind 60 = .ok (.getfield 24, 3) := by decide +kernel
theorem dX5_readKind_63 : decode cX5_readKind 63 = .ok (.iconst 1, 1) := by decide +kernel
theorem dX5_readKind_64 : decode cX5_readKind 64 = .ok (.iload_n 1, 1) := by decide +kernel
theorem dX5_readKind_65 : decode cX5_readKind 65 = .ok (.ishl, 1) := by decide +kernel
theorem dX5_readKind_66 : decode cX5_readKind 66 = .ok (.ior, 1) := by decide +kernel
theorem dX5_readKind_67 : decode cX5_readKind 67 = .ok (.putfield 24, 3) := by decide +kernel
theorem dX5_readKind_70 : decode cX5_readKind 70 = .ok (.iload_n 1, 1) := by decide +kernel
theorem dX5_readKind_71 : decode cX5_readKind 71 = .ok (.ireturn, 1) := by decide +kernel
theorem dX5_readsRange_0 : decode cX5_readsRange 0 = .ok (.iload_n 1, 1) := by decide +kernel
theorem dX5_readsRange_1 : decode cX5_readsRange 1 = .ok (.invokestatic 77, 3) := by decide +kernel
theorem dX5_readsRange_4 : decode cX5_readsRange 4 = .ok (.istore_n 2, 1) := by decide +kernel
theorem dX5_readsRange_5 : decode cX5_readsRange 5 = .ok (.aload_n 0, 1) := by decide +kernel
theorem dX5_readsRange_6 : decode cX5_readsRange 6 = .ok (.iload_n 2, 1) := by decide +kernel
theorem dX5_readsRange_7 : decode cX5_readsRange 7 = .ok (.invokevirtual 83, 3) := by decide +kernel
theorem dX5_readsRange_10 : decode cX5_readsRange 10 = .ok (.istore_n 3, 1) := by decide +kernel
theorem dX5_readsRange_11 : decode cX5_readsRange 11 = .ok (.iload_n 3, 1) := by decide +kernel
theorem dX5_readsRange_12 : decode cX5_readsRange 12 = .ok (.iconst (-1), 1) := by decide +kernel
theorem dX5_readsRange_13 : decode cX5_readsRange 13 = .ok (.if_icmp .eq 12, 3) := by decide +kernel
theorem dX5_readsRange_16 : decode cX5_readsRange 16 = .ok (.aload_n 0, 1) := by decide +kernel
theorem dX5_readsRange_17 : decode cX5_readsRange 17 = .ok (.bipush 45, 2) := by decide +kernel
theorem dX5_readsRange_19 : decode cX5_readsRange 19 = .ok (.invokevirtual 55, 3) := by decide +kernel
theorem dX5_readsRange_22 : decode cX5_readsRange 22 = .ok (.ifCond .ne 5, 3) := by decide +kernel
theorem dX5_readsRange_25 : decode cX5_readsRange 25 = .ok (.iconst 0, 1) := by decide +kernel
theorem dX5_readsRange_26 : decode cX5_readsRange 26 = .ok (.ireturn, 1) := by decide +kernel
theorem dX5_readsRange_27 : decode cX5_readsRange 27 = .ok (.aload_n 0, 1) := by decide +kernel
theorem dX5_readsRange_28 : decode cX5_readsRange 28 = .ok (.iload_n 2, 1) := by decide +kernel
theorem dX5_readsRange_29 : decode cX5_readsRange 29 = .ok (.invokevirtual 83, 3) := by decide +kernel
theorem dX5_readsRange_32 : decode cX5_readsRange 32 = .ok (.istore 4, 2) := by decide +kernel
theorem dX5_readsRange_34 : decode cX5_readsRange 34 = .ok (.iload 4, 2) := by decide +kernel
theorem dX5_readsRange_36 : decode cX5_readsRange 36 = .ok (.iconst (-1), 1) := by decide +kernel
theorem dX5_readsRange_37 : decode cX5_readsRange 37 = .ok (.if_icmp .ne 5, 3) := by decide +kernel
theorem dX5_readsRange_40 : decode cX5_readsRange 40 = .ok (.iconst 0, 1) := by decide +kernel
theorem dX5_readsRange_41 : decode cX5_readsRange 41 = .ok (.ireturn, 1) := by decide +kernel
theorem dX5_readsRange_42 : decode cX5_readsRange 42 = .ok (.iload 4, 2) := by decide +kernel
theorem dX5_readsRange_44 : decode cX5_readsRange 44 = .ok (.iload_n 3, 1) := by decide +kernel
theorem dX5_readsRange_45 : decode cX5_readsRange 45 = .ok (.if_icmp .ge 15, 3) := by decide +kernel
theorem dX5_readsRange_48 : decode cX5_readsRange 48 = .ok (.aload_n 0, 1) := by decide +kernel
theorem dX5_readsRange_49 : decode cX5_readsRange 49 = .ok (.dup, 1) := by decide +kernel
theorem dX5_readsRange_50 : decode cX5_readsRange 50 = .ok (.getfield 20, 3) := by decide +kernel
theorem dX5_readsRange_53 : decode cX5_readsRange 53 = .ok (.iconst 1, 1) := by decide +kernel
theorem dX5_readsRange_54 : decode cX5_readsRange 54 = .ok (.isub, 1) := by decide +kernel
theorem dX5_readsRange_55 : decode cX5_readsRange 55 = .ok (.putfield 20, 3) := by decide +kernel
theorem dX5_readsRange_58 : decode cX5_readsRange 58 = .ok (.iconst 0, 1) := by decide +kernel
theorem dX5_readsRange_59 : decode cX5_readsRange 59 = .ok (.ireturn, 1) := by decide +kernel
theorem dX5_readsRange_60 : decode cX5_readsRange 60 = .ok (.aload_n 0, 1) := by decide +kernel
theorem dX5_readsRange_61 : decode cX5_readsRange 61 = .ok (.getfield 14, 3) := by decide +kernel
theorem dX5_readsRange_64 : decode cX5_readsRange 64 = .ok (.iload_n 1, 1) := by decide +kernel
theorem dX5_readsRange_65 : decode cX5_readsRange 65 = .ok (.iload_n 3, 1) := by decide +kernel
theorem dX5_readsRange_66 : decode cX5_readsRange 66 = .ok (.iload 4, 2) := by decide +kernel
theorem dX5_readsRange_68 : decode cX5_readsRange 68 = .ok (.invokevirtual 86, 3) := by decide +kernel
theorem dX5_readsRange_71 : decode cX5_readsRange 71 = .ok (.iconst 1, 1) := by decide +kernel
theorem dX5_readsRange_72 : decode cX5_readsRange 72 = .ok (.ireturn, 1) := by decide +kernel
theorem dX5_readNumber_0 : decode cX5_readNumber 0 = .ok (.aload_n 0, 1) := by decide +kernel
theorem dX5_readNumber_1 : decode cX5_readNumber 1 = .ok (.iconst 0, 1) := by decide +kernel
theorem dX5_readNumber_2 : decode cX5_readNumber 2 = .ok (.iload_n 1, 1) := by decide +kernel
theorem dX5_readNumber_3 : decode cX5_readNumber 3 = .ok (.bipush 9, 2) := by decide +kernel
theorem dX5_readNumber_5 : decode cX5_readNumber 5 = .ok (.invokestatic 90, 3) := by decide +kernel
theorem dX5_readNumber_8 : decode cX5_readNumber 8 = .ok (.invokevirtual 48, 3) := by decide +kernel
theorem dX5_readNumber_11 : decode cX5_readNumber 11 = .ok (.istore_n 2, 1) := by decide +kernel
theorem dX5_readNumber_12 : decode cX5_readNumber 12 = .ok (.iload_n 2, 1) := by decide +kernel
theorem dX5_readNumber_13 : decode cX5_readNumber 13 = .ok (.ifCond .gt 5, 3) := by decide +kernel
theorem dX5_readNumber_16 : decode cX5_readNumber 16 = .ok (.iload_n 2, 1) := by decide +kernel
theorem dX5_readNumber_17 : decode cX5_readNumber 17 = .ok (.ireturn, 1) := by decide +kernel
theorem dX5_readNumber_18 : decode cX5_readNumber 18 = .ok (.aload_n 0, 1) := by decide +kernel
theorem dX5_readNumber_19 : decode cX5_readNumber 19 = .ok (.iconst 0, 1) := by decide +kernel
theorem dX5_readNumber_20 : decode cX5_readNumber 20 = .ok (.iload_n 1, 1) := by decide +kernel
theorem dX5_readNumber_21 : decode cX5_readNumber 21 = .ok (.bipush 10, 2) := by decide +kernel
theorem dX5_readNumber_23 : decode cX5_readNumber 23 = .ok (.iload_n 2, 1) := by decide +kernel
theorem dX5_readNumber_24 : decode cX5_readNumber 24 = .ok (.imul, 1) := by decide +kernel
theorem dX5_readNumber_25 : decode cX5_readNumber 25 = .ok (.isub, 1) := by decide +kernel
theorem dX5_readNumber_26 : decode cX5_readNumber 26 = .ok (.bipush 9, 2) := by decide +kernel
theorem dX5_readNumber_28 : decode cX5_readNumber 28 = .ok (.invokestatic 90, 3) := by decide +kernel
theorem dX5_readNumber_31 : decode cX5_readNumber 31 = .ok (.invokevirtual 48, 3) := by decide +kernel
theorem dX5_readNumber_34 : decode cX5_readNumber 34 = .ok (.istore_n 3, 1) := by decide +kernel
theorem dX5_readNumber_35 : decode cX5_readNumber 35 = .ok (.iload_n 3, 1) := by decide +kernel
theorem dX5_readNumber_36 : decode cX5_readNumber 36 = .ok (.iconst (-1), 1) := by decide +kernel
theorem dX5_readNumber_37 : decode cX5_readNumber 37 = .ok (.if_icmp .ne 7, 3) := by decide +kernel
theorem dX5_readNumber_40 : decode cX5_readNumber 40 = .ok (.iload_n 2, 1) := by decide +kernel
theorem dX5_readNumber_41 : decode cX5_readNumber 41 = .ok (.goto 9, 3) := by decide +kernel
theorem dX5_readNumber_44 : decode cX5_readNumber 44 = .ok (.bipush 10, 2) := by decide +kernel
theorem dX5_readNumber_46 : decode cX5_readNumber 46 = .ok (.iload_n 2, 1) := by decide +kernel
theorem dX5_readNumber_47 : decode cX5_readNumber 47 = .ok (.imul, 1) := by decide +kernel
theorem dX5_readNumber_48 : decode cX5_readNumber 48 = .ok (.iload_n 3, 1) := by decide +kernel
theorem dX5_readNumber_49 : decode cX5_readNumber 49 = .ok (.iadd, 1) := by decide +kernel
theorem dX5_readNumber_50 : decode cX5_readNumber 50 = .ok (.ireturn, 1) := by decide +kernel
theorem dX5_readDigit_0 : decode cX5_readDigit 0 = .ok (.aload_n 0, 1) := by decide +kernel
theorem dX5_readDigit_1 : decode cX5_readDigit 1 = .ok (.invokevirtual 71, 3) := by decide +kernel
theorem dX5_readDigit_4 : decode cX5_readDigit 4 = .ok (.bipush 48, 2) := by decide +kernel
theorem dX5_readDigit_6 : decode cX5_readDigit 6 = .ok (.isub, 1) := by decide +kernel
theorem dX5_readDigit_7 : decode cX5_readDigit 7 = .ok (.istore_n 3, 1) := by decide +kernel
theorem dX5_readDigit_8 : decode cX5_readDigit 8 = .ok (.iload_n 3, 1) := by decide +kernel
theorem dX5_readDigit_9 : decode cX5_readDigit 9 = .ok (.iload_n 1, 1) := by decide +kernel
theorem dX5_readDigit_10 : decode cX5_readDigit 10 = .ok (.if_icmp .lt 8, 3) := by decide +kernel
theorem dX5_readDigit_13 : decode cX5_readDigit 13 = .ok (.iload_n 3, 1) := by decide +kernel
theorem dX5_readDigit_14 : decode cX5_readDigit 14 = .ok (.iload_n 2, 1) := by decide +kernel
theorem dX5_readDigit_15 : decode cX5_readDigit 15 = .ok (.if_icmp .le 5, 3) := by decide +kernel
theorem dX5_readDigit_18 : decode cX5_readDigit 18 = .ok (.iconst (-1), 1) := by decide +kernel
theorem dX5_readDigit_19 : decode cX5_readDigit 19 = .ok (.ireturn, 1) := by decide +kernel
theorem dX5_readDigit_20 : decode cX5_readDigit 20 = .ok (.aload_n 0, 1) := by decide +kernel
theorem dX5_readDigit_21 : decode cX5_readDigit 21 = .ok (.dup, 1) := by decide +kernel
theorem dX5_readDigit_22 : decode cX5_readDigit 22 = .ok (.getfield 20, 3) := by decide +kernel
theorem dX5_readDigit_25 : decode cX5_readDigit 25 = .ok (.iconst 1, 1) := by decide +kernel
theorem dX5_readDigit_26 : decode cX5_readDigit 26 = .ok (.iadd, 1) := by decide +kernel
theorem dX5_readDigit_27 : decode cX5_readDigit 27 = .ok (.putfield 20, 3) := by decide +kernel
theorem dX5_readDigit_30 : decode cX5_readDigit 30 = .ok (.iload_n 3, 1) := by decide +kernel
theorem dX5_readDigit_31 : decode cX5_readDigit 31 = .ok (.ireturn, 1) := by decide +kernel
theorem dX5_reads_0 : decode cX5_reads 0 = .ok (.aload_n 0, 1) := by decide +kernel
theorem dX5_reads_1 : decode cX5_reads 1 = .ok (.invokevirtual 71, 3) := by decide +kernel
theorem dX5_reads_4 : decode cX5_reads 4 = .ok (.iload_n 1, 1) := by decide +kernel
theorem dX5_reads_5 : decode cX5_reads 5 = .ok (.if_icmp .eq 5, 3) := by decide +kernel
theorem dX5_reads_8 : decode cX5_reads 8 = .ok (.iconst 0, 1) := by decide +kernel
theorem dX5_reads_9 : decode cX5_reads 9 = .ok (.ireturn, 1) := by decide +kernel
theorem dX5_reads_10 : decode cX5_reads 10 = .ok (.aload_n 0, 1) := by decide +kernel
theorem dX5_reads_11 : decode cX5_reads 11 = .ok (.dup, 1) := by decide +kernel
theorem dX5_reads_12 : decode cX5_reads 12 = .ok (.getfield 20, 3) := by decide +kernel
theorem dX5_reads_15 : decode cX5_reads 15 = .ok (.iconst 1, 1) := by decide +kernel
theorem dX5_reads_16 : decode cX5_reads 16 = .ok (.iadd, 1) := by decide +kernel
theorem dX5_reads_17 : decode cX5_reads 17 = .ok (.putfield 20, 3) := by decide +kernel
theorem dX5_reads_20 : decode cX5_reads 20 = .ok (.iconst 1, 1) := by decide +kernel
theorem dX5_reads_21 : decode cX5_reads 21 = .ok (.ireturn, 1) := by decide +kernel
theorem dX5_suitOfSign_0 : decode cX5_suitOfSign 0 = .ok (.aload_n 0, 1) := by decide +kernel
theorem dX5_suitOfSign_1 : decode cX5_suitOfSign 1 = .ok (.invokevirtual 71, 3) := by decide +kernel
theorem dX5_suitOfSign_4 : decode cX5_suitOfSign 4 = .ok (.lookupswitch 52 #[(99, 44), (100, 46), (104, 48), (115, 50)], 44) := by decide +kernel
theorem dX5_suitOfSign_48 : decode cX5_suitOfSign 48 = .ok (.iconst 0, 1) := by decide +kernel
theorem dX5_suitOfSign_49 : decode cX5_suitOfSign 49 = .ok (.ireturn, 1) := by decide +kernel
theorem dX5_suitOfSign_50 : decode cX5_suitOfSign 50 = .ok (.iconst 1, 1) := by decide +kernel
theorem dX5_suitOfSign_51 : decode cX5_suitOfSign 51 = .ok (.ireturn, 1) := by decide +kernel
theorem dX5_suitOfSign_52 : decode cX5_suitOfSign 52 = .ok (.iconst 2, 1) := by decide +kernel
theorem dX5_suitOfSign_53 : decode cX5_suitOfSign 53 = .ok (.ireturn, 1) := by decide +kernel
theorem dX5_suitOfSign_54 : decode cX5_suitOfSign 54 = .ok (.iconst 3, 1) := by decide +kernel
theorem dX5_suitOfSign_55 : decode cX5_suitOfSign 55 = .ok (.ireturn, 1) := by decide +kernel
theorem dX5_suitOfSign_56 : decode cX5_suitOfSign 56 = .ok (.iconst (-1), 1) := by decide +kernel
theorem dX5_suitOfSign_57 : decode cX5_suitOfSign 57 = .ok (.ireturn, 1) := by decide +kernel
theorem dX5_sign_0 : decode cX5_sign 0 = .ok (.aload_n 0, 1) := by decide +kernel
theorem dX5_sign_1 : decode cX5_sign 1 = .ok (.getfield 20, 3) := by decide +kernel
theorem dX5_sign_4 : decode cX5_sign 4 = .ok (.ifCond .lt 17, 3) := by decide +kernel
theorem dX5_sign_7 : decode cX5_sign 7 = .ok (.aload_n 0, 1) := by decide +kernel
theorem dX5_sign_8 : decode cX5_sign 8 = .ok (.getfield 20, 3) := by decide +kernel
theorem dX5_sign_11 : decode cX5_sign 11 = .ok (.aload_n 0, 1) := by decide +kernel
theorem dX5_sign_12 : decode cX5_sign 12 = .ok (.getfield 27, 3) := by decide +kernel
theorem dX5_sign_15 : decode cX5_sign 15 = .ok (.invokevirtual 35, 3) := by decide +kernel
theorem dX5_sign_18 : decode cX5_sign 18 = .ok (.if_icmp .lt 5, 3) := by decide +kernel
theorem dX5_sign_21 : decode cX5_sign 21 = .ok (.iconst (-1), 1) := by decide +kernel
theorem dX5_sign_22 : decode cX5_sign 22 = .ok (.ireturn, 1) := by decide +kernel
theorem dX5_sign_23 : decode cX5_sign 23 = .ok (.aload_n 0, 1) := by decide +kernel
theorem dX5_sign_24 : decode cX5_sign 24 = .ok (.getfield 27, 3) := by decide +kernel
theorem dX5_sign_27 : decode cX5_sign 27 = .ok (.aload_n 0, 1) := by decide +kernel
theorem dX5_sign_28 : decode cX5_sign 28 = .ok (.getfield 20, 3) := by decide +kernel
theorem dX5_sign_31 : decode cX5_sign 31 = .ok (.invokevirtual 95, 3) := by decide +kernel
theorem dX5_sign_34 : decode cX5_sign 34 = .ok (.ireturn, 1) := by decide +kernel
theorem dX6_init_0 : decode cX6_init 0 = .ok (.aload_n 0, 1) := by decide +kernel
theorem dX6_init_1 : decode cX6_init 1 = .ok (.invokespecial 3, 3) := by decide +kernel
theorem dX6_init_4 : decode cX6_init 4 = .ok (.aload_n 0, 1) := by decide +kernel
theorem dX6_init_5 : decode cX6_init 5 = .ok (.new 9, 3) := by decide +kernel
theorem dX6_init_8 : decode cX6_init 8 = .ok (.dup, 1) := by decide +kernel
theorem dX6_init_9 : decode cX6_init 9 = .ok (.invokespecial 11, 3) := by decide +kernel
theorem dX6_init_12 : decode cX6_init 12 = .ok (.putfield 12, 3) := by decide +kernel
theorem dX6_init_15 : decode cX6_init 15 = .ok (.aload_n 0, 1) := by decide +kernel
theorem dX6_init_16 : decode cX6_init 16 = .ok (.new 16, 3) := by decide +kernel
theorem dX6_init_19 : decode cX6_init 19 = .ok (.dup, 1) := by decide +kernel
theorem dX6_init_20 : decode cX6_init 20 = .ok (.invokespecial 18, 3) := by decide +kernel
theorem dX6_init_23 : decode cX6_init 23 = .ok (.putfield 19, 3) := by decide +kernel
theorem dX6_init_26 : decode cX6_init 26 = .ok (.aload_n 0, 1) := by decide +kernel
theorem dX6_init_27 : decode cX6_init 27 = .ok (.new 23, 3) := by decide +kernel
theorem dX6_init_30 : decode cX6_init 30 = .ok (.dup, 1) := by decide +kernel
theorem dX6_init_31 : decode cX6_init 31 = .ok (.invokespecial 25, 3) := by decide +kernel
theorem dX6_init_34 : decode cX6_init 34 = .ok (.putfield 26, 3) := by decide +kernel
theorem dX6_init_37 : decode cX6_init 37 = .ok (.aload_n 0, 1) := by decide +kernel
theorem dX6_init_38 : decode cX6_init 38 = .ok (.bipush 31, 2) := by decide +kernel
theorem dX6_init_40 : decode cX6_init 40 = .ok (.putfield 30, 3) := by decide +kernel
theorem dX6_init_43 : decode cX6_init 43 = .ok (.aload_n 0, 1) := by decide +kernel
theorem dX6_init_44 : decode cX6_init 44 = .ok (.sipush 992, 3) := by decide +kernel
theorem dX6_init_47 : decode cX6_init 47 = .ok (.putfield 34, 3) := by decide +kernel
theorem dX6_init_50 : decode cX6_init 50 = .ok (.return_, 1) := by decide +kernel
theorem dX6_rule_0 : decode cX6_rule 0 = .ok (.iload_n 1, 1) := by decide +kernel
theorem dX6_rule_1 : decode cX6_rule 1 = .ok (.invokestatic 37, 3) := by decide +kernel
theorem dX6_rule_4 : decode cX6_rule 4 = .ok (.ifCond .eq 25, 3) := by decide +kernel
theorem dX6_rule_7 : decode cX6_rule 7 = .ok (.iload_n 2, 1) := by decide +kernel
theorem dX6_rule_8 : decode cX6_rule 8 = .ok (.invokestatic 41, 3) := by decide +kernel
theorem dX6_rule_11 : decode cX6_rule 11 = .ok (.ifCond .eq 18, 3) := by decide +kernel
theorem dX6_rule_14 : decode cX6_rule 14 = .ok (.iload_n 3, 1) := by decide +kernel
theorem dX6_rule_15 : decode cX6_rule 15 = .ok (.invokestatic 37, 3) := by decide +kernel
theorem dX6_rule_18 : decode cX6_rule 18 = .ok (.ifCond .eq 11, 3) := by decide +kernel
theorem dX6_rule_21 : decode cX6_rule 21 = .ok (.iload 4, 2) := by decide +kernel
theorem dX6_rule_23 : decode cX6_rule 23 = .ok (.invokestatic 44, 3) := by decide +kernel
theorem dX6_rule_26 : decode cX6_rule 26 = .ok (.ifCond .ne 6, 3) := by decide +kernel
theorem dX6_rule_29 : decode cX6_rule 29 = .ok (.bipush (-2), 2) := by decide +kernel
theorem dX6_rule_31 : decode cX6_rule 31 = .ok (.ireturn, 1) := by decide +kernel
theorem dX6_rule_32 : decode cX6_rule 32 = .ok (.aload_n 0, 1) := by decide +kernel
theorem dX6_rule_33 : decode cX6_rule 33 = .ok (.new 47, 3) := by decide +kernel
theorem dX6_rule_36 : decode cX6_rule 36 = .ok (.dup, 1) := by decide +kernel
theorem dX6_rule_37 : decode cX6_rule 37 = .ok (.iload_n 1, 1) := by decide +kernel
theorem dX6_rule_38 : decode cX6_rule 38 = .ok (.iload_n 2, 1) := by decide +kernel
theorem dX6_rule_39 : decode cX6_rule 39 = .ok (.iload_n 3, 1) := by decide +kernel
theorem dX6_rule_40 : decode cX6_rule 40 = .ok (.iload 4, 2) := by decide +kernel
theorem dX6_rule_42 : decode cX6_rule 42 = .ok (.invokespecial 49, 3) := by decide +kernel
theorem dX6_rule_45 : decode cX6_rule 45 = .ok (.invokevirtual 52, 3) := by decide +kernel
theorem dX6_rule_48 : decode cX6_rule 48 = .ok (.ireturn, 1) := by decide +kernel
theorem dX6_limit_0 : decode cX6_limit 0 = .ok (.aload_n 0, 1) := by decide +kernel
theorem dX6_limit_1 : decode cX6_limit 1 = .ok (.iload_n 1, 1) := by decide +kernel
theorem dX6_limit_2 : decode cX6_limit 2 = .ok (.invokevirtual 56, 3) := by decide +kernel
theorem dX6_limit_5 : decode cX6_limit 5 = .ok (.ifCond .ne 5, 3) := by decide +kernel
theorem dX6_limit_8 : decode cX6_limit 8 = .ok (.iconst (-1), 1) := by decide +kernel
theorem dX6_limit_9 : decode cX6_limit 9 = .ok (.ireturn, 1) := by decide +kernel
theorem dX6_limit_10 : decode cX6_limit 10 = .ok (.iload_n 2, 1) := by decide +kernel
theorem dX6_limit_11 : decode cX6_limit 11 = .ok (.ifCond .lt 8, 3) := by decide +kernel
theorem dX6_limit_14 : decode cX6_limit 14 = .ok (.iload_n 2, 1) := by decide +kernel
theorem dX6_limit_15 : decode cX6_limit 15 = .ok (.iconst 5, 1) := by decide +kernel
theorem dX6_limit_16 : decode cX6_limit 16 = .ok (.if_icmp .lt 6, 3) := by decide +kernel
theorem dX6_limit_19 : decode cX6_limit 19 = .ok (.bipush (-2), 2) := by decide +kernel
theorem dX6_limit_21 : decode cX6_limit 21 = .ok (.ireturn, 1) := by decide +kernel
theorem dX6_limit_22 : decode cX6_limit 22 = .ok (.iload_n 3, 1) := by decide +kernel
theorem dX6_limit_23 : decode cX6_limit 23 = .ok (.ifCond .lt 18, 3) := by decide +kernel
theorem dX6_limit_26 : decode cX6_limit 26 = .ok (.iload 4, 2) := by decide +kernel
theorem dX6_limit_28 : decode cX6_limit 28 = .ok (.iload_n 3, 1) := by decide +kernel
theorem dX6_limit_29 : decode cX6_limit 29 = .ok (.if_icmp .lt 12, 3) := by decide +kernel
theorem dX6_limit_32 : decode cX6_limit 32 = .ok (.iload 4, 2) := by decide +kernel
theorem dX6_limit_34 : decode cX6_limit 34 = .ok (.iload_n 2, 1) := by decide +kernel
theorem dX6_limit_35 : decode cX6_limit 35 = .ok (.invokestatic 59, 3) := by decide +kernel
theorem dX6_limit_38 : decode cX6_limit 38 = .ok (.if_icmp .le 6, 3) := by decide +kernel
theorem dX6_limit_41 : decode cX6_limit 41 = .ok (.bipush (-2), 2) := by decide +kernel
theorem dX6_limit_43 : decode cX6_limit 43 = .ok (.ireturn, 1) := by decide +kernel
theorem dX6_limit_44 : decode cX6_limit 44 = .ok (.aload_n 0, 1) := by decide +kernel
theorem dX6_limit_45 : decode cX6_limit 45 = .ok (.getfield 12, 3) := by decide +kernel
theorem dX6_limit_48 : decode cX6_limit 48 = .ok (.iload_n 1, 1) := by decide +kernel
theorem dX6_limit_49 : decode cX6_limit 49 = .ok (.invokevirtual 65, 3) := by decide +kernel
theorem dX6_limit_52 : decode cX6_limit 52 = .ok (.checkcast 47, 3) := by decide +kernel
theorem dX6_limit_55 : decode cX6_limit 55 = .ok (.astore 5, 2) := by decide +kernel
theorem dX6_limit_57 : decode cX6_limit 57 = .ok (.aload 5, 2) := by decide +kernel
theorem dX6_limit_59 : decode cX6_limit 59 = .ok (.iload_n 2, 1) := by decide +kernel
theorem dX6_limit_60 : decode cX6_limit 60 = .ok (.iload_n 3, 1) := by decide +kernel
theorem dX6_limit_61 : decode cX6_limit 61 = .ok (.iload 4, 2) := by decide +kernel
theorem dX6_limit_63 : decode cX6_limit 63 = .ok (.invokevirtual 69, 3) := by decide +kernel
theorem dX6_limit_66 : decode cX6_limit 66 = .ok (.aload_n 0, 1) := by decide +kernel
theorem dX6_limit_67 : decode cX6_limit 67 = .ok (.getfield 19, 3) := by decide +kernel
theorem dX6_limit_70 : decode cX6_limit 70 = .ok (.invokevirtual 73, 3) := by decide +kernel
theorem dX6_limit_73 : decode cX6_limit 73 = .ok (.aload_n 0, 1) := by decide +kernel
theorem dX6_limit_74 : decode cX6_limit 74 = .ok (.aload 5, 2) := by decide +kernel
theorem dX6_limit_76 : decode cX6_limit 76 = .ok (.invokevirtual 76, 3) := by decide +kernel
theorem dX6_limit_79 : decode cX6_limit 79 = .ok (.ireturn, 1) := by decide +kernel
theorem dX6_remove_0 : decode cX6_remove 0 = .ok (.aload_n 0, 1) := by decide +kernel
theorem dX6_remove_1 : decode cX6_remove 1 = .ok (.iload_n 1, 1) := by decide +kernel
theorem dX6_remove_2 : decode cX6_remove 2 = .ok (.invokevirtual 56, 3) := by decide +kernel
theorem dX6_remove_5 : decode cX6_remove 5 = .ok (.ifCond .ne 5, 3) := by decide +kernel
theorem dX6_remove_8 : decode cX6_remove 8 = .ok (.iconst (-1), 1) := by decide +kernel
theorem dX6_remove_9 : decode cX6_remove 9 = .ok (.ireturn, 1) := by decide +kernel
theorem dX6_remove_10 : decode cX6_remove 10 = .ok (.aload_n 0, 1) := by decide +kernel
theorem dX6_remove_11 : decode cX6_remove 11 = .ok (.getfield 12, 3) := by decide +kernel
theorem dX6_remove_14 : decode cX6_remove 14 = .ok (.iload_n 1, 1) := by decide +kernel
theorem dX6_remove_15 : decode cX6_remove 15 = .ok (.invokevirtual 79, 3) := by decide +kernel
theorem dX6_remove_18 : decode cX6_remove 18 = .ok (.pop, 1) := by decide +kernel
theorem dX6_remove_19 : decode cX6_remove 19 = .ok (.aload_n 0, 1) := by decide +kernel
theorem dX6_remove_20 : decode cX6_remove 20 = .ok (.getfield 19, 3) := by decide +kernel
theorem dX6_remove_23 : decode cX6_remove 23 = .ok (.invokevirtual 73, 3) := by decide +kernel
theorem dX6_remove_26 : decode cX6_remove 26 = .ok (.aload_n 0, 1) := by decide +kernel
theorem dX6_remove_27 : decode cX6_remove 27 = .ok (.getfield 12, 3) := by decide +kernel
theorem dX6_remove_30 : decode cX6_remove 30 = .ok (.invokevirtual 82, 3) := by decide +kernel
theorem dX6_remove_33 : decode cX6_remove 33 = .ok (.ireturn, 1) := by decide +kernel
theorem dX6_move_0 : decode cX6_move 0 = .ok (.aload_n 0, 1) := by decide +kernel
theorem dX6_move_1 : decode cX6_move 1 = .ok (.iload_n 1, 1) := by decide +kernel
theorem dX6_move_2 : decode cX6_move 2 = .ok (.invokevirtual 56, 3) := by decide +kernel
theorem dX6_move_5 : decode cX6_move 5 = .ok (.ifCond .eq 11, 3) := by decide +kernel
theorem dX6_move_8 : decode cX6_move 8 = .ok (.aload_n 0, 1) := by decide +kernel
theorem dX6_move_9 : decode cX6_move 9 = .ok (.iload_n 2, 1) := by decide +kernel
theorem dX6_move_10 : decode cX6_move 10 = .ok (.invokevirtual 56, 3) := by decide +kernel
theorem dX6_move_13 : decode cX6_move 13 = .ok (.ifCond .ne 5, 3) := by decide +kernel
theorem dX6_move_16 : decode cX6_move 16 = .ok (.iconst (-1), 1) := by decide +kernel
theorem dX6_move_17 : decode cX6_move 17 = .ok (.ireturn, 1) := by decide +kernel
theorem dX6_move_18 : decode cX6_move 18 = .ok (.aload_n 0, 1) := by decide +kernel
theorem dX6_move_19 : decode cX6_move 19 = .ok (.getfield 12, 3) := by decide +kernel
theorem dX6_move_22 : decode cX6_move 22 = .ok (.iload_n 1, 1) := by decide +kernel
theorem dX6_move_23 : decode cX6_move 23 = .ok (.invokevirtual 65, 3) := by decide +kernel
theorem dX6_move_26 : decode cX6_move 26 = .ok (.checkcast 47, 3) := by decide +kernel
theorem dX6_move_29 : decode cX6_move 29 = .ok (.astore_n 3, 1) := by decide +kernel
theorem dX6_move_30 : decode cX6_move 30 = .ok (.aload_n 0, 1) := by decide +kernel
theorem dX6_move_31 : decode cX6_move 31 = .ok (.getfield 12, 3) := by decide +kernel
theorem dX6_move_34 : decode cX6_move 34 = .ok (.iload_n 1, 1) := by decide +kernel
theorem dX6_move_35 : decode cX6_move 35 = .ok (.invokevirtual 79, 3) := by decide +kernel
theorem dX6_move_38 : decode cX6_move 38 = .ok (.pop, 1) := by decide +kernel
theorem dX6_move_39 : decode cX6_move 39 = .ok (.aload_n 0, 1) := by decide +kernel
theorem dX6_move_40 : decode cX6_move 40 = .ok (.getfield 12, 3) := by decide +kernel
theorem dX6_move_43 : decode cX6_move 43 = .ok (.iload_n 2, 1) := by decide +kernel
theorem dX6_move_44 : decode cX6_move 44 = .ok (.aload_n 3, 1) := by decide +kernel
theorem dX6_move_45 : decode cX6_move 45 = .ok (.invokevirtual 86, 3) := by decide +kernel
theorem dX6_move_48 : decode cX6_move 48 = .ok (.aload_n 0, 1) := by decide +kernel
theorem dX6_move_49 : decode cX6_move 49 = .ok (.getfield 19, 3) := by decide +kernel
theorem dX6_move_52 : decode cX6_move 52 = .ok (.invokevirtual 73, 3) := by decide +kernel
theorem dX6_move_55 : decode cX6_move 55 = .ok (.aload_n 3, 1) := by decide +kernel
theorem dX6_move_56 : decode cX6_move 56 = .ok (.getfield 90, 3) := by decide +kernel
theorem dX6_move_59 : decode cX6_move 59 = .ok (.ireturn, 1) := by decide +kernel
theorem dX6_part_0 : decode cX6_part 0 = .ok (.aload_n 0, 1) := by decide +kernel
theorem dX6_part_1 : decode cX6_part 1 = .ok (.iload_n 1, 1) := by decide +kernel
theorem dX6_part_2 : decode cX6_part 2 = .ok (.invokevirtual 56, 3) := by decide +kernel
theorem dX6_part_5 : decode cX6_part 5 = .ok (.ifCond .ne 5, 3) := by decide +kernel
theorem dX6_part_8 : decode cX6_part 8 = .ok (.iconst (-1), 1) := by decide +kernel
theorem dX6_part_9 : decode cX6_part 9 = .ok (.ireturn, 1) := by decide +kernel
theorem dX6_part_10 : decode cX6_part 10 = .ok (.iload_n 2, 1) := by decide +kernel
theorem dX6_part_11 : decode cX6_part 11 = .ok (.ifCond .lt 9, 3) := by decide +kernel
theorem dX6_part_14 : decode cX6_part 14 = .ok (.iload_n 2, 1) := by decide +kernel
theorem dX6_part_15 : decode cX6_part 15 = .ok (.bipush 14, 2) := by decide +kernel
theorem dX6_part_17 : decode cX6_part 17 = .ok (.if_icmp .lt 6, 3) := by decide +kernel
theorem dX6_part_20 : decode cX6_part 20 = .ok (.bipush (-2), 2) := by decide +kernel
theorem dX6_part_22 : decode cX6_part 22 = .ok (.ireturn, 1) := by decide +kernel
theorem dX6_part_23 : decode cX6_part 23 = .ok (.aload_n 0, 1) := by decide +kernel
theorem dX6_part_24 : decode cX6_part 24 = .ok (.getfield 12, 3) := by decide +kernel
theorem dX6_part_27 : decode cX6_part 27 = .ok (.iload_n 1, 1) := by decide +kernel
theorem dX6_part_28 : decode cX6_part 28 = .ok (.invokevirtual 65, 3) := by decide +kernel
theorem dX6_part_31 : decode cX6_part 31 = .ok (.checkcast 47, 3) := by decide +kernel
theorem dX6_part_34 : decode cX6_part 34 = .ok (.iload_n 2, 1) := by decide +kernel
theorem dX6_part_35 : decode cX6_part 35 = .ok (.invokevirtual 93, 3) := by decide +kernel
theorem dX6_part_38 : decode cX6_part 38 = .ok (.ireturn, 1) := by decide +kernel
theorem dX6_give_0 : decode cX6_give 0 = .ok (.iload_n 1, 1) := by decide +kernel
theorem dX6_give_1 : decode cX6_give 1 = .ok (.invokestatic 96, 3) := by decide +kernel
theorem dX6_give_4 : decode cX6_give 4 = .ok (.ifCond .ne 5, 3) := by decide +kernel
theorem dX6_give_7 : decode cX6_give 7 = .ok (.iconst (-1), 1) := by decide +kernel
theorem dX6_give_8 : decode cX6_give 8 = .ok (.ireturn, 1) := by decide +kernel
theorem dX6_give_9 : decode cX6_give 9 = .ok (.iload_n 2, 1) := by decide +kernel
theorem dX6_give_10 : decode cX6_give 10 = .ok (.invokestatic 99, 3) := by decide +kernel
theorem dX6_give_13 : decode cX6_give 13 = .ok (.ifCond .ne 6, 3) := by decide +kernel
theorem dX6_give_16 : decode cX6_give 16 = .ok (.bipush (-2), 2) := by decide +kernel
theorem dX6_give_18 : decode cX6_give 18 = .ok (.ireturn, 1) := by decide +kernel
theorem dX6_give_19 : decode cX6_give 19 = .ok (.iload_n 2, 1) := by decide +kernel
theorem dX6_give_20 : decode cX6_give 20 = .ok (.aload_n 0, 1) := by decide +kernel
theorem dX6_give_21 : decode cX6_give 21 = .ok (.iconst 1, 1) := by decide +kernel
theorem dX6_give_22 : decode cX6_give 22 = .ok (.iload_n 1, 1) := by decide +kernel
theorem dX6_give_23 : decode cX6_give 23 = .ok (.isub, 1) := by decide +kernel
theorem dX6_give_24 : decode cX6_give 24 = .ok (.invokevirtual 102, 3) := by decide +kernel
theorem dX6_give_27 : decode cX6_give 27 = .ok (.iand, 1) := by decide +kernel
theorem dX6_give_28 : decode cX6_give 28 = .ok (.ifCond .eq 6, 3) := by decide +kernel
theorem dX6_give_31 : decode cX6_give 31 = .ok (.bipush (-5), 2) := by decide +kernel
theorem dX6_give_33 : decode cX6_give 33 = .ok (.ireturn, 1) := by decide +kernel
theorem dX6_give_34 : decode cX6_give 34 = .ok (.aload_n 0, 1) := by decide +kernel
theorem dX6_give_35 : decode cX6_give 35 = .ok (.iload_n 1, 1) := by decide +kernel
theorem dX6_give_36 : decode cX6_give 36 = .ok (.invokevirtual 102, 3) := by decide +kernel
theorem dX6_give_39 : decode cX6_give 39 = .ok (.istore_n 3, 1) := by decide +kernel
theorem dX6_give_40 : decode cX6_give 40 = .ok (.iload_n 1, 1) := by decide +kernel
theorem dX6_give_41 : decode cX6_give 41 = .ok (.ifCond .ne 11, 3) := by decide +kernel
theorem dX6_give_44 : decode cX6_give 44 = .ok (.aload_n 0, 1) := by decide +kernel
theorem dX6_give_45 : decode cX6_give 45 = .ok (.iload_n 2, 1) := by decide +kernel
theorem dX6_give_46 : decode cX6_give 46 = .ok (.putfield 30, 3) := by decide +kernel
theorem dX6_give_49 : decode cX6_give 49 = .ok (.goto 8, 3) := by decide +kernel
theorem dX6_give_52 : decode cX6_give 52 = .ok (.aload_n 0, 1) := by decide +kernel
theorem dX6_give_53 : decode cX6_give 53 = .ok (.iload_n 2, 1) := by decide +kernel
theorem dX6_give_54 : decode cX6_give 54 = .ok (.putfield 34, 3) := by decide +kernel
theorem dX6_give_57 : decode cX6_give 57 = .ok (.aload_n 0, 1) := by decide +kernel
theorem dX6_give_58 : decode cX6_give 58 = .ok (.getfield 19, 3) := by decide +kernel
theorem dX6_give_61 : decode cX6_give 61 = .ok (.invokevirtual 73, 3) := by decide +kernel
theorem dX6_give_64 : decode cX6_give 64 = .ok (.iload_n 3, 1) := by decide +kernel
theorem dX6_give_65 : decode cX6_give 65 = .ok (.ireturn, 1) := by decide +kernel
theorem dX6_draw_0 : decode cX6_draw 0 = .ok (.iload_n 1, 1) := by decide +kernel
theorem dX6_draw_1 : decode cX6_draw 1 = .ok (.ifCond .lt 9, 3) := by decide +kernel
theorem dX6_draw_4 : decode cX6_draw 4 = .ok (.iload_n 1, 1) := by decide +kernel
theorem dX6_draw_5 : decode cX6_draw 5 = .ok (.ldc 105, 2) := by decide +kernel
theorem dX6_draw_7 : decode cX6_draw 7 = .ok (.if_icmp .le 6, 3) := by decide +kernel
theorem dX6_draw_10 : decode cX6_draw 10 = .ok (.bipush (-2), 2) := by decide +kernel
theorem dX6_draw_12 : decode cX6_draw 12 = .ok (.ireturn, 1) := by decide +kernel
theorem dX6_draw_13 : decode cX6_draw 13 = .ok (.iload_n 1, 1) := by decide +kernel
theorem dX6_draw_14 : decode cX6_draw 14 = .ok (.istore_n 2, 1) := by decide +kernel
theorem dX6_draw_15 : decode cX6_draw 15 = .ok (.ldc 106, 2) := by decide +kernel
theorem dX6_draw_17 : decode cX6_draw 17 = .ok (.istore_n 3, 1) := by decide +kernel
theorem dX6_draw_18 : decode cX6_draw 18 = .ok (.iconst 0, 1) := by decide +kernel
theorem dX6_draw_19 : decode cX6_draw 19 = .ok (.istore 4, 2) := by decide +kernel
theorem dX6_draw_21 : decode cX6_draw 21 = .ok (.iconst 0, 1) := by decide +kernel
theorem dX6_draw_22 : decode cX6_draw 22 = .ok (.istore 5, 2) := by decide +kernel
theorem dX6_draw_24 : decode cX6_draw 24 = .ok (.iload 5, 2) := by decide +kernel
theorem dX6_draw_26 : decode cX6_draw 26 = .ok (.bipush 10, 2) := by decide +kernel
theorem dX6_draw_28 : decode cX6_draw 28 = .ok (.if_icmp .ge 48, 3) := by decide +kernel
theorem dX6_draw_31 : decode cX6_draw 31 = .ok (.iload_n 2, 1) := by decide +kernel
theorem dX6_draw_32 : decode cX6_draw 32 = .ok (.sipush 1103, 3) := by decide +kernel
theorem dX6_draw_35 : decode cX6_draw 35 = .ok (.imul, 1) := by decide +kernel
theorem dX6_draw_36 : decode cX6_draw 36 = .ok (.sipush 12345, 3) := by decide +kernel
theorem dX6_draw_39 : decode cX6_draw 39 = .ok (.iadd, 1) := by decide +kernel
theorem dX6_draw_40 : decode cX6_draw 40 = .ok (.ldc 107, 2) := by decide +kernel
theorem dX6_draw_42 : decode cX6_draw 42 = .ok (.irem, 1) := by decide +kernel
theorem dX6_draw_43 : decode cX6_draw 43 = .ok (.istore_n 2, 1) := by decide +kernel
theorem dX6_draw_44 : decode cX6_draw 44 = .ok (.iload_n 3, 1) := by decide +kernel
theorem dX6_draw_45 : decode cX6_draw 45 = .ok (.iload_n 3, 1) := by decide +kernel
theorem dX6_draw_46 : decode cX6_draw 46 = .ok (.iload_n 2, 1) := by decide +kernel
theorem dX6_draw_47 : decode cX6_draw 47 = .ok (.bipush 20, 2) := by decide +kernel
theorem dX6_draw_49 : decode cX6_draw 49 = .ok (.iload 5, 2) := by decide +kernel
theorem dX6_draw_51 : decode cX6_draw 51 = .ok (.isub, 1) := by decide +kernel
theorem dX6_draw_52 : decode cX6_draw 52 = .ok (.irem, 1) := by decide +kernel
theorem dX6_draw_53 : decode cX6_draw 53 = .ok (.invokestatic 108, 3) := by decide +kernel
theorem dX6_draw_56 : decode cX6_draw 56 = .ok (.isub, 1) := by decide +kernel
theorem dX6_draw_57 : decode cX6_draw 57 = .ok (.istore_n 3, 1) := by decide +kernel
theorem dX6_draw_58 : decode cX6_draw 58 = .ok (.iload 5, 2) := by decide +kernel
theorem dX6_draw_60 : decode cX6_draw 60 = .ok (.iconst 4, 1) := by decide +kernel
theorem dX6_draw_61 : decode cX6_draw 61 = .ok (.if_icmp .ne 9, 3) := by decide +kernel
theorem dX6_draw_64 : decode cX6_draw 64 = .ok (.ldc 106, 2) := by decide +kernel
theorem dX6_draw_66 : decode cX6_draw 66 = .ok (.iload_n 3, 1) := by decide +kernel
theorem dX6_draw_67 : decode cX6_draw 67 = .ok (.isub, 1) := by decide +kernel
theorem dX6_draw_68 : decode cX6_draw 68 = .ok (.istore 4, 2) := by decide +kernel
theorem dX6_draw_70 : decode cX6_draw 70 = .ok (.iinc 5 1, 3) := by decide +kernel
theorem dX6_draw_73 : decode cX6_draw 73 = .ok (.goto (-49), 3) := by decide +kernel
theorem dX6_draw_76 : decode cX6_draw 76 = .ok (.aload_n 0, 1) := by decide +kernel
theorem dX6_draw_77 : decode cX6_draw 77 = .ok (.iload 4, 2) := by decide +kernel
theorem dX6_draw_79 : decode cX6_draw 79 = .ok (.putfield 30, 3) := by decide +kernel
theorem dX6_draw_82 : decode cX6_draw 82 = .ok (.aload_n 0, 1) := by decide +kernel
theorem dX6_draw_83 : decode cX6_draw 83 = .ok (.ldc 106, 2) := by decide +kernel
theorem dX6_draw_85 : decode cX6_draw 85 = .ok (.iload_n 3, 1) := by decide +kernel
theorem dX6_draw_86 : decode cX6_draw 86 = .ok (.isub, 1) := by decide +kernel
theorem dX6_draw_87 : decode cX6_draw 87 = .ok (.iload 4, 2) := by decide +kernel
theorem dX6_draw_89 : decode cX6_draw 89 = .ok (.isub, 1) := by decide +kernel
theorem dX6_draw_90 : decode cX6_draw 90 = .ok (.putfield 34, 3) := by decide +kernel
theorem dX6_draw_93 : decode cX6_draw 93 = .ok (.aload_n 0, 1) := by decide +kernel
theorem dX6_draw_94 : decode cX6_draw 94 = .ok (.getfield 19, 3) := by decide +kernel
theorem dX6_draw_97 : decode cX6_draw 97 = .ok (.invokevirtual 73, 3) := by decide +kernel
theorem dX6_draw_100 : decode cX6_draw 100 = .ok (.iload 4, 2) := by decide +kernel
theorem dX6_draw_102 : decode cX6_draw 102 = .ok (.ireturn, 1) := by decide +kernel
theorem dX6_hand_0 : decode cX6_hand 0 = .ok (.iload_n 1, 1) := by decide +kernel
theorem dX6_hand_1 : decode cX6_hand 1 = .ok (.invokestatic 96, 3) := by decide +kernel
theorem dX6_hand_4 : decode cX6_hand 4 = .ok (.ifCond .ne 5, 3) := by decide +kernel
theorem dX6_hand_7 : decode cX6_hand 7 = .ok (.iconst (-1), 1) := by decide +kernel
theorem dX6_hand_8 : decode cX6_hand 8 = .ok (.ireturn, 1) := by decide +kernel
theorem dX6_hand_9 : decode cX6_hand 9 = .ok (.iload_n 2, 1) := by decide +kernel
theorem dX6_hand_10 : decode cX6_hand 10 = .ok (.ifCond .lt 8, 3) := by decide +kernel
theorem dX6_hand_13 : decode cX6_hand 13 = .ok (.iload_n 2, 1) := by decide +kernel
theorem dX6_hand_14 : decode cX6_hand 14 = .ok (.iconst 5, 1) := by decide +kernel
theorem dX6_hand_15 : decode cX6_hand 15 = .ok (.if_icmp .le 6, 3) := by decide +kernel
theorem dX6_hand_18 : decode cX6_hand 18 = .ok (.bipush (-2), 2) := by decide +kernel
theorem dX6_hand_20 : decode cX6_hand 20 = .ok (.ireturn, 1) := by decide +kernel
theorem dX6_hand_21 : decode cX6_hand 21 = .ok (.iload_n 2, 1) := by decide +kernel
theorem dX6_hand_22 : decode cX6_hand 22 = .ok (.ifCond .ne 11, 3) := by decide +kernel
theorem dX6_hand_25 : decode cX6_hand 25 = .ok (.aload_n 0, 1) := by decide +kernel
theorem dX6_hand_26 : decode cX6_hand 26 = .ok (.iload_n 1, 1) := by decide +kernel
theorem dX6_hand_27 : decode cX6_hand 27 = .ok (.invokevirtual 102, 3) := by decide +kernel
theorem dX6_hand_30 : decode cX6_hand 30 = .ok (.goto 14, 3) := by decide +kernel
theorem dX6_hand_33 : decode cX6_hand 33 = .ok (.aload_n 0, 1) := by decide +kernel
theorem dX6_hand_34 : decode cX6_hand 34 = .ok (.iload_n 1, 1) := by decide +kernel
theorem dX6_hand_35 : decode cX6_hand 35 = .ok (.invokevirtual 102, 3) := by decide +kernel
theorem dX6_hand_38 : decode cX6_hand 38 = .ok (.iload_n 2, 1) := by decide +kernel
theorem dX6_hand_39 : decode cX6_hand 39 = .ok (.iconst 1, 1) := by decide +kernel
theorem dX6_hand_40 : decode cX6_hand 40 = .ok (.isub, 1) := by decide +kernel
theorem dX6_hand_41 : decode cX6_hand 41 = .ok (.invokestatic 112, 3) := by decide +kernel
theorem dX6_hand_44 : decode cX6_hand 44 = .ok (.ireturn, 1) := by decide +kernel
theorem dX6_begin_0 : decode cX6_begin 0 = .ok (.aload_n 0, 1) := by decide +kernel
theorem dX6_begin_1 : decode cX6_begin 1 = .ok (.getfield 19, 3) := by decide +kernel
theorem dX6_begin_4 : decode cX6_begin 4 = .ok (.getfield 115, 3) := by decide +kernel
theorem dX6_begin_7 : decode cX6_begin 7 = .ok (.invokevirtual 82, 3) := by decide +kernel
theorem dX6_begin_10 : decode cX6_begin 10 = .ok (.istore_n 1, 1) := by decide +kernel
theorem dX6_begin_11 : decode cX6_begin 11 = .ok (.aload_n 0, 1) := by decide +kernel
theorem dX6_begin_12 : decode cX6_begin 12 = .ok (.getfield 19, 3) := by decide +kernel
theorem dX6_begin_15 : decode cX6_begin 15 = .ok (.invokevirtual 73, 3) := by decide +kernel
theorem dX6_begin_18 : decode cX6_begin 18 = .ok (.iload_n 1, 1) := by decide +kernel
theorem dX6_begin_19 : decode cX6_begin 19 = .ok (.ireturn, 1) := by decide +kernel
theorem dX6_call_0 : decode cX6_call 0 = .ok (.aload_n 0, 1) := by decide +kernel
theorem dX6_call_1 : decode cX6_call 1 = .ok (.getfield 19, 3) := by decide +kernel
theorem dX6_call_4 : decode cX6_call 4 = .ok (.invokevirtual 118, 3) := by decide +kernel
theorem dX6_call_7 : decode cX6_call 7 = .ok (.ifCond .eq 6, 3) := by decide +kernel
theorem dX6_call_10 : decode cX6_call 10 = .ok (.bipush (-5), 2) := by decide +kernel
theorem dX6_call_12 : decode cX6_call 12 = .ok (.ireturn, 1) := by decide +kernel
theorem dX6_call_13 : decode cX6_call 13 = .ok (.aload_n 0, 1) := by decide +kernel
theorem dX6_call_14 : decode cX6_call 14 = .ok (.aload_n 0, 1) := by decide +kernel
theorem dX6_call_15 : decode cX6_call 15 = .ok (.getfield 19, 3) := by decide +kernel
theorem dX6_call_18 : decode cX6_call 18 = .ok (.getfield 122, 3) := by decide +kernel
theorem dX6_call_21 : decode cX6_call 21 = .ok (.aload_n 0, 1) := by decide +kernel
theorem dX6_call_22 : decode cX6_call 22 = .ok (.aload_n 0, 1) := by decide +kernel
theorem dX6_call_23 : decode cX6_call 23 = .ok (.getfield 19, 3) := by decide +kernel
theorem dX6_call_26 : decode cX6_call 26 = .ok (.invokevirtual 126, 3) := by decide +kernel
theorem dX6_call_29 : decode cX6_call 29 = .ok (.invokevirtual 102, 3) := by decide +kernel
theorem dX6_call_32 : decode cX6_call 32 = .ok (.invokestatic 129, 3) := by decide +kernel
theorem dX6_call_35 : decode cX6_call 35 = .ok (.invokevirtual 132, 3) := by decide +kernel
theorem dX6_call_38 : decode cX6_call 38 = .ok (.istore_n 1, 1) := by decide +kernel
theorem dX6_call_39 : decode cX6_call 39 = .ok (.aload_n 0, 1) := by decide +kernel
theorem dX6_call_40 : decode cX6_call 40 = .ok (.iload_n 1, 1) := by decide +kernel
theorem dX6_call_41 : decode cX6_call 41 = .ok (.invokevirtual 56, 3) := by decide +kernel
theorem dX6_call_44 : decode cX6_call 44 = .ok (.ifCond .ne 14, 3) := by decide +kernel
theorem dX6_call_47 : decode cX6_call 47 = .ok (.aload_n 0, 1) := by decide +kernel
theorem dX6_call_48 : decode cX6_call 48 = .ok (.getfield 19, 3) := by decide +kernel
theorem dX6_call_51 : decode cX6_call 51 = .ok (.iconst 1, 1) := by decide +kernel
theorem dX6_call_52 : decode cX6_call 52 = .ok (.putfield 136, 3) := by decide +kernel
theorem dX6_call_55 : decode cX6_call 55 = .ok (.bipush (-6), 2) := by decide +kernel
theorem dX6_call_57 : decode cX6_call 57 = .ok (.ireturn, 1) := by decide +kernel
theorem dX6_call_58 : decode cX6_call 58 = .ok (.aload_n 0, 1) := by decide +kernel
theorem dX6_call_59 : decode cX6_call 59 = .ok (.getfield 12, 3) := by decide +kernel
theorem dX6_call_62 : decode cX6_call 62 = .ok (.iload_n 1, 1) := by decide +kernel
theorem dX6_call_63 : decode cX6_call 63 = .ok (.invokevirtual 65, 3) := by decide +kernel
theorem dX6_call_66 : decode cX6_call 66 = .ok (.checkcast 47, 3) := by decide +kernel
theorem dX6_call_69 : decode cX6_call 69 = .ok (.astore_n 2, 1) := by decide +kernel
theorem dX6_call_70 : decode cX6_call 70 = .ok (.aload_n 0, 1) := by decide +kernel
theorem dX6_call_71 : decode cX6_call 71 = .ok (.getfield 19, 3) := by decide +kernel
theorem dX6_call_74 : decode cX6_call 74 = .ok (.aload_n 2, 1) := by decide +kernel
theorem dX6_call_75 : decode cX6_call 75 = .ok (.iload_n 1, 1) := by decide +kernel
theorem dX6_call_76 : decode cX6_call 76 = .ok (.invokevirtual 140, 3) := by decide +kernel
theorem dX6_call_79 : decode cX6_call 79 = .ok (.aload_n 2, 1) := by decide +kernel
theorem dX6_call_80 : decode cX6_call 80 = .ok (.getfield 90, 3) := by decide +kernel
theorem dX6_call_83 : decode cX6_call 83 = .ok (.ireturn, 1) := by decide +kernel
theorem dX6_make_0 : decode cX6_make 0 = .ok (.iload_n 1, 1) := by decide +kernel
theorem dX6_make_1 : decode cX6_make 1 = .ok (.invokestatic 41, 3) := by decide +kernel
theorem dX6_make_4 : decode cX6_make 4 = .ok (.ifCond .ne 6, 3) := by decide +kernel
theorem dX6_make_7 : decode cX6_make 7 = .ok (.bipush (-2), 2) := by decide +kernel
theorem dX6_make_9 : decode cX6_make 9 = .ok (.ireturn, 1) := by decide +kernel
theorem dX6_make_10 : decode cX6_make 10 = .ok (.aload_n 0, 1) := by decide +kernel
theorem dX6_make_11 : decode cX6_make 11 = .ok (.getfield 19, 3) := by decide +kernel
theorem dX6_make_14 : decode cX6_make 14 = .ok (.invokevirtual 118, 3) := by decide +kernel
theorem dX6_make_17 : decode cX6_make 17 = .ok (.ifCond .eq 6, 3) := by decide +kernel
theorem dX6_make_20 : decode cX6_make 20 = .ok (.bipush (-5), 2) := by decide +kernel
theorem dX6_make_22 : decode cX6_make 22 = .ok (.ireturn, 1) := by decide +kernel
theorem dX6_make_23 : decode cX6_make 23 = .ok (.aload_n 0, 1) := by decide +kernel
theorem dX6_make_24 : decode cX6_make 24 = .ok (.iload_n 1, 1) := by decide +kernel
theorem dX6_make_25 : decode cX6_make 25 = .ok (.invokevirtual 143, 3) := by decide +kernel
theorem dX6_make_28 : decode cX6_make 28 = .ok (.istore_n 2, 1) := by decide +kernel
theorem dX6_make_29 : decode cX6_make 29 = .ok (.aload_n 0, 1) := by decide +kernel
theorem dX6_make_30 : decode cX6_make 30 = .ok (.iload_n 2, 1) := by decide +kernel
theorem dX6_make_31 : decode cX6_make 31 = .ok (.invokevirtual 56, 3) := by decide +kernel
theorem dX6_make_34 : decode cX6_make 34 = .ok (.ifCond .ne 6, 3) := by decide +kernel
theorem dX6_make_37 : decode cX6_make 37 = .ok (.bipush (-5), 2) := by decide +kernel
theorem dX6_make_39 : decode cX6_make 39 = .ok (.ireturn, 1) := by decide +kernel
theorem dX6_make_40 : decode cX6_make 40 = .ok (.aload_n 0, 1) := by decide +kernel
theorem dX6_make_41 : decode cX6_make 41 = .ok (.getfield 19, 3) := by decide +kernel
theorem dX6_make_44 : decode cX6_make 44 = .ok (.aload_n 0, 1) := by decide +kernel
theorem dX6_make_45 : decode cX6_make 45 = .ok (.getfield 12, 3) := by decide +kernel
theorem dX6_make_48 : decode cX6_make 48 = .ok (.iload_n 2, 1) := by decide +kernel
theorem dX6_make_49 : decode cX6_make 49 = .ok (.invokevirtual 65, 3) := by decide +kernel
theorem dX6_make_52 : decode cX6_make 52 = .ok (.checkcast 47, 3) := by decide +kernel
theorem dX6_make_55 : decode cX6_make 55 = .ok (.iload_n 2, 1) := by decide +kernel
theorem dX6_make_56 : decode cX6_make 56 = .ok (.invokevirtual 140, 3) := by decide +kernel
theorem dX6_make_59 : decode cX6_make 59 = .ok (.aload_n 0, 1) := by decide +kernel
theorem dX6_make_60 : decode cX6_make 60 = .ok (.getfield 19, 3) := by decide +kernel
theorem dX6_make_63 : decode cX6_make 63 = .ok (.getfield 115, 3) := by decide +kernel
theorem dX6_make_66 : decode cX6_make 66 = .ok (.invokevirtual 82, 3) := by decide +kernel
theorem dX6_make_69 : decode cX6_make 69 = .ok (.ireturn, 1) := by decide +kernel
theorem dX6_back_0 : decode cX6_back 0 = .ok (.aload_n 0, 1) := by decide +kernel
theorem dX6_back_1 : decode cX6_back 1 = .ok (.getfield 19, 3) := by decide +kernel
theorem dX6_back_4 : decode cX6_back 4 = .ok (.invokevirtual 146, 3) := by decide +kernel
theorem dX6_back_7 : decode cX6_back 7 = .ok (.ifCond .ne 6, 3) := by decide +kernel
theorem dX6_back_10 : decode cX6_back 10 = .ok (.bipush (-5), 2) := by decide +kernel
theorem dX6_back_12 : decode cX6_back 12 = .ok (.ireturn, 1) := by decide +kernel
theorem dX6_back_13 : decode cX6_back 13 = .ok (.aload_n 0, 1) := by decide +kernel
theorem dX6_back_14 : decode cX6_back 14 = .ok (.getfield 19, 3) := by decide +kernel
theorem dX6_back_17 : decode cX6_back 17 = .ok (.getfield 115, 3) := by decide +kernel
theorem dX6_back_20 : decode cX6_back 20 = .ok (.invokevirtual 82, 3) := by decide +kernel
theorem dX6_back_23 : decode cX6_back 23 = .ok (.ireturn, 1) := by decide +kernel
theorem dX6_made_0 : decode cX6_made 0 = .ok (.iload_n 2, 1) := by decide +kernel
theorem dX6_made_1 : decode cX6_made 1 = .ok (.ifCond .lt 8, 3) := by decide +kernel
theorem dX6_made_4 : decode cX6_made 4 = .ok (.iload_n 2, 1) := by decide +kernel
theorem dX6_made_5 : decode cX6_made 5 = .ok (.iconst 3, 1) := by decide +kernel
theorem dX6_made_6 : decode cX6_made 6 = .ok (.if_icmp .le 6, 3) := by decide +kernel
theorem dX6_made_9 : decode cX6_made 9 = .ok (.bipush (-2), 2) := by decide +kernel
theorem dX6_made_11 : decode cX6_made 11 = .ok (.ireturn, 1) := by decide +kernel
theorem dX6_made_12 : decode cX6_made 12 = .ok (.iload_n 1, 1) := by decide +kernel
theorem dX6_made_13 : decode cX6_made 13 = .ok (.ifCond .lt 17, 3) := by decide +kernel
theorem dX6_made_16 : decode cX6_made 16 = .ok (.iload_n 1, 1) := by decide +kernel
theorem dX6_made_17 : decode cX6_made 17 = .ok (.aload_n 0, 1) := by decide +kernel
theorem dX6_made_18 : decode cX6_made 18 = .ok (.getfield 19, 3) := by decide +kernel
theorem dX6_made_21 : decode cX6_made 21 = .ok (.getfield 115, 3) := by decide +kernel
theorem dX6_made_24 : decode cX6_made 24 = .ok (.invokevirtual 82, 3) := by decide +kernel
theorem dX6_made_27 : decode cX6_made 27 = .ok (.if_icmp .lt 6, 3) := by decide +kernel
theorem dX6_made_30 : decode cX6_made 30 = .ok (.bipush (-6), 2) := by decide +kernel
theorem dX6_made_32 : decode cX6_made 32 = .ok (.ireturn, 1) := by decide +kernel
theorem dX6_made_33 : decode cX6_made 33 = .ok (.aload_n 0, 1) := by decide +kernel
theorem dX6_made_34 : decode cX6_made 34 = .ok (.getfield 19, 3) := by decide +kernel
theorem dX6_made_37 : decode cX6_made 37 = .ok (.getfield 115, 3) := by decide +kernel
theorem dX6_made_40 : decode cX6_made 40 = .ok (.iload_n 1, 1) := by decide +kernel
theorem dX6_made_41 : decode cX6_made 41 = .ok (.invokevirtual 65, 3) := by decide +kernel
theorem dX6_made_44 : decode cX6_made 44 = .ok (.checkcast 149, 3) := by decide +kernel
theorem dX6_made_47 : decode cX6_made 47 = .ok (.iload_n 2, 1) := by decide +kernel
theorem dX6_made_48 : decode cX6_made 48 = .ok (.invokevirtual 151, 3) := by decide +kernel
theorem dX6_made_51 : decode cX6_made 51 = .ok (.ireturn, 1) := by decide +kernel
theorem dX6_state_0 : decode cX6_state 0 = .ok (.iload_n 1, 1) := by decide +kernel
theorem dX6_state_1 : decode cX6_state 1 = .ok (.tableswitch 123 0 7 #[47, 58, 69, 80, 91, 99, 107, 115], 47) := by decide +kernel
theorem dX6_state_48 : decode cX6_state 48 = .ok (.aload_n 0, 1) := by decide +kernel
theorem dX6_state_49 : decode cX6_state 49 = .ok (.getfield 19, 3) := by decide +kernel
theorem dX6_state_52 : decode cX6_state 52 = .ok (.getfield 115, 3) := by decide +kernel
theorem dX6_state_55 : decode cX6_state 55 = .ok (.invokevirtual 82, 3) := by decide +kernel
theorem dX6_state_58 : decode cX6_state 58 = .ok (.ireturn, 1) := by decide +kernel
theorem dX6_state_59 : decode cX6_state 59 = .ok (.aload_n 0, 1) := by decide +kernel
theorem dX6_state_60 : decode cX6_state 60 = .ok (.getfield 19, 3) := by decide +kernel
theorem dX6_state_63 : decode cX6_state 63 = .ok (.getfield 122, 3) := by decide +kernel
theorem dX6_state_66 : decode cX6_state 66 = .ok (.getfield 152, 3) := by decide +kernel
theorem dX6_state_69 : decode cX6_state 69 = .ok (.ireturn, 1) := by decide +kernel
theorem dX6_state_70 : decode cX6_state 70 = .ok (.aload_n 0, 1) := by decide +kernel
theorem dX6_state_71 : decode cX6_state 71 = .ok (.getfield 19, 3) := by decide +kernel
theorem dX6_state_74 : decode cX6_state 74 = .ok (.getfield 122, 3) := by decide +kernel
theorem dX6_state_77 : decode cX6_state 77 = .ok (.getfield 157, 3) := by decide +kernel
theorem dX6_state_80 : decode cX6_state 80 = .ok (.ireturn, 1) := by decide +kernel
theorem dX6_state_81 : decode cX6_state 81 = .ok (.aload_n 0, 1) := by decide +kernel
theorem dX6_state_82 : decode cX6_state 82 = .ok (.getfield 19, 3) := by decide +kernel
theorem dX6_state_85 : decode cX6_state 85 = .ok (.getfield 122, 3) := by decide +kernel
theorem dX6_state_88 : decode cX6_state 88 = .ok (.getfield 160, 3) := by decide +kernel
theorem dX6_state_91 : decode cX6_state 91 = .ok (.ireturn, 1) := by decide +kernel
theorem dX6_state_92 : decode cX6_state 92 = .ok (.aload_n 0, 1) := by decide +kernel
theorem dX6_state_93 : decode cX6_state 93 = .ok (.getfield 19, 3) := by decide +kernel
theorem dX6_state_96 : decode cX6_state 96 = .ok (.invokevirtual 126, 3) := by decide +kernel
theorem dX6_state_99 : decode cX6_state 99 = .ok (.ireturn, 1) := by decide +kernel
theorem dX6_state_100 : decode cX6_state 100 = .ok (.aload_n 0, 1) := by decide +kernel
theorem dX6_state_101 : decode cX6_state 101 = .ok (.getfield 19, 3) := by decide +kernel
theorem dX6_state_104 : decode cX6_state 104 = .ok (.invokevirtual 163, 3) := by decide +kernel
theorem dX6_state_107 : decode cX6_state 107 = .ok (.ireturn, 1) := by decide +kernel
theorem dX6_state_108 : decode cX6_state 108 = .ok (.aload_n 0, 1) := by decide +kernel
theorem dX6_state_109 : decode cX6_state 109 = .ok (.getfield 12, 3) := by decide +kernel
theorem dX6_state_112 : decode cX6_state 112 = .ok (.invokevirtual 82, 3) := by decide +kernel
theorem dX6_state_115 : decode cX6_state 115 = .ok (.ireturn, 1) := by decide +kernel
theorem dX6_state_116 : decode cX6_state 116 = .ok (.aload_n 0, 1) := by decide +kernel
theorem dX6_state_117 : decode cX6_state 117 = .ok (.getfield 26, 3) := by decide +kernel
theorem dX6_state_120 : decode cX6_state 120 = .ok (.invokevirtual 166, 3) := by decide +kernel
theorem dX6_state_123 : decode cX6_state 123 = .ok (.ireturn, 1) := by decide +kernel
theorem dX6_state_124 : decode cX6_state 124 = .ok (.bipush (-2), 2) := by decide +kernel
theorem dX6_state_126 : decode cX6_state 126 = .ok (.ireturn, 1) := by decide +kernel
theorem dX6_hands_0 : decode cX6_hands 0 = .ok (.iload_n 1, 1) := by decide +kernel
theorem dX6_hands_1 : decode cX6_hands 1 = .ok (.invokestatic 96, 3) := by decide +kernel
theorem dX6_hands_4 : decode cX6_hands 4 = .ok (.ifCond .ne 5, 3) := by decide +kernel
theorem dX6_hands_7 : decode cX6_hands 7 = .ok (.iconst (-1), 1) := by decide +kernel
theorem dX6_hands_8 : decode cX6_hands 8 = .ok (.ireturn, 1) := by decide +kernel
theorem dX6_hands_9 : decode cX6_hands 9 = .ok (.iload_n 2, 1) := by decide +kernel
theorem dX6_hands_10 : decode cX6_hands 10 = .ok (.invokestatic 169, 3) := by decide +kernel
theorem dX6_hands_13 : decode cX6_hands 13 = .ok (.ifCond .ne 6, 3) := by decide +kernel
theorem dX6_hands_16 : decode cX6_hands 16 = .ok (.bipush (-2), 2) := by decide +kernel
theorem dX6_hands_18 : decode cX6_hands 18 = .ok (.ireturn, 1) := by decide +kernel
theorem dX6_hands_19 : decode cX6_hands 19 = .ok (.aload_n 0, 1) := by decide +kernel
theorem dX6_hands_20 : decode cX6_hands 20 = .ok (.iload_n 1, 1) := by decide +kernel
theorem dX6_hands_21 : decode cX6_hands 21 = .ok (.iload_n 2, 1) := by decide +kernel
theorem dX6_hands_22 : decode cX6_hands 22 = .ok (.invokevirtual 172, 3) := by decide +kernel
theorem dX6_hands_25 : decode cX6_hands 25 = .ok (.ireturn, 1) := by decide +kernel
theorem dX6_shown_0 : decode cX6_shown 0 = .ok (.iload_n 1, 1) := by decide +kernel
theorem dX6_shown_1 : decode cX6_shown 1 = .ok (.invokestatic 96, 3) := by decide +kernel
theorem dX6_shown_4 : decode cX6_shown 4 = .ok (.ifCond .ne 5, 3) := by decide +kernel
theorem dX6_shown_7 : decode cX6_shown 7 = .ok (.iconst (-1), 1) := by decide +kernel
theorem dX6_shown_8 : decode cX6_shown 8 = .ok (.ireturn, 1) := by decide +kernel
theorem dX6_shown_9 : decode cX6_shown 9 = .ok (.iload_n 2, 1) := by decide +kernel
theorem dX6_shown_10 : decode cX6_shown 10 = .ok (.invokestatic 169, 3) := by decide +kernel
theorem dX6_shown_13 : decode cX6_shown 13 = .ok (.ifCond .eq 13, 3) := by decide +kernel
theorem dX6_shown_16 : decode cX6_shown 16 = .ok (.iload_n 3, 1) := by decide +kernel
theorem dX6_shown_17 : decode cX6_shown 17 = .ok (.ifCond .lt 9, 3) := by decide +kernel
theorem dX6_shown_20 : decode cX6_shown 20 = .ok (.iload_n 3, 1) := by decide +kernel
theorem dX6_shown_21 : decode cX6_shown 21 = .ok (.bipush 11, 2) := by decide +kernel
theorem dX6_shown_23 : decode cX6_shown 23 = .ok (.if_icmp .le 6, 3) := by decide +kernel
theorem dX6_shown_26 : decode cX6_shown 26 = .ok (.bipush (-2), 2) := by decide +kernel
theorem dX6_shown_28 : decode cX6_shown 28 = .ok (.ireturn, 1) := by decide +kernel
theorem dX6_shown_29 : decode cX6_shown 29 = .ok (.bipush (-6), 2) := by decide +kernel
theorem dX6_shown_31 : decode cX6_shown 31 = .ok (.istore 4, 2) := by decide +kernel
theorem dX6_shown_33 : decode cX6_shown 33 = .ok (.iconst 0, 1) := by decide +kernel
theorem dX6_shown_34 : decode cX6_shown 34 = .ok (.istore 5, 2) := by decide +kernel
theorem dX6_shown_36 : decode cX6_shown 36 = .ok (.bipush 31, 2) := by decide +kernel
theorem dX6_shown_38 : decode cX6_shown 38 = .ok (.istore 6, 2) := by decide +kernel
theorem dX6_shown_40 : decode cX6_shown 40 = .ok (.iload 5, 2) := by decide +kernel
theorem dX6_shown_42 : decode cX6_shown 42 = .ok (.sipush 15504, 3) := by decide +kernel
theorem dX6_shown_45 : decode cX6_shown 45 = .ok (.if_icmp .ge 57, 3) := by decide +kernel
theorem dX6_shown_48 : decode cX6_shown 48 = .ok (.aload_n 0, 1) := by decide +kernel
theorem dX6_shown_49 : decode cX6_shown 49 = .ok (.iload_n 1, 1) := by decide +kernel
theorem dX6_shown_50 : decode cX6_shown 50 = .ok (.iload_n 2, 1) := by decide +kernel
theorem dX6_shown_51 : decode cX6_shown 51 = .ok (.iload 6, 2) := by decide +kernel
theorem dX6_shown_53 : decode cX6_shown 53 = .ok (.invokevirtual 175, 3) := by decide +kernel
theorem dX6_shown_56 : decode cX6_shown 56 = .ok (.ifCond .eq 33, 3) := by decide +kernel
theorem dX6_shown_59 : decode cX6_shown 59 = .ok (.iload 6, 2) := by decide +kernel
theorem dX6_shown_61 : decode cX6_shown 61 = .ok (.iload_n 3, 1) := by decide +kernel
theorem dX6_shown_62 : decode cX6_shown 62 = .ok (.invokestatic 179, 3) := by decide +kernel
theorem dX6_shown_65 : decode cX6_shown 65 = .ok (.istore 7, 2) := by decide +kernel
theorem dX6_shown_67 : decode cX6_shown 67 = .ok (.iload 4, 2) := by decide +kernel
theorem dX6_shown_69 : decode cX6_shown 69 = .ok (.bipush (-6), 2) := by decide +kernel
theorem dX6_shown_71 : decode cX6_shown 71 = .ok (.if_icmp .ne 8, 3) := by decide +kernel
theorem dX6_shown_74 : decode cX6_shown 74 = .ok (.iload 7, 2) := by decide +kernel
theorem dX6_shown_76 : decode cX6_shown 76 = .ok (.goto 11, 3) := by decide +kernel
theorem dX6_shown_79 : decode cX6_shown 79 = .ok (.iload 4, 2) := by decide +kernel
theorem dX6_shown_81 : decode cX6_shown 81 = .ok (.iload 7, 2) := by decide +kernel
theorem dX6_shown_83 : decode cX6_shown 83 = .ok (.iload_n 3, 1) := by decide +kernel
theorem dX6_shown_84 : decode cX6_shown 84 = .ok (.invokestatic 182, 3) := by decide +kernel
theorem dX6_shown_87 : decode cX6_shown 87 = .ok (.istore 4, 2) := by decide +kernel
theorem dX6_shown_89 : decode cX6_shown 89 = .ok (.iinc 5 1, 3) := by decide +kernel
theorem dX6_shown_92 : decode cX6_shown 92 = .ok (.iload 6, 2) := by decide +kernel
theorem dX6_shown_94 : decode cX6_shown 94 = .ok (.invokestatic 186, 3) := by decide +kernel
theorem dX6_shown_97 : decode cX6_shown 97 = .ok (.istore 6, 2) := by decide +kernel
theorem dX6_shown_99 : decode cX6_shown 99 = .ok (.goto (-59), 3) := by decide +kernel
theorem dX6_shown_102 : decode cX6_shown 102 = .ok (.iload 4, 2) := by decide +kernel
theorem dX6_shown_104 : decode cX6_shown 104 = .ok (.ireturn, 1) := by decide +kernel
theorem dX6_fits_0 : decode cX6_fits 0 = .ok (.iload_n 1, 1) := by decide +kernel
theorem dX6_fits_1 : decode cX6_fits 1 = .ok (.invokestatic 96, 3) := by decide +kernel
theorem dX6_fits_4 : decode cX6_fits 4 = .ok (.ifCond .ne 5, 3) := by decide +kernel
theorem dX6_fits_7 : decode cX6_fits 7 = .ok (.iconst (-1), 1) := by decide +kernel
theorem dX6_fits_8 : decode cX6_fits 8 = .ok (.ireturn, 1) := by decide +kernel
theorem dX6_fits_9 : decode cX6_fits 9 = .ok (.iload_n 2, 1) := by decide +kernel
theorem dX6_fits_10 : decode cX6_fits 10 = .ok (.invokestatic 99, 3) := by decide +kernel
theorem dX6_fits_13 : decode cX6_fits 13 = .ok (.ifCond .ne 6, 3) := by decide +kernel
theorem dX6_fits_16 : decode cX6_fits 16 = .ok (.bipush (-2), 2) := by decide +kernel
theorem dX6_fits_18 : decode cX6_fits 18 = .ok (.ireturn, 1) := by decide +kernel
theorem dX6_fits_19 : decode cX6_fits 19 = .ok (.aload_n 0, 1) := by decide +kernel
theorem dX6_fits_20 : decode cX6_fits 20 = .ok (.iload_n 1, 1) := by decide +kernel
theorem dX6_fits_21 : decode cX6_fits 21 = .ok (.iload_n 2, 1) := by decide +kernel
theorem dX6_fits_22 : decode cX6_fits 22 = .ok (.invokevirtual 189, 3) := by decide +kernel
theorem dX6_fits_25 : decode cX6_fits 25 = .ok (.ifCond .eq 7, 3) := by decide +kernel
theorem dX6_fits_28 : decode cX6_fits 28 = .ok (.iconst 1, 1) := by decide +kernel
theorem dX6_fits_29 : decode cX6_fits 29 = .ok (.goto 4, 3) := by decide +kernel
theorem dX6_fits_32 : decode cX6_fits 32 = .ok (.iconst 0, 1) := by decide +kernel
theorem dX6_fits_33 : decode cX6_fits 33 = .ok (.ireturn, 1) := by decide +kernel
theorem dX6_ruleOf_0 : decode cX6_ruleOf 0 = .ok (.iload_n 1, 1) := by decide +kernel
theorem dX6_ruleOf_1 : decode cX6_ruleOf 1 = .ok (.invokestatic 99, 3) := by decide +kernel
theorem dX6_ruleOf_4 : decode cX6_ruleOf 4 = .ok (.ifCond .ne 6, 3) := by decide +kernel
theorem dX6_ruleOf_7 : decode cX6_ruleOf 7 = .ok (.bipush (-2), 2) := by decide +kernel
theorem dX6_ruleOf_9 : decode cX6_ruleOf 9 = .ok (.ireturn, 1) := by decide +kernel
theorem dX6_ruleOf_10 : decode cX6_ruleOf 10 = .ok (.aload_n 0, 1) := by decide +kernel
theorem dX6_ruleOf_11 : decode cX6_ruleOf 11 = .ok (.getfield 19, 3) := by decide +kernel
theorem dX6_ruleOf_14 : decode cX6_ruleOf 14 = .ok (.invokevirtual 118, 3) := by decide +kernel
theorem dX6_ruleOf_17 : decode cX6_ruleOf 17 = .ok (.ifCond .eq 6, 3) := by decide +kernel
theorem dX6_ruleOf_20 : decode cX6_ruleOf 20 = .ok (.bipush (-5), 2) := by decide +kernel
theorem dX6_ruleOf_22 : decode cX6_ruleOf 22 = .ok (.ireturn, 1) := by decide +kernel
theorem dX6_ruleOf_23 : decode cX6_ruleOf 23 = .ok (.aload_n 0, 1) := by decide +kernel
theorem dX6_ruleOf_24 : decode cX6_ruleOf 24 = .ok (.aload_n 0, 1) := by decide +kernel
theorem dX6_ruleOf_25 : decode cX6_ruleOf 25 = .ok (.getfield 19, 3) := by decide +kernel
theorem dX6_ruleOf_28 : decode cX6_ruleOf 28 = .ok (.getfield 122, 3) := by decide +kernel
theorem dX6_ruleOf_31 : decode cX6_ruleOf 31 = .ok (.iload_n 1, 1) := by decide +kernel
theorem dX6_ruleOf_32 : decode cX6_ruleOf 32 = .ok (.invokestatic 129, 3) := by decide +kernel
theorem dX6_ruleOf_35 : decode cX6_ruleOf 35 = .ok (.invokevirtual 132, 3) := by decide +kernel
theorem dX6_ruleOf_38 : decode cX6_ruleOf 38 = .ok (.ireturn, 1) := by decide +kernel
theorem dX6_reach_0 : decode cX6_reach 0 = .ok (.aload_n 0, 1) := by decide +kernel
theorem dX6_reach_1 : decode cX6_reach 1 = .ok (.iload_n 1, 1) := by decide +kernel
theorem dX6_reach_2 : decode cX6_reach 2 = .ok (.invokevirtual 56, 3) := by decide +kernel
theorem dX6_reach_5 : decode cX6_reach 5 = .ok (.ifCond .ne 5, 3) := by decide +kernel
theorem dX6_reach_8 : decode cX6_reach 8 = .ok (.iconst (-1), 1) := by decide +kernel
theorem dX6_reach_9 : decode cX6_reach 9 = .ok (.ireturn, 1) := by decide +kernel
theorem dX6_reach_10 : decode cX6_reach 10 = .ok (.aload_n 0, 1) := by decide +kernel
theorem dX6_reach_11 : decode cX6_reach 11 = .ok (.new 153, 3) := by decide +kernel
theorem dX6_reach_14 : decode cX6_reach 14 = .ok (.dup, 1) := by decide +kernel
theorem dX6_reach_15 : decode cX6_reach 15 = .ok (.aload_n 0, 1) := by decide +kernel
theorem dX6_reach_16 : decode cX6_reach 16 = .ok (.getfield 12, 3) := by decide +kernel
theorem dX6_reach_19 : decode cX6_reach 19 = .ok (.iload_n 1, 1) := by decide +kernel
theorem dX6_reach_20 : decode cX6_reach 20 = .ok (.invokevirtual 65, 3) := by decide +kernel
theorem dX6_reach_23 : decode cX6_reach 23 = .ok (.checkcast 47, 3) := by decide +kernel
theorem dX6_reach_26 : decode cX6_reach 26 = .ok (.getfield 193, 3) := by decide +kernel
theorem dX6_reach_29 : decode cX6_reach 29 = .ok (.bipush (-6), 2) := by decide +kernel
theorem dX6_reach_31 : decode cX6_reach 31 = .ok (.iconst 0, 1) := by decide +kernel
theorem dX6_reach_32 : decode cX6_reach 32 = .ok (.invokespecial 194, 3) := by decide +kernel
theorem dX6_reach_35 : decode cX6_reach 35 = .ok (.iload_n 1, 1) := by decide +kernel
theorem dX6_reach_36 : decode cX6_reach 36 = .ok (.invokevirtual 196, 3) := by decide +kernel
theorem dX6_reach_39 : decode cX6_reach 39 = .ok (.ireturn, 1) := by decide +kernel
theorem dX6_holes_0 : decode cX6_holes 0 = .ok (.iload_n 1, 1) := by decide +kernel
theorem dX6_holes_1 : decode cX6_holes 1 = .ok (.invokestatic 37, 3) := by decide +kernel
theorem dX6_holes_4 : decode cX6_holes 4 = .ok (.ifCond .eq 10, 3) := by decide +kernel
theorem dX6_holes_7 : decode cX6_holes 7 = .ok (.iload_n 3, 1) := by decide +kernel
theorem dX6_holes_8 : decode cX6_holes 8 = .ok (.invokestatic 44, 3) := by decide +kernel
theorem dX6_holes_11 : decode cX6_holes 11 = .ok (.ifCond .ne 6, 3) := by decide +kernel
theorem dX6_holes_14 : decode cX6_holes 14 = .ok (.bipush (-2), 2) := by decide +kernel
theorem dX6_holes_16 : decode cX6_holes 16 = .ok (.ireturn, 1) := by decide +kernel
theorem dX6_holes_17 : decode cX6_holes 17 = .ok (.iload_n 2, 1) := by decide +kernel
theorem dX6_holes_18 : decode cX6_holes 18 = .ok (.bipush (-6), 2) := by decide +kernel
theorem dX6_holes_20 : decode cX6_holes 20 = .ok (.if_icmp .eq 16, 3) := by decide +kernel
theorem dX6_holes_23 : decode cX6_holes 23 = .ok (.iload_n 2, 1) := by decide +kernel
theorem dX6_holes_24 : decode cX6_holes 24 = .ok (.ifCond .lt 9, 3) := by decide +kernel
theorem dX6_holes_27 : decode cX6_holes 27 = .ok (.iload_n 2, 1) := by decide +kernel
theorem dX6_holes_28 : decode cX6_holes 28 = .ok (.bipush 25, 2) := by decide +kernel
theorem dX6_holes_30 : decode cX6_holes 30 = .ok (.if_icmp .lt 6, 3) := by decide +kernel
theorem dX6_holes_33 : decode cX6_holes 33 = .ok (.bipush (-2), 2) := by decide +kernel
theorem dX6_holes_35 : decode cX6_holes 35 = .ok (.ireturn, 1) := by decide +kernel
theorem dX6_holes_36 : decode cX6_holes 36 = .ok (.aload_n 0, 1) := by decide +kernel
theorem dX6_holes_37 : decode cX6_holes 37 = .ok (.new 153, 3) := by decide +kernel
theorem dX6_holes_40 : decode cX6_holes 40 = .ok (.dup, 1) := by decide +kernel
theorem dX6_holes_41 : decode cX6_holes 41 = .ok (.iload_n 1, 1) := by decide +kernel
theorem dX6_holes_42 : decode cX6_holes 42 = .ok (.iload_n 2, 1) := by decide +kernel
theorem dX6_holes_43 : decode cX6_holes 43 = .ok (.iload_n 3, 1) := by decide +kernel
theorem dX6_holes_44 : decode cX6_holes 44 = .ok (.invokespecial 194, 3) := by decide +kernel
theorem dX6_holes_47 : decode cX6_holes 47 = .ok (.bipush (-6), 2) := by decide +kernel
theorem dX6_holes_49 : decode cX6_holes 49 = .ok (.invokevirtual 196, 3) := by decide +kernel
theorem dX6_holes_52 : decode cX6_holes 52 = .ok (.ireturn, 1) := by decide +kernel
theorem dX6_tricks_0 : decode cX6_tricks 0 = .ok (.iload_n 1, 1) := by decide +kernel
theorem dX6_tricks_1 : decode cX6_tricks 1 = .ok (.invokestatic 199, 3) := by decide +kernel
theorem dX6_tricks_4 : decode cX6_tricks 4 = .ok (.ifCond .eq 23, 3) := by decide +kernel
theorem dX6_tricks_7 : decode cX6_tricks 7 = .ok (.iload_n 2, 1) := by decide +kernel
theorem dX6_tricks_8 : decode cX6_tricks 8 = .ok (.invokestatic 99, 3) := by decide +kernel
theorem dX6_tricks_11 : decode cX6_tricks 11 = .ok (.ifCond .eq 16, 3) := by decide +kernel
theorem dX6_tricks_14 : decode cX6_tricks 14 = .ok (.iload_n 3, 1) := by decide +kernel
theorem dX6_tricks_15 : decode cX6_tricks 15 = .ok (.invokestatic 99, 3) := by decide +kernel
theorem dX6_tricks_18 : decode cX6_tricks 18 = .ok (.ifCond .eq 9, 3) := by decide +kernel
theorem dX6_tricks_21 : decode cX6_tricks 21 = .ok (.iload_n 2, 1) := by decide +kernel
theorem dX6_tricks_22 : decode cX6_tricks 22 = .ok (.iload_n 3, 1) := by decide +kernel
theorem dX6_tricks_23 : decode cX6_tricks 23 = .ok (.iand, 1) := by decide +kernel
theorem dX6_tricks_24 : decode cX6_tricks 24 = .ok (.ifCond .eq 6, 3) := by decide +kernel
theorem dX6_tricks_27 : decode cX6_tricks 27 = .ok (.bipush (-2), 2) := by decide +kernel
theorem dX6_tricks_29 : decode cX6_tricks 29 = .ok (.ireturn, 1) := by decide +kernel
theorem dX6_tricks_30 : decode cX6_tricks 30 = .ok (.iload_n 1, 1) := by decide +kernel
theorem dX6_tricks_31 : decode cX6_tricks 31 = .ok (.iload_n 2, 1) := by decide +kernel
theorem dX6_tricks_32 : decode cX6_tricks 32 = .ok (.iload_n 3, 1) := by decide +kernel
theorem dX6_tricks_33 : decode cX6_tricks 33 = .ok (.invokestatic 202, 3) := by decide +kernel
theorem dX6_tricks_36 : decode cX6_tricks 36 = .ok (.ireturn, 1) := by decide +kernel
theorem dX6_expected_0 : decode cX6_expected 0 = .ok (.iload_n 1, 1) := by decide +kernel
theorem dX6_expected_1 : decode cX6_expected 1 = .ok (.invokestatic 96, 3) := by decide +kernel
theorem dX6_expected_4 : decode cX6_expected 4 = .ok (.ifCond .ne 7, 3) := by decide +kernel
theorem dX6_expected_7 : decode cX6_expected 7 = .ok (.ldc2_w 205, 3) := by decide +kernel
theorem dX6_expected_10 : decode cX6_expected 10 = .ok (.lreturn, 1) := by decide +kernel
theorem dX6_expected_11 : decode cX6_expected 11 = .ok (.iload_n 2, 1) := by decide +kernel
theorem dX6_expected_12 : decode cX6_expected 12 = .ok (.invokestatic 199, 3) := by decide +kernel
theorem dX6_expected_15 : decode cX6_expected 15 = .ok (.ifCond .ne 7, 3) := by decide +kernel
theorem dX6_expected_18 : decode cX6_expected 18 = .ok (.ldc2_w 207, 3) := by decide +kernel
theorem dX6_expected_21 : decode cX6_expected 21 = .ok (.lreturn, 1) := by decide +kernel
theorem dX6_expected_22 : decode cX6_expected 22 = .ok (.aload_n 0, 1) := by decide +kernel
theorem dX6_expected_23 : decode cX6_expected 23 = .ok (.iload_n 1, 1) := by decide +kernel
theorem dX6_expected_24 : decode cX6_expected 24 = .ok (.iload_n 2, 1) := by decide +kernel
theorem dX6_expected_25 : decode cX6_expected 25 = .ok (.invokevirtual 209, 3) := by decide +kernel
theorem dX6_expected_28 : decode cX6_expected 28 = .ok (.lreturn, 1) := by decide +kernel
theorem dX6_contract_0 : decode cX6_contract 0 = .ok (.iload_n 1, 1) := by decide +kernel
theorem dX6_contract_1 : decode cX6_contract 1 = .ok (.invokestatic 96, 3) := by decide +kernel
theorem dX6_contract_4 : decode cX6_contract 4 = .ok (.ifCond .ne 5, 3) := by decide +kernel
theorem dX6_contract_7 : decode cX6_contract 7 = .ok (.iconst (-1), 1) := by decide +kernel
theorem dX6_contract_8 : decode cX6_contract 8 = .ok (.ireturn, 1) := by decide +kernel
theorem dX6_contract_9 : decode cX6_contract 9 = .ok (.aload_n 0, 1) := by decide +kernel
theorem dX6_contract_10 : decode cX6_contract 10 = .ok (.iconst 1, 1) := by decide +kernel
theorem dX6_contract_11 : decode cX6_contract 11 = .ok (.iload_n 1, 1) := by decide +kernel
theorem dX6_contract_12 : decode cX6_contract 12 = .ok (.isub, 1) := by decide +kernel
theorem dX6_contract_13 : decode cX6_contract 13 = .ok (.aload_n 0, 1) := by decide +kernel
theorem dX6_contract_14 : decode cX6_contract 14 = .ok (.iload_n 1, 1) := by decide +kernel
theorem dX6_contract_15 : decode cX6_contract 15 = .ok (.invokevirtual 102, 3) := by decide +kernel
theorem dX6_contract_18 : decode cX6_contract 18 = .ok (.invokevirtual 172, 3) := by decide +kernel
theorem dX6_contract_21 : decode cX6_contract 21 = .ok (.istore_n 2, 1) := by decide +kernel
theorem dX6_contract_22 : decode cX6_contract 22 = .ok (.iload_n 2, 1) := by decide +kernel
theorem dX6_contract_23 : decode cX6_contract 23 = .ok (.ifCond .ne 6, 3) := by decide +kernel
theorem dX6_contract_26 : decode cX6_contract 26 = .ok (.bipush (-6), 2) := by decide +kernel
theorem dX6_contract_28 : decode cX6_contract 28 = .ok (.ireturn, 1) := by decide +kernel
theorem dX6_contract_29 : decode cX6_contract 29 = .ok (.lconst 0, 1) := by decide +kernel
theorem dX6_contract_30 : decode cX6_contract 30 = .ok (.lstore_n 3, 1) := by decide +kernel
theorem dX6_contract_31 : decode cX6_contract 31 = .ok (.iconst 0, 1) := by decide +kernel
theorem dX6_contract_32 : decode cX6_contract 32 = .ok (.istore 5, 2) := by decide +kernel
theorem dX6_contract_34 : decode cX6_contract 34 = .ok (.iconst 0, 1) := by decide +kernel
theorem dX6_contract_35 : decode cX6_contract 35 = .ok (.istore 6, 2) := by decide +kernel
theorem dX6_contract_37 : decode cX6_contract 37 = .ok (.iload 6, 2) := by decide +kernel
theorem dX6_contract_39 : decode cX6_contract 39 = .ok (.iconst 4, 1) := by decide +kernel
theorem dX6_contract_40 : decode cX6_contract 40 = .ok (.if_icmp .gt 32, 3) := by decide +kernel
theorem dX6_contract_43 : decode cX6_contract 43 = .ok (.aload_n 0, 1) := by decide +kernel
theorem dX6_contract_44 : decode cX6_contract 44 = .ok (.iload_n 1, 1) := by decide +kernel
theorem dX6_contract_45 : decode cX6_contract 45 = .ok (.iload 6, 2) := by decide +kernel
theorem dX6_contract_47 : decode cX6_contract 47 = .ok (.invokevirtual 209, 3) := by decide +kernel
theorem dX6_contract_50 : decode cX6_contract 50 = .ok (.lstore 7, 2) := by decide +kernel
theorem dX6_contract_52 : decode cX6_contract 52 = .ok (.lload 7, 2) := by decide +kernel
theorem dX6_contract_54 : decode cX6_contract 54 = .ok (.lload_n 3, 1) := by decide +kernel
theorem dX6_contract_55 : decode cX6_contract 55 = .ok (.lcmp, 1) := by decide +kernel
theorem dX6_contract_56 : decode cX6_contract 56 = .ok (.ifCond .lt 10, 3) := by decide +kernel
theorem dX6_contract_59 : decode cX6_contract 59 = .ok (.lload 7, 2) := by decide +kernel
theorem dX6_contract_61 : decode cX6_contract 61 = .ok (.lstore_n 3, 1) := by decide +kernel
theorem dX6_contract_62 : decode cX6_contract 62 = .ok (.iload 6, 2) := by decide +kernel
theorem dX6_contract_64 : decode cX6_contract 64 = .ok (.istore 5, 2) := by decide +kernel
theorem dX6_contract_66 : decode cX6_contract 66 = .ok (.iinc 6 1, 3) := by decide +kernel
theorem dX6_contract_69 : decode cX6_contract 69 = .ok (.goto (-32), 3) := by decide +kernel
theorem dX6_contract_72 : decode cX6_contract 72 = .ok (.lload_n 3, 1) := by decide +kernel
theorem dX6_contract_73 : decode cX6_contract 73 = .ok (.iload_n 2, 1) := by decide +kernel
theorem dX6_contract_74 : decode cX6_contract 74 = .ok (.i2l, 1) := by decide +kernel
theorem dX6_contract_75 : decode cX6_contract 75 = .ok (.ldiv, 1) := by decide +kernel
theorem dX6_contract_76 : decode cX6_contract 76 = .ok (.l2i, 1) := by decide +kernel
theorem dX6_contract_77 : decode cX6_contract 77 = .ok (.istore 6, 2) := by decide +kernel
theorem dX6_contract_79 : decode cX6_contract 79 = .ok (.iload 6, 2) := by decide +kernel
theorem dX6_contract_81 : decode cX6_contract 81 = .ok (.ifCond .ne 8, 3) := by decide +kernel
theorem dX6_contract_84 : decode cX6_contract 84 = .ok (.bipush (-6), 2) := by decide +kernel
theorem dX6_contract_86 : decode cX6_contract 86 = .ok (.goto 12, 3) := by decide +kernel
theorem dX6_contract_89 : decode cX6_contract 89 = .ok (.iload 6, 2) := by decide +kernel
theorem dX6_contract_91 : decode cX6_contract 91 = .ok (.iconst 1, 1) := by decide +kernel
theorem dX6_contract_92 : decode cX6_contract 92 = .ok (.isub, 1) := by decide +kernel
theorem dX6_contract_93 : decode cX6_contract 93 = .ok (.iconst 5, 1) := by decide +kernel
theorem dX6_contract_94 : decode cX6_contract 94 = .ok (.imul, 1) := by decide +kernel
theorem dX6_contract_95 : decode cX6_contract 95 = .ok (.iload 5, 2) := by decide +kernel
theorem dX6_contract_97 : decode cX6_contract 97 = .ok (.iadd, 1) := by decide +kernel
theorem dX6_contract_98 : decode cX6_contract 98 = .ok (.ireturn, 1) := by decide +kernel
theorem dX6_put_0 : decode cX6_put 0 = .ok (.iconst 0, 1) := by decide +kernel
theorem dX6_put_1 : decode cX6_put 1 = .ok (.istore_n 3, 1) := by decide +kernel
theorem dX6_put_2 : decode cX6_put 2 = .ok (.lload_n 1, 1) := by decide +kernel
theorem dX6_put_3 : decode cX6_put 3 = .ok (.lstore 4, 2) := by decide +kernel
theorem dX6_put_5 : decode cX6_put 5 = .ok (.iload_n 3, 1) := by decide +kernel
theorem dX6_put_6 : decode cX6_put 6 = .ok (.bipush 8, 2) := by decide +kernel
theorem dX6_put_8 : decode cX6_put 8 = .ok (.if_icmp .ge 39, 3) := by decide +kernel
theorem dX6_put_11 : decode cX6_put 11 = .ok (.lload 4, 2) := by decide +kernel
theorem dX6_put_13 : decode cX6_put 13 = .ok (.lconst 0, 1) := by decide +kernel
theorem dX6_put_14 : decode cX6_put 14 = .ok (.lcmp, 1) := by decide +kernel
theorem dX6_put_15 : decode cX6_put 15 = .ok (.ifCond .eq 32, 3) := by decide +kernel
theorem dX6_put_18 : decode cX6_put 18 = .ok (.lload 4, 2) := by decide +kernel
theorem dX6_put_20 : decode cX6_put 20 = .ok (.ldc2_w 213, 3) := by decide +kernel
theorem dX6_put_23 : decode cX6_put 23 = .ok (.land, 1) := by decide +kernel
theorem dX6_put_24 : decode cX6_put 24 = .ok (.l2i, 1) := by decide +kernel
theorem dX6_put_25 : decode cX6_put 25 = .ok (.invokestatic 215, 3) := by decide +kernel
theorem dX6_put_28 : decode cX6_put 28 = .ok (.ifCond .ne 6, 3) := by decide +kernel
theorem dX6_put_31 : decode cX6_put 31 = .ok (.bipush (-2), 2) := by decide +kernel
theorem dX6_put_33 : decode cX6_put 33 = .ok (.ireturn, 1) := by decide +kernel
theorem dX6_put_34 : decode cX6_put 34 = .ok (.lload 4, 2) := by decide +kernel
theorem dX6_put_36 : decode cX6_put 36 = .ok (.bipush 8, 2) := by decide +kernel
theorem dX6_put_38 : decode cX6_put 38 = .ok (.lushr, 1) := by decide +kernel
theorem dX6_put_39 : decode cX6_put 39 = .ok (.lstore 4, 2) := by decide +kernel
theorem dX6_put_41 : decode cX6_put 41 = .ok (.iinc 3 1, 3) := by decide +kernel
theorem dX6_put_44 : decode cX6_put 44 = .ok (.goto (-39), 3) := by decide +kernel
theorem dX6_put_47 : decode cX6_put 47 = .ok (.iload_n 3, 1) := by decide +kernel
theorem dX6_put_48 : decode cX6_put 48 = .ok (.ifCond .ne 6, 3) := by decide +kernel
theorem dX6_put_51 : decode cX6_put 51 = .ok (.bipush (-2), 2) := by decide +kernel
theorem dX6_put_53 : decode cX6_put 53 = .ok (.ireturn, 1) := by decide +kernel
theorem dX6_put_54 : decode cX6_put 54 = .ok (.aload_n 0, 1) := by decide +kernel
theorem dX6_put_55 : decode cX6_put 55 = .ok (.getfield 26, 3) := by decide +kernel
theorem dX6_put_58 : decode cX6_put 58 = .ok (.invokevirtual 166, 3) := by decide +kernel
theorem dX6_put_61 : decode cX6_put 61 = .ok (.iload_n 3, 1) := by decide +kernel
theorem dX6_put_62 : decode cX6_put 62 = .ok (.iadd, 1) := by decide +kernel
theorem dX6_put_63 : decode cX6_put 63 = .ok (.bipush 60, 2) := by decide +kernel
theorem dX6_put_65 : decode cX6_put 65 = .ok (.if_icmp .le 6, 3) := by decide +kernel
theorem dX6_put_68 : decode cX6_put 68 = .ok (.bipush (-4), 2) := by decide +kernel
theorem dX6_put_70 : decode cX6_put 70 = .ok (.ireturn, 1) := by decide +kernel
theorem dX6_put_71 : decode cX6_put 71 = .ok (.iload_n 3, 1) := by decide +kernel
theorem dX6_put_72 : decode cX6_put 72 = .ok (.iconst 1, 1) := by decide +kernel
theorem dX6_put_73 : decode cX6_put 73 = .ok (.isub, 1) := by decide +kernel
theorem dX6_put_74 : decode cX6_put 74 = .ok (.istore 6, 2) := by decide +kernel
theorem dX6_put_76 : decode cX6_put 76 = .ok (.iload 6, 2) := by decide +kernel
theorem dX6_put_78 : decode cX6_put 78 = .ok (.ifCond .lt 30, 3) := by decide +kernel
theorem dX6_put_81 : decode cX6_put 81 = .ok (.aload_n 0, 1) := by decide +kernel
theorem dX6_put_82 : decode cX6_put 82 = .ok (.getfield 26, 3) := by decide +kernel
theorem dX6_put_85 : decode cX6_put 85 = .ok (.lload_n 1, 1) := by decide +kernel
theorem dX6_put_86 : decode cX6_put 86 = .ok (.bipush 8, 2) := by decide +kernel
theorem dX6_put_88 : decode cX6_put 88 = .ok (.iload 6, 2) := by decide +kernel
theorem dX6_put_90 : decode cX6_put 90 = .ok (.imul, 1) := by decide +kernel
theorem dX6_put_91 : decode cX6_put 91 = .ok (.lushr, 1) := by decide +kernel
theorem dX6_put_92 : decode cX6_put 92 = .ok (.ldc2_w 213, 3) := by decide +kernel
theorem dX6_put_95 : decode cX6_put 95 = .ok (.land, 1) := by decide +kernel
theorem dX6_put_96 : decode cX6_put 96 = .ok (.l2i, 1) := by decide +kernel
theorem dX6_put_97 : decode cX6_put 97 = .ok (.i2c, 1) := by decide +kernel
theorem dX6_put_98 : decode cX6_put 98 = .ok (.invokevirtual 218, 3) := by decide +kernel
theorem dX6_put_101 : decode cX6_put 101 = .ok (.pop, 1) := by decide +kernel
theorem dX6_put_102 : decode cX6_put 102 = .ok (.iinc 6 (-1), 3) := by decide +kernel
theorem dX6_put_105 : decode cX6_put 105 = .ok (.goto (-29), 3) := by decide +kernel
theorem dX6_put_108 : decode cX6_put 108 = .ok (.aload_n 0, 1) := by decide +kernel
theorem dX6_put_109 : decode cX6_put 109 = .ok (.getfield 26, 3) := by decide +kernel
theorem dX6_put_112 : decode cX6_put 112 = .ok (.invokevirtual 166, 3) := by decide +kernel
theorem dX6_put_115 : decode cX6_put 115 = .ok (.ireturn, 1) := by decide +kernel
theorem dX6_wipe_0 : decode cX6_wipe 0 = .ok (.aload_n 0, 1) := by decide +kernel
theorem dX6_wipe_1 : decode cX6_wipe 1 = .ok (.getfield 26, 3) := by decide +kernel
theorem dX6_wipe_4 : decode cX6_wipe 4 = .ok (.invokevirtual 166, 3) := by decide +kernel
theorem dX6_wipe_7 : decode cX6_wipe 7 = .ok (.istore_n 1, 1) := by decide +kernel
theorem dX6_wipe_8 : decode cX6_wipe 8 = .ok (.aload_n 0, 1) := by decide +kernel
theorem dX6_wipe_9 : decode cX6_wipe 9 = .ok (.getfield 26, 3) := by decide +kernel
theorem dX6_wipe_12 : decode cX6_wipe 12 = .ok (.iconst 0, 1) := by decide +kernel
theorem dX6_wipe_13 : decode cX6_wipe 13 = .ok (.invokevirtual 222, 3) := by decide +kernel
theorem dX6_wipe_16 : decode cX6_wipe 16 = .ok (.iload_n 1, 1) := by decide +kernel
theorem dX6_wipe_17 : decode cX6_wipe 17 = .ok (.ireturn, 1) := by decide +kernel
theorem dX6_fault_0 : decode cX6_fault 0 = .ok (.new 226, 3) := by decide +kernel
theorem dX6_fault_3 : decode cX6_fault 3 = .ok (.dup, 1) := by decide +kernel
theorem dX6_fault_4 : decode cX6_fault 4 = .ok (.aload_n 0, 1) := by decide +kernel
theorem dX6_fault_5 : decode cX6_fault 5 = .ok (.getfield 26, 3) := by decide +kernel
theorem dX6_fault_8 : decode cX6_fault 8 = .ok (.invokespecial 228, 3) := by decide +kernel
theorem dX6_fault_11 : decode cX6_fault 11 = .ok (.astore_n 1, 1) := by decide +kernel
theorem dX6_fault_12 : decode cX6_fault 12 = .ok (.aload_n 1, 1) := by decide +kernel
theorem dX6_fault_13 : decode cX6_fault 13 = .ok (.invokevirtual 231, 3) := by decide +kernel
theorem dX6_fault_16 : decode cX6_fault 16 = .ok (.ifCond .eq 8, 3) := by decide +kernel
theorem dX6_fault_19 : decode cX6_fault 19 = .ok (.bipush (-6), 2) := by decide +kernel
theorem dX6_fault_21 : decode cX6_fault 21 = .ok (.goto 7, 3) := by decide +kernel
theorem dX6_fault_24 : decode cX6_fault 24 = .ok (.aload_n 1, 1) := by decide +kernel
theorem dX6_fault_25 : decode cX6_fault 25 = .ok (.getfield 234, 3) := by decide +kernel
theorem dX6_fault_28 : decode cX6_fault 28 = .ok (.ireturn, 1) := by decide +kernel
theorem dX6_load_0 : decode cX6_load 0 = .ok (.new 226, 3) := by decide +kernel
theorem dX6_load_3 : decode cX6_load 3 = .ok (.dup, 1) := by decide +kernel
theorem dX6_load_4 : decode cX6_load 4 = .ok (.aload_n 0, 1) := by decide +kernel
theorem dX6_load_5 : decode cX6_load 5 = .ok (.getfield 26, 3) := by decide +kernel
theorem dX6_load_8 : decode cX6_load 8 = .ok (.invokespecial 228, 3) := by decide +kernel
theorem dX6_load_11 : decode cX6_load 11 = .ok (.astore_n 1, 1) := by decide +kernel
theorem dX6_load_12 : decode cX6_load 12 = .ok (.aload_n 1, 1) := by decide +kernel
theorem dX6_load_13 : decode cX6_load 13 = .ok (.invokevirtual 231, 3) := by decide +kernel
theorem dX6_load_16 : decode cX6_load 16 = .ok (.ifCond .ne 6, 3) := by decide +kernel
theorem dX6_load_19 : decode cX6_load 19 = .ok (.bipush (-3), 2) := by decide +kernel
theorem dX6_load_21 : decode cX6_load 21 = .ok (.ireturn, 1) := by decide +kernel
theorem dX6_load_22 : decode cX6_load 22 = .ok (.aload_n 0, 1) := by decide +kernel
theorem dX6_load_23 : decode cX6_load 23 = .ok (.aload_n 1, 1) := by decide +kernel
theorem dX6_load_24 : decode cX6_load 24 = .ok (.getfield 237, 3) := by decide +kernel
theorem dX6_load_27 : decode cX6_load 27 = .ok (.invokevirtual 52, 3) := by decide +kernel
theorem dX6_load_30 : decode cX6_load 30 = .ok (.istore_n 2, 1) := by decide +kernel
theorem dX6_load_31 : decode cX6_load 31 = .ok (.iload_n 2, 1) := by decide +kernel
theorem dX6_load_32 : decode cX6_load 32 = .ok (.ifCond .lt 11, 3) := by decide +kernel
theorem dX6_load_35 : decode cX6_load 35 = .ok (.aload_n 0, 1) := by decide +kernel
theorem dX6_load_36 : decode cX6_load 36 = .ok (.getfield 26, 3) := by decide +kernel
theorem dX6_load_39 : decode cX6_load 39 = .ok (.iconst 0, 1) := by decide +kernel
theorem dX6_load_40 : decode cX6_load 40 = .ok (.invokevirtual 222, 3) := by decide +kernel
theorem dX6_load_43 : decode cX6_load 43 = .ok (.iload_n 2, 1) := by decide +kernel
theorem dX6_load_44 : decode cX6_load 44 = .ok (.ireturn, 1) := by decide +kernel
theorem dX6_isState_0 : decode cX6_isState 0 = .ok (.iload_n 0, 1) := by decide +kernel
theorem dX6_isState_1 : decode cX6_isState 1 = .ok (.ifCond .lt 13, 3) := by decide +kernel
theorem dX6_isState_4 : decode cX6_isState 4 = .ok (.iload_n 0, 1) := by decide +kernel
theorem dX6_isState_5 : decode cX6_isState 5 = .ok (.bipush 7, 2) := by decide +kernel
theorem dX6_isState_7 : decode cX6_isState 7 = .ok (.if_icmp .gt 7, 3) := by decide +kernel
theorem dX6_isState_10 : decode cX6_isState 10 = .ok (.iconst 1, 1) := by decide +kernel
theorem dX6_isState_11 : decode cX6_isState 11 = .ok (.goto 4, 3) := by decide +kernel
theorem dX6_isState_14 : decode cX6_isState 14 = .ok (.iconst 0, 1) := by decide +kernel
theorem dX6_isState_15 : decode cX6_isState 15 = .ok (.ireturn, 1) := by decide +kernel
theorem dX6_isCall_0 : decode cX6_isCall 0 = .ok (.iload_n 0, 1) := by decide +kernel
theorem dX6_isCall_1 : decode cX6_isCall 1 = .ok (.ifCond .lt 13, 3) := by decide +kernel
theorem dX6_isCall_4 : decode cX6_isCall 4 = .ok (.iload_n 0, 1) := by decide +kernel
theorem dX6_isCall_5 : decode cX6_isCall 5 = .ok (.bipush 25, 2) := by decide +kernel
theorem dX6_isCall_7 : decode cX6_isCall 7 = .ok (.if_icmp .gt 7, 3) := by decide +kernel
theorem dX6_isCall_10 : decode cX6_isCall 10 = .ok (.iconst 1, 1) := by decide +kernel
theorem dX6_isCall_11 : decode cX6_isCall 11 = .ok (.goto 4, 3) := by decide +kernel
theorem dX6_isCall_14 : decode cX6_isCall 14 = .ok (.iconst 0, 1) := by decide +kernel
theorem dX6_isCall_15 : decode cX6_isCall 15 = .ok (.ireturn, 1) := by decide +kernel
theorem dX6_isFlag_0 : decode cX6_isFlag 0 = .ok (.iload_n 0, 1) := by decide +kernel
theorem dX6_isFlag_1 : decode cX6_isFlag 1 = .ok (.ifCond .eq 8, 3) := by decide +kernel
theorem dX6_isFlag_4 : decode cX6_isFlag 4 = .ok (.iload_n 0, 1) := by decide +kernel
theorem dX6_isFlag_5 : decode cX6_isFlag 5 = .ok (.iconst 1, 1) := by decide +kernel
theorem dX6_isFlag_6 : decode cX6_isFlag 6 = .ok (.if_icmp .ne 7, 3) := by decide +kernel
theorem dX6_isFlag_9 : decode cX6_isFlag 9 = .ok (.iconst 1, 1) := by decide +kernel
theorem dX6_isFlag_10 : decode cX6_isFlag 10 = .ok (.goto 4, 3) := by decide +kernel
theorem dX6_isFlag_13 : decode cX6_isFlag 13 = .ok (.iconst 0, 1) := by decide +kernel
theorem dX6_isFlag_14 : decode cX6_isFlag 14 = .ok (.ireturn, 1) := by decide +kernel
theorem dX6_isPartner_0 : decode cX6_isPartner 0 = .ok (.iload_n 0, 1) := by decide +kernel
theorem dX6_isPartner_1 : decode cX6_isPartner 1 = .ok (.ifCond .eq 8, 3) := by decide +kernel
theorem dX6_isPartner_4 : decode cX6_isPartner 4 = .ok (.iload_n 0, 1) := by decide +kernel
theorem dX6_isPartner_5 : decode cX6_isPartner 5 = .ok (.iconst 1, 1) := by decide +kernel
theorem dX6_isPartner_6 : decode cX6_isPartner 6 = .ok (.if_icmp .ne 7, 3) := by decide +kernel
theorem dX6_isPartner_9 : decode cX6_isPartner 9 = .ok (.iconst 1, 1) := by decide +kernel
theorem dX6_isPartner_10 : decode cX6_isPartner 10 = .ok (.goto 4, 3) := by decide +kernel
theorem dX6_isPartner_13 : decode cX6_isPartner 13 = .ok (.iconst 0, 1) := by decide +kernel
theorem dX6_isPartner_14 : decode cX6_isPartner 14 = .ok (.ireturn, 1) := by decide +kernel
theorem dX6_isStrain_0 : decode cX6_isStrain 0 = .ok (.iload_n 0, 1) := by decide +kernel
theorem dX6_isStrain_1 : decode cX6_isStrain 1 = .ok (.ifCond .lt 12, 3) := by decide +kernel
theorem dX6_isStrain_4 : decode cX6_isStrain 4 = .ok (.iload_n 0, 1) := by decide +kernel
theorem dX6_isStrain_5 : decode cX6_isStrain 5 = .ok (.iconst 4, 1) := by decide +kernel
theorem dX6_isStrain_6 : decode cX6_isStrain 6 = .ok (.if_icmp .gt 7, 3) := by decide +kernel
theorem dX6_isStrain_9 : decode cX6_isStrain 9 = .ok (.iconst 1, 1) := by decide +kernel
theorem dX6_isStrain_10 : decode cX6_isStrain 10 = .ok (.goto 4, 3) := by decide +kernel
theorem dX6_isStrain_13 : decode cX6_isStrain 13 = .ok (.iconst 0, 1) := by decide +kernel
theorem dX6_isStrain_14 : decode cX6_isStrain 14 = .ok (.ireturn, 1) := by decide +kernel
theorem dX6_isCharacter_0 : decode cX6_isCharacter 0 = .ok (.iload_n 0, 1) := by decide +kernel
theorem dX6_isCharacter_1 : decode cX6_isCharacter 1 = .ok (.bipush 33, 2) := by decide +kernel
theorem dX6_isCharacter_3 : decode cX6_isCharacter 3 = .ok (.if_icmp .lt 13, 3) := by decide +kernel
theorem dX6_isCharacter_6 : decode cX6_isCharacter 6 = .ok (.iload_n 0, 1) := by decide +kernel
theorem dX6_isCharacter_7 : decode cX6_isCharacter 7 = .ok (.bipush 126, 2) := by decide +kernel
theorem dX6_isCharacter_9 : decode cX6_isCharacter 9 = .ok (.if_icmp .gt 7, 3) := by decide +kernel
theorem dX6_isCharacter_12 : decode cX6_isCharacter 12 = .ok (.iconst 1, 1) := by decide +kernel
theorem dX6_isCharacter_13 : decode cX6_isCharacter 13 = .ok (.goto 4, 3) := by decide +kernel
theorem dX6_isCharacter_16 : decode cX6_isCharacter 16 = .ok (.iconst 0, 1) := by decide +kernel
theorem dX6_isCharacter_17 : decode cX6_isCharacter 17 = .ok (.ireturn, 1) := by decide +kernel
theorem dX6_isRule_0 : decode cX6_isRule 0 = .ok (.iload_n 1, 1) := by decide +kernel
theorem dX6_isRule_1 : decode cX6_isRule 1 = .ok (.ifCond .lt 18, 3) := by decide +kernel
theorem dX6_isRule_4 : decode cX6_isRule 4 = .ok (.iload_n 1, 1) := by decide +kernel
theorem dX6_isRule_5 : decode cX6_isRule 5 = .ok (.aload_n 0, 1) := by decide +kernel
theorem dX6_isRule_6 : decode cX6_isRule 6 = .ok (.getfield 12, 3) := by decide +kernel
theorem dX6_isRule_9 : decode cX6_isRule 9 = .ok (.invokevirtual 82, 3) := by decide +kernel
theorem dX6_isRule_12 : decode cX6_isRule 12 = .ok (.if_icmp .ge 7, 3) := by decide +kernel
theorem dX6_isRule_15 : decode cX6_isRule 15 = .ok (.iconst 1, 1) := by decide +kernel
theorem dX6_isRule_16 : decode cX6_isRule 16 = .ok (.goto 4, 3) := by decide +kernel
theorem dX6_isRule_19 : decode cX6_isRule 19 = .ok (.iconst 0, 1) := by decide +kernel
theorem dX6_isRule_20 : decode cX6_isRule 20 = .ok (.ireturn, 1) := by decide +kernel
theorem dX6_handOf_0 : decode cX6_handOf 0 = .ok (.iload_n 1, 1) := by decide +kernel
theorem dX6_handOf_1 : decode cX6_handOf 1 = .ok (.ifCond .ne 10, 3) := by decide +kernel
theorem dX6_handOf_4 : decode cX6_handOf 4 = .ok (.aload_n 0, 1) := by decide +kernel
theorem dX6_handOf_5 : decode cX6_handOf 5 = .ok (.getfield 30, 3) := by decide +kernel
theorem dX6_handOf_8 : decode cX6_handOf 8 = .ok (.goto 7, 3) := by decide +kernel
theorem dX6_handOf_11 : decode cX6_handOf 11 = .ok (.aload_n 0, 1) := by decide +kernel
theorem dX6_handOf_12 : decode cX6_handOf 12 = .ok (.getfield 34, 3) := by decide +kernel
theorem dX6_handOf_15 : decode cX6_handOf 15 = .ok (.ireturn, 1) := by decide +kernel
theorem dX6_addRule_0 : decode cX6_addRule 0 = .ok (.aload_n 0, 1) := by decide +kernel
theorem dX6_addRule_1 : decode cX6_addRule 1 = .ok (.getfield 12, 3) := by decide +kernel
theorem dX6_addRule_4 : decode cX6_addRule 4 = .ok (.invokevirtual 82, 3) := by decide +kernel
theorem dX6_addRule_7 : decode cX6_addRule 7 = .ok (.bipush 24, 2) := by decide +kernel
theorem dX6_addRule_9 : decode cX6_addRule 9 = .ok (.if_icmp .lt 6, 3) := by decide +kernel
theorem dX6_addRule_12 : decode cX6_addRule 12 = .ok (.bipush (-4), 2) := by decide +kernel
theorem dX6_addRule_14 : decode cX6_addRule 14 = .ok (.ireturn, 1) := by decide +kernel
theorem dX6_addRule_15 : decode cX6_addRule 15 = .ok (.iconst 0, 1) := by decide +kernel
theorem dX6_addRule_16 : decode cX6_addRule 16 = .ok (.istore_n 2, 1) := by decide +kernel
theorem dX6_addRule_17 : decode cX6_addRule 17 = .ok (.iload_n 2, 1) := by decide +kernel
theorem dX6_addRule_18 : decode cX6_addRule 18 = .ok (.aload_n 0, 1) := by decide +kernel
theorem dX6_addRule_19 : decode cX6_addRule 19 = .ok (.getfield 12, 3) := by decide +kernel
theorem dX6_addRule_22 : decode cX6_addRule 22 = .ok (.invokevirtual 82, 3) := by decide +kernel
theorem dX6_addRule_25 : decode cX6_addRule 25 = .ok (.if_icmp .ge 46, 3) := by decide +kernel
theorem dX6_addRule_28 : decode cX6_addRule 28 = .ok (.aload_n 0, 1) := by decide +kernel
theorem dX6_addRule_29 : decode cX6_addRule 29 = .ok (.getfield 12, 3) := by decide +kernel
theorem dX6_addRule_32 : decode cX6_addRule 32 = .ok (.iload_n 2, 1) := by decide +kernel
theorem dX6_addRule_33 : decode cX6_addRule 33 = .ok (.invokevirtual 65, 3) := by decide +kernel
theorem dX6_addRule_36 : decode cX6_addRule 36 = .ok (.checkcast 47, 3) := by decide +kernel
theorem dX6_addRule_39 : decode cX6_addRule 39 = .ok (.astore_n 3, 1) := by decide +kernel
theorem dX6_addRule_40 : decode cX6_addRule 40 = .ok (.aload_n 3, 1) := by decide +kernel
theorem dX6_addRule_41 : decode cX6_addRule 41 = .ok (.getfield 193, 3) := by decide +kernel
theorem dX6_addRule_44 : decode cX6_addRule 44 = .ok (.aload_n 1, 1) := by decide +kernel
theorem dX6_addRule_45 : decode cX6_addRule 45 = .ok (.getfield 193, 3) := by decide +kernel
theorem dX6_addRule_48 : decode cX6_addRule 48 = .ok (.if_icmp .ne 17, 3) := by decide +kernel
theorem dX6_addRule_51 : decode cX6_addRule 51 = .ok (.aload_n 3, 1) := by decide +kernel
theorem dX6_addRule_52 : decode cX6_addRule 52 = .ok (.getfield 90, 3) := by decide +kernel
theorem dX6_addRule_55 : decode cX6_addRule 55 = .ok (.aload_n 1, 1) := by decide +kernel
theorem dX6_addRule_56 : decode cX6_addRule 56 = .ok (.getfield 90, 3) := by decide +kernel
theorem dX6_addRule_59 : decode cX6_addRule 59 = .ok (.if_icmp .ne 6, 3) := by decide +kernel
theorem dX6_addRule_62 : decode cX6_addRule 62 = .ok (.bipush (-5), 2) := by decide +kernel
theorem dX6_addRule_64 : decode cX6_addRule 64 = .ok (.ireturn, 1) := by decide +kernel
theorem dX6_addRule_65 : decode cX6_addRule 65 = .ok (.iinc 2 1, 3) := by decide +kernel
theorem dX6_addRule_68 : decode cX6_addRule 68 = .ok (.goto (-51), 3) := by decide +kernel
theorem dX6_addRule_71 : decode cX6_addRule 71 = .ok (.aload_n 0, 1) := by decide +kernel
theorem dX6_addRule_72 : decode cX6_addRule 72 = .ok (.getfield 12, 3) := by decide +kernel
theorem dX6_addRule_75 : decode cX6_addRule 75 = .ok (.aload_n 1, 1) := by decide +kernel
theorem dX6_addRule_76 : decode cX6_addRule 76 = .ok (.invokevirtual 241, 3) := by decide +kernel
theorem dX6_addRule_79 : decode cX6_addRule 79 = .ok (.pop, 1) := by decide +kernel
theorem dX6_addRule_80 : decode cX6_addRule 80 = .ok (.aload_n 0, 1) := by decide +kernel
theorem dX6_addRule_81 : decode cX6_addRule 81 = .ok (.getfield 19, 3) := by decide +kernel
theorem dX6_addRule_84 : decode cX6_addRule 84 = .ok (.invokevirtual 73, 3) := by decide +kernel
theorem dX6_addRule_87 : decode cX6_addRule 87 = .ok (.aload_n 0, 1) := by decide +kernel
theorem dX6_addRule_88 : decode cX6_addRule 88 = .ok (.getfield 12, 3) := by decide +kernel
theorem dX6_addRule_91 : decode cX6_addRule 91 = .ok (.invokevirtual 82, 3) := by decide +kernel
theorem dX6_addRule_94 : decode cX6_addRule 94 = .ok (.iconst 1, 1) := by decide +kernel
theorem dX6_addRule_95 : decode cX6_addRule 95 = .ok (.isub, 1) := by decide +kernel
theorem dX6_addRule_96 : decode cX6_addRule 96 = .ok (.ireturn, 1) := by decide +kernel
theorem dX6_firstRule_0 : decode cX6_firstRule 0 = .ok (.iconst 0, 1) := by decide +kernel
theorem dX6_firstRule_1 : decode cX6_firstRule 1 = .ok (.istore_n 3, 1) := by decide +kernel
theorem dX6_firstRule_2 : decode cX6_firstRule 2 = .ok (.iload_n 3, 1) := by decide +kernel
theorem dX6_firstRule_3 : decode cX6_firstRule 3 = .ok (.aload_n 0, 1) := by decide +kernel
theorem dX6_firstRule_4 : decode cX6_firstRule 4 = .ok (.getfield 12, 3) := by decide +kernel
theorem dX6_firstRule_7 : decode cX6_firstRule 7 = .ok (.invokevirtual 82, 3) := by decide +kernel
theorem dX6_firstRule_10 : decode cX6_firstRule 10 = .ok (.if_icmp .ge 42, 3) := by decide +kernel
theorem dX6_firstRule_13 : decode cX6_firstRule 13 = .ok (.aload_n 0, 1) := by decide +kernel
theorem dX6_firstRule_14 : decode cX6_firstRule 14 = .ok (.getfield 12, 3) := by decide +kernel
theorem dX6_firstRule_17 : decode cX6_firstRule 17 = .ok (.iload_n 3, 1) := by decide +kernel
theorem dX6_firstRule_18 : decode cX6_firstRule 18 = .ok (.invokevirtual 65, 3) := by decide +kernel
theorem dX6_firstRule_21 : decode cX6_firstRule 21 = .ok (.checkcast 47, 3) := by decide +kernel
theorem dX6_firstRule_24 : decode cX6_firstRule 24 = .ok (.astore 4, 2) := by decide +kernel
theorem dX6_firstRule_26 : decode cX6_firstRule 26 = .ok (.aload 4, 2) := by decide +kernel
theorem dX6_firstRule_28 : decode cX6_firstRule 28 = .ok (.aload_n 1, 1) := by decide +kernel
theorem dX6_firstRule_29 : decode cX6_firstRule 29 = .ok (.invokevirtual 244, 3) := by decide +kernel
theorem dX6_firstRule_32 : decode cX6_firstRule 32 = .ok (.ifCond .eq 14, 3) := by decide +kernel
theorem dX6_firstRule_35 : decode cX6_firstRule 35 = .ok (.aload 4, 2) := by decide +kernel
theorem dX6_firstRule_37 : decode cX6_firstRule 37 = .ok (.iload_n 2, 1) := by decide +kernel
theorem dX6_firstRule_38 : decode cX6_firstRule 38 = .ok (.invokevirtual 248, 3) := by decide +kernel
theorem dX6_firstRule_41 : decode cX6_firstRule 41 = .ok (.ifCond .eq 5, 3) := by decide +kernel
theorem dX6_firstRule_44 : decode cX6_firstRule 44 = .ok (.iload_n 3, 1) := by decide +kernel
theorem dX6_firstRule_45 : decode cX6_firstRule 45 = .ok (.ireturn, 1) := by decide +kernel
theorem dX6_firstRule_46 : decode cX6_firstRule 46 = .ok (.iinc 3 1, 3) := by decide +kernel
theorem dX6_firstRule_49 : decode cX6_firstRule 49 = .ok (.goto (-47), 3) := by decide +kernel
theorem dX6_firstRule_52 : decode cX6_firstRule 52 = .ok (.bipush (-6), 2) := by decide +kernel
theorem dX6_firstRule_54 : decode cX6_firstRule 54 = .ok (.ireturn, 1) := by decide +kernel
theorem dX6_openRule_0 : decode cX6_openRule 0 = .ok (.iconst 0, 1) := by decide +kernel
theorem dX6_openRule_1 : decode cX6_openRule 1 = .ok (.istore_n 2, 1) := by decide +kernel
theorem dX6_openRule_2 : decode cX6_openRule 2 = .ok (.iload_n 2, 1) := by decide +kernel
theorem dX6_openRule_3 : decode cX6_openRule 3 = .ok (.aload_n 0, 1) := by decide +kernel
theorem dX6_openRule_4 : decode cX6_openRule 4 = .ok (.getfield 12, 3) := by decide +kernel
theorem dX6_openRule_7 : decode cX6_openRule 7 = .ok (.invokevirtual 82, 3) := by decide +kernel
theorem dX6_openRule_10 : decode cX6_openRule 10 = .ok (.if_icmp .ge 45, 3) := by decide +kernel
theorem dX6_openRule_13 : decode cX6_openRule 13 = .ok (.aload_n 0, 1) := by decide +kernel
theorem dX6_openRule_14 : decode cX6_openRule 14 = .ok (.getfield 12, 3) := by decide +kernel
theorem dX6_openRule_17 : decode cX6_openRule 17 = .ok (.iload_n 2, 1) := by decide +kernel
theorem dX6_openRule_18 : decode cX6_openRule 18 = .ok (.invokevirtual 65, 3) := by decide +kernel
theorem dX6_openRule_21 : decode cX6_openRule 21 = .ok (.checkcast 47, 3) := by decide +kernel
theorem dX6_openRule_24 : decode cX6_openRule 24 = .ok (.astore_n 3, 1) := by decide +kernel
theorem dX6_openRule_25 : decode cX6_openRule 25 = .ok (.aload_n 3, 1) := by decide +kernel
theorem dX6_openRule_26 : decode cX6_openRule 26 = .ok (.getfield 90, 3) := by decide +kernel
theorem dX6_openRule_29 : decode cX6_openRule 29 = .ok (.iload_n 1, 1) := by decide +kernel
theorem dX6_openRule_30 : decode cX6_openRule 30 = .ok (.if_icmp .ne 19, 3) := by decide +kernel
theorem dX6_openRule_33 : decode cX6_openRule 33 = .ok (.aload_n 3, 1) := by decide +kernel
theorem dX6_openRule_34 : decode cX6_openRule 34 = .ok (.aload_n 0, 1) := by decide +kernel
theorem dX6_openRule_35 : decode cX6_openRule 35 = .ok (.getfield 19, 3) := by decide +kernel
theorem dX6_openRule_38 : decode cX6_openRule 38 = .ok (.getfield 122, 3) := by decide +kernel
theorem dX6_openRule_41 : decode cX6_openRule 41 = .ok (.invokevirtual 244, 3) := by decide +kernel
theorem dX6_openRule_44 : decode cX6_openRule 44 = .ok (.ifCond .eq 5, 3) := by decide +kernel
theorem dX6_openRule_47 : decode cX6_openRule 47 = .ok (.iload_n 2, 1) := by decide +kernel
theorem dX6_openRule_48 : decode cX6_openRule 48 = .ok (.ireturn, 1) := by decide +kernel
theorem dX6_openRule_49 : decode cX6_openRule 49 = .ok (.iinc 2 1, 3) := by decide +kernel
theorem dX6_openRule_52 : decode cX6_openRule 52 = .ok (.goto (-50), 3) := by decide +kernel
theorem dX6_openRule_55 : decode cX6_openRule 55 = .ok (.bipush (-6), 2) := by decide +kernel
theorem dX6_openRule_57 : decode cX6_openRule 57 = .ok (.ireturn, 1) := by decide +kernel
theorem dX6_countAdmitted_0 : decode cX6_countAdmitted 0 = .ok (.iconst 0, 1) := by decide +kernel
theorem dX6_countAdmitted_1 : decode cX6_countAdmitted 1 = .ok (.istore_n 2, 1) := by decide +kernel
theorem dX6_countAdmitted_2 : decode cX6_countAdmitted 2 = .ok (.iconst 0, 1) := by decide +kernel
theorem dX6_countAdmitted_3 : decode cX6_countAdmitted 3 = .ok (.istore_n 3, 1) := by decide +kernel
theorem dX6_countAdmitted_4 : decode cX6_countAdmitted 4 = .ok (.bipush 31, 2) := by decide +kernel
theorem dX6_countAdmitted_6 : decode cX6_countAdmitted 6 = .ok (.istore 4, 2) := by decide +kernel
theorem dX6_countAdmitted_8 : decode cX6_countAdmitted 8 = .ok (.iload_n 3, 1) := by decide +kernel
theorem dX6_countAdmitted_9 : decode cX6_countAdmitted 9 = .ok (.sipush 15504, 3) := by decide +kernel
theorem dX6_countAdmitted_12 : decode cX6_countAdmitted 12 = .ok (.if_icmp .ge 31, 3) := by decide +kernel
theorem dX6_countAdmitted_15 : decode cX6_countAdmitted 15 = .ok (.aload_n 1, 1) := by decide +kernel
theorem dX6_countAdmitted_16 : decode cX6_countAdmitted 16 = .ok (.iload 4, 2) := by decide +kernel
theorem dX6_countAdmitted_18 : decode cX6_countAdmitted 18 = .ok (.invokestatic 129, 3) := by decide +kernel
theorem dX6_countAdmitted_21 : decode cX6_countAdmitted 21 = .ok (.invokevirtual 248, 3) := by decide +kernel
theorem dX6_countAdmitted_24 : decode cX6_countAdmitted 24 = .ok (.ifCond .eq 6, 3) := by decide +kernel
theorem dX6_countAdmitted_27 : decode cX6_countAdmitted 27 = .ok (.iinc 2 1, 3) := by decide +kernel
theorem dX6_countAdmitted_30 : decode cX6_countAdmitted 30 = .ok (.iinc 3 1, 3) := by decide +kernel
theorem dX6_countAdmitted_33 : decode cX6_countAdmitted 33 = .ok (.iload 4, 2) := by decide +kernel
theorem dX6_countAdmitted_35 : decode cX6_countAdmitted 35 = .ok (.invokestatic 186, 3) := by decide +kernel
theorem dX6_countAdmitted_38 : decode cX6_countAdmitted 38 = .ok (.istore 4, 2) := by decide +kernel
theorem dX6_countAdmitted_40 : decode cX6_countAdmitted 40 = .ok (.goto (-32), 3) := by decide +kernel
theorem dX6_countAdmitted_43 : decode cX6_countAdmitted 43 = .ok (.iload_n 2, 1) := by decide +kernel
theorem dX6_countAdmitted_44 : decode cX6_countAdmitted 44 = .ok (.ireturn, 1) := by decide +kernel
theorem dX6_countWithRule_0 : decode cX6_countWithRule 0 = .ok (.iconst 0, 1) := by decide +kernel
theorem dX6_countWithRule_1 : decode cX6_countWithRule 1 = .ok (.istore_n 3, 1) := by decide +kernel
theorem dX6_countWithRule_2 : decode cX6_countWithRule 2 = .ok (.iconst 0, 1) := by decide +kernel
theorem dX6_countWithRule_3 : decode cX6_countWithRule 3 = .ok (.istore 4, 2) := by decide +kernel
theorem dX6_countWithRule_5 : decode cX6_countWithRule 5 = .ok (.bipush 31, 2) := by decide +kernel
theorem dX6_countWithRule_7 : decode cX6_countWithRule 7 = .ok (.istore 5, 2) := by decide +kernel
theorem dX6_countWithRule_9 : decode cX6_countWithRule 9 = .ok (.iload 4, 2) := by decide +kernel
theorem dX6_countWithRule_11 : decode cX6_countWithRule 11 = .ok (.sipush 15504, 3) := by decide +kernel
theorem dX6_countWithRule_14 : decode cX6_countWithRule 14 = .ok (.if_icmp .ge 33, 3) := by decide +kernel
theorem dX6_countWithRule_17 : decode cX6_countWithRule 17 = .ok (.aload_n 0, 1) := by decide +kernel
theorem dX6_countWithRule_18 : decode cX6_countWithRule 18 = .ok (.aload_n 1, 1) := by decide +kernel
theorem dX6_countWithRule_19 : decode cX6_countWithRule 19 = .ok (.iload 5, 2) := by decide +kernel
theorem dX6_countWithRule_21 : decode cX6_countWithRule 21 = .ok (.invokestatic 129, 3) := by decide +kernel
theorem dX6_countWithRule_24 : decode cX6_countWithRule 24 = .ok (.invokevirtual 132, 3) := by decide +kernel
theorem dX6_countWithRule_27 : decode cX6_countWithRule 27 = .ok (.iload_n 2, 1) := by decide +kernel
theorem dX6_countWithRule_28 : decode cX6_countWithRule 28 = .ok (.if_icmp .ne 6, 3) := by decide +kernel
theorem dX6_countWithRule_31 : decode cX6_countWithRule 31 = .ok (.iinc 3 1, 3) := by decide +kernel
theorem dX6_countWithRule_34 : decode cX6_countWithRule 34 = .ok (.iinc 4 1, 3) := by decide +kernel
theorem dX6_countWithRule_37 : decode cX6_countWithRule 37 = .ok (.iload 5, 2) := by decide +kernel
theorem dX6_countWithRule_39 : decode cX6_countWithRule 39 = .ok (.invokestatic 186, 3) := by decide +kernel
theorem dX6_countWithRule_42 : decode cX6_countWithRule 42 = .ok (.istore 5, 2) := by decide +kernel
theorem dX6_countWithRule_44 : decode cX6_countWithRule 44 = .ok (.goto (-35), 3) := by decide +kernel
theorem dX6_countWithRule_47 : decode cX6_countWithRule 47 = .ok (.iload_n 3, 1) := by decide +kernel
theorem dX6_countWithRule_48 : decode cX6_countWithRule 48 = .ok (.ireturn, 1) := by decide +kernel
theorem dX6_fitsAuction_0 : decode cX6_fitsAuction 0 = .ok (.iload_n 2, 1) := by decide +kernel
theorem dX6_fitsAuction_1 : decode cX6_fitsAuction 1 = .ok (.invokestatic 129, 3) := by decide +kernel
theorem dX6_fitsAuction_4 : decode cX6_fitsAuction 4 = .ok (.istore_n 3, 1) := by decide +kernel
theorem dX6_fitsAuction_5 : decode cX6_fitsAuction 5 = .ok (.iload_n 1, 1) := by decide +kernel
theorem dX6_fitsAuction_6 : decode cX6_fitsAuction 6 = .ok (.istore 4, 2) := by decide +kernel
theorem dX6_fitsAuction_8 : decode cX6_fitsAuction 8 = .ok (.iload 4, 2) := by decide +kernel
theorem dX6_fitsAuction_10 : decode cX6_fitsAuction 10 = .ok (.aload_n 0, 1) := by decide +kernel
theorem dX6_fitsAuction_11 : decode cX6_fitsAuction 11 = .ok (.getfield 19, 3) := by decide +kernel
theorem dX6_fitsAuction_14 : decode cX6_fitsAuction 14 = .ok (.getfield 115, 3) := by decide +kernel
theorem dX6_fitsAuction_17 : decode cX6_fitsAuction 17 = .ok (.invokevirtual 82, 3) := by decide +kernel
theorem dX6_fitsAuction_20 : decode cX6_fitsAuction 20 = .ok (.if_icmp .ge 46, 3) := by decide +kernel
theorem dX6_fitsAuction_23 : decode cX6_fitsAuction 23 = .ok (.aload_n 0, 1) := by decide +kernel
theorem dX6_fitsAuction_24 : decode cX6_fitsAuction 24 = .ok (.getfield 19, 3) := by decide +kernel
theorem dX6_fitsAuction_27 : decode cX6_fitsAuction 27 = .ok (.getfield 115, 3) := by decide +kernel
theorem dX6_fitsAuction_30 : decode cX6_fitsAuction 30 = .ok (.iload 4, 2) := by decide +kernel
theorem dX6_fitsAuction_32 : decode cX6_fitsAuction 32 = .ok (.invokevirtual 65, 3) := by decide +kernel
theorem dX6_fitsAuction_35 : decode cX6_fitsAuction 35 = .ok (.checkcast 149, 3) := by decide +kernel
theorem dX6_fitsAuction_38 : decode cX6_fitsAuction 38 = .ok (.astore 5, 2) := by decide +kernel
theorem dX6_fitsAuction_40 : decode cX6_fitsAuction 40 = .ok (.aload_n 0, 1) := by decide +kernel
theorem dX6_fitsAuction_41 : decode cX6_fitsAuction 41 = .ok (.aload 5, 2) := by decide +kernel
theorem dX6_fitsAuction_43 : decode cX6_fitsAuction 43 = .ok (.getfield 251, 3) := by decide +kernel
theorem dX6_fitsAuction_46 : decode cX6_fitsAuction 46 = .ok (.iload_n 3, 1) := by decide +kernel
theorem dX6_fitsAuction_47 : decode cX6_fitsAuction 47 = .ok (.invokevirtual 132, 3) := by decide +kernel
theorem dX6_fitsAuction_50 : decode cX6_fitsAuction 50 = .ok (.aload 5, 2) := by decide +kernel
theorem dX6_fitsAuction_52 : decode cX6_fitsAuction 52 = .ok (.getfield 254, 3) := by decide +kernel
theorem dX6_fitsAuction_55 : decode cX6_fitsAuction 55 = .ok (.if_icmp .eq 5, 3) := by decide +kernel
theorem dX6_fitsAuction_58 : decode cX6_fitsAuction 58 = .ok (.iconst 0, 1) := by decide +kernel
theorem dX6_fitsAuction_59 : decode cX6_fitsAuction 59 = .ok (.ireturn, 1) := by decide +kernel
theorem dX6_fitsAuction_60 : decode cX6_fitsAuction 60 = .ok (.iinc 4 2, 3) := by decide +kernel
theorem dX6_fitsAuction_63 : decode cX6_fitsAuction 63 = .ok (.goto (-55), 3) := by decide +kernel
theorem dX6_fitsAuction_66 : decode cX6_fitsAuction 66 = .ok (.aload_n 0, 1) := by decide +kernel
theorem dX6_fitsAuction_67 : decode cX6_fitsAuction 67 = .ok (.getfield 19, 3) := by decide +kernel
theorem dX6_fitsAuction_70 : decode cX6_fitsAuction 70 = .ok (.getfield 136, 3) := by decide +kernel
theorem dX6_fitsAuction_73 : decode cX6_fitsAuction 73 = .ok (.ifCond .eq 37, 3) := by decide +kernel
theorem dX6_fitsAuction_76 : decode cX6_fitsAuction 76 = .ok (.aload_n 0, 1) := by decide +kernel
theorem dX6_fitsAuction_77 : decode cX6_fitsAuction 77 = .ok (.getfield 19, 3) := by decide +kernel
theorem dX6_fitsAuction_80 : decode cX6_fitsAuction 80 = .ok (.invokevirtual 126, 3) := by decide +kernel
theorem dX6_fitsAuction_83 : decode cX6_fitsAuction 83 = .ok (.iload_n 1, 1) := by decide +kernel
theorem dX6_fitsAuction_84 : decode cX6_fitsAuction 84 = .ok (.if_icmp .ne 26, 3) := by decide +kernel
theorem dX6_fitsAuction_87 : decode cX6_fitsAuction 87 = .ok (.aload_n 0, 1) := by decide +kernel
theorem dX6_fitsAuction_88 : decode cX6_fitsAuction 88 = .ok (.aload_n 0, 1) := by decide +kernel
theorem dX6_fitsAuction_89 : decode cX6_fitsAuction 89 = .ok (.getfield 19, 3) := by decide +kernel
theorem dX6_fitsAuction_92 : decode cX6_fitsAuction 92 = .ok (.getfield 122, 3) := by decide +kernel
theorem dX6_fitsAuction_95 : decode cX6_fitsAuction 95 = .ok (.iload_n 3, 1) := by decide +kernel
theorem dX6_fitsAuction_96 : decode cX6_fitsAuction 96 = .ok (.invokevirtual 132, 3) := by decide +kernel
theorem dX6_fitsAuction_99 : decode cX6_fitsAuction 99 = .ok (.bipush (-6), 2) := by decide +kernel
theorem dX6_fitsAuction_101 : decode cX6_fitsAuction 101 = .ok (.if_icmp .ne 7, 3) := by decide +kernel
theorem dX6_fitsAuction_104 : decode cX6_fitsAuction 104 = .ok (.iconst 1, 1) := by decide +kernel
theorem dX6_fitsAuction_105 : decode cX6_fitsAuction 105 = .ok (.goto 4, 3) := by decide +kernel
theorem dX6_fitsAuction_108 : decode cX6_fitsAuction 108 = .ok (.iconst 0, 1) := by decide +kernel
theorem dX6_fitsAuction_109 : decode cX6_fitsAuction 109 = .ok (.ireturn, 1) := by decide +kernel
theorem dX6_fitsAuction_110 : decode cX6_fitsAuction 110 = .ok (.iconst 1, 1) := by decide +kernel
theorem dX6_fitsAuction_111 : decode cX6_fitsAuction 111 = .ok (.ireturn, 1) := by decide +kernel
theorem dX6_isHidden_0 : decode cX6_isHidden 0 = .ok (.iload_n 3, 1) := by decide +kernel
theorem dX6_isHidden_1 : decode cX6_isHidden 1 = .ok (.iload_n 2, 1) := by decide +kernel
theorem dX6_isHidden_2 : decode cX6_isHidden 2 = .ok (.iand, 1) := by decide +kernel
theorem dX6_isHidden_3 : decode cX6_isHidden 3 = .ok (.ifCond .ne 16, 3) := by decide +kernel
theorem dX6_isHidden_6 : decode cX6_isHidden 6 = .ok (.aload_n 0, 1) := by decide +kernel
theorem dX6_isHidden_7 : decode cX6_isHidden 7 = .ok (.iload_n 1, 1) := by decide +kernel
theorem dX6_isHidden_8 : decode cX6_isHidden 8 = .ok (.iload_n 3, 1) := by decide +kernel
theorem dX6_isHidden_9 : decode cX6_isHidden 9 = .ok (.invokevirtual 189, 3) := by decide +kernel
theorem dX6_isHidden_12 : decode cX6_isHidden 12 = .ok (.ifCond .eq 7, 3) := by decide +kernel
theorem dX6_isHidden_15 : decode cX6_isHidden 15 = .ok (.iconst 1, 1) := by decide +kernel
theorem dX6_isHidden_16 : decode cX6_isHidden 16 = .ok (.goto 4, 3) := by decide +kernel
theorem dX6_isHidden_19 : decode cX6_isHidden 19 = .ok (.iconst 0, 1) := by decide +kernel
theorem dX6_isHidden_20 : decode cX6_isHidden 20 = .ok (.ireturn, 1) := by decide +kernel
theorem dX6_countHidden_0 : decode cX6_countHidden 0 = .ok (.iconst 0, 1) := by decide +kernel
theorem dX6_countHidden_1 : decode cX6_countHidden 1 = .ok (.istore_n 3, 1) := by decide +kernel
theorem dX6_countHidden_2 : decode cX6_countHidden 2 = .ok (.iconst 0, 1) := by decide +kernel
theorem dX6_countHidden_3 : decode cX6_countHidden 3 = .ok (.istore 4, 2) := by decide +kernel
theorem dX6_countHidden_5 : decode cX6_countHidden 5 = .ok (.bipush 31, 2) := by decide +kernel
theorem dX6_countHidden_7 : decode cX6_countHidden 7 = .ok (.istore 5, 2) := by decide +kernel
theorem dX6_countHidden_9 : decode cX6_countHidden 9 = .ok (.iload 4, 2) := by decide +kernel
theorem dX6_countHidden_11 : decode cX6_countHidden 11 = .ok (.sipush 15504, 3) := by decide +kernel
theorem dX6_countHidden_14 : decode cX6_countHidden 14 = .ok (.if_icmp .ge 30, 3) := by decide +kernel
theorem dX6_countHidden_17 : decode cX6_countHidden 17 = .ok (.aload_n 0, 1) := by decide +kernel
theorem dX6_countHidden_18 : decode cX6_countHidden 18 = .ok (.iload_n 1, 1) := by decide +kernel
theorem dX6_countHidden_19 : decode cX6_countHidden 19 = .ok (.iload_n 2, 1) := by decide +kernel
theorem dX6_countHidden_20 : decode cX6_countHidden 20 = .ok (.iload 5, 2) := by decide +kernel
theorem dX6_countHidden_22 : decode cX6_countHidden 22 = .ok (.invokevirtual 175, 3) := by decide +kernel
theorem dX6_countHidden_25 : decode cX6_countHidden 25 = .ok (.ifCond .eq 6, 3) := by decide +kernel
theorem dX6_countHidden_28 : decode cX6_countHidden 28 = .ok (.iinc 3 1, 3) := by decide +kernel
theorem dX6_countHidden_31 : decode cX6_countHidden 31 = .ok (.iinc 4 1, 3) := by decide +kernel
theorem dX6_countHidden_34 : decode cX6_countHidden 34 = .ok (.iload 5, 2) := by decide +kernel
theorem dX6_countHidden_36 : decode cX6_countHidden 36 = .ok (.invokestatic 186, 3) := by decide +kernel
theorem dX6_countHidden_39 : decode cX6_countHidden 39 = .ok (.istore 5, 2) := by decide +kernel
theorem dX6_countHidden_41 : decode cX6_countHidden 41 = .ok (.goto (-32), 3) := by decide +kernel
theorem dX6_countHidden_44 : decode cX6_countHidden 44 = .ok (.iload_n 3, 1) := by decide +kernel
theorem dX6_countHidden_45 : decode cX6_countHidden 45 = .ok (.ireturn, 1) := by decide +kernel
theorem dX6_sumOfTricks_0 : decode cX6_sumOfTricks 0 = .ok (.aload_n 0, 1) := by decide +kernel
theorem dX6_sumOfTricks_1 : decode cX6_sumOfTricks 1 = .ok (.iload_n 1, 1) := by decide +kernel
theorem dX6_sumOfTricks_2 : decode cX6_sumOfTricks 2 = .ok (.invokevirtual 102, 3) := by decide +kernel
theorem dX6_sumOfTricks_5 : decode cX6_sumOfTricks 5 = .ok (.istore_n 3, 1) := by decide +kernel
theorem dX6_sumOfTricks_6 : decode cX6_sumOfTricks 6 = .ok (.lconst 0, 1) := by decide +kernel
theorem dX6_sumOfTricks_7 : decode cX6_sumOfTricks 7 = .ok (.lstore 4, 2) := by decide +kernel
theorem dX6_sumOfTricks_9 : decode cX6_sumOfTricks 9 = .ok (.iconst 0, 1) := by decide +kernel
theorem dX6_sumOfTricks_10 : decode cX6_sumOfTricks 10 = .ok (.istore 6, 2) := by decide +kernel
theorem dX6_sumOfTricks_12 : decode cX6_sumOfTricks 12 = .ok (.bipush 31, 2) := by decide +kernel
theorem dX6_sumOfTricks_14 : decode cX6_sumOfTricks 14 = .ok (.istore 7, 2) := by decide +kernel
theorem dX6_sumOfTricks_16 : decode cX6_sumOfTricks 16 = .ok (.iload 6, 2) := by decide +kernel
theorem dX6_sumOfTricks_18 : decode cX6_sumOfTricks 18 = .ok (.sipush 15504, 3) := by decide +kernel
theorem dX6_sumOfTricks_21 : decode cX6_sumOfTricks 21 = .ok (.if_icmp .ge 42, 3) := by decide +kernel
theorem dX6_sumOfTricks_24 : decode cX6_sumOfTricks 24 = .ok (.aload_n 0, 1) := by decide +kernel
theorem dX6_sumOfTricks_25 : decode cX6_sumOfTricks 25 = .ok (.iconst 1, 1) := by decide +kernel
theorem dX6_sumOfTricks_26 : decode cX6_sumOfTricks 26 = .ok (.iload_n 1, 1) := by decide +kernel
theorem dX6_sumOfTricks_27 : decode cX6_sumOfTricks 27 = .ok (.isub, 1) := by decide +kernel
theorem dX6_sumOfTricks_28 : decode cX6_sumOfTricks 28 = .ok (.iload_n 3, 1) := by decide +kernel
theorem dX6_sumOfTricks_29 : decode cX6_sumOfTricks 29 = .ok (.iload 7, 2) := by decide +kernel
theorem dX6_sumOfTricks_31 : decode cX6_sumOfTricks 31 = .ok (.invokevirtual 175, 3) := by decide +kernel
theorem dX6_sumOfTricks_34 : decode cX6_sumOfTricks 34 = .ok (.ifCond .eq 16, 3) := by decide +kernel
theorem dX6_sumOfTricks_37 : decode cX6_sumOfTricks 37 = .ok (.lload 4, 2) := by decide +kernel
theorem dX6_sumOfTricks_39 : decode cX6_sumOfTricks 39 = .ok (.iload_n 2, 1) := by decide +kernel
theorem dX6_sumOfTricks_40 : decode cX6_sumOfTricks 40 = .ok (.iload_n 3, 1) := by decide +kernel
theorem dX6_sumOfTricks_41 : decode cX6_sumOfTricks 41 = .ok (.iload 7, 2) := by decide +kernel
theorem dX6_sumOfTricks_43 : decode cX6_sumOfTricks 43 = .ok (.invokestatic 202, 3) := by decide +kernel
theorem dX6_sumOfTricks_46 : decode cX6_sumOfTricks 46 = .ok (.i2l, 1) := by decide +kernel
theorem dX6_sumOfTricks_47 : decode cX6_sumOfTricks 47 = .ok (.ladd, 1) := by decide +kernel
theorem dX6_sumOfTricks_48 : decode cX6_sumOfTricks 48 = .ok (.lstore 4, 2) := by decide +kernel
theorem dX6_sumOfTricks_50 : decode cX6_sumOfTricks 50 = .ok (.iinc 6 1, 3) := by decide +kernel
theorem dX6_sumOfTricks_53 : decode cX6_sumOfTricks 53 = .ok (.iload 7, 2) := by decide +kernel
theorem dX6_sumOfTricks_55 : decode cX6_sumOfTricks 55 = .ok (.invokestatic 186, 3) := by decide +kernel
theorem dX6_sumOfTricks_58 : decode cX6_sumOfTricks 58 = .ok (.istore 7, 2) := by decide +kernel
theorem dX6_sumOfTricks_60 : decode cX6_sumOfTricks 60 = .ok (.goto (-44), 3) := by decide +kernel
theorem dX6_sumOfTricks_63 : decode cX6_sumOfTricks 63 = .ok (.lload 4, 2) := by decide +kernel
theorem dX6_sumOfTricks_65 : decode cX6_sumOfTricks 65 = .ok (.lreturn, 1) := by decide +kernel
theorem dX7_init_0 : decode cX7_init 0 = .ok (.aload_n 0, 1) := by decide +kernel
theorem dX7_init_1 : decode cX7_init 1 = .ok (.invokespecial 1, 3) := by decide +kernel
theorem dX7_init_4 : decode cX7_init 4 = .ok (.aload_n 0, 1) := by decide +kernel
theorem dX7_init_5 : decode cX7_init 5 = .ok (.sipush 336, 3) := by decide +kernel
theorem dX7_init_8 : decode cX7_init 8 = .ok (.newarray .int, 2) := by decide +kernel
theorem dX7_init_10 : decode cX7_init 10 = .ok (.putfield 7, 3) := by decide +kernel
theorem dX7_init_13 : decode cX7_init 13 = .ok (.aload_n 0, 1) := by decide +kernel
theorem dX7_init_14 : decode cX7_init 14 = .ok (.iconst 2, 1) := by decide +kernel
theorem dX7_init_15 : decode cX7_init 15 = .ok (.newarray .int, 2) := by decide +kernel
theorem dX7_init_17 : decode cX7_init 17 = .ok (.putfield 13, 3) := by decide +kernel
theorem dX7_init_20 : decode cX7_init 20 = .ok (.aload_n 0, 1) := by decide +kernel
theorem dX7_init_21 : decode cX7_init 21 = .ok (.bipush 32, 2) := by decide +kernel
theorem dX7_init_23 : decode cX7_init 23 = .ok (.newarray .int, 2) := by decide +kernel
theorem dX7_init_25 : decode cX7_init 25 = .ok (.putfield 16, 3) := by decide +kernel
theorem dX7_init_28 : decode cX7_init 28 = .ok (.aload_n 0, 1) := by decide +kernel
theorem dX7_init_29 : decode cX7_init 29 = .ok (.bipush 32, 2) := by decide +kernel
theorem dX7_init_31 : decode cX7_init 31 = .ok (.newarray .int, 2) := by decide +kernel
theorem dX7_init_33 : decode cX7_init 33 = .ok (.putfield 19, 3) := by decide +kernel
theorem dX7_init_36 : decode cX7_init 36 = .ok (.aload_n 0, 1) := by decide +kernel
theorem dX7_init_37 : decode cX7_init 37 = .ok (.bipush 12, 2) := by decide +kernel
theorem dX7_init_39 : decode cX7_init 39 = .ok (.newarray .int, 2) := by decide +kernel
theorem dX7_init_41 : decode cX7_init 41 = .ok (.putfield 22, 3) := by decide +kernel
theorem dX7_init_44 : decode cX7_init 44 = .ok (.aload_n 0, 1) := by decide +kernel
theorem dX7_init_45 : decode cX7_init 45 = .ok (.bipush 12, 2) := by decide +kernel
theorem dX7_init_47 : decode cX7_init 47 = .ok (.newarray .int, 2) := by decide +kernel
theorem dX7_init_49 : decode cX7_init 49 = .ok (.putfield 25, 3) := by decide +kernel
theorem dX7_init_52 : decode cX7_init 52 = .ok (.aload_n 0, 1) := by decide +kernel
theorem dX7_init_53 : decode cX7_init 53 = .ok (.bipush 13, 2) := by decide +kernel
theorem dX7_init_55 : decode cX7_init 55 = .ok (.newarray .int, 2) := by decide +kernel
theorem dX7_init_57 : decode cX7_init 57 = .ok (.putfield 28, 3) := by decide +kernel
theorem dX7_init_60 : decode cX7_init 60 = .ok (.aload_n 0, 1) := by decide +kernel
theorem dX7_init_61 : decode cX7_init 61 = .ok (.bipush 13, 2) := by decide +kernel
theorem dX7_init_63 : decode cX7_init 63 = .ok (.newarray .int, 2) := by decide +kernel
theorem dX7_init_65 : decode cX7_init 65 = .ok (.putfield 31, 3) := by decide +kernel
theorem dX7_init_68 : decode cX7_init 68 = .ok (.aload_n 0, 1) := by decide +kernel
theorem dX7_init_69 : decode cX7_init 69 = .ok (.bipush 13, 2) := by decide +kernel
theorem dX7_init_71 : decode cX7_init 71 = .ok (.newarray .int, 2) := by decide +kernel
theorem dX7_init_73 : decode cX7_init 73 = .ok (.putfield 34, 3) := by decide +kernel
theorem dX7_init_76 : decode cX7_init 76 = .ok (.aload_n 0, 1) := by decide +kernel
theorem dX7_init_77 : decode cX7_init 77 = .ok (.bipush 60, 2) := by decide +kernel
theorem dX7_init_79 : decode cX7_init 79 = .ok (.newarray .int, 2) := by decide +kernel
theorem dX7_init_81 : decode cX7_init 81 = .ok (.putfield 37, 3) := by decide +kernel
theorem dX7_init_84 : decode cX7_init 84 = .ok (.aload_n 0, 1) := by decide +kernel
theorem dX7_init_85 : decode cX7_init 85 = .ok (.bipush 14, 2) := by decide +kernel
theorem dX7_init_87 : decode cX7_init 87 = .ok (.newarray .int, 2) := by decide +kernel
theorem dX7_init_89 : decode cX7_init 89 = .ok (.putfield 40, 3) := by decide +kernel
theorem dX7_init_92 : decode cX7_init 92 = .ok (.aload_n 0, 1) := by decide +kernel
theorem dX7_init_93 : decode cX7_init 93 = .ok (.iconst 5, 1) := by decide +kernel
theorem dX7_init_94 : decode cX7_init 94 = .ok (.newarray .long, 2) := by decide +kernel
theorem dX7_init_96 : decode cX7_init 96 = .ok (.putfield 43, 3) := by decide +kernel
theorem dX7_init_99 : decode cX7_init 99 = .ok (.aload_n 0, 1) := by decide +kernel
theorem dX7_init_100 : decode cX7_init 100 = .ok (.getfield 13, 3) := by decide +kernel
theorem dX7_init_103 : decode cX7_init 103 = .ok (.iconst 0, 1) := by decide +kernel
theorem dX7_init_104 : decode cX7_init 104 = .ok (.bipush 31, 2) := by decide +kernel
theorem dX7_init_106 : decode cX7_init 106 = .ok (.iastore, 1) := by decide +kernel
theorem dX7_init_107 : decode cX7_init 107 = .ok (.aload_n 0, 1) := by decide +kernel
theorem dX7_init_108 : decode cX7_init 108 = .ok (.getfield 13, 3) := by decide +kernel
theorem dX7_init_111 : decode cX7_init 111 = .ok (.iconst 1, 1) := by decide +kernel
theorem dX7_init_112 : decode cX7_init 112 = .ok (.sipush 992, 3) := by decide +kernel
theorem dX7_init_115 : decode cX7_init 115 = .ok (.iastore, 1) := by decide +kernel
theorem dX7_init_116 : decode cX7_init 116 = .ok (.iconst 0, 1) := by decide +kernel
theorem dX7_init_117 : decode cX7_init 117 = .ok (.istore_n 1, 1) := by decide +kernel
theorem dX7_init_118 : decode cX7_init 118 = .ok (.iload_n 1, 1) := by decide +kernel
theorem dX7_init_119 : decode cX7_init 119 = .ok (.bipush 32, 2) := by decide +kernel
theorem dX7_init_121 : decode cX7_init 121 = .ok (.if_icmp .ge 52, 3) := by decide +kernel
theorem dX7_init_124 : decode cX7_init 124 = .ok (.iconst 0, 1) := by decide +kernel
theorem dX7_init_125 : decode cX7_init 125 = .ok (.istore_n 2, 1) := by decide +kernel
theorem dX7_init_126 : decode cX7_init 126 = .ok (.iload_n 2, 1) := by decide +kernel
theorem dX7_init_127 : decode cX7_init 127 = .ok (.iconst 5, 1) := by decide +kernel
theorem dX7_init_128 : decode cX7_init 128 = .ok (.if_icmp .ge 39, 3) := by decide +kernel
theorem dX7_init_131 : decode cX7_init 131 = .ok (.aload_n 0, 1) := by decide +kernel
theorem dX7_init_132 : decode cX7_init 132 = .ok (.getfield 16, 3) := by decide +kernel
theorem dX7_init_135 : decode cX7_init 135 = .ok (.iload_n 1, 1) := by decide +kernel
theorem dX7_init_136 : decode cX7_init 136 = .ok (.dup2, 1) := by decide +kernel
theorem dX7_init_137 : decode cX7_init 137 = .ok (.iaload, 1) := by decide +kernel
theorem dX7_init_138 : decode cX7_init 138 = .ok (.iload_n 1, 1) := by decide +kernel
theorem dX7_init_139 : decode cX7_init 139 = .ok (.iload_n 2, 1) := by decide +kernel
theorem dX7_init_140 : decode cX7_init 140 = .ok (.ishr, 1) := by decide +kernel
theorem dX7_init_141 : decode cX7_init 141 = .ok (.iconst 1, 1) := by decide +kernel
theorem dX7_init_142 : decode cX7_init 142 = .ok (.iand, 1) := by decide +kernel
theorem dX7_init_143 : decode cX7_init 143 = .ok (.iadd, 1) := by decide +kernel
theorem dX7_init_144 : decode cX7_init 144 = .ok (.iastore, 1) := by decide +kernel
theorem dX7_init_145 : decode cX7_init 145 = .ok (.aload_n 0, 1) := by decide +kernel
theorem dX7_init_146 : decode cX7_init 146 = .ok (.getfield 19, 3) := by decide +kernel
theorem dX7_init_149 : decode cX7_init 149 = .ok (.iload_n 1, 1) := by decide +kernel
theorem dX7_init_150 : decode cX7_init 150 = .ok (.dup2, 1) := by decide +kernel
theorem dX7_init_151 : decode cX7_init 151 = .ok (.iaload, 1) := by decide +kernel
theorem dX7_init_152 : decode cX7_init 152 = .ok (.iload_n 1, 1) := by decide +kernel
theorem dX7_init_153 : decode cX7_init 153 = .ok (.iload_n 2, 1) := by decide +kernel
theorem dX7_init_154 : decode cX7_init 154 = .ok (.ishr, 1) := by decide +kernel
theorem dX7_init_155 : decode cX7_init 155 = .ok (.iconst 1, 1) := by decide +kernel
theorem dX7_init_156 : decode cX7_init 156 = .ok (.iand, 1) := by decide +kernel
theorem dX7_init_157 : decode cX7_init 157 = .ok (.iload_n 2, 1) := by decide +kernel
theorem dX7_init_158 : decode cX7_init 158 = .ok (.imul, 1) := by decide +kernel
theorem dX7_init_159 : decode cX7_init 159 = .ok (.iadd, 1) := by decide +kernel
theorem dX7_init_160 : decode cX7_init 160 = .ok (.iastore, 1) := by decide +kernel
theorem dX7_init_161 : decode cX7_init 161 = .ok (.iinc 2 1, 3) := by decide +kernel
theorem dX7_init_164 : decode cX7_init 164 = .ok (.goto (-38), 3) := by decide +kernel
theorem dX7_init_167 : decode cX7_init 167 = .ok (.iinc 1 1, 3) := by decide +kernel
theorem dX7_init_170 : decode cX7_init 170 = .ok (.goto (-52), 3) := by decide +kernel
theorem dX7_init_173 : decode cX7_init 173 = .ok (.aload_n 0, 1) := by decide +kernel
theorem dX7_init_174 : decode cX7_init 174 = .ok (.invokevirtual 47, 3) := by decide +kernel
theorem dX7_init_177 : decode cX7_init 177 = .ok (.return_, 1) := by decide +kernel
theorem dX7_in_0 : decode cX7_in 0 = .ok (.iload_n 0, 1) := by decide +kernel
theorem dX7_in_1 : decode cX7_in 1 = .ok (.iload_n 1, 1) := by decide +kernel
theorem dX7_in_2 : decode cX7_in 2 = .ok (.if_icmp .lt 12, 3) := by decide +kernel
theorem dX7_in_5 : decode cX7_in 5 = .ok (.iload_n 0, 1) := by decide +kernel
theorem dX7_in_6 : decode cX7_in 6 = .ok (.iload_n 2, 1) := by decide +kernel
theorem dX7_in_7 : decode cX7_in 7 = .ok (.if_icmp .gt 7, 3) := by decide +kernel
theorem dX7_in_10 : decode cX7_in 10 = .ok (.iconst 1, 1) := by decide +kernel
theorem dX7_in_11 : decode cX7_in 11 = .ok (.goto 4, 3) := by decide +kernel
theorem dX7_in_14 : decode cX7_in 14 = .ok (.iconst 0, 1) := by decide +kernel
theorem dX7_in_15 : decode cX7_in 15 = .ok (.ireturn, 1) := by decide +kernel
theorem dX7_length_0 : decode cX7_length 0 = .ok (.aload_n 0, 1) := by decide +kernel
theorem dX7_length_1 : decode cX7_length 1 = .ok (.getfield 16, 3) := by decide +kernel
theorem dX7_length_4 : decode cX7_length 4 = .ok (.iload_n 1, 1) := by decide +kernel
theorem dX7_length_5 : decode cX7_length 5 = .ok (.iconst 5, 1) := by decide +kernel
theorem dX7_length_6 : decode cX7_length 6 = .ok (.iload_n 2, 1) := by decide +kernel
theorem dX7_length_7 : decode cX7_length 7 = .ok (.imul, 1) := by decide +kernel
theorem dX7_length_8 : decode cX7_length 8 = .ok (.ishr, 1) := by decide +kernel
theorem dX7_length_9 : decode cX7_length 9 = .ok (.bipush 31, 2) := by decide +kernel
theorem dX7_length_11 : decode cX7_length 11 = .ok (.iand, 1) := by decide +kernel
theorem dX7_length_12 : decode cX7_length 12 = .ok (.iaload, 1) := by decide +kernel
theorem dX7_length_13 : decode cX7_length 13 = .ok (.ireturn, 1) := by decide +kernel
theorem dX7_strength_0 : decode cX7_strength 0 = .ok (.iconst 0, 1) := by decide +kernel
theorem dX7_strength_1 : decode cX7_strength 1 = .ok (.istore_n 2, 1) := by decide +kernel
theorem dX7_strength_2 : decode cX7_strength 2 = .ok (.iconst 0, 1) := by decide +kernel
theorem dX7_strength_3 : decode cX7_strength 3 = .ok (.istore_n 3, 1) := by decide +kernel
theorem dX7_strength_4 : decode cX7_strength 4 = .ok (.iload_n 3, 1) := by decide +kernel
theorem dX7_strength_5 : decode cX7_strength 5 = .ok (.iconst 4, 1) := by decide +kernel
theorem dX7_strength_6 : decode cX7_strength 6 = .ok (.if_icmp .ge 25, 3) := by decide +kernel
theorem dX7_strength_9 : decode cX7_strength 9 = .ok (.iload_n 2, 1) := by decide +kernel
theorem dX7_strength_10 : decode cX7_strength 10 = .ok (.aload_n 0, 1) := by decide +kernel
theorem dX7_strength_11 : decode cX7_strength 11 = .ok (.getfield 19, 3) := by decide +kernel
theorem dX7_strength_14 : decode cX7_strength 14 = .ok (.iload_n 1, 1) := by decide +kernel
theorem dX7_strength_15 : decode cX7_strength 15 = .ok (.iconst 5, 1) := by decide +kernel
theorem dX7_strength_16 : decode cX7_strength 16 = .ok (.iload_n 3, 1) := by decide +kernel
theorem dX7_strength_17 : decode cX7_strength 17 = .ok (.imul, 1) := by decide +kernel
theorem dX7_strength_18 : decode cX7_strength 18 = .ok (.ishr, 1) := by decide +kernel
theorem dX7_strength_19 : decode cX7_strength 19 = .ok (.bipush 31, 2) := by decide +kernel
theorem dX7_strength_21 : decode cX7_strength 21 = .ok (.iand, 1) := by decide +kernel
theorem dX7_strength_22 : decode cX7_strength 22 = .ok (.iaload, 1) := by decide +kernel
theorem dX7_strength_23 : decode cX7_strength 23 = .ok (.iadd, 1) := by decide +kernel
theorem dX7_strength_24 : decode cX7_strength 24 = .ok (.istore_n 2, 1) := by decide +kernel
theorem dX7_strength_25 : decode cX7_strength 25 = .ok (.iinc 3 1, 3) := by decide +kernel
theorem dX7_strength_28 : decode cX7_strength 28 = .ok (.goto (-24), 3) := by decide +kernel
theorem dX7_strength_31 : decode cX7_strength 31 = .ok (.iload_n 2, 1) := by decide +kernel
theorem dX7_strength_32 : decode cX7_strength 32 = .ok (.ireturn, 1) := by decide +kernel
theorem dX7_size_0 : decode cX7_size 0 = .ok (.iconst 0, 1) := by decide +kernel
theorem dX7_size_1 : decode cX7_size 1 = .ok (.istore_n 2, 1) := by decide +kernel
theorem dX7_size_2 : decode cX7_size 2 = .ok (.iconst 0, 1) := by decide +kernel
theorem dX7_size_3 : decode cX7_size 3 = .ok (.istore_n 3, 1) := by decide +kernel
theorem dX7_size_4 : decode cX7_size 4 = .ok (.iload_n 3, 1) := by decide +kernel
theorem dX7_size_5 : decode cX7_size 5 = .ok (.iconst 4, 1) := by decide +kernel
theorem dX7_size_6 : decode cX7_size 6 = .ok (.if_icmp .ge 18, 3) := by decide +kernel
theorem dX7_size_9 : decode cX7_size 9 = .ok (.iload_n 2, 1) := by decide +kernel
theorem dX7_size_10 : decode cX7_size 10 = .ok (.aload_n 0, 1) := by decide +kernel
theorem dX7_size_11 : decode cX7_size 11 = .ok (.iload_n 1, 1) := by decide +kernel
theorem dX7_size_12 : decode cX7_size 12 = .ok (.iload_n 3, 1) := by decide +kernel
theorem dX7_size_13 : decode cX7_size 13 = .ok (.invokevirtual 50, 3) := by decide +kernel
theorem dX7_size_16 : decode cX7_size 16 = .ok (.iadd, 1) := by decide +kernel
theorem dX7_size_17 : decode cX7_size 17 = .ok (.istore_n 2, 1) := by decide +kernel
theorem dX7_size_18 : decode cX7_size 18 = .ok (.iinc 3 1, 3) := by decide +kernel
theorem dX7_size_21 : decode cX7_size 21 = .ok (.goto (-17), 3) := by decide +kernel
theorem dX7_size_24 : decode cX7_size 24 = .ok (.iload_n 2, 1) := by decide +kernel
theorem dX7_size_25 : decode cX7_size 25 = .ok (.ireturn, 1) := by decide +kernel
theorem dX7_isHand_0 : decode cX7_isHand 0 = .ok (.iload_n 1, 1) := by decide +kernel
theorem dX7_isHand_1 : decode cX7_isHand 1 = .ok (.iconst 0, 1) := by decide +kernel
theorem dX7_isHand_2 : decode cX7_isHand 2 = .ok (.ldc 54, 2) := by decide +kernel
theorem dX7_isHand_4 : decode cX7_isHand 4 = .ok (.invokestatic 55, 3) := by decide +kernel
theorem dX7_isHand_7 : decode cX7_isHand 7 = .ok (.ifCond .eq 16, 3) := by decide +kernel
theorem dX7_isHand_10 : decode cX7_isHand 10 = .ok (.aload_n 0, 1) := by decide +kernel
theorem dX7_isHand_11 : decode cX7_isHand 11 = .ok (.iload_n 1, 1) := by decide +kernel
theorem dX7_isHand_12 : decode cX7_isHand 12 = .ok (.invokevirtual 59, 3) := by decide +kernel
theorem dX7_isHand_15 : decode cX7_isHand 15 = .ok (.iconst 5, 1) := by decide +kernel
theorem dX7_isHand_16 : decode cX7_isHand 16 = .ok (.if_icmp .ne 7, 3) := by decide +kernel
theorem dX7_isHand_19 : decode cX7_isHand 19 = .ok (.iconst 1, 1) := by decide +kernel
theorem dX7_isHand_20 : decode cX7_isHand 20 = .ok (.goto 4, 3) := by decide +kernel
theorem dX7_isHand_23 : decode cX7_isHand 23 = .ok (.iconst 0, 1) := by decide +kernel
theorem dX7_isHand_24 : decode cX7_isHand 24 = .ok (.ireturn, 1) := by decide +kernel
theorem dX7_nextHand_0 : decode cX7_nextHand 0 = .ok (.iload_n 0, 1) := by decide +kernel
theorem dX7_nextHand_1 : decode cX7_nextHand 1 = .ok (.iload_n 0, 1) := by decide +kernel
theorem dX7_nextHand_2 : decode cX7_nextHand 2 = .ok (.ineg, 1) := by decide +kernel
theorem dX7_nextHand_3 : decode cX7_nextHand 3 = .ok (.iand, 1) := by decide +kernel
theorem dX7_nextHand_4 : decode cX7_nextHand 4 = .ok (.istore_n 1, 1) := by decide +kernel
theorem dX7_nextHand_5 : decode cX7_nextHand 5 = .ok (.iload_n 0, 1) := by decide +kernel
theorem dX7_nextHand_6 : decode cX7_nextHand 6 = .ok (.iload_n 1, 1) := by decide +kernel
theorem dX7_nextHand_7 : decode cX7_nextHand 7 = .ok (.iadd, 1) := by decide +kernel
theorem dX7_nextHand_8 : decode cX7_nextHand 8 = .ok (.istore_n 2, 1) := by decide +kernel
theorem dX7_nextHand_9 : decode cX7_nextHand 9 = .ok (.iload_n 2, 1) := by decide +kernel
theorem dX7_nextHand_10 : decode cX7_nextHand 10 = .ok (.iload_n 0, 1) := by decide +kernel
theorem dX7_nextHand_11 : decode cX7_nextHand 11 = .ok (.iload_n 2, 1) := by decide +kernel
theorem dX7_nextHand_12 : decode cX7_nextHand 12 = .ok (.ixor, 1) := by decide +kernel
theorem dX7_nextHand_13 : decode cX7_nextHand 13 = .ok (.iload_n 1, 1) := by decide +kernel
theorem dX7_nextHand_14 : decode cX7_nextHand 14 = .ok (.idiv, 1) := by decide +kernel
theorem dX7_nextHand_15 : decode cX7_nextHand 15 = .ok (.iconst 2, 1) := by decide +kernel
theorem dX7_nextHand_16 : decode cX7_nextHand 16 = .ok (.ishr, 1) := by decide +kernel
theorem dX7_nextHand_17 : decode cX7_nextHand 17 = .ok (.ior, 1) := by decide +kernel
theorem dX7_nextHand_18 : decode cX7_nextHand 18 = .ok (.ireturn, 1) := by decide +kernel
theorem dX7_of_0 : decode cX7_of 0 = .ok (.aload_n 0, 1) := by decide +kernel
theorem dX7_of_1 : decode cX7_of 1 = .ok (.getfield 7, 3) := by decide +kernel
theorem dX7_of_4 : decode cX7_of 4 = .ok (.bipush 14, 2) := by decide +kernel
theorem dX7_of_6 : decode cX7_of 6 = .ok (.iload_n 1, 1) := by decide +kernel
theorem dX7_of_7 : decode cX7_of 7 = .ok (.imul, 1) := by decide +kernel
theorem dX7_of_8 : decode cX7_of 8 = .ok (.iload_n 2, 1) := by decide +kernel
theorem dX7_of_9 : decode cX7_of 9 = .ok (.iadd, 1) := by decide +kernel
theorem dX7_of_10 : decode cX7_of 10 = .ok (.iaload, 1) := by decide +kernel
theorem dX7_of_11 : decode cX7_of 11 = .ok (.ireturn, 1) := by decide +kernel
theorem dX7_isRule_0 : decode cX7_isRule 0 = .ok (.iload_n 1, 1) := by decide +kernel
theorem dX7_isRule_1 : decode cX7_isRule 1 = .ok (.iconst 0, 1) := by decide +kernel
theorem dX7_isRule_2 : decode cX7_isRule 2 = .ok (.aload_n 0, 1) := by decide +kernel
theorem dX7_isRule_3 : decode cX7_isRule 3 = .ok (.getfield 63, 3) := by decide +kernel
theorem dX7_isRule_6 : decode cX7_isRule 6 = .ok (.iconst 1, 1) := by decide +kernel
theorem dX7_isRule_7 : decode cX7_isRule 7 = .ok (.isub, 1) := by decide +kernel
theorem dX7_isRule_8 : decode cX7_isRule 8 = .ok (.invokestatic 55, 3) := by decide +kernel
theorem dX7_isRule_11 : decode cX7_isRule 11 = .ok (.ireturn, 1) := by decide +kernel
theorem dX7_anew_0 : decode cX7_anew 0 = .ok (.aload_n 0, 1) := by decide +kernel
theorem dX7_anew_1 : decode cX7_anew 1 = .ok (.iconst 0, 1) := by decide +kernel
theorem dX7_anew_2 : decode cX7_anew 2 = .ok (.putfield 67, 3) := by decide +kernel
theorem dX7_anew_5 : decode cX7_anew 5 = .ok (.aload_n 0, 1) := by decide +kernel
theorem dX7_anew_6 : decode cX7_anew 6 = .ok (.iconst 0, 1) := by decide +kernel
theorem dX7_anew_7 : decode cX7_anew 7 = .ok (.putfield 70, 3) := by decide +kernel
theorem dX7_anew_10 : decode cX7_anew 10 = .ok (.aload_n 0, 1) := by decide +kernel
theorem dX7_anew_11 : decode cX7_anew 11 = .ok (.getfield 28, 3) := by decide +kernel
theorem dX7_anew_14 : decode cX7_anew 14 = .ok (.iconst 0, 1) := by decide +kernel
theorem dX7_anew_15 : decode cX7_anew 15 = .ok (.iconst 0, 1) := by decide +kernel
theorem dX7_anew_16 : decode cX7_anew 16 = .ok (.iastore, 1) := by decide +kernel
theorem dX7_anew_17 : decode cX7_anew 17 = .ok (.aload_n 0, 1) := by decide +kernel
theorem dX7_anew_18 : decode cX7_anew 18 = .ok (.getfield 31, 3) := by decide +kernel
theorem dX7_anew_21 : decode cX7_anew 21 = .ok (.iconst 0, 1) := by decide +kernel
theorem dX7_anew_22 : decode cX7_anew 22 = .ok (.iconst 0, 1) := by decide +kernel
theorem dX7_anew_23 : decode cX7_anew 23 = .ok (.iastore, 1) := by decide +kernel
theorem dX7_anew_24 : decode cX7_anew 24 = .ok (.aload_n 0, 1) := by decide +kernel
theorem dX7_anew_25 : decode cX7_anew 25 = .ok (.getfield 34, 3) := by decide +kernel
theorem dX7_anew_28 : decode cX7_anew 28 = .ok (.iconst 0, 1) := by decide +kernel
theorem dX7_anew_29 : decode cX7_anew 29 = .ok (.bipush (-6), 2) := by decide +kernel
theorem dX7_anew_31 : decode cX7_anew 31 = .ok (.iastore, 1) := by decide +kernel
theorem dX7_anew_32 : decode cX7_anew 32 = .ok (.return_, 1) := by decide +kernel
theorem dX7_fitsRule_0 : decode cX7_fitsRule 0 = .ok (.aload_n 0, 1) := by decide +kernel
theorem dX7_fitsRule_1 : decode cX7_fitsRule 1 = .ok (.iload_n 1, 1) := by decide +kernel
theorem dX7_fitsRule_2 : decode cX7_fitsRule 2 = .ok (.invokevirtual 74, 3) := by decide +kernel
theorem dX7_fitsRule_5 : decode cX7_fitsRule 5 = .ok (.aload_n 0, 1) := by decide +kernel
theorem dX7_fitsRule_6 : decode cX7_fitsRule 6 = .ok (.iload_n 2, 1) := by decide +kernel
theorem dX7_fitsRule_7 : decode cX7_fitsRule 7 = .ok (.bipush 12, 2) := by decide +kernel
theorem dX7_fitsRule_9 : decode cX7_fitsRule 9 = .ok (.invokevirtual 77, 3) := by decide +kernel
theorem dX7_fitsRule_12 : decode cX7_fitsRule 12 = .ok (.aload_n 0, 1) := by decide +kernel
theorem dX7_fitsRule_13 : decode cX7_fitsRule 13 = .ok (.iload_n 2, 1) := by decide +kernel
theorem dX7_fitsRule_14 : decode cX7_fitsRule 14 = .ok (.bipush 13, 2) := by decide +kernel
theorem dX7_fitsRule_16 : decode cX7_fitsRule 16 = .ok (.invokevirtual 77, 3) := by decide +kernel
theorem dX7_fitsRule_19 : decode cX7_fitsRule 19 = .ok (.invokestatic 55, 3) := by decide +kernel
theorem dX7_fitsRule_22 : decode cX7_fitsRule 22 = .ok (.istore_n 3, 1) := by decide +kernel
theorem dX7_fitsRule_23 : decode cX7_fitsRule 23 = .ok (.iconst 0, 1) := by decide +kernel
theorem dX7_fitsRule_24 : decode cX7_fitsRule 24 = .ok (.istore 4, 2) := by decide +kernel
theorem dX7_fitsRule_26 : decode cX7_fitsRule 26 = .ok (.iload 4, 2) := by decide +kernel
theorem dX7_fitsRule_28 : decode cX7_fitsRule 28 = .ok (.iconst 4, 1) := by decide +kernel
theorem dX7_fitsRule_29 : decode cX7_fitsRule 29 = .ok (.if_icmp .ge 48, 3) := by decide +kernel
theorem dX7_fitsRule_32 : decode cX7_fitsRule 32 = .ok (.iload_n 3, 1) := by decide +kernel
theorem dX7_fitsRule_33 : decode cX7_fitsRule 33 = .ok (.ifCond .eq 44, 3) := by decide +kernel
theorem dX7_fitsRule_36 : decode cX7_fitsRule 36 = .ok (.aload_n 0, 1) := by decide +kernel
theorem dX7_fitsRule_37 : decode cX7_fitsRule 37 = .ok (.iload_n 1, 1) := by decide +kernel
theorem dX7_fitsRule_38 : decode cX7_fitsRule 38 = .ok (.iload 4, 2) := by decide +kernel
theorem dX7_fitsRule_40 : decode cX7_fitsRule 40 = .ok (.invokevirtual 50, 3) := by decide +kernel
theorem dX7_fitsRule_43 : decode cX7_fitsRule 43 = .ok (.aload_n 0, 1) := by decide +kernel
theorem dX7_fitsRule_44 : decode cX7_fitsRule 44 = .ok (.iload_n 2, 1) := by decide +kernel
theorem dX7_fitsRule_45 : decode cX7_fitsRule 45 = .ok (.iconst 4, 1) := by decide +kernel
theorem dX7_fitsRule_46 : decode cX7_fitsRule 46 = .ok (.iconst 2, 1) := by decide +kernel
theorem dX7_fitsRule_47 : decode cX7_fitsRule 47 = .ok (.iload 4, 2) := by decide +kernel
theorem dX7_fitsRule_49 : decode cX7_fitsRule 49 = .ok (.imul, 1) := by decide +kernel
theorem dX7_fitsRule_50 : decode cX7_fitsRule 50 = .ok (.iadd, 1) := by decide +kernel
theorem dX7_fitsRule_51 : decode cX7_fitsRule 51 = .ok (.invokevirtual 77, 3) := by decide +kernel
theorem dX7_fitsRule_54 : decode cX7_fitsRule 54 = .ok (.aload_n 0, 1) := by decide +kernel
theorem dX7_fitsRule_55 : decode cX7_fitsRule 55 = .ok (.iload_n 2, 1) := by decide +kernel
theorem dX7_fitsRule_56 : decode cX7_fitsRule 56 = .ok (.iconst 4, 1) := by decide +kernel
theorem dX7_fitsRule_57 : decode cX7_fitsRule 57 = .ok (.iconst 2, 1) := by decide +kernel
theorem dX7_fitsRule_58 : decode cX7_fitsRule 58 = .ok (.iload 4, 2) := by decide +kernel
theorem dX7_fitsRule_60 : decode cX7_fitsRule 60 = .ok (.imul, 1) := by decide +kernel
theorem dX7_fitsRule_61 : decode cX7_fitsRule 61 = .ok (.iadd, 1) := by decide +kernel
theorem dX7_fitsRule_62 : decode cX7_fitsRule 62 = .ok (.iconst 1, 1) := by decide +kernel
theorem dX7_fitsRule_63 : decode cX7_fitsRule 63 = .ok (.iadd, 1) := by decide +kernel
theorem dX7_fitsRule_64 : decode cX7_fitsRule 64 = .ok (.invokevirtual 77, 3) := by decide +kernel
theorem dX7_fitsRule_67 : decode cX7_fitsRule 67 = .ok (.invokestatic 55, 3) := by decide +kernel
theorem dX7_fitsRule_70 : decode cX7_fitsRule 70 = .ok (.istore_n 3, 1) := by decide +kernel
theorem dX7_fitsRule_71 : decode cX7_fitsRule 71 = .ok (.iinc 4 1, 3) := by decide +kernel
theorem dX7_fitsRule_74 : decode cX7_fitsRule 74 = .ok (.goto (-48), 3) := by decide +kernel
theorem dX7_fitsRule_77 : decode cX7_fitsRule 77 = .ok (.iload_n 3, 1) := by decide +kernel
theorem dX7_fitsRule_78 : decode cX7_fitsRule 78 = .ok (.ireturn, 1) := by decide +kernel
theorem dX7_isThere_0 : decode cX7_isThere 0 = .ok (.iconst 0, 1) := by decide +kernel
theorem dX7_isThere_1 : decode cX7_isThere 1 = .ok (.istore_n 3, 1) := by decide +kernel
theorem dX7_isThere_2 : decode cX7_isThere 2 = .ok (.iconst 0, 1) := by decide +kernel
theorem dX7_isThere_3 : decode cX7_isThere 3 = .ok (.istore 4, 2) := by decide +kernel
theorem dX7_isThere_5 : decode cX7_isThere 5 = .ok (.iload 4, 2) := by decide +kernel
theorem dX7_isThere_7 : decode cX7_isThere 7 = .ok (.aload_n 0, 1) := by decide +kernel
theorem dX7_isThere_8 : decode cX7_isThere 8 = .ok (.getfield 63, 3) := by decide +kernel
theorem dX7_isThere_11 : decode cX7_isThere 11 = .ok (.if_icmp .ge 41, 3) := by decide +kernel
theorem dX7_isThere_14 : decode cX7_isThere 14 = .ok (.iload_n 3, 1) := by decide +kernel
theorem dX7_isThere_15 : decode cX7_isThere 15 = .ok (.ifCond .ne 25, 3) := by decide +kernel
theorem dX7_isThere_18 : decode cX7_isThere 18 = .ok (.aload_n 0, 1) := by decide +kernel
theorem dX7_isThere_19 : decode cX7_isThere 19 = .ok (.iload 4, 2) := by decide +kernel
theorem dX7_isThere_21 : decode cX7_isThere 21 = .ok (.iconst 0, 1) := by decide +kernel
theorem dX7_isThere_22 : decode cX7_isThere 22 = .ok (.invokevirtual 77, 3) := by decide +kernel
theorem dX7_isThere_25 : decode cX7_isThere 25 = .ok (.iload_n 1, 1) := by decide +kernel
theorem dX7_isThere_26 : decode cX7_isThere 26 = .ok (.if_icmp .ne 18, 3) := by decide +kernel
theorem dX7_isThere_29 : decode cX7_isThere 29 = .ok (.aload_n 0, 1) := by decide +kernel
theorem dX7_isThere_30 : decode cX7_isThere 30 = .ok (.iload 4, 2) := by decide +kernel
theorem dX7_isThere_32 : decode cX7_isThere 32 = .ok (.iconst 1, 1) := by decide +kernel
theorem dX7_isThere_33 : decode cX7_isThere 33 = .ok (.invokevirtual 77, 3) := by decide +kernel
theorem dX7_isThere_36 : decode cX7_isThere 36 = .ok (.iload_n 2, 1) := by decide +kernel
theorem dX7_isThere_37 : decode cX7_isThere 37 = .ok (.if_icmp .ne 7, 3) := by decide +kernel
theorem dX7_isThere_40 : decode cX7_isThere 40 = .ok (.iconst 1, 1) := by decide +kernel
theorem dX7_isThere_41 : decode cX7_isThere 41 = .ok (.goto 4, 3) := by decide +kernel
theorem dX7_isThere_44 : decode cX7_isThere 44 = .ok (.iconst 0, 1) := by decide +kernel
theorem dX7_isThere_45 : decode cX7_isThere 45 = .ok (.istore_n 3, 1) := by decide +kernel
theorem dX7_isThere_46 : decode cX7_isThere 46 = .ok (.iinc 4 1, 3) := by decide +kernel
theorem dX7_isThere_49 : decode cX7_isThere 49 = .ok (.goto (-44), 3) := by decide +kernel
theorem dX7_isThere_52 : decode cX7_isThere 52 = .ok (.iload_n 3, 1) := by decide +kernel
theorem dX7_isThere_53 : decode cX7_isThere 53 = .ok (.ireturn, 1) := by decide +kernel
theorem dX7_clearFresh_0 : decode cX7_clearFresh 0 = .ok (.iconst 4, 1) := by decide +kernel
theorem dX7_clearFresh_1 : decode cX7_clearFresh 1 = .ok (.istore_n 1, 1) := by decide +kernel
theorem dX7_clearFresh_2 : decode cX7_clearFresh 2 = .ok (.iload_n 1, 1) := by decide +kernel
theorem dX7_clearFresh_3 : decode cX7_clearFresh 3 = .ok (.bipush 14, 2) := by decide +kernel
theorem dX7_clearFresh_5 : decode cX7_clearFresh 5 = .ok (.if_icmp .ge 37, 3) := by decide +kernel
theorem dX7_clearFresh_8 : decode cX7_clearFresh 8 = .ok (.aload_n 0, 1) := by decide +kernel
theorem dX7_clearFresh_9 : decode cX7_clearFresh 9 = .ok (.getfield 40, 3) := by decide +kernel
theorem dX7_clearFresh_12 : decode cX7_clearFresh 12 = .ok (.iload_n 1, 1) := by decide +kernel
theorem dX7_clearFresh_13 : decode cX7_clearFresh 13 = .ok (.iload_n 1, 1) := by decide +kernel
theorem dX7_clearFresh_14 : decode cX7_clearFresh 14 = .ok (.iconst 2, 1) := by decide +kernel
theorem dX7_clearFresh_15 : decode cX7_clearFresh 15 = .ok (.irem, 1) := by decide +kernel
theorem dX7_clearFresh_16 : decode cX7_clearFresh 16 = .ok (.ifCond .ne 7, 3) := by decide +kernel
theorem dX7_clearFresh_19 : decode cX7_clearFresh 19 = .ok (.iconst 0, 1) := by decide +kernel
theorem dX7_clearFresh_20 : decode cX7_clearFresh 20 = .ok (.goto 15, 3) := by decide +kernel
theorem dX7_clearFresh_23 : decode cX7_clearFresh 23 = .ok (.iload_n 1, 1) := by decide +kernel
theorem dX7_clearFresh_24 : decode cX7_clearFresh 24 = .ok (.bipush 13, 2) := by decide +kernel
theorem dX7_clearFresh_26 : decode cX7_clearFresh 26 = .ok (.if_icmp .ne 8, 3) := by decide +kernel
theorem dX7_clearFresh_29 : decode cX7_clearFresh 29 = .ok (.bipush 20, 2) := by decide +kernel
theorem dX7_clearFresh_31 : decode cX7_clearFresh 31 = .ok (.goto 4, 3) := by decide +kernel
theorem dX7_clearFresh_34 : decode cX7_clearFresh 34 = .ok (.iconst 5, 1) := by decide +kernel
theorem dX7_clearFresh_35 : decode cX7_clearFresh 35 = .ok (.iastore, 1) := by decide +kernel
theorem dX7_clearFresh_36 : decode cX7_clearFresh 36 = .ok (.iinc 1 1, 3) := by decide +kernel
theorem dX7_clearFresh_39 : decode cX7_clearFresh 39 = .ok (.goto (-37), 3) := by decide +kernel
theorem dX7_clearFresh_42 : decode cX7_clearFresh 42 = .ok (.return_, 1) := by decide +kernel
theorem dX7_addFresh_0 : decode cX7_addFresh 0 = .ok (.aload_n 0, 1) := by decide +kernel
theorem dX7_addFresh_1 : decode cX7_addFresh 1 = .ok (.getfield 63, 3) := by decide +kernel
theorem dX7_addFresh_4 : decode cX7_addFresh 4 = .ok (.bipush 24, 2) := by decide +kernel
theorem dX7_addFresh_6 : decode cX7_addFresh 6 = .ok (.if_icmp .ne 6, 3) := by decide +kernel
theorem dX7_addFresh_9 : decode cX7_addFresh 9 = .ok (.bipush (-4), 2) := by decide +kernel
theorem dX7_addFresh_11 : decode cX7_addFresh 11 = .ok (.ireturn, 1) := by decide +kernel
theorem dX7_addFresh_12 : decode cX7_addFresh 12 = .ok (.aload_n 0, 1) := by decide +kernel
theorem dX7_addFresh_13 : decode cX7_addFresh 13 = .ok (.aload_n 0, 1) := by decide +kernel
theorem dX7_addFresh_14 : decode cX7_addFresh 14 = .ok (.getfield 40, 3) := by decide +kernel
theorem dX7_addFresh_17 : decode cX7_addFresh 17 = .ok (.iconst 0, 1) := by decide +kernel
theorem dX7_addFresh_18 : decode cX7_addFresh 18 = .ok (.iaload, 1) := by decide +kernel
theorem dX7_addFresh_19 : decode cX7_addFresh 19 = .ok (.aload_n 0, 1) := by decide +kernel
theorem dX7_addFresh_20 : decode cX7_addFresh 20 = .ok (.getfield 40, 3) := by decide +kernel
theorem dX7_addFresh_23 : decode cX7_addFresh 23 = .ok (.iconst 1, 1) := by decide +kernel
theorem dX7_addFresh_24 : decode cX7_addFresh 24 = .ok (.iaload, 1) := by decide +kernel
theorem dX7_addFresh_25 : decode cX7_addFresh 25 = .ok (.invokevirtual 80, 3) := by decide +kernel
theorem dX7_addFresh_28 : decode cX7_addFresh 28 = .ok (.ifCond .eq 6, 3) := by decide +kernel
theorem dX7_addFresh_31 : decode cX7_addFresh 31 = .ok (.bipush (-5), 2) := by decide +kernel
theorem dX7_addFresh_33 : decode cX7_addFresh 33 = .ok (.ireturn, 1) := by decide +kernel
theorem dX7_addFresh_34 : decode cX7_addFresh 34 = .ok (.iconst 0, 1) := by decide +kernel
theorem dX7_addFresh_35 : decode cX7_addFresh 35 = .ok (.istore_n 1, 1) := by decide +kernel
theorem dX7_addFresh_36 : decode cX7_addFresh 36 = .ok (.iload_n 1, 1) := by decide +kernel
theorem dX7_addFresh_37 : decode cX7_addFresh 37 = .ok (.bipush 14, 2) := by decide +kernel
theorem dX7_addFresh_39 : decode cX7_addFresh 39 = .ok (.if_icmp .ge 29, 3) := by decide +kernel
theorem dX7_addFresh_42 : decode cX7_addFresh 42 = .ok (.aload_n 0, 1) := by decide +kernel
theorem dX7_addFresh_43 : decode cX7_addFresh 43 = .ok (.getfield 7, 3) := by decide +kernel
theorem dX7_addFresh_46 : decode cX7_addFresh 46 = .ok (.bipush 14, 2) := by decide +kernel
theorem dX7_addFresh_48 : decode cX7_addFresh 48 = .ok (.aload_n 0, 1) := by decide +kernel
theorem dX7_addFresh_49 : decode cX7_addFresh 49 = .ok (.getfield 63, 3) := by decide +kernel
theorem dX7_addFresh_52 : decode cX7_addFresh 52 = .ok (.imul, 1) := by decide +kernel
theorem dX7_addFresh_53 : decode cX7_addFresh 53 = .ok (.iload_n 1, 1) := by decide +kernel
theorem dX7_addFresh_54 : decode cX7_addFresh 54 = .ok (.iadd, 1) := by decide +kernel
theorem dX7_addFresh_55 : decode cX7_addFresh 55 = .ok (.aload_n 0, 1) := by decide +kernel
theorem dX7_addFresh_56 : decode cX7_addFresh 56 = .ok (.getfield 40, 3) := by decide +kernel
theorem dX7_addFresh_59 : decode cX7_addFresh 59 = .ok (.iload_n 1, 1) := by decide +kernel
theorem dX7_addFresh_60 : decode cX7_addFresh 60 = .ok (.iaload, 1) := by decide +kernel
theorem dX7_addFresh_61 : decode cX7_addFresh 61 = .ok (.iastore, 1) := by decide +kernel
theorem dX7_addFresh_62 : decode cX7_addFresh 62 = .ok (.iinc 1 1, 3) := by decide +kernel
theorem dX7_addFresh_65 : decode cX7_addFresh 65 = .ok (.goto (-29), 3) := by decide +kernel
theorem dX7_addFresh_68 : decode cX7_addFresh 68 = .ok (.aload_n 0, 1) := by decide +kernel
theorem dX7_addFresh_69 : decode cX7_addFresh 69 = .ok (.dup, 1) := by decide +kernel
theorem dX7_addFresh_70 : decode cX7_addFresh 70 = .ok (.getfield 63, 3) := by decide +kernel
theorem dX7_addFresh_73 : decode cX7_addFresh 73 = .ok (.iconst 1, 1) := by decide +kernel
theorem dX7_addFresh_74 : decode cX7_addFresh 74 = .ok (.iadd, 1) := by decide +kernel
theorem dX7_addFresh_75 : decode cX7_addFresh 75 = .ok (.putfield 63, 3) := by decide +kernel
theorem dX7_addFresh_78 : decode cX7_addFresh 78 = .ok (.aload_n 0, 1) := by decide +kernel
theorem dX7_addFresh_79 : decode cX7_addFresh 79 = .ok (.invokevirtual 47, 3) := by decide +kernel
theorem dX7_addFresh_82 : decode cX7_addFresh 82 = .ok (.aload_n 0, 1) := by decide +kernel
theorem dX7_addFresh_83 : decode cX7_addFresh 83 = .ok (.getfield 63, 3) := by decide +kernel
theorem dX7_addFresh_86 : decode cX7_addFresh 86 = .ok (.iconst 1, 1) := by decide +kernel
theorem dX7_addFresh_87 : decode cX7_addFresh 87 = .ok (.isub, 1) := by decide +kernel
theorem dX7_addFresh_88 : decode cX7_addFresh 88 = .ok (.ireturn, 1) := by decide +kernel
theorem dX7_rule_0 : decode cX7_rule 0 = .ok (.iload_n 1, 1) := by decide +kernel
theorem dX7_rule_1 : decode cX7_rule 1 = .ok (.iconst 0, 1) := by decide +kernel
theorem dX7_rule_2 : decode cX7_rule 2 = .ok (.bipush 7, 2) := by decide +kernel
theorem dX7_rule_4 : decode cX7_rule 4 = .ok (.invokestatic 55, 3) := by decide +kernel
theorem dX7_rule_7 : decode cX7_rule 7 = .ok (.ifCond .eq 33, 3) := by decide +kernel
theorem dX7_rule_10 : decode cX7_rule 10 = .ok (.iload_n 2, 1) := by decide +kernel
theorem dX7_rule_11 : decode cX7_rule 11 = .ok (.iconst 0, 1) := by decide +kernel
theorem dX7_rule_12 : decode cX7_rule 12 = .ok (.bipush 25, 2) := by decide +kernel
theorem dX7_rule_14 : decode cX7_rule 14 = .ok (.invokestatic 55, 3) := by decide +kernel
theorem dX7_rule_17 : decode cX7_rule 17 = .ok (.ifCond .eq 23, 3) := by decide +kernel
theorem dX7_rule_20 : decode cX7_rule 20 = .ok (.iload_n 3, 1) := by decide +kernel
theorem dX7_rule_21 : decode cX7_rule 21 = .ok (.iconst 0, 1) := by decide +kernel
theorem dX7_rule_22 : decode cX7_rule 22 = .ok (.bipush 7, 2) := by decide +kernel
theorem dX7_rule_24 : decode cX7_rule 24 = .ok (.invokestatic 55, 3) := by decide +kernel
theorem dX7_rule_27 : decode cX7_rule 27 = .ok (.ifCond .eq 13, 3) := by decide +kernel
theorem dX7_rule_30 : decode cX7_rule 30 = .ok (.iload 4, 2) := by decide +kernel
theorem dX7_rule_32 : decode cX7_rule 32 = .ok (.iconst 0, 1) := by decide +kernel
theorem dX7_rule_33 : decode cX7_rule 33 = .ok (.iconst 1, 1) := by decide +kernel
theorem dX7_rule_34 : decode cX7_rule 34 = .ok (.invokestatic 55, 3) := by decide +kernel
theorem dX7_rule_37 : decode cX7_rule 37 = .ok (.ifCond .ne 6, 3) := by decide +kernel
theorem dX7_rule_40 : decode cX7_rule 40 = .ok (.bipush (-2), 2) := by decide +kernel
theorem dX7_rule_42 : decode cX7_rule 42 = .ok (.ireturn, 1) := by decide +kernel
theorem dX7_rule_43 : decode cX7_rule 43 = .ok (.aload_n 0, 1) := by decide +kernel
theorem dX7_rule_44 : decode cX7_rule 44 = .ok (.invokevirtual 84, 3) := by decide +kernel
theorem dX7_rule_47 : decode cX7_rule 47 = .ok (.aload_n 0, 1) := by decide +kernel
theorem dX7_rule_48 : decode cX7_rule 48 = .ok (.getfield 40, 3) := by decide +kernel
theorem dX7_rule_51 : decode cX7_rule 51 = .ok (.iconst 0, 1) := by decide +kernel
theorem dX7_rule_52 : decode cX7_rule 52 = .ok (.iload_n 1, 1) := by decide +kernel
theorem dX7_rule_53 : decode cX7_rule 53 = .ok (.iastore, 1) := by decide +kernel
theorem dX7_rule_54 : decode cX7_rule 54 = .ok (.aload_n 0, 1) := by decide +kernel
theorem dX7_rule_55 : decode cX7_rule 55 = .ok (.getfield 40, 3) := by decide +kernel
theorem dX7_rule_58 : decode cX7_rule 58 = .ok (.iconst 1, 1) := by decide +kernel
theorem dX7_rule_59 : decode cX7_rule 59 = .ok (.iload_n 2, 1) := by decide +kernel
theorem dX7_rule_60 : decode cX7_rule 60 = .ok (.iastore, 1) := by decide +kernel
theorem dX7_rule_61 : decode cX7_rule 61 = .ok (.aload_n 0, 1) := by decide +kernel
theorem dX7_rule_62 : decode cX7_rule 62 = .ok (.getfield 40, 3) := by decide +kernel
theorem dX7_rule_65 : decode cX7_rule 65 = .ok (.iconst 2, 1) := by decide +kernel
theorem dX7_rule_66 : decode cX7_rule 66 = .ok (.iload_n 3, 1) := by decide +kernel
theorem dX7_rule_67 : decode cX7_rule 67 = .ok (.iastore, 1) := by decide +kernel
theorem dX7_rule_68 : decode cX7_rule 68 = .ok (.aload_n 0, 1) := by decide +kernel
theorem dX7_rule_69 : decode cX7_rule 69 = .ok (.getfield 40, 3) := by decide +kernel
theorem dX7_rule_72 : decode cX7_rule 72 = .ok (.iconst 3, 1) := by decide +kernel
theorem dX7_rule_73 : decode cX7_rule 73 = .ok (.iload 4, 2) := by decide +kernel
theorem dX7_rule_75 : decode cX7_rule 75 = .ok (.iastore, 1) := by decide +kernel
theorem dX7_rule_76 : decode cX7_rule 76 = .ok (.aload_n 0, 1) := by decide +kernel
theorem dX7_rule_77 : decode cX7_rule 77 = .ok (.invokevirtual 87, 3) := by decide +kernel
theorem dX7_rule_80 : decode cX7_rule 80 = .ok (.ireturn, 1) := by decide +kernel
theorem dX7_limit_0 : decode cX7_limit 0 = .ok (.aload_n 0, 1) := by decide +kernel
theorem dX7_limit_1 : decode cX7_limit 1 = .ok (.iload_n 1, 1) := by decide +kernel
theorem dX7_limit_2 : decode cX7_limit 2 = .ok (.invokevirtual 91, 3) := by decide +kernel
theorem dX7_limit_5 : decode cX7_limit 5 = .ok (.ifCond .ne 5, 3) := by decide +kernel
theorem dX7_limit_8 : decode cX7_limit 8 = .ok (.iconst (-1), 1) := by decide +kernel
theorem dX7_limit_9 : decode cX7_limit 9 = .ok (.ireturn, 1) := by decide +kernel
theorem dX7_limit_10 : decode cX7_limit 10 = .ok (.iload_n 2, 1) := by decide +kernel
theorem dX7_limit_11 : decode cX7_limit 11 = .ok (.iconst 0, 1) := by decide +kernel
theorem dX7_limit_12 : decode cX7_limit 12 = .ok (.iconst 4, 1) := by decide +kernel
theorem dX7_limit_13 : decode cX7_limit 13 = .ok (.invokestatic 55, 3) := by decide +kernel
theorem dX7_limit_16 : decode cX7_limit 16 = .ok (.ifCond .eq 33, 3) := by decide +kernel
theorem dX7_limit_19 : decode cX7_limit 19 = .ok (.iload 4, 2) := by decide +kernel
theorem dX7_limit_21 : decode cX7_limit 21 = .ok (.iconst 0, 1) := by decide +kernel
theorem dX7_limit_22 : decode cX7_limit 22 = .ok (.iload_n 2, 1) := by decide +kernel
theorem dX7_limit_23 : decode cX7_limit 23 = .ok (.iconst 4, 1) := by decide +kernel
theorem dX7_limit_24 : decode cX7_limit 24 = .ok (.if_icmp .ne 8, 3) := by decide +kernel
theorem dX7_limit_27 : decode cX7_limit 27 = .ok (.bipush 20, 2) := by decide +kernel
theorem dX7_limit_29 : decode cX7_limit 29 = .ok (.goto 4, 3) := by decide +kernel
theorem dX7_limit_32 : decode cX7_limit 32 = .ok (.iconst 5, 1) := by decide +kernel
theorem dX7_limit_33 : decode cX7_limit 33 = .ok (.invokestatic 55, 3) := by decide +kernel
theorem dX7_limit_36 : decode cX7_limit 36 = .ok (.ifCond .eq 13, 3) := by decide +kernel
theorem dX7_limit_39 : decode cX7_limit 39 = .ok (.iload_n 3, 1) := by decide +kernel
theorem dX7_limit_40 : decode cX7_limit 40 = .ok (.iconst 0, 1) := by decide +kernel
theorem dX7_limit_41 : decode cX7_limit 41 = .ok (.iload 4, 2) := by decide +kernel
theorem dX7_limit_43 : decode cX7_limit 43 = .ok (.invokestatic 55, 3) := by decide +kernel
theorem dX7_limit_46 : decode cX7_limit 46 = .ok (.ifCond .ne 6, 3) := by decide +kernel
theorem dX7_limit_49 : decode cX7_limit 49 = .ok (.bipush (-2), 2) := by decide +kernel
theorem dX7_limit_51 : decode cX7_limit 51 = .ok (.ireturn, 1) := by decide +kernel
theorem dX7_limit_52 : decode cX7_limit 52 = .ok (.aload_n 0, 1) := by decide +kernel
theorem dX7_limit_53 : decode cX7_limit 53 = .ok (.getfield 7, 3) := by decide +kernel
theorem dX7_limit_56 : decode cX7_limit 56 = .ok (.bipush 14, 2) := by decide +kernel
theorem dX7_limit_58 : decode cX7_limit 58 = .ok (.iload_n 1, 1) := by decide +kernel
theorem dX7_limit_59 : decode cX7_limit 59 = .ok (.imul, 1) := by decide +kernel
theorem dX7_limit_60 : decode cX7_limit 60 = .ok (.iconst 4, 1) := by decide +kernel
theorem dX7_limit_61 : decode cX7_limit 61 = .ok (.iadd, 1) := by decide +kernel
theorem dX7_limit_62 : decode cX7_limit 62 = .ok (.iconst 2, 1) := by decide +kernel
theorem dX7_limit_63 : decode cX7_limit 63 = .ok (.iload_n 2, 1) := by decide +kernel
theorem dX7_limit_64 : decode cX7_limit 64 = .ok (.imul, 1) := by decide +kernel
theorem dX7_limit_65 : decode cX7_limit 65 = .ok (.iadd, 1) := by decide +kernel
theorem dX7_limit_66 : decode cX7_limit 66 = .ok (.iload_n 3, 1) := by decide +kernel
theorem dX7_limit_67 : decode cX7_limit 67 = .ok (.iastore, 1) := by decide +kernel
theorem dX7_limit_68 : decode cX7_limit 68 = .ok (.aload_n 0, 1) := by decide +kernel
theorem dX7_limit_69 : decode cX7_limit 69 = .ok (.getfield 7, 3) := by decide +kernel
theorem dX7_limit_72 : decode cX7_limit 72 = .ok (.bipush 14, 2) := by decide +kernel
theorem dX7_limit_74 : decode cX7_limit 74 = .ok (.iload_n 1, 1) := by decide +kernel
theorem dX7_limit_75 : decode cX7_limit 75 = .ok (.imul, 1) := by decide +kernel
theorem dX7_limit_76 : decode cX7_limit 76 = .ok (.iconst 4, 1) := by decide +kernel
theorem dX7_limit_77 : decode cX7_limit 77 = .ok (.iadd, 1) := by decide +kernel
theorem dX7_limit_78 : decode cX7_limit 78 = .ok (.iconst 2, 1) := by decide +kernel
theorem dX7_limit_79 : decode cX7_limit 79 = .ok (.iload_n 2, 1) := by decide +kernel
theorem dX7_limit_80 : decode cX7_limit 80 = .ok (.imul, 1) := by decide +kernel
theorem dX7_limit_81 : decode cX7_limit 81 = .ok (.iadd, 1) := by decide +kernel
theorem dX7_limit_82 : decode cX7_limit 82 = .ok (.iconst 1, 1) := by decide +kernel
theorem dX7_limit_83 : decode cX7_limit 83 = .ok (.iadd, 1) := by decide +kernel
theorem dX7_limit_84 : decode cX7_limit 84 = .ok (.iload 4, 2) := by decide +kernel
theorem dX7_limit_86 : decode cX7_limit 86 = .ok (.iastore, 1) := by decide +kernel
theorem dX7_limit_87 : decode cX7_limit 87 = .ok (.aload_n 0, 1) := by decide +kernel
theorem dX7_limit_88 : decode cX7_limit 88 = .ok (.invokevirtual 47, 3) := by decide +kernel
theorem dX7_limit_91 : decode cX7_limit 91 = .ok (.iconst 0, 1) := by decide +kernel
theorem dX7_limit_92 : decode cX7_limit 92 = .ok (.istore 5, 2) := by decide +kernel
theorem dX7_limit_94 : decode cX7_limit 94 = .ok (.bipush 31, 2) := by decide +kernel
theorem dX7_limit_96 : decode cX7_limit 96 = .ok (.istore 6, 2) := by decide +kernel
theorem dX7_limit_98 : decode cX7_limit 98 = .ok (.iload 6, 2) := by decide +kernel
theorem dX7_limit_100 : decode cX7_limit 100 = .ok (.ldc 54, 2) := by decide +kernel
theorem dX7_limit_102 : decode cX7_limit 102 = .ok (.if_icmp .gt 33, 3) := by decide +kernel
theorem dX7_limit_105 : decode cX7_limit 105 = .ok (.iload 5, 2) := by decide +kernel
theorem dX7_limit_107 : decode cX7_limit 107 = .ok (.aload_n 0, 1) := by decide +kernel
theorem dX7_limit_108 : decode cX7_limit 108 = .ok (.iload 6, 2) := by decide +kernel
theorem dX7_limit_110 : decode cX7_limit 110 = .ok (.iload_n 1, 1) := by decide +kernel
theorem dX7_limit_111 : decode cX7_limit 111 = .ok (.invokevirtual 95, 3) := by decide +kernel
theorem dX7_limit_114 : decode cX7_limit 114 = .ok (.ifCond .eq 7, 3) := by decide +kernel
theorem dX7_limit_117 : decode cX7_limit 117 = .ok (.iconst 1, 1) := by decide +kernel
theorem dX7_limit_118 : decode cX7_limit 118 = .ok (.goto 4, 3) := by decide +kernel
theorem dX7_limit_121 : decode cX7_limit 121 = .ok (.iconst 0, 1) := by decide +kernel
theorem dX7_limit_122 : decode cX7_limit 122 = .ok (.iadd, 1) := by decide +kernel
theorem dX7_limit_123 : decode cX7_limit 123 = .ok (.istore 5, 2) := by decide +kernel
theorem dX7_limit_125 : decode cX7_limit 125 = .ok (.iload 6, 2) := by decide +kernel
theorem dX7_limit_127 : decode cX7_limit 127 = .ok (.invokestatic 98, 3) := by decide +kernel
theorem dX7_limit_130 : decode cX7_limit 130 = .ok (.istore 6, 2) := by decide +kernel
theorem dX7_limit_132 : decode cX7_limit 132 = .ok (.goto (-34), 3) := by decide +kernel
theorem dX7_limit_135 : decode cX7_limit 135 = .ok (.iload 5, 2) := by decide +kernel
theorem dX7_limit_137 : decode cX7_limit 137 = .ok (.ireturn, 1) := by decide +kernel
theorem dX7_takeOut_0 : decode cX7_takeOut 0 = .ok (.aload_n 0, 1) := by decide +kernel
theorem dX7_takeOut_1 : decode cX7_takeOut 1 = .ok (.dup, 1) := by decide +kernel
theorem dX7_takeOut_2 : decode cX7_takeOut 2 = .ok (.getfield 63, 3) := by decide +kernel
theorem dX7_takeOut_5 : decode cX7_takeOut 5 = .ok (.iconst 1, 1) := by decide +kernel
theorem dX7_takeOut_6 : decode cX7_takeOut 6 = .ok (.isub, 1) := by decide +kernel
theorem dX7_takeOut_7 : decode cX7_takeOut 7 = .ok (.putfield 63, 3) := by decide +kernel
theorem dX7_takeOut_10 : decode cX7_takeOut 10 = .ok (.bipush 14, 2) := by decide +kernel
theorem dX7_takeOut_12 : decode cX7_takeOut 12 = .ok (.iload_n 1, 1) := by decide +kernel
theorem dX7_takeOut_13 : decode cX7_takeOut 13 = .ok (.imul, 1) := by decide +kernel
theorem dX7_takeOut_14 : decode cX7_takeOut 14 = .ok (.istore_n 2, 1) := by decide +kernel
theorem dX7_takeOut_15 : decode cX7_takeOut 15 = .ok (.iload_n 2, 1) := by decide +kernel
theorem dX7_takeOut_16 : decode cX7_takeOut 16 = .ok (.bipush 14, 2) := by decide +kernel
theorem dX7_takeOut_18 : decode cX7_takeOut 18 = .ok (.aload_n 0, 1) := by decide +kernel
theorem dX7_takeOut_19 : decode cX7_takeOut 19 = .ok (.getfield 63, 3) := by decide +kernel
theorem dX7_takeOut_22 : decode cX7_takeOut 22 = .ok (.imul, 1) := by decide +kernel
theorem dX7_takeOut_23 : decode cX7_takeOut 23 = .ok (.if_icmp .ge 24, 3) := by decide +kernel
theorem dX7_takeOut_26 : decode cX7_takeOut 26 = .ok (.aload_n 0, 1) := by decide +kernel
theorem dX7_takeOut_27 : decode cX7_takeOut 27 = .ok (.getfield 7, 3) := by decide +kernel
theorem dX7_takeOut_30 : decode cX7_takeOut 30 = .ok (.iload_n 2, 1) := by decide +kernel
theorem dX7_takeOut_31 : decode cX7_takeOut 31 = .ok (.aload_n 0, 1) := by decide +kernel
theorem dX7_takeOut_32 : decode cX7_takeOut 32 = .ok (.getfield 7, 3) := by decide +kernel
theorem dX7_takeOut_35 : decode cX7_takeOut 35 = .ok (.iload_n 2, 1) := by decide +kernel
theorem dX7_takeOut_36 : decode cX7_takeOut 36 = .ok (.bipush 14, 2) := by decide +kernel
theorem dX7_takeOut_38 : decode cX7_takeOut 38 = .ok (.iadd, 1) := by decide +kernel
theorem dX7_takeOut_39 : decode cX7_takeOut 39 = .ok (.iaload, 1) := by decide +kernel
theorem dX7_takeOut_40 : decode cX7_takeOut 40 = .ok (.iastore, 1) := by decide +kernel
theorem dX7_takeOut_41 : decode cX7_takeOut 41 = .ok (.iinc 2 1, 3) := by decide +kernel
theorem dX7_takeOut_44 : decode cX7_takeOut 44 = .ok (.goto (-29), 3) := by decide +kernel
theorem dX7_takeOut_47 : decode cX7_takeOut 47 = .ok (.return_, 1) := by decide +kernel
theorem dX7_remove_0 : decode cX7_remove 0 = .ok (.aload_n 0, 1) := by decide +kernel
theorem dX7_remove_1 : decode cX7_remove 1 = .ok (.iload_n 1, 1) := by decide +kernel
theorem dX7_remove_2 : decode cX7_remove 2 = .ok (.invokevirtual 91, 3) := by decide +kernel
theorem dX7_remove_5 : decode cX7_remove 5 = .ok (.ifCond .ne 5, 3) := by decide +kernel
theorem dX7_remove_8 : decode cX7_remove 8 = .ok (.iconst (-1), 1) := by decide +kernel
theorem dX7_remove_9 : decode cX7_remove 9 = .ok (.ireturn, 1) := by decide +kernel
theorem dX7_remove_10 : decode cX7_remove 10 = .ok (.aload_n 0, 1) := by decide +kernel
theorem dX7_remove_11 : decode cX7_remove 11 = .ok (.iload_n 1, 1) := by decide +kernel
theorem dX7_remove_12 : decode cX7_remove 12 = .ok (.invokevirtual 101, 3) := by decide +kernel
theorem dX7_remove_15 : decode cX7_remove 15 = .ok (.aload_n 0, 1) := by decide +kernel
theorem dX7_remove_16 : decode cX7_remove 16 = .ok (.invokevirtual 47, 3) := by decide +kernel
theorem dX7_remove_19 : decode cX7_remove 19 = .ok (.aload_n 0, 1) := by decide +kernel
theorem dX7_remove_20 : decode cX7_remove 20 = .ok (.getfield 63, 3) := by decide +kernel
theorem dX7_remove_23 : decode cX7_remove 23 = .ok (.ireturn, 1) := by decide +kernel
theorem dX7_move_0 : decode cX7_move 0 = .ok (.aload_n 0, 1) := by decide +kernel
theorem dX7_move_1 : decode cX7_move 1 = .ok (.iload_n 1, 1) := by decide +kernel
theorem dX7_move_2 : decode cX7_move 2 = .ok (.invokevirtual 91, 3) := by decide +kernel
theorem dX7_move_5 : decode cX7_move 5 = .ok (.ifCond .eq 11, 3) := by decide +kernel
theorem dX7_move_8 : decode cX7_move 8 = .ok (.aload_n 0, 1) := by decide +kernel
theorem dX7_move_9 : decode cX7_move 9 = .ok (.iload_n 2, 1) := by decide +kernel
theorem dX7_move_10 : decode cX7_move 10 = .ok (.invokevirtual 91, 3) := by decide +kernel
theorem dX7_move_13 : decode cX7_move 13 = .ok (.ifCond .ne 5, 3) := by decide +kernel
theorem dX7_move_16 : decode cX7_move 16 = .ok (.iconst (-1), 1) := by decide +kernel
theorem dX7_move_17 : decode cX7_move 17 = .ok (.ireturn, 1) := by decide +kernel
theorem dX7_move_18 : decode cX7_move 18 = .ok (.iconst 0, 1) := by decide +kernel
theorem dX7_move_19 : decode cX7_move 19 = .ok (.istore_n 3, 1) := by decide +kernel
theorem dX7_move_20 : decode cX7_move 20 = .ok (.iload_n 3, 1) := by decide +kernel
theorem dX7_move_21 : decode cX7_move 21 = .ok (.bipush 14, 2) := by decide +kernel
theorem dX7_move_23 : decode cX7_move 23 = .ok (.if_icmp .ge 21, 3) := by decide +kernel
theorem dX7_move_26 : decode cX7_move 26 = .ok (.aload_n 0, 1) := by decide +kernel
theorem dX7_move_27 : decode cX7_move 27 = .ok (.getfield 40, 3) := by decide +kernel
theorem dX7_move_30 : decode cX7_move 30 = .ok (.iload_n 3, 1) := by decide +kernel
theorem dX7_move_31 : decode cX7_move 31 = .ok (.aload_n 0, 1) := by decide +kernel
theorem dX7_move_32 : decode cX7_move 32 = .ok (.iload_n 1, 1) := by decide +kernel
theorem dX7_move_33 : decode cX7_move 33 = .ok (.iload_n 3, 1) := by decide +kernel
theorem dX7_move_34 : decode cX7_move 34 = .ok (.invokevirtual 77, 3) := by decide +kernel
theorem dX7_move_37 : decode cX7_move 37 = .ok (.iastore, 1) := by decide +kernel
theorem dX7_move_38 : decode cX7_move 38 = .ok (.iinc 3 1, 3) := by decide +kernel
theorem dX7_move_41 : decode cX7_move 41 = .ok (.goto (-21), 3) := by decide +kernel
theorem dX7_move_44 : decode cX7_move 44 = .ok (.aload_n 0, 1) := by decide +kernel
theorem dX7_move_45 : decode cX7_move 45 = .ok (.iload_n 1, 1) := by decide +kernel
theorem dX7_move_46 : decode cX7_move 46 = .ok (.invokevirtual 101, 3) := by decide +kernel
theorem dX7_move_49 : decode cX7_move 49 = .ok (.bipush 14, 2) := by decide +kernel
theorem dX7_move_51 : decode cX7_move 51 = .ok (.aload_n 0, 1) := by decide +kernel
theorem dX7_move_52 : decode cX7_move 52 = .ok (.getfield 63, 3) := by decide +kernel
theorem dX7_move_55 : decode cX7_move 55 = .ok (.imul, 1) := by decide +kernel
theorem dX7_move_56 : decode cX7_move 56 = .ok (.iconst 1, 1) := by decide +kernel
theorem dX7_move_57 : decode cX7_move 57 = .ok (.isub, 1) := by decide +kernel
theorem dX7_move_58 : decode cX7_move 58 = .ok (.istore_n 3, 1) := by decide +kernel
theorem dX7_move_59 : decode cX7_move 59 = .ok (.iload_n 3, 1) := by decide +kernel
theorem dX7_move_60 : decode cX7_move 60 = .ok (.bipush 14, 2) := by decide +kernel
theorem dX7_move_62 : decode cX7_move 62 = .ok (.iload_n 2, 1) := by decide +kernel
theorem dX7_move_63 : decode cX7_move 63 = .ok (.imul, 1) := by decide +kernel
theorem dX7_move_64 : decode cX7_move 64 = .ok (.if_icmp .lt 24, 3) := by decide +kernel
theorem dX7_move_67 : decode cX7_move 67 = .ok (.aload_n 0, 1) := by decide +kernel
theorem dX7_move_68 : decode cX7_move 68 = .ok (.getfield 7, 3) := by decide +kernel
theorem dX7_move_71 : decode cX7_move 71 = .ok (.iload_n 3, 1) := by decide +kernel
theorem dX7_move_72 : decode cX7_move 72 = .ok (.bipush 14, 2) := by decide +kernel
theorem dX7_move_74 : decode cX7_move 74 = .ok (.iadd, 1) := by decide +kernel
theorem dX7_move_75 : decode cX7_move 75 = .ok (.aload_n 0, 1) := by decide +kernel
theorem dX7_move_76 : decode cX7_move 76 = .ok (.getfield 7, 3) := by decide +kernel
theorem dX7_move_79 : decode cX7_move 79 = .ok (.iload_n 3, 1) := by decide +kernel
theorem dX7_move_80 : decode cX7_move 80 = .ok (.iaload, 1) := by decide +kernel
theorem dX7_move_81 : decode cX7_move 81 = .ok (.iastore, 1) := by decide +kernel
theorem dX7_move_82 : decode cX7_move 82 = .ok (.iinc 3 (-1), 3) := by decide +kernel
theorem dX7_move_85 : decode cX7_move 85 = .ok (.goto (-26), 3) := by decide +kernel
theorem dX7_move_88 : decode cX7_move 88 = .ok (.iconst 0, 1) := by decide +kernel
theorem dX7_move_89 : decode cX7_move 89 = .ok (.istore_n 3, 1) := by decide +kernel
theorem dX7_move_90 : decode cX7_move 90 = .ok (.iload_n 3, 1) := by decide +kernel
theorem dX7_move_91 : decode cX7_move 91 = .ok (.bipush 14, 2) := by decide +kernel
theorem dX7_move_93 : decode cX7_move 93 = .ok (.if_icmp .ge 26, 3) := by decide +kernel
theorem dX7_move_96 : decode cX7_move 96 = .ok (.aload_n 0, 1) := by decide +kernel
theorem dX7_move_97 : decode cX7_move 97 = .ok (.getfield 7, 3) := by decide +kernel
theorem dX7_move_100 : decode cX7_move 100 = .ok (.bipush 14, 2) := by decide +kernel
theorem dX7_move_102 : decode cX7_move 102 = .ok (.iload_n 2, 1) := by decide +kernel
theorem dX7_move_103 : decode cX7_move 103 = .ok (.imul, 1) := by decide +kernel
theorem dX7_move_104 : decode cX7_move 104 = .ok (.iload_n 3, 1) := by decide +kernel
theorem dX7_move_105 : decode cX7_move 105 = .ok (.iadd, 1) := by decide +kernel
theorem dX7_move_106 : decode cX7_move 106 = .ok (.aload_n 0, 1) := by decide +kernel
theorem dX7_move_107 : decode cX7_move 107 = .ok (.getfield 40, 3) := by decide +kernel
theorem dX7_move_110 : decode cX7_move 110 = .ok (.iload_n 3, 1) := by decide +kernel
theorem dX7_move_111 : decode cX7_move 111 = .ok (.iaload, 1) := by decide +kernel
theorem dX7_move_112 : decode cX7_move 112 = .ok (.iastore, 1) := by decide +kernel
theorem dX7_move_113 : decode cX7_move 113 = .ok (.iinc 3 1, 3) := by decide +kernel
theorem dX7_move_116 : decode cX7_move 116 = .ok (.goto (-26), 3) := by decide +kernel
theorem dX7_move_119 : decode cX7_move 119 = .ok (.aload_n 0, 1) := by decide +kernel
theorem dX7_move_120 : decode cX7_move 120 = .ok (.dup, 1) := by decide +kernel
theorem dX7_move_121 : decode cX7_move 121 = .ok (.getfield 63, 3) := by decide +kernel
theorem dX7_move_124 : decode cX7_move 124 = .ok (.iconst 1, 1) := by decide +kernel
theorem dX7_move_125 : decode cX7_move 125 = .ok (.iadd, 1) := by decide +kernel
theorem dX7_move_126 : decode cX7_move 126 = .ok (.putfield 63, 3) := by decide +kernel
theorem dX7_move_129 : decode cX7_move 129 = .ok (.aload_n 0, 1) := by decide +kernel
theorem dX7_move_130 : decode cX7_move 130 = .ok (.invokevirtual 47, 3) := by decide +kernel
theorem dX7_move_133 : decode cX7_move 133 = .ok (.aload_n 0, 1) := by decide +kernel
theorem dX7_move_134 : decode cX7_move 134 = .ok (.iload_n 2, 1) := by decide +kernel
theorem dX7_move_135 : decode cX7_move 135 = .ok (.iconst 1, 1) := by decide +kernel
theorem dX7_move_136 : decode cX7_move 136 = .ok (.invokevirtual 77, 3) := by decide +kernel
theorem dX7_move_139 : decode cX7_move 139 = .ok (.ireturn, 1) := by decide +kernel
theorem dX7_part_0 : decode cX7_part 0 = .ok (.aload_n 0, 1) := by decide +kernel
theorem dX7_part_1 : decode cX7_part 1 = .ok (.iload_n 1, 1) := by decide +kernel
theorem dX7_part_2 : decode cX7_part 2 = .ok (.invokevirtual 91, 3) := by decide +kernel
theorem dX7_part_5 : decode cX7_part 5 = .ok (.ifCond .ne 5, 3) := by decide +kernel
theorem dX7_part_8 : decode cX7_part 8 = .ok (.iconst (-1), 1) := by decide +kernel
theorem dX7_part_9 : decode cX7_part 9 = .ok (.ireturn, 1) := by decide +kernel
theorem dX7_part_10 : decode cX7_part 10 = .ok (.iload_n 2, 1) := by decide +kernel
theorem dX7_part_11 : decode cX7_part 11 = .ok (.iconst 0, 1) := by decide +kernel
theorem dX7_part_12 : decode cX7_part 12 = .ok (.bipush 13, 2) := by decide +kernel
theorem dX7_part_14 : decode cX7_part 14 = .ok (.invokestatic 55, 3) := by decide +kernel
theorem dX7_part_17 : decode cX7_part 17 = .ok (.ifCond .eq 12, 3) := by decide +kernel
theorem dX7_part_20 : decode cX7_part 20 = .ok (.aload_n 0, 1) := by decide +kernel
theorem dX7_part_21 : decode cX7_part 21 = .ok (.iload_n 1, 1) := by decide +kernel
theorem dX7_part_22 : decode cX7_part 22 = .ok (.iload_n 2, 1) := by decide +kernel
theorem dX7_part_23 : decode cX7_part 23 = .ok (.invokevirtual 77, 3) := by decide +kernel
theorem dX7_part_26 : decode cX7_part 26 = .ok (.goto 5, 3) := by decide +kernel
theorem dX7_part_29 : decode cX7_part 29 = .ok (.bipush (-2), 2) := by decide +kernel
theorem dX7_part_31 : decode cX7_part 31 = .ok (.ireturn, 1) := by decide +kernel
theorem dX7_isPartner_0 : decode cX7_isPartner 0 = .ok (.iload_n 0, 1) := by decide +kernel
theorem dX7_isPartner_1 : decode cX7_isPartner 1 = .ok (.iconst 0, 1) := by decide +kernel
theorem dX7_isPartner_2 : decode cX7_isPartner 2 = .ok (.iconst 1, 1) := by decide +kernel
theorem dX7_isPartner_3 : decode cX7_isPartner 3 = .ok (.invokestatic 55, 3) := by decide +kernel
theorem dX7_isPartner_6 : decode cX7_isPartner 6 = .ok (.ireturn, 1) := by decide +kernel
theorem dX7_give_0 : decode cX7_give 0 = .ok (.iload_n 1, 1) := by decide +kernel
theorem dX7_give_1 : decode cX7_give 1 = .ok (.invokestatic 105, 3) := by decide +kernel
theorem dX7_give_4 : decode cX7_give 4 = .ok (.ifCond .ne 5, 3) := by decide +kernel
theorem dX7_give_7 : decode cX7_give 7 = .ok (.iconst (-1), 1) := by decide +kernel
theorem dX7_give_8 : decode cX7_give 8 = .ok (.ireturn, 1) := by decide +kernel
theorem dX7_give_9 : decode cX7_give 9 = .ok (.aload_n 0, 1) := by decide +kernel
theorem dX7_give_10 : decode cX7_give 10 = .ok (.iload_n 2, 1) := by decide +kernel
theorem dX7_give_11 : decode cX7_give 11 = .ok (.invokevirtual 108, 3) := by decide +kernel
theorem dX7_give_14 : decode cX7_give 14 = .ok (.ifCond .ne 6, 3) := by decide +kernel
theorem dX7_give_17 : decode cX7_give 17 = .ok (.bipush (-2), 2) := by decide +kernel
theorem dX7_give_19 : decode cX7_give 19 = .ok (.ireturn, 1) := by decide +kernel
theorem dX7_give_20 : decode cX7_give 20 = .ok (.aload_n 0, 1) := by decide +kernel
theorem dX7_give_21 : decode cX7_give 21 = .ok (.getfield 13, 3) := by decide +kernel
theorem dX7_give_24 : decode cX7_give 24 = .ok (.iconst 1, 1) := by decide +kernel
theorem dX7_give_25 : decode cX7_give 25 = .ok (.iload_n 1, 1) := by decide +kernel
theorem dX7_give_26 : decode cX7_give 26 = .ok (.isub, 1) := by decide +kernel
theorem dX7_give_27 : decode cX7_give 27 = .ok (.iaload, 1) := by decide +kernel
theorem dX7_give_28 : decode cX7_give 28 = .ok (.iload_n 2, 1) := by decide +kernel
theorem dX7_give_29 : decode cX7_give 29 = .ok (.iand, 1) := by decide +kernel
theorem dX7_give_30 : decode cX7_give 30 = .ok (.ifCond .eq 6, 3) := by decide +kernel
theorem dX7_give_33 : decode cX7_give 33 = .ok (.bipush (-5), 2) := by decide +kernel
theorem dX7_give_35 : decode cX7_give 35 = .ok (.ireturn, 1) := by decide +kernel
theorem dX7_give_36 : decode cX7_give 36 = .ok (.aload_n 0, 1) := by decide +kernel
theorem dX7_give_37 : decode cX7_give 37 = .ok (.getfield 13, 3) := by decide +kernel
theorem dX7_give_40 : decode cX7_give 40 = .ok (.iload_n 1, 1) := by decide +kernel
theorem dX7_give_41 : decode cX7_give 41 = .ok (.iaload, 1) := by decide +kernel
theorem dX7_give_42 : decode cX7_give 42 = .ok (.istore_n 3, 1) := by decide +kernel
theorem dX7_give_43 : decode cX7_give 43 = .ok (.aload_n 0, 1) := by decide +kernel
theorem dX7_give_44 : decode cX7_give 44 = .ok (.getfield 13, 3) := by decide +kernel
theorem dX7_give_47 : decode cX7_give 47 = .ok (.iload_n 1, 1) := by decide +kernel
theorem dX7_give_48 : decode cX7_give 48 = .ok (.iload_n 2, 1) := by decide +kernel
theorem dX7_give_49 : decode cX7_give 49 = .ok (.iastore, 1) := by decide +kernel
theorem dX7_give_50 : decode cX7_give 50 = .ok (.aload_n 0, 1) := by decide +kernel
theorem dX7_give_51 : decode cX7_give 51 = .ok (.invokevirtual 47, 3) := by decide +kernel
theorem dX7_give_54 : decode cX7_give 54 = .ok (.iload_n 3, 1) := by decide +kernel
theorem dX7_give_55 : decode cX7_give 55 = .ok (.ireturn, 1) := by decide +kernel
theorem dX7_cardLeft_0 : decode cX7_cardLeft 0 = .ok (.iload_n 1, 1) := by decide +kernel
theorem dX7_cardLeft_1 : decode cX7_cardLeft 1 = .ok (.istore_n 2, 1) := by decide +kernel
theorem dX7_cardLeft_2 : decode cX7_cardLeft 2 = .ok (.iconst 0, 1) := by decide +kernel
theorem dX7_cardLeft_3 : decode cX7_cardLeft 3 = .ok (.istore_n 3, 1) := by decide +kernel
theorem dX7_cardLeft_4 : decode cX7_cardLeft 4 = .ok (.iload_n 2, 1) := by decide +kernel
theorem dX7_cardLeft_5 : decode cX7_cardLeft 5 = .ok (.ifCond .gt 12, 3) := by decide +kernel
theorem dX7_cardLeft_8 : decode cX7_cardLeft 8 = .ok (.iload_n 0, 1) := by decide +kernel
theorem dX7_cardLeft_9 : decode cX7_cardLeft 9 = .ok (.iload_n 3, 1) := by decide +kernel
theorem dX7_cardLeft_10 : decode cX7_cardLeft 10 = .ok (.ishr, 1) := by decide +kernel
theorem dX7_cardLeft_11 : decode cX7_cardLeft 11 = .ok (.iconst 1, 1) := by decide +kernel
theorem dX7_cardLeft_12 : decode cX7_cardLeft 12 = .ok (.iand, 1) := by decide +kernel
theorem dX7_cardLeft_13 : decode cX7_cardLeft 13 = .ok (.iconst 1, 1) := by decide +kernel
theorem dX7_cardLeft_14 : decode cX7_cardLeft 14 = .ok (.if_icmp .ne 26, 3) := by decide +kernel
theorem dX7_cardLeft_17 : decode cX7_cardLeft 17 = .ok (.iload_n 2, 1) := by decide +kernel
theorem dX7_cardLeft_18 : decode cX7_cardLeft 18 = .ok (.iload_n 0, 1) := by decide +kernel
theorem dX7_cardLeft_19 : decode cX7_cardLeft 19 = .ok (.iload_n 3, 1) := by decide +kernel
theorem dX7_cardLeft_20 : decode cX7_cardLeft 20 = .ok (.ishr, 1) := by decide +kernel
theorem dX7_cardLeft_21 : decode cX7_cardLeft 21 = .ok (.iconst 1, 1) := by decide +kernel
theorem dX7_cardLeft_22 : decode cX7_cardLeft 22 = .ok (.iand, 1) := by decide +kernel
theorem dX7_cardLeft_23 : decode cX7_cardLeft 23 = .ok (.iconst 1, 1) := by decide +kernel
theorem dX7_cardLeft_24 : decode cX7_cardLeft 24 = .ok (.if_icmp .ne 7, 3) := by decide +kernel
theorem dX7_cardLeft_27 : decode cX7_cardLeft 27 = .ok (.iconst 0, 1) := by decide +kernel
theorem dX7_cardLeft_28 : decode cX7_cardLeft 28 = .ok (.goto 4, 3) := by decide +kernel
theorem dX7_cardLeft_31 : decode cX7_cardLeft 31 = .ok (.iconst 1, 1) := by decide +kernel
theorem dX7_cardLeft_32 : decode cX7_cardLeft 32 = .ok (.isub, 1) := by decide +kernel
theorem dX7_cardLeft_33 : decode cX7_cardLeft 33 = .ok (.istore_n 2, 1) := by decide +kernel
theorem dX7_cardLeft_34 : decode cX7_cardLeft 34 = .ok (.iinc 3 1, 3) := by decide +kernel
theorem dX7_cardLeft_37 : decode cX7_cardLeft 37 = .ok (.goto (-33), 3) := by decide +kernel
theorem dX7_cardLeft_40 : decode cX7_cardLeft 40 = .ok (.iload_n 3, 1) := by decide +kernel
theorem dX7_cardLeft_41 : decode cX7_cardLeft 41 = .ok (.ireturn, 1) := by decide +kernel
theorem dX7_draw_0 : decode cX7_draw 0 = .ok (.iload_n 1, 1) := by decide +kernel
theorem dX7_draw_1 : decode cX7_draw 1 = .ok (.iconst 0, 1) := by decide +kernel
theorem dX7_draw_2 : decode cX7_draw 2 = .ok (.ldc 111, 2) := by decide +kernel
theorem dX7_draw_4 : decode cX7_draw 4 = .ok (.invokestatic 55, 3) := by decide +kernel
theorem dX7_draw_7 : decode cX7_draw 7 = .ok (.ifCond .ne 6, 3) := by decide +kernel
theorem dX7_draw_10 : decode cX7_draw 10 = .ok (.bipush (-2), 2) := by decide +kernel
theorem dX7_draw_12 : decode cX7_draw 12 = .ok (.ireturn, 1) := by decide +kernel
theorem dX7_draw_13 : decode cX7_draw 13 = .ok (.iload_n 1, 1) := by decide +kernel
theorem dX7_draw_14 : decode cX7_draw 14 = .ok (.istore_n 2, 1) := by decide +kernel
theorem dX7_draw_15 : decode cX7_draw 15 = .ok (.iconst 0, 1) := by decide +kernel
theorem dX7_draw_16 : decode cX7_draw 16 = .ok (.istore_n 3, 1) := by decide +kernel
theorem dX7_draw_17 : decode cX7_draw 17 = .ok (.iconst 0, 1) := by decide +kernel
theorem dX7_draw_18 : decode cX7_draw 18 = .ok (.istore 4, 2) := by decide +kernel
theorem dX7_draw_20 : decode cX7_draw 20 = .ok (.iconst 0, 1) := by decide +kernel
theorem dX7_draw_21 : decode cX7_draw 21 = .ok (.istore 5, 2) := by decide +kernel
theorem dX7_draw_23 : decode cX7_draw 23 = .ok (.iload 5, 2) := by decide +kernel
theorem dX7_draw_25 : decode cX7_draw 25 = .ok (.bipush 10, 2) := by decide +kernel
theorem dX7_draw_27 : decode cX7_draw 27 = .ok (.if_icmp .ge 52, 3) := by decide +kernel
theorem dX7_draw_30 : decode cX7_draw 30 = .ok (.iload_n 2, 1) := by decide +kernel
theorem dX7_draw_31 : decode cX7_draw 31 = .ok (.sipush 1103, 3) := by decide +kernel
theorem dX7_draw_34 : decode cX7_draw 34 = .ok (.imul, 1) := by decide +kernel
theorem dX7_draw_35 : decode cX7_draw 35 = .ok (.sipush 12345, 3) := by decide +kernel
theorem dX7_draw_38 : decode cX7_draw 38 = .ok (.iadd, 1) := by decide +kernel
theorem dX7_draw_39 : decode cX7_draw 39 = .ok (.ldc 112, 2) := by decide +kernel
theorem dX7_draw_41 : decode cX7_draw 41 = .ok (.irem, 1) := by decide +kernel
theorem dX7_draw_42 : decode cX7_draw 42 = .ok (.istore_n 2, 1) := by decide +kernel
theorem dX7_draw_43 : decode cX7_draw 43 = .ok (.iload_n 3, 1) := by decide +kernel
theorem dX7_draw_44 : decode cX7_draw 44 = .ok (.iconst 1, 1) := by decide +kernel
theorem dX7_draw_45 : decode cX7_draw 45 = .ok (.iload_n 3, 1) := by decide +kernel
theorem dX7_draw_46 : decode cX7_draw 46 = .ok (.iload_n 2, 1) := by decide +kernel
theorem dX7_draw_47 : decode cX7_draw 47 = .ok (.bipush 20, 2) := by decide +kernel
theorem dX7_draw_49 : decode cX7_draw 49 = .ok (.iload 5, 2) := by decide +kernel
theorem dX7_draw_51 : decode cX7_draw 51 = .ok (.isub, 1) := by decide +kernel
theorem dX7_draw_52 : decode cX7_draw 52 = .ok (.irem, 1) := by decide +kernel
theorem dX7_draw_53 : decode cX7_draw 53 = .ok (.invokestatic 113, 3) := by decide +kernel
theorem dX7_draw_56 : decode cX7_draw 56 = .ok (.ishl, 1) := by decide +kernel
theorem dX7_draw_57 : decode cX7_draw 57 = .ok (.ior, 1) := by decide +kernel
theorem dX7_draw_58 : decode cX7_draw 58 = .ok (.istore_n 3, 1) := by decide +kernel
theorem dX7_draw_59 : decode cX7_draw 59 = .ok (.iload 5, 2) := by decide +kernel
theorem dX7_draw_61 : decode cX7_draw 61 = .ok (.iconst 4, 1) := by decide +kernel
theorem dX7_draw_62 : decode cX7_draw 62 = .ok (.if_icmp .ne 7, 3) := by decide +kernel
theorem dX7_draw_65 : decode cX7_draw 65 = .ok (.iload_n 3, 1) := by decide +kernel
theorem dX7_draw_66 : decode cX7_draw 66 = .ok (.goto 5, 3) := by decide +kernel
theorem dX7_draw_69 : decode cX7_draw 69 = .ok (.iload 4, 2) := by decide +kernel
theorem dX7_draw_71 : decode cX7_draw 71 = .ok (.istore 4, 2) := by decide +kernel
theorem dX7_draw_73 : decode cX7_draw 73 = .ok (.iinc 5 1, 3) := by decide +kernel
theorem dX7_draw_76 : decode cX7_draw 76 = .ok (.goto (-53), 3) := by decide +kernel
theorem dX7_draw_79 : decode cX7_draw 79 = .ok (.aload_n 0, 1) := by decide +kernel
theorem dX7_draw_80 : decode cX7_draw 80 = .ok (.getfield 13, 3) := by decide +kernel
theorem dX7_draw_83 : decode cX7_draw 83 = .ok (.iconst 0, 1) := by decide +kernel
theorem dX7_draw_84 : decode cX7_draw 84 = .ok (.iload 4, 2) := by decide +kernel
theorem dX7_draw_86 : decode cX7_draw 86 = .ok (.iastore, 1) := by decide +kernel
theorem dX7_draw_87 : decode cX7_draw 87 = .ok (.aload_n 0, 1) := by decide +kernel
theorem dX7_draw_88 : decode cX7_draw 88 = .ok (.getfield 13, 3) := by decide +kernel
theorem dX7_draw_91 : decode cX7_draw 91 = .ok (.iconst 1, 1) := by decide +kernel
theorem dX7_draw_92 : decode cX7_draw 92 = .ok (.iload_n 3, 1) := by decide +kernel
theorem dX7_draw_93 : decode cX7_draw 93 = .ok (.iload 4, 2) := by decide +kernel
theorem dX7_draw_95 : decode cX7_draw 95 = .ok (.iconst (-1), 1) := by decide +kernel
theorem dX7_draw_96 : decode cX7_draw 96 = .ok (.ixor, 1) := by decide +kernel
theorem dX7_draw_97 : decode cX7_draw 97 = .ok (.iand, 1) := by decide +kernel
theorem dX7_draw_98 : decode cX7_draw 98 = .ok (.iastore, 1) := by decide +kernel
theorem dX7_draw_99 : decode cX7_draw 99 = .ok (.aload_n 0, 1) := by decide +kernel
theorem dX7_draw_100 : decode cX7_draw 100 = .ok (.invokevirtual 47, 3) := by decide +kernel
theorem dX7_draw_103 : decode cX7_draw 103 = .ok (.iload 4, 2) := by decide +kernel
theorem dX7_draw_105 : decode cX7_draw 105 = .ok (.ireturn, 1) := by decide +kernel
theorem dX7_hand_0 : decode cX7_hand 0 = .ok (.iload_n 1, 1) := by decide +kernel
theorem dX7_hand_1 : decode cX7_hand 1 = .ok (.invokestatic 105, 3) := by decide +kernel
theorem dX7_hand_4 : decode cX7_hand 4 = .ok (.ifCond .ne 5, 3) := by decide +kernel
theorem dX7_hand_7 : decode cX7_hand 7 = .ok (.iconst (-1), 1) := by decide +kernel
theorem dX7_hand_8 : decode cX7_hand 8 = .ok (.ireturn, 1) := by decide +kernel
theorem dX7_hand_9 : decode cX7_hand 9 = .ok (.iload_n 2, 1) := by decide +kernel
theorem dX7_hand_10 : decode cX7_hand 10 = .ok (.iconst 0, 1) := by decide +kernel
theorem dX7_hand_11 : decode cX7_hand 11 = .ok (.iconst 5, 1) := by decide +kernel
theorem dX7_hand_12 : decode cX7_hand 12 = .ok (.invokestatic 55, 3) := by decide +kernel
theorem dX7_hand_15 : decode cX7_hand 15 = .ok (.ifCond .ne 6, 3) := by decide +kernel
theorem dX7_hand_18 : decode cX7_hand 18 = .ok (.bipush (-2), 2) := by decide +kernel
theorem dX7_hand_20 : decode cX7_hand 20 = .ok (.ireturn, 1) := by decide +kernel
theorem dX7_hand_21 : decode cX7_hand 21 = .ok (.iload_n 2, 1) := by decide +kernel
theorem dX7_hand_22 : decode cX7_hand 22 = .ok (.ifCond .ne 12, 3) := by decide +kernel
theorem dX7_hand_25 : decode cX7_hand 25 = .ok (.aload_n 0, 1) := by decide +kernel
theorem dX7_hand_26 : decode cX7_hand 26 = .ok (.getfield 13, 3) := by decide +kernel
theorem dX7_hand_29 : decode cX7_hand 29 = .ok (.iload_n 1, 1) := by decide +kernel
theorem dX7_hand_30 : decode cX7_hand 30 = .ok (.iaload, 1) := by decide +kernel
theorem dX7_hand_31 : decode cX7_hand 31 = .ok (.goto 34, 3) := by decide +kernel
theorem dX7_hand_34 : decode cX7_hand 34 = .ok (.iload_n 2, 1) := by decide +kernel
theorem dX7_hand_35 : decode cX7_hand 35 = .ok (.iconst 5, 1) := by decide +kernel
theorem dX7_hand_36 : decode cX7_hand 36 = .ok (.if_icmp .ne 16, 3) := by decide +kernel
theorem dX7_hand_39 : decode cX7_hand 39 = .ok (.aload_n 0, 1) := by decide +kernel
theorem dX7_hand_40 : decode cX7_hand 40 = .ok (.aload_n 0, 1) := by decide +kernel
theorem dX7_hand_41 : decode cX7_hand 41 = .ok (.getfield 13, 3) := by decide +kernel
theorem dX7_hand_44 : decode cX7_hand 44 = .ok (.iload_n 1, 1) := by decide +kernel
theorem dX7_hand_45 : decode cX7_hand 45 = .ok (.iaload, 1) := by decide +kernel
theorem dX7_hand_46 : decode cX7_hand 46 = .ok (.invokevirtual 74, 3) := by decide +kernel
theorem dX7_hand_49 : decode cX7_hand 49 = .ok (.goto 16, 3) := by decide +kernel
theorem dX7_hand_52 : decode cX7_hand 52 = .ok (.aload_n 0, 1) := by decide +kernel
theorem dX7_hand_53 : decode cX7_hand 53 = .ok (.aload_n 0, 1) := by decide +kernel
theorem dX7_hand_54 : decode cX7_hand 54 = .ok (.getfield 13, 3) := by decide +kernel
theorem dX7_hand_57 : decode cX7_hand 57 = .ok (.iload_n 1, 1) := by decide +kernel
theorem dX7_hand_58 : decode cX7_hand 58 = .ok (.iaload, 1) := by decide +kernel
theorem dX7_hand_59 : decode cX7_hand 59 = .ok (.iload_n 2, 1) := by decide +kernel
theorem dX7_hand_60 : decode cX7_hand 60 = .ok (.iconst 1, 1) := by decide +kernel
theorem dX7_hand_61 : decode cX7_hand 61 = .ok (.isub, 1) := by decide +kernel
theorem dX7_hand_62 : decode cX7_hand 62 = .ok (.invokevirtual 50, 3) := by decide +kernel
theorem dX7_hand_65 : decode cX7_hand 65 = .ok (.ireturn, 1) := by decide +kernel
theorem dX7_isOpen_0 : decode cX7_isOpen 0 = .ok (.aload_n 0, 1) := by decide +kernel
theorem dX7_isOpen_1 : decode cX7_isOpen 1 = .ok (.iload_n 1, 1) := by decide +kernel
theorem dX7_isOpen_2 : decode cX7_isOpen 2 = .ok (.iconst 1, 1) := by decide +kernel
theorem dX7_isOpen_3 : decode cX7_isOpen 3 = .ok (.invokevirtual 77, 3) := by decide +kernel
theorem dX7_isOpen_6 : decode cX7_isOpen 6 = .ok (.istore 5, 2) := by decide +kernel
theorem dX7_isOpen_8 : decode cX7_isOpen 8 = .ok (.aload_n 0, 1) := by decide +kernel
theorem dX7_isOpen_9 : decode cX7_isOpen 9 = .ok (.iload_n 1, 1) := by decide +kernel
theorem dX7_isOpen_10 : decode cX7_isOpen 10 = .ok (.iconst 0, 1) := by decide +kernel
theorem dX7_isOpen_11 : decode cX7_isOpen 11 = .ok (.invokevirtual 77, 3) := by decide +kernel
theorem dX7_isOpen_14 : decode cX7_isOpen 14 = .ok (.iload_n 2, 1) := by decide +kernel
theorem dX7_isOpen_15 : decode cX7_isOpen 15 = .ok (.if_icmp .ne 28, 3) := by decide +kernel
theorem dX7_isOpen_18 : decode cX7_isOpen 18 = .ok (.iload 5, 2) := by decide +kernel
theorem dX7_isOpen_20 : decode cX7_isOpen 20 = .ok (.bipush 25, 2) := by decide +kernel
theorem dX7_isOpen_22 : decode cX7_isOpen 22 = .ok (.if_icmp .ne 11, 3) := by decide +kernel
theorem dX7_isOpen_25 : decode cX7_isOpen 25 = .ok (.iload 4, 2) := by decide +kernel
theorem dX7_isOpen_27 : decode cX7_isOpen 27 = .ok (.ifCond .ne 16, 3) := by decide +kernel
theorem dX7_isOpen_30 : decode cX7_isOpen 30 = .ok (.goto 9, 3) := by decide +kernel
theorem dX7_isOpen_33 : decode cX7_isOpen 33 = .ok (.iload 5, 2) := by decide +kernel
theorem dX7_isOpen_35 : decode cX7_isOpen 35 = .ok (.iload_n 3, 1) := by decide +kernel
theorem dX7_isOpen_36 : decode cX7_isOpen 36 = .ok (.if_icmp .le 7, 3) := by decide +kernel
theorem dX7_isOpen_39 : decode cX7_isOpen 39 = .ok (.iconst 1, 1) := by decide +kernel
theorem dX7_isOpen_40 : decode cX7_isOpen 40 = .ok (.goto 4, 3) := by decide +kernel
theorem dX7_isOpen_43 : decode cX7_isOpen 43 = .ok (.iconst 0, 1) := by decide +kernel
theorem dX7_isOpen_44 : decode cX7_isOpen 44 = .ok (.ireturn, 1) := by decide +kernel
theorem dX7_ruleFor_0 : decode cX7_ruleFor 0 = .ok (.iconst 0, 1) := by decide +kernel
theorem dX7_ruleFor_1 : decode cX7_ruleFor 1 = .ok (.istore 5, 2) := by decide +kernel
theorem dX7_ruleFor_3 : decode cX7_ruleFor 3 = .ok (.iload 5, 2) := by decide +kernel
theorem dX7_ruleFor_5 : decode cX7_ruleFor 5 = .ok (.aload_n 0, 1) := by decide +kernel
theorem dX7_ruleFor_6 : decode cX7_ruleFor 6 = .ok (.getfield 63, 3) := by decide +kernel
theorem dX7_ruleFor_9 : decode cX7_ruleFor 9 = .ok (.if_icmp .ge 35, 3) := by decide +kernel
theorem dX7_ruleFor_12 : decode cX7_ruleFor 12 = .ok (.aload_n 0, 1) := by decide +kernel
theorem dX7_ruleFor_13 : decode cX7_ruleFor 13 = .ok (.iload 5, 2) := by decide +kernel
theorem dX7_ruleFor_15 : decode cX7_ruleFor 15 = .ok (.iload_n 2, 1) := by decide +kernel
theorem dX7_ruleFor_16 : decode cX7_ruleFor 16 = .ok (.iload_n 3, 1) := by decide +kernel
theorem dX7_ruleFor_17 : decode cX7_ruleFor 17 = .ok (.iload 4, 2) := by decide +kernel
theorem dX7_ruleFor_19 : decode cX7_ruleFor 19 = .ok (.invokevirtual 116, 3) := by decide +kernel
theorem dX7_ruleFor_22 : decode cX7_ruleFor 22 = .ok (.ifCond .eq 16, 3) := by decide +kernel
theorem dX7_ruleFor_25 : decode cX7_ruleFor 25 = .ok (.aload_n 0, 1) := by decide +kernel
theorem dX7_ruleFor_26 : decode cX7_ruleFor 26 = .ok (.iload_n 1, 1) := by decide +kernel
theorem dX7_ruleFor_27 : decode cX7_ruleFor 27 = .ok (.iload 5, 2) := by decide +kernel
theorem dX7_ruleFor_29 : decode cX7_ruleFor 29 = .ok (.invokevirtual 95, 3) := by decide +kernel
theorem dX7_ruleFor_32 : decode cX7_ruleFor 32 = .ok (.ifCond .eq 6, 3) := by decide +kernel
theorem dX7_ruleFor_35 : decode cX7_ruleFor 35 = .ok (.iload 5, 2) := by decide +kernel
theorem dX7_ruleFor_37 : decode cX7_ruleFor 37 = .ok (.ireturn, 1) := by decide +kernel
theorem dX7_ruleFor_38 : decode cX7_ruleFor 38 = .ok (.iinc 5 1, 3) := by decide +kernel
theorem dX7_ruleFor_41 : decode cX7_ruleFor 41 = .ok (.goto (-38), 3) := by decide +kernel
theorem dX7_ruleFor_44 : decode cX7_ruleFor 44 = .ok (.bipush (-6), 2) := by decide +kernel
theorem dX7_ruleFor_46 : decode cX7_ruleFor 46 = .ok (.ireturn, 1) := by decide +kernel
theorem dX7_isOver_0 : decode cX7_isOver 0 = .ok (.aload_n 0, 1) := by decide +kernel
theorem dX7_isOver_1 : decode cX7_isOver 1 = .ok (.getfield 70, 3) := by decide +kernel
theorem dX7_isOver_4 : decode cX7_isOver 4 = .ok (.ifCond .ne 35, 3) := by decide +kernel
theorem dX7_isOver_7 : decode cX7_isOver 7 = .ok (.aload_n 0, 1) := by decide +kernel
theorem dX7_isOver_8 : decode cX7_isOver 8 = .ok (.getfield 67, 3) := by decide +kernel
theorem dX7_isOver_11 : decode cX7_isOver 11 = .ok (.bipush 12, 2) := by decide +kernel
theorem dX7_isOver_13 : decode cX7_isOver 13 = .ok (.if_icmp .eq 26, 3) := by decide +kernel
theorem dX7_isOver_16 : decode cX7_isOver 16 = .ok (.aload_n 0, 1) := by decide +kernel
theorem dX7_isOver_17 : decode cX7_isOver 17 = .ok (.getfield 67, 3) := by decide +kernel
theorem dX7_isOver_20 : decode cX7_isOver 20 = .ok (.ifCond .le 23, 3) := by decide +kernel
theorem dX7_isOver_23 : decode cX7_isOver 23 = .ok (.aload_n 0, 1) := by decide +kernel
theorem dX7_isOver_24 : decode cX7_isOver 24 = .ok (.getfield 22, 3) := by decide +kernel
theorem dX7_isOver_27 : decode cX7_isOver 27 = .ok (.aload_n 0, 1) := by decide +kernel
theorem dX7_isOver_28 : decode cX7_isOver 28 = .ok (.getfield 67, 3) := by decide +kernel
theorem dX7_isOver_31 : decode cX7_isOver 31 = .ok (.iconst 1, 1) := by decide +kernel
theorem dX7_isOver_32 : decode cX7_isOver 32 = .ok (.isub, 1) := by decide +kernel
theorem dX7_isOver_33 : decode cX7_isOver 33 = .ok (.iaload, 1) := by decide +kernel
theorem dX7_isOver_34 : decode cX7_isOver 34 = .ok (.bipush 25, 2) := by decide +kernel
theorem dX7_isOver_36 : decode cX7_isOver 36 = .ok (.if_icmp .ne 7, 3) := by decide +kernel
theorem dX7_isOver_39 : decode cX7_isOver 39 = .ok (.iconst 1, 1) := by decide +kernel
theorem dX7_isOver_40 : decode cX7_isOver 40 = .ok (.goto 4, 3) := by decide +kernel
theorem dX7_isOver_43 : decode cX7_isOver 43 = .ok (.iconst 0, 1) := by decide +kernel
theorem dX7_isOver_44 : decode cX7_isOver 44 = .ok (.ireturn, 1) := by decide +kernel
theorem dX7_callBy_0 : decode cX7_callBy 0 = .ok (.aload_n 0, 1) := by decide +kernel
theorem dX7_callBy_1 : decode cX7_callBy 1 = .ok (.iload_n 1, 1) := by decide +kernel
theorem dX7_callBy_2 : decode cX7_callBy 2 = .ok (.iconst 1, 1) := by decide +kernel
theorem dX7_callBy_3 : decode cX7_callBy 3 = .ok (.invokevirtual 77, 3) := by decide +kernel
theorem dX7_callBy_6 : decode cX7_callBy 6 = .ok (.istore_n 2, 1) := by decide +kernel
theorem dX7_callBy_7 : decode cX7_callBy 7 = .ok (.iload_n 2, 1) := by decide +kernel
theorem dX7_callBy_8 : decode cX7_callBy 8 = .ok (.bipush 25, 2) := by decide +kernel
theorem dX7_callBy_10 : decode cX7_callBy 10 = .ok (.if_icmp .eq 7, 3) := by decide +kernel
theorem dX7_callBy_13 : decode cX7_callBy 13 = .ok (.iconst 1, 1) := by decide +kernel
theorem dX7_callBy_14 : decode cX7_callBy 14 = .ok (.goto 4, 3) := by decide +kernel
theorem dX7_callBy_17 : decode cX7_callBy 17 = .ok (.iconst 0, 1) := by decide +kernel
theorem dX7_callBy_18 : decode cX7_callBy 18 = .ok (.istore_n 3, 1) := by decide +kernel
theorem dX7_callBy_19 : decode cX7_callBy 19 = .ok (.aload_n 0, 1) := by decide +kernel
theorem dX7_callBy_20 : decode cX7_callBy 20 = .ok (.getfield 22, 3) := by decide +kernel
theorem dX7_callBy_23 : decode cX7_callBy 23 = .ok (.aload_n 0, 1) := by decide +kernel
theorem dX7_callBy_24 : decode cX7_callBy 24 = .ok (.getfield 67, 3) := by decide +kernel
theorem dX7_callBy_27 : decode cX7_callBy 27 = .ok (.iload_n 2, 1) := by decide +kernel
theorem dX7_callBy_28 : decode cX7_callBy 28 = .ok (.iastore, 1) := by decide +kernel
theorem dX7_callBy_29 : decode cX7_callBy 29 = .ok (.aload_n 0, 1) := by decide +kernel
theorem dX7_callBy_30 : decode cX7_callBy 30 = .ok (.getfield 25, 3) := by decide +kernel
theorem dX7_callBy_33 : decode cX7_callBy 33 = .ok (.aload_n 0, 1) := by decide +kernel
theorem dX7_callBy_34 : decode cX7_callBy 34 = .ok (.getfield 67, 3) := by decide +kernel
theorem dX7_callBy_37 : decode cX7_callBy 37 = .ok (.iload_n 1, 1) := by decide +kernel
theorem dX7_callBy_38 : decode cX7_callBy 38 = .ok (.iastore, 1) := by decide +kernel
theorem dX7_callBy_39 : decode cX7_callBy 39 = .ok (.aload_n 0, 1) := by decide +kernel
theorem dX7_callBy_40 : decode cX7_callBy 40 = .ok (.getfield 28, 3) := by decide +kernel
theorem dX7_callBy_43 : decode cX7_callBy 43 = .ok (.aload_n 0, 1) := by decide +kernel
theorem dX7_callBy_44 : decode cX7_callBy 44 = .ok (.getfield 67, 3) := by decide +kernel
theorem dX7_callBy_47 : decode cX7_callBy 47 = .ok (.iconst 1, 1) := by decide +kernel
theorem dX7_callBy_48 : decode cX7_callBy 48 = .ok (.iadd, 1) := by decide +kernel
theorem dX7_callBy_49 : decode cX7_callBy 49 = .ok (.iload_n 3, 1) := by decide +kernel
theorem dX7_callBy_50 : decode cX7_callBy 50 = .ok (.ifCond .eq 12, 3) := by decide +kernel
theorem dX7_callBy_53 : decode cX7_callBy 53 = .ok (.aload_n 0, 1) := by decide +kernel
theorem dX7_callBy_54 : decode cX7_callBy 54 = .ok (.iload_n 1, 1) := by decide +kernel
theorem dX7_callBy_55 : decode cX7_callBy 55 = .ok (.iconst 2, 1) := by decide +kernel
theorem dX7_callBy_56 : decode cX7_callBy 56 = .ok (.invokevirtual 77, 3) := by decide +kernel
theorem dX7_callBy_59 : decode cX7_callBy 59 = .ok (.goto 12, 3) := by decide +kernel
theorem dX7_callBy_62 : decode cX7_callBy 62 = .ok (.aload_n 0, 1) := by decide +kernel
theorem dX7_callBy_63 : decode cX7_callBy 63 = .ok (.getfield 28, 3) := by decide +kernel
theorem dX7_callBy_66 : decode cX7_callBy 66 = .ok (.aload_n 0, 1) := by decide +kernel
theorem dX7_callBy_67 : decode cX7_callBy 67 = .ok (.getfield 67, 3) := by decide +kernel
theorem dX7_callBy_70 : decode cX7_callBy 70 = .ok (.iaload, 1) := by decide +kernel
theorem dX7_callBy_71 : decode cX7_callBy 71 = .ok (.iastore, 1) := by decide +kernel
theorem dX7_callBy_72 : decode cX7_callBy 72 = .ok (.aload_n 0, 1) := by decide +kernel
theorem dX7_callBy_73 : decode cX7_callBy 73 = .ok (.getfield 31, 3) := by decide +kernel
theorem dX7_callBy_76 : decode cX7_callBy 76 = .ok (.aload_n 0, 1) := by decide +kernel
theorem dX7_callBy_77 : decode cX7_callBy 77 = .ok (.getfield 67, 3) := by decide +kernel
theorem dX7_callBy_80 : decode cX7_callBy 80 = .ok (.iconst 1, 1) := by decide +kernel
theorem dX7_callBy_81 : decode cX7_callBy 81 = .ok (.iadd, 1) := by decide +kernel
theorem dX7_callBy_82 : decode cX7_callBy 82 = .ok (.iload_n 3, 1) := by decide +kernel
theorem dX7_callBy_83 : decode cX7_callBy 83 = .ok (.ifCond .eq 12, 3) := by decide +kernel
theorem dX7_callBy_86 : decode cX7_callBy 86 = .ok (.aload_n 0, 1) := by decide +kernel
theorem dX7_callBy_87 : decode cX7_callBy 87 = .ok (.iload_n 1, 1) := by decide +kernel
theorem dX7_callBy_88 : decode cX7_callBy 88 = .ok (.iconst 3, 1) := by decide +kernel
theorem dX7_callBy_89 : decode cX7_callBy 89 = .ok (.invokevirtual 77, 3) := by decide +kernel
theorem dX7_callBy_92 : decode cX7_callBy 92 = .ok (.goto 12, 3) := by decide +kernel
theorem dX7_callBy_95 : decode cX7_callBy 95 = .ok (.aload_n 0, 1) := by decide +kernel
theorem dX7_callBy_96 : decode cX7_callBy 96 = .ok (.getfield 31, 3) := by decide +kernel
theorem dX7_callBy_99 : decode cX7_callBy 99 = .ok (.aload_n 0, 1) := by decide +kernel
theorem dX7_callBy_100 : decode cX7_callBy 100 = .ok (.getfield 67, 3) := by decide +kernel
theorem dX7_callBy_103 : decode cX7_callBy 103 = .ok (.iaload, 1) := by decide +kernel
theorem dX7_callBy_104 : decode cX7_callBy 104 = .ok (.iastore, 1) := by decide +kernel
theorem dX7_callBy_105 : decode cX7_callBy 105 = .ok (.aload_n 0, 1) := by decide +kernel
theorem dX7_callBy_106 : decode cX7_callBy 106 = .ok (.getfield 34, 3) := by decide +kernel
theorem dX7_callBy_109 : decode cX7_callBy 109 = .ok (.aload_n 0, 1) := by decide +kernel
theorem dX7_callBy_110 : decode cX7_callBy 110 = .ok (.getfield 67, 3) := by decide +kernel
theorem dX7_callBy_113 : decode cX7_callBy 113 = .ok (.iconst 1, 1) := by decide +kernel
theorem dX7_callBy_114 : decode cX7_callBy 114 = .ok (.iadd, 1) := by decide +kernel
theorem dX7_callBy_115 : decode cX7_callBy 115 = .ok (.iload_n 3, 1) := by decide +kernel
theorem dX7_callBy_116 : decode cX7_callBy 116 = .ok (.ifCond .eq 7, 3) := by decide +kernel
theorem dX7_callBy_119 : decode cX7_callBy 119 = .ok (.iload_n 2, 1) := by decide +kernel
theorem dX7_callBy_120 : decode cX7_callBy 120 = .ok (.goto 12, 3) := by decide +kernel
theorem dX7_callBy_123 : decode cX7_callBy 123 = .ok (.aload_n 0, 1) := by decide +kernel
theorem dX7_callBy_124 : decode cX7_callBy 124 = .ok (.getfield 34, 3) := by decide +kernel
theorem dX7_callBy_127 : decode cX7_callBy 127 = .ok (.aload_n 0, 1) := by decide +kernel
theorem dX7_callBy_128 : decode cX7_callBy 128 = .ok (.getfield 67, 3) := by decide +kernel
theorem dX7_callBy_131 : decode cX7_callBy 131 = .ok (.iaload, 1) := by decide +kernel
theorem dX7_callBy_132 : decode cX7_callBy 132 = .ok (.iastore, 1) := by decide +kernel
theorem dX7_callBy_133 : decode cX7_callBy 133 = .ok (.aload_n 0, 1) := by decide +kernel
theorem dX7_callBy_134 : decode cX7_callBy 134 = .ok (.dup, 1) := by decide +kernel
theorem dX7_callBy_135 : decode cX7_callBy 135 = .ok (.getfield 67, 3) := by decide +kernel
theorem dX7_callBy_138 : decode cX7_callBy 138 = .ok (.iconst 1, 1) := by decide +kernel
theorem dX7_callBy_139 : decode cX7_callBy 139 = .ok (.iadd, 1) := by decide +kernel
theorem dX7_callBy_140 : decode cX7_callBy 140 = .ok (.putfield 67, 3) := by decide +kernel
theorem dX7_callBy_143 : decode cX7_callBy 143 = .ok (.return_, 1) := by decide +kernel
theorem dX7_begin_0 : decode cX7_begin 0 = .ok (.aload_n 0, 1) := by decide +kernel
theorem dX7_begin_1 : decode cX7_begin 1 = .ok (.getfield 67, 3) := by decide +kernel
theorem dX7_begin_4 : decode cX7_begin 4 = .ok (.istore_n 1, 1) := by decide +kernel
theorem dX7_begin_5 : decode cX7_begin 5 = .ok (.aload_n 0, 1) := by decide +kernel
theorem dX7_begin_6 : decode cX7_begin 6 = .ok (.invokevirtual 47, 3) := by decide +kernel
theorem dX7_begin_9 : decode cX7_begin 9 = .ok (.iload_n 1, 1) := by decide +kernel
theorem dX7_begin_10 : decode cX7_begin 10 = .ok (.ireturn, 1) := by decide +kernel
theorem dX7_call_0 : decode cX7_call 0 = .ok (.aload_n 0, 1) := by decide +kernel
theorem dX7_call_1 : decode cX7_call 1 = .ok (.invokevirtual 120, 3) := by decide +kernel
theorem dX7_call_4 : decode cX7_call 4 = .ok (.ifCond .eq 6, 3) := by decide +kernel
theorem dX7_call_7 : decode cX7_call 7 = .ok (.bipush (-5), 2) := by decide +kernel
theorem dX7_call_9 : decode cX7_call 9 = .ok (.ireturn, 1) := by decide +kernel
theorem dX7_call_10 : decode cX7_call 10 = .ok (.aload_n 0, 1) := by decide +kernel
theorem dX7_call_11 : decode cX7_call 11 = .ok (.aload_n 0, 1) := by decide +kernel
theorem dX7_call_12 : decode cX7_call 12 = .ok (.getfield 13, 3) := by decide +kernel
theorem dX7_call_15 : decode cX7_call 15 = .ok (.aload_n 0, 1) := by decide +kernel
theorem dX7_call_16 : decode cX7_call 16 = .ok (.getfield 67, 3) := by decide +kernel
theorem dX7_call_19 : decode cX7_call 19 = .ok (.iconst 2, 1) := by decide +kernel
theorem dX7_call_20 : decode cX7_call 20 = .ok (.irem, 1) := by decide +kernel
theorem dX7_call_21 : decode cX7_call 21 = .ok (.iaload, 1) := by decide +kernel
theorem dX7_call_22 : decode cX7_call 22 = .ok (.aload_n 0, 1) := by decide +kernel
theorem dX7_call_23 : decode cX7_call 23 = .ok (.getfield 28, 3) := by decide +kernel
theorem dX7_call_26 : decode cX7_call 26 = .ok (.aload_n 0, 1) := by decide +kernel
theorem dX7_call_27 : decode cX7_call 27 = .ok (.getfield 67, 3) := by decide +kernel
theorem dX7_call_30 : decode cX7_call 30 = .ok (.iaload, 1) := by decide +kernel
theorem dX7_call_31 : decode cX7_call 31 = .ok (.aload_n 0, 1) := by decide +kernel
theorem dX7_call_32 : decode cX7_call 32 = .ok (.getfield 34, 3) := by decide +kernel
theorem dX7_call_35 : decode cX7_call 35 = .ok (.aload_n 0, 1) := by decide +kernel
theorem dX7_call_36 : decode cX7_call 36 = .ok (.getfield 67, 3) := by decide +kernel
theorem dX7_call_39 : decode cX7_call 39 = .ok (.iaload, 1) := by decide +kernel
theorem dX7_call_40 : decode cX7_call 40 = .ok (.aload_n 0, 1) := by decide +kernel
theorem dX7_call_41 : decode cX7_call 41 = .ok (.getfield 31, 3) := by decide +kernel
theorem dX7_call_44 : decode cX7_call 44 = .ok (.aload_n 0, 1) := by decide +kernel
theorem dX7_call_45 : decode cX7_call 45 = .ok (.getfield 67, 3) := by decide +kernel
theorem dX7_call_48 : decode cX7_call 48 = .ok (.iaload, 1) := by decide +kernel
theorem dX7_call_49 : decode cX7_call 49 = .ok (.invokevirtual 124, 3) := by decide +kernel
theorem dX7_call_52 : decode cX7_call 52 = .ok (.istore_n 1, 1) := by decide +kernel
theorem dX7_call_53 : decode cX7_call 53 = .ok (.iload_n 1, 1) := by decide +kernel
theorem dX7_call_54 : decode cX7_call 54 = .ok (.ifCond .ge 11, 3) := by decide +kernel
theorem dX7_call_57 : decode cX7_call 57 = .ok (.aload_n 0, 1) := by decide +kernel
theorem dX7_call_58 : decode cX7_call 58 = .ok (.iconst 1, 1) := by decide +kernel
theorem dX7_call_59 : decode cX7_call 59 = .ok (.putfield 70, 3) := by decide +kernel
theorem dX7_call_62 : decode cX7_call 62 = .ok (.bipush (-6), 2) := by decide +kernel
theorem dX7_call_64 : decode cX7_call 64 = .ok (.ireturn, 1) := by decide +kernel
theorem dX7_call_65 : decode cX7_call 65 = .ok (.aload_n 0, 1) := by decide +kernel
theorem dX7_call_66 : decode cX7_call 66 = .ok (.iload_n 1, 1) := by decide +kernel
theorem dX7_call_67 : decode cX7_call 67 = .ok (.invokevirtual 128, 3) := by decide +kernel
theorem dX7_call_70 : decode cX7_call 70 = .ok (.aload_n 0, 1) := by decide +kernel
theorem dX7_call_71 : decode cX7_call 71 = .ok (.getfield 22, 3) := by decide +kernel
theorem dX7_call_74 : decode cX7_call 74 = .ok (.aload_n 0, 1) := by decide +kernel
theorem dX7_call_75 : decode cX7_call 75 = .ok (.getfield 67, 3) := by decide +kernel
theorem dX7_call_78 : decode cX7_call 78 = .ok (.iconst 1, 1) := by decide +kernel
theorem dX7_call_79 : decode cX7_call 79 = .ok (.isub, 1) := by decide +kernel
theorem dX7_call_80 : decode cX7_call 80 = .ok (.iaload, 1) := by decide +kernel
theorem dX7_call_81 : decode cX7_call 81 = .ok (.ireturn, 1) := by decide +kernel
theorem dX7_make_0 : decode cX7_make 0 = .ok (.iload_n 1, 1) := by decide +kernel
theorem dX7_make_1 : decode cX7_make 1 = .ok (.iconst 0, 1) := by decide +kernel
theorem dX7_make_2 : decode cX7_make 2 = .ok (.bipush 25, 2) := by decide +kernel
theorem dX7_make_4 : decode cX7_make 4 = .ok (.invokestatic 55, 3) := by decide +kernel
theorem dX7_make_7 : decode cX7_make 7 = .ok (.ifCond .ne 6, 3) := by decide +kernel
theorem dX7_make_10 : decode cX7_make 10 = .ok (.bipush (-2), 2) := by decide +kernel
theorem dX7_make_12 : decode cX7_make 12 = .ok (.ireturn, 1) := by decide +kernel
theorem dX7_make_13 : decode cX7_make 13 = .ok (.aload_n 0, 1) := by decide +kernel
theorem dX7_make_14 : decode cX7_make 14 = .ok (.invokevirtual 120, 3) := by decide +kernel
theorem dX7_make_17 : decode cX7_make 17 = .ok (.ifCond .eq 6, 3) := by decide +kernel
theorem dX7_make_20 : decode cX7_make 20 = .ok (.bipush (-5), 2) := by decide +kernel
theorem dX7_make_22 : decode cX7_make 22 = .ok (.ireturn, 1) := by decide +kernel
theorem dX7_make_23 : decode cX7_make 23 = .ok (.bipush (-6), 2) := by decide +kernel
theorem dX7_make_25 : decode cX7_make 25 = .ok (.istore_n 2, 1) := by decide +kernel
theorem dX7_make_26 : decode cX7_make 26 = .ok (.iconst 0, 1) := by decide +kernel
theorem dX7_make_27 : decode cX7_make 27 = .ok (.istore_n 3, 1) := by decide +kernel
theorem dX7_make_28 : decode cX7_make 28 = .ok (.iload_n 3, 1) := by decide +kernel
theorem dX7_make_29 : decode cX7_make 29 = .ok (.aload_n 0, 1) := by decide +kernel
theorem dX7_make_30 : decode cX7_make 30 = .ok (.getfield 63, 3) := by decide +kernel
theorem dX7_make_33 : decode cX7_make 33 = .ok (.if_icmp .ge 60, 3) := by decide +kernel
theorem dX7_make_36 : decode cX7_make 36 = .ok (.aload_n 0, 1) := by decide +kernel
theorem dX7_make_37 : decode cX7_make 37 = .ok (.iload_n 3, 1) := by decide +kernel
theorem dX7_make_38 : decode cX7_make 38 = .ok (.iconst 1, 1) := by decide +kernel
theorem dX7_make_39 : decode cX7_make 39 = .ok (.invokevirtual 77, 3) := by decide +kernel
theorem dX7_make_42 : decode cX7_make 42 = .ok (.iload_n 1, 1) := by decide +kernel
theorem dX7_make_43 : decode cX7_make 43 = .ok (.if_icmp .ne 42, 3) := by decide +kernel
theorem dX7_make_46 : decode cX7_make 46 = .ok (.aload_n 0, 1) := by decide +kernel
theorem dX7_make_47 : decode cX7_make 47 = .ok (.iload_n 3, 1) := by decide +kernel
theorem dX7_make_48 : decode cX7_make 48 = .ok (.aload_n 0, 1) := by decide +kernel
theorem dX7_make_49 : decode cX7_make 49 = .ok (.getfield 28, 3) := by decide +kernel
theorem dX7_make_52 : decode cX7_make 52 = .ok (.aload_n 0, 1) := by decide +kernel
theorem dX7_make_53 : decode cX7_make 53 = .ok (.getfield 67, 3) := by decide +kernel
theorem dX7_make_56 : decode cX7_make 56 = .ok (.iaload, 1) := by decide +kernel
theorem dX7_make_57 : decode cX7_make 57 = .ok (.aload_n 0, 1) := by decide +kernel
theorem dX7_make_58 : decode cX7_make 58 = .ok (.getfield 34, 3) := by decide +kernel
theorem dX7_make_61 : decode cX7_make 61 = .ok (.aload_n 0, 1) := by decide +kernel
theorem dX7_make_62 : decode cX7_make 62 = .ok (.getfield 67, 3) := by decide +kernel
theorem dX7_make_65 : decode cX7_make 65 = .ok (.iaload, 1) := by decide +kernel
theorem dX7_make_66 : decode cX7_make 66 = .ok (.aload_n 0, 1) := by decide +kernel
theorem dX7_make_67 : decode cX7_make 67 = .ok (.getfield 31, 3) := by decide +kernel
theorem dX7_make_70 : decode cX7_make 70 = .ok (.aload_n 0, 1) := by decide +kernel
theorem dX7_make_71 : decode cX7_make 71 = .ok (.getfield 67, 3) := by decide +kernel
theorem dX7_make_74 : decode cX7_make 74 = .ok (.iaload, 1) := by decide +kernel
theorem dX7_make_75 : decode cX7_make 75 = .ok (.invokevirtual 116, 3) := by decide +kernel
theorem dX7_make_78 : decode cX7_make 78 = .ok (.ifCond .eq 7, 3) := by decide +kernel
theorem dX7_make_81 : decode cX7_make 81 = .ok (.iload_n 3, 1) := by decide +kernel
theorem dX7_make_82 : decode cX7_make 82 = .ok (.goto 4, 3) := by decide +kernel
theorem dX7_make_85 : decode cX7_make 85 = .ok (.iload_n 2, 1) := by decide +kernel
theorem dX7_make_86 : decode cX7_make 86 = .ok (.istore_n 2, 1) := by decide +kernel
theorem dX7_make_87 : decode cX7_make 87 = .ok (.iinc 3 1, 3) := by decide +kernel
theorem dX7_make_90 : decode cX7_make 90 = .ok (.goto (-62), 3) := by decide +kernel
theorem dX7_make_93 : decode cX7_make 93 = .ok (.iload_n 2, 1) := by decide +kernel
theorem dX7_make_94 : decode cX7_make 94 = .ok (.ifCond .ge 6, 3) := by decide +kernel
theorem dX7_make_97 : decode cX7_make 97 = .ok (.bipush (-5), 2) := by decide +kernel
theorem dX7_make_99 : decode cX7_make 99 = .ok (.ireturn, 1) := by decide +kernel
theorem dX7_make_100 : decode cX7_make 100 = .ok (.aload_n 0, 1) := by decide +kernel
theorem dX7_make_101 : decode cX7_make 101 = .ok (.iload_n 2, 1) := by decide +kernel
theorem dX7_make_102 : decode cX7_make 102 = .ok (.invokevirtual 128, 3) := by decide +kernel
theorem dX7_make_105 : decode cX7_make 105 = .ok (.aload_n 0, 1) := by decide +kernel
theorem dX7_make_106 : decode cX7_make 106 = .ok (.getfield 67, 3) := by decide +kernel
theorem dX7_make_109 : decode cX7_make 109 = .ok (.ireturn, 1) := by decide +kernel
theorem dX7_back_0 : decode cX7_back 0 = .ok (.aload_n 0, 1) := by decide +kernel
theorem dX7_back_1 : decode cX7_back 1 = .ok (.getfield 67, 3) := by decide +kernel
theorem dX7_back_4 : decode cX7_back 4 = .ok (.ifCond .ne 13, 3) := by decide +kernel
theorem dX7_back_7 : decode cX7_back 7 = .ok (.aload_n 0, 1) := by decide +kernel
theorem dX7_back_8 : decode cX7_back 8 = .ok (.getfield 70, 3) := by decide +kernel
theorem dX7_back_11 : decode cX7_back 11 = .ok (.ifCond .ne 6, 3) := by decide +kernel
theorem dX7_back_14 : decode cX7_back 14 = .ok (.bipush (-5), 2) := by decide +kernel
theorem dX7_back_16 : decode cX7_back 16 = .ok (.ireturn, 1) := by decide +kernel
theorem dX7_back_17 : decode cX7_back 17 = .ok (.aload_n 0, 1) := by decide +kernel
theorem dX7_back_18 : decode cX7_back 18 = .ok (.dup, 1) := by decide +kernel
theorem dX7_back_19 : decode cX7_back 19 = .ok (.getfield 67, 3) := by decide +kernel
theorem dX7_back_22 : decode cX7_back 22 = .ok (.aload_n 0, 1) := by decide +kernel
theorem dX7_back_23 : decode cX7_back 23 = .ok (.getfield 70, 3) := by decide +kernel
theorem dX7_back_26 : decode cX7_back 26 = .ok (.ifCond .eq 7, 3) := by decide +kernel
theorem dX7_back_29 : decode cX7_back 29 = .ok (.iconst 0, 1) := by decide +kernel
theorem dX7_back_30 : decode cX7_back 30 = .ok (.goto 4, 3) := by decide +kernel
theorem dX7_back_33 : decode cX7_back 33 = .ok (.iconst 1, 1) := by decide +kernel
theorem dX7_back_34 : decode cX7_back 34 = .ok (.isub, 1) := by decide +kernel
theorem dX7_back_35 : decode cX7_back 35 = .ok (.putfield 67, 3) := by decide +kernel
theorem dX7_back_38 : decode cX7_back 38 = .ok (.aload_n 0, 1) := by decide +kernel
theorem dX7_back_39 : decode cX7_back 39 = .ok (.iconst 0, 1) := by decide +kernel
theorem dX7_back_40 : decode cX7_back 40 = .ok (.putfield 70, 3) := by decide +kernel
theorem dX7_back_43 : decode cX7_back 43 = .ok (.aload_n 0, 1) := by decide +kernel
theorem dX7_back_44 : decode cX7_back 44 = .ok (.getfield 67, 3) := by decide +kernel
theorem dX7_back_47 : decode cX7_back 47 = .ok (.ireturn, 1) := by decide +kernel
theorem dX7_made_0 : decode cX7_made 0 = .ok (.iload_n 2, 1) := by decide +kernel
theorem dX7_made_1 : decode cX7_made 1 = .ok (.iconst 0, 1) := by decide +kernel
theorem dX7_made_2 : decode cX7_made 2 = .ok (.iconst 3, 1) := by decide +kernel
theorem dX7_made_3 : decode cX7_made 3 = .ok (.invokestatic 55, 3) := by decide +kernel
theorem dX7_made_6 : decode cX7_made 6 = .ok (.ifCond .ne 6, 3) := by decide +kernel
theorem dX7_made_9 : decode cX7_made 9 = .ok (.bipush (-2), 2) := by decide +kernel
theorem dX7_made_11 : decode cX7_made 11 = .ok (.ireturn, 1) := by decide +kernel
theorem dX7_made_12 : decode cX7_made 12 = .ok (.iload_n 1, 1) := by decide +kernel
theorem dX7_made_13 : decode cX7_made 13 = .ok (.iconst 0, 1) := by decide +kernel
theorem dX7_made_14 : decode cX7_made 14 = .ok (.aload_n 0, 1) := by decide +kernel
theorem dX7_made_15 : decode cX7_made 15 = .ok (.getfield 67, 3) := by decide +kernel
theorem dX7_made_18 : decode cX7_made 18 = .ok (.iconst 1, 1) := by decide +kernel
theorem dX7_made_19 : decode cX7_made 19 = .ok (.isub, 1) := by decide +kernel
theorem dX7_made_20 : decode cX7_made 20 = .ok (.invokestatic 55, 3) := by decide +kernel
theorem dX7_made_23 : decode cX7_made 23 = .ok (.ifCond .ne 6, 3) := by decide +kernel
theorem dX7_made_26 : decode cX7_made 26 = .ok (.bipush (-6), 2) := by decide +kernel
theorem dX7_made_28 : decode cX7_made 28 = .ok (.ireturn, 1) := by decide +kernel
theorem dX7_made_29 : decode cX7_made 29 = .ok (.iload_n 2, 1) := by decide +kernel
theorem dX7_made_30 : decode cX7_made 30 = .ok (.ifCond .ne 12, 3) := by decide +kernel
theorem dX7_made_33 : decode cX7_made 33 = .ok (.aload_n 0, 1) := by decide +kernel
theorem dX7_made_34 : decode cX7_made 34 = .ok (.getfield 22, 3) := by decide +kernel
theorem dX7_made_37 : decode cX7_made 37 = .ok (.iload_n 1, 1) := by decide +kernel
theorem dX7_made_38 : decode cX7_made 38 = .ok (.iaload, 1) := by decide +kernel
theorem dX7_made_39 : decode cX7_made 39 = .ok (.goto 37, 3) := by decide +kernel
theorem dX7_made_42 : decode cX7_made 42 = .ok (.iload_n 2, 1) := by decide +kernel
theorem dX7_made_43 : decode cX7_made 43 = .ok (.iconst 1, 1) := by decide +kernel
theorem dX7_made_44 : decode cX7_made 44 = .ok (.if_icmp .ne 12, 3) := by decide +kernel
theorem dX7_made_47 : decode cX7_made 47 = .ok (.aload_n 0, 1) := by decide +kernel
theorem dX7_made_48 : decode cX7_made 48 = .ok (.getfield 25, 3) := by decide +kernel
theorem dX7_made_51 : decode cX7_made 51 = .ok (.iload_n 1, 1) := by decide +kernel
theorem dX7_made_52 : decode cX7_made 52 = .ok (.iaload, 1) := by decide +kernel
theorem dX7_made_53 : decode cX7_made 53 = .ok (.goto 23, 3) := by decide +kernel
theorem dX7_made_56 : decode cX7_made 56 = .ok (.iload_n 2, 1) := by decide +kernel
theorem dX7_made_57 : decode cX7_made 57 = .ok (.iconst 2, 1) := by decide +kernel
theorem dX7_made_58 : decode cX7_made 58 = .ok (.if_icmp .ne 12, 3) := by decide +kernel
theorem dX7_made_61 : decode cX7_made 61 = .ok (.aload_n 0, 1) := by decide +kernel
theorem dX7_made_62 : decode cX7_made 62 = .ok (.getfield 28, 3) := by decide +kernel
theorem dX7_made_65 : decode cX7_made 65 = .ok (.iload_n 1, 1) := by decide +kernel
theorem dX7_made_66 : decode cX7_made 66 = .ok (.iaload, 1) := by decide +kernel
theorem dX7_made_67 : decode cX7_made 67 = .ok (.goto 9, 3) := by decide +kernel
theorem dX7_made_70 : decode cX7_made 70 = .ok (.aload_n 0, 1) := by decide +kernel
theorem dX7_made_71 : decode cX7_made 71 = .ok (.getfield 31, 3) := by decide +kernel
theorem dX7_made_74 : decode cX7_made 74 = .ok (.iload_n 1, 1) := by decide +kernel
theorem dX7_made_75 : decode cX7_made 75 = .ok (.iaload, 1) := by decide +kernel
theorem dX7_made_76 : decode cX7_made 76 = .ok (.ireturn, 1) := by decide +kernel
theorem dX7_state_0 : decode cX7_state 0 = .ok (.iload_n 1, 1) := by decide +kernel
theorem dX7_state_1 : decode cX7_state 1 = .ok (.tableswitch 123 0 7 #[47, 52, 62, 72, 82, 89, 113, 118], 47) := by decide +kernel
theorem dX7_state_48 : decode cX7_state 48 = .ok (.aload_n 0, 1) := by decide +kernel
theorem dX7_state_49 : decode cX7_state 49 = .ok (.getfield 67, 3) := by decide +kernel
theorem dX7_state_52 : decode cX7_state 52 = .ok (.ireturn, 1) := by decide +kernel
theorem dX7_state_53 : decode cX7_state 53 = .ok (.aload_n 0, 1) := by decide +kernel
theorem dX7_state_54 : decode cX7_state 54 = .ok (.getfield 28, 3) := by decide +kernel
theorem dX7_state_57 : decode cX7_state 57 = .ok (.aload_n 0, 1) := by decide +kernel
theorem dX7_state_58 : decode cX7_state 58 = .ok (.getfield 67, 3) := by decide +kernel
theorem dX7_state_61 : decode cX7_state 61 = .ok (.iaload, 1) := by decide +kernel
theorem dX7_state_62 : decode cX7_state 62 = .ok (.ireturn, 1) := by decide +kernel
theorem dX7_state_63 : decode cX7_state 63 = .ok (.aload_n 0, 1) := by decide +kernel
theorem dX7_state_64 : decode cX7_state 64 = .ok (.getfield 34, 3) := by decide +kernel
theorem dX7_state_67 : decode cX7_state 67 = .ok (.aload_n 0, 1) := by decide +kernel
theorem dX7_state_68 : decode cX7_state 68 = .ok (.getfield 67, 3) := by decide +kernel
theorem dX7_state_71 : decode cX7_state 71 = .ok (.iaload, 1) := by decide +kernel
theorem dX7_state_72 : decode cX7_state 72 = .ok (.ireturn, 1) := by decide +kernel
theorem dX7_state_73 : decode cX7_state 73 = .ok (.aload_n 0, 1) := by decide +kernel
theorem dX7_state_74 : decode cX7_state 74 = .ok (.getfield 31, 3) := by decide +kernel
theorem dX7_state_77 : decode cX7_state 77 = .ok (.aload_n 0, 1) := by decide +kernel
theorem dX7_state_78 : decode cX7_state 78 = .ok (.getfield 67, 3) := by decide +kernel
theorem dX7_state_81 : decode cX7_state 81 = .ok (.iaload, 1) := by decide +kernel
theorem dX7_state_82 : decode cX7_state 82 = .ok (.ireturn, 1) := by decide +kernel
theorem dX7_state_83 : decode cX7_state 83 = .ok (.aload_n 0, 1) := by decide +kernel
theorem dX7_state_84 : decode cX7_state 84 = .ok (.getfield 67, 3) := by decide +kernel
theorem dX7_state_87 : decode cX7_state 87 = .ok (.iconst 2, 1) := by decide +kernel
theorem dX7_state_88 : decode cX7_state 88 = .ok (.irem, 1) := by decide +kernel
theorem dX7_state_89 : decode cX7_state 89 = .ok (.ireturn, 1) := by decide +kernel
theorem dX7_state_90 : decode cX7_state 90 = .ok (.aload_n 0, 1) := by decide +kernel
theorem dX7_state_91 : decode cX7_state 91 = .ok (.getfield 70, 3) := by decide +kernel
theorem dX7_state_94 : decode cX7_state 94 = .ok (.ifCond .eq 7, 3) := by decide +kernel
theorem dX7_state_97 : decode cX7_state 97 = .ok (.iconst 2, 1) := by decide +kernel
theorem dX7_state_98 : decode cX7_state 98 = .ok (.goto 15, 3) := by decide +kernel
theorem dX7_state_101 : decode cX7_state 101 = .ok (.aload_n 0, 1) := by decide +kernel
theorem dX7_state_102 : decode cX7_state 102 = .ok (.invokevirtual 120, 3) := by decide +kernel
theorem dX7_state_105 : decode cX7_state 105 = .ok (.ifCond .eq 7, 3) := by decide +kernel
theorem dX7_state_108 : decode cX7_state 108 = .ok (.iconst 1, 1) := by decide +kernel
theorem dX7_state_109 : decode cX7_state 109 = .ok (.goto 4, 3) := by decide +kernel
theorem dX7_state_112 : decode cX7_state 112 = .ok (.iconst 0, 1) := by decide +kernel
theorem dX7_state_113 : decode cX7_state 113 = .ok (.ireturn, 1) := by decide +kernel
theorem dX7_state_114 : decode cX7_state 114 = .ok (.aload_n 0, 1) := by decide +kernel
theorem dX7_state_115 : decode cX7_state 115 = .ok (.getfield 63, 3) := by decide +kernel
theorem dX7_state_118 : decode cX7_state 118 = .ok (.ireturn, 1) := by decide +kernel
theorem dX7_state_119 : decode cX7_state 119 = .ok (.aload_n 0, 1) := by decide +kernel
theorem dX7_state_120 : decode cX7_state 120 = .ok (.getfield 131, 3) := by decide +kernel
theorem dX7_state_123 : decode cX7_state 123 = .ok (.ireturn, 1) := by decide +kernel
theorem dX7_state_124 : decode cX7_state 124 = .ok (.bipush (-2), 2) := by decide +kernel
theorem dX7_state_126 : decode cX7_state 126 = .ok (.ireturn, 1) := by decide +kernel
theorem dX7_fitsAuction_0 : decode cX7_fitsAuction 0 = .ok (.iconst 1, 1) := by decide +kernel
theorem dX7_fitsAuction_1 : decode cX7_fitsAuction 1 = .ok (.istore_n 3, 1) := by decide +kernel
theorem dX7_fitsAuction_2 : decode cX7_fitsAuction 2 = .ok (.iload_n 1, 1) := by decide +kernel
theorem dX7_fitsAuction_3 : decode cX7_fitsAuction 3 = .ok (.istore 4, 2) := by decide +kernel
theorem dX7_fitsAuction_5 : decode cX7_fitsAuction 5 = .ok (.iload 4, 2) := by decide +kernel
theorem dX7_fitsAuction_7 : decode cX7_fitsAuction 7 = .ok (.aload_n 0, 1) := by decide +kernel
theorem dX7_fitsAuction_8 : decode cX7_fitsAuction 8 = .ok (.getfield 67, 3) := by decide +kernel
theorem dX7_fitsAuction_11 : decode cX7_fitsAuction 11 = .ok (.if_icmp .ge 55, 3) := by decide +kernel
theorem dX7_fitsAuction_14 : decode cX7_fitsAuction 14 = .ok (.iload_n 3, 1) := by decide +kernel
theorem dX7_fitsAuction_15 : decode cX7_fitsAuction 15 = .ok (.ifCond .eq 51, 3) := by decide +kernel
theorem dX7_fitsAuction_18 : decode cX7_fitsAuction 18 = .ok (.aload_n 0, 1) := by decide +kernel
theorem dX7_fitsAuction_19 : decode cX7_fitsAuction 19 = .ok (.iload_n 2, 1) := by decide +kernel
theorem dX7_fitsAuction_20 : decode cX7_fitsAuction 20 = .ok (.aload_n 0, 1) := by decide +kernel
theorem dX7_fitsAuction_21 : decode cX7_fitsAuction 21 = .ok (.getfield 28, 3) := by decide +kernel
theorem dX7_fitsAuction_24 : decode cX7_fitsAuction 24 = .ok (.iload 4, 2) := by decide +kernel
theorem dX7_fitsAuction_26 : decode cX7_fitsAuction 26 = .ok (.iaload, 1) := by decide +kernel
theorem dX7_fitsAuction_27 : decode cX7_fitsAuction 27 = .ok (.aload_n 0, 1) := by decide +kernel
theorem dX7_fitsAuction_28 : decode cX7_fitsAuction 28 = .ok (.getfield 34, 3) := by decide +kernel
theorem dX7_fitsAuction_31 : decode cX7_fitsAuction 31 = .ok (.iload 4, 2) := by decide +kernel
theorem dX7_fitsAuction_33 : decode cX7_fitsAuction 33 = .ok (.iaload, 1) := by decide +kernel
theorem dX7_fitsAuction_34 : decode cX7_fitsAuction 34 = .ok (.aload_n 0, 1) := by decide +kernel
theorem dX7_fitsAuction_35 : decode cX7_fitsAuction 35 = .ok (.getfield 31, 3) := by decide +kernel
theorem dX7_fitsAuction_38 : decode cX7_fitsAuction 38 = .ok (.iload 4, 2) := by decide +kernel
theorem dX7_fitsAuction_40 : decode cX7_fitsAuction 40 = .ok (.iaload, 1) := by decide +kernel
theorem dX7_fitsAuction_41 : decode cX7_fitsAuction 41 = .ok (.invokevirtual 124, 3) := by decide +kernel
theorem dX7_fitsAuction_44 : decode cX7_fitsAuction 44 = .ok (.aload_n 0, 1) := by decide +kernel
theorem dX7_fitsAuction_45 : decode cX7_fitsAuction 45 = .ok (.getfield 25, 3) := by decide +kernel
theorem dX7_fitsAuction_48 : decode cX7_fitsAuction 48 = .ok (.iload 4, 2) := by decide +kernel
theorem dX7_fitsAuction_50 : decode cX7_fitsAuction 50 = .ok (.iaload, 1) := by decide +kernel
theorem dX7_fitsAuction_51 : decode cX7_fitsAuction 51 = .ok (.if_icmp .ne 7, 3) := by decide +kernel
theorem dX7_fitsAuction_54 : decode cX7_fitsAuction 54 = .ok (.iconst 1, 1) := by decide +kernel
theorem dX7_fitsAuction_55 : decode cX7_fitsAuction 55 = .ok (.goto 4, 3) := by decide +kernel
theorem dX7_fitsAuction_58 : decode cX7_fitsAuction 58 = .ok (.iconst 0, 1) := by decide +kernel
theorem dX7_fitsAuction_59 : decode cX7_fitsAuction 59 = .ok (.istore_n 3, 1) := by decide +kernel
theorem dX7_fitsAuction_60 : decode cX7_fitsAuction 60 = .ok (.iinc 4 2, 3) := by decide +kernel
theorem dX7_fitsAuction_63 : decode cX7_fitsAuction 63 = .ok (.goto (-58), 3) := by decide +kernel
theorem dX7_fitsAuction_66 : decode cX7_fitsAuction 66 = .ok (.aload_n 0, 1) := by decide +kernel
theorem dX7_fitsAuction_67 : decode cX7_fitsAuction 67 = .ok (.getfield 70, 3) := by decide +kernel
theorem dX7_fitsAuction_70 : decode cX7_fitsAuction 70 = .ok (.ifCond .eq 17, 3) := by decide +kernel
theorem dX7_fitsAuction_73 : decode cX7_fitsAuction 73 = .ok (.aload_n 0, 1) := by decide +kernel
theorem dX7_fitsAuction_74 : decode cX7_fitsAuction 74 = .ok (.getfield 67, 3) := by decide +kernel
theorem dX7_fitsAuction_77 : decode cX7_fitsAuction 77 = .ok (.iconst 2, 1) := by decide +kernel
theorem dX7_fitsAuction_78 : decode cX7_fitsAuction 78 = .ok (.irem, 1) := by decide +kernel
theorem dX7_fitsAuction_79 : decode cX7_fitsAuction 79 = .ok (.iload_n 1, 1) := by decide +kernel
theorem dX7_fitsAuction_80 : decode cX7_fitsAuction 80 = .ok (.if_icmp .ne 7, 3) := by decide +kernel
theorem dX7_fitsAuction_83 : decode cX7_fitsAuction 83 = .ok (.iconst 1, 1) := by decide +kernel
theorem dX7_fitsAuction_84 : decode cX7_fitsAuction 84 = .ok (.goto 4, 3) := by decide +kernel
theorem dX7_fitsAuction_87 : decode cX7_fitsAuction 87 = .ok (.iconst 0, 1) := by decide +kernel
theorem dX7_fitsAuction_88 : decode cX7_fitsAuction 88 = .ok (.istore 4, 2) := by decide +kernel
theorem dX7_fitsAuction_90 : decode cX7_fitsAuction 90 = .ok (.iload_n 3, 1) := by decide +kernel
theorem dX7_fitsAuction_91 : decode cX7_fitsAuction 91 = .ok (.ifCond .eq 47, 3) := by decide +kernel
theorem dX7_fitsAuction_94 : decode cX7_fitsAuction 94 = .ok (.iload 4, 2) := by decide +kernel
theorem dX7_fitsAuction_96 : decode cX7_fitsAuction 96 = .ok (.ifCond .eq 38, 3) := by decide +kernel
theorem dX7_fitsAuction_99 : decode cX7_fitsAuction 99 = .ok (.aload_n 0, 1) := by decide +kernel
theorem dX7_fitsAuction_100 : decode cX7_fitsAuction 100 = .ok (.iload_n 2, 1) := by decide +kernel
theorem dX7_fitsAuction_101 : decode cX7_fitsAuction 101 = .ok (.aload_n 0, 1) := by decide +kernel
theorem dX7_fitsAuction_102 : decode cX7_fitsAuction 102 = .ok (.getfield 28, 3) := by decide +kernel
theorem dX7_fitsAuction_105 : decode cX7_fitsAuction 105 = .ok (.aload_n 0, 1) := by decide +kernel
theorem dX7_fitsAuction_106 : decode cX7_fitsAuction 106 = .ok (.getfield 67, 3) := by decide +kernel
theorem dX7_fitsAuction_109 : decode cX7_fitsAuction 109 = .ok (.iaload, 1) := by decide +kernel
theorem dX7_fitsAuction_110 : decode cX7_fitsAuction 110 = .ok (.aload_n 0, 1) := by decide +kernel
theorem dX7_fitsAuction_111 : decode cX7_fitsAuction 111 = .ok (.getfield 34, 3) := by decide +kernel
theorem dX7_fitsAuction_114 : decode cX7_fitsAuction 114 = .ok (.aload_n 0, 1) := by decide +kernel
theorem dX7_fitsAuction_115 : decode cX7_fitsAuction 115 = .ok (.getfield 67, 3) := by decide +kernel
theorem dX7_fitsAuction_118 : decode cX7_fitsAuction 118 = .ok (.iaload, 1) := by decide +kernel
theorem dX7_fitsAuction_119 : decode cX7_fitsAuction 119 = .ok (.aload_n 0, 1) := by decide +kernel
theorem dX7_fitsAuction_120 : decode cX7_fitsAuction 120 = .ok (.getfield 31, 3) := by decide +kernel
theorem dX7_fitsAuction_123 : decode cX7_fitsAuction 123 = .ok (.aload_n 0, 1) := by decide +kernel
theorem dX7_fitsAuction_124 : decode cX7_fitsAuction 124 = .ok (.getfield 67, 3) := by decide +kernel
theorem dX7_fitsAuction_127 : decode cX7_fitsAuction 127 = .ok (.iaload, 1) := by decide +kernel
theorem dX7_fitsAuction_128 : decode cX7_fitsAuction 128 = .ok (.invokevirtual 124, 3) := by decide +kernel
theorem dX7_fitsAuction_131 : decode cX7_fitsAuction 131 = .ok (.ifCond .ge 7, 3) := by decide +kernel
theorem dX7_fitsAuction_134 : decode cX7_fitsAuction 134 = .ok (.iconst 1, 1) := by decide +kernel
theorem dX7_fitsAuction_135 : decode cX7_fitsAuction 135 = .ok (.goto 4, 3) := by decide +kernel
theorem dX7_fitsAuction_138 : decode cX7_fitsAuction 138 = .ok (.iconst 0, 1) := by decide +kernel
theorem dX7_fitsAuction_139 : decode cX7_fitsAuction 139 = .ok (.ireturn, 1) := by decide +kernel
theorem dX7_hands_0 : decode cX7_hands 0 = .ok (.iload_n 1, 1) := by decide +kernel
theorem dX7_hands_1 : decode cX7_hands 1 = .ok (.invokestatic 105, 3) := by decide +kernel
theorem dX7_hands_4 : decode cX7_hands 4 = .ok (.ifCond .ne 5, 3) := by decide +kernel
theorem dX7_hands_7 : decode cX7_hands 7 = .ok (.iconst (-1), 1) := by decide +kernel
theorem dX7_hands_8 : decode cX7_hands 8 = .ok (.ireturn, 1) := by decide +kernel
theorem dX7_hands_9 : decode cX7_hands 9 = .ok (.iload_n 2, 1) := by decide +kernel
theorem dX7_hands_10 : decode cX7_hands 10 = .ok (.iconst 0, 1) := by decide +kernel
theorem dX7_hands_11 : decode cX7_hands 11 = .ok (.ldc 54, 2) := by decide +kernel
theorem dX7_hands_13 : decode cX7_hands 13 = .ok (.invokestatic 55, 3) := by decide +kernel
theorem dX7_hands_16 : decode cX7_hands 16 = .ok (.ifCond .ne 6, 3) := by decide +kernel
theorem dX7_hands_19 : decode cX7_hands 19 = .ok (.bipush (-2), 2) := by decide +kernel
theorem dX7_hands_21 : decode cX7_hands 21 = .ok (.ireturn, 1) := by decide +kernel
theorem dX7_hands_22 : decode cX7_hands 22 = .ok (.iconst 0, 1) := by decide +kernel
theorem dX7_hands_23 : decode cX7_hands 23 = .ok (.istore_n 3, 1) := by decide +kernel
theorem dX7_hands_24 : decode cX7_hands 24 = .ok (.bipush 31, 2) := by decide +kernel
theorem dX7_hands_26 : decode cX7_hands 26 = .ok (.istore 4, 2) := by decide +kernel
theorem dX7_hands_28 : decode cX7_hands 28 = .ok (.iload 4, 2) := by decide +kernel
theorem dX7_hands_30 : decode cX7_hands 30 = .ok (.ldc 54, 2) := by decide +kernel
theorem dX7_hands_32 : decode cX7_hands 32 = .ok (.if_icmp .gt 38, 3) := by decide +kernel
theorem dX7_hands_35 : decode cX7_hands 35 = .ok (.iload_n 3, 1) := by decide +kernel
theorem dX7_hands_36 : decode cX7_hands 36 = .ok (.iload 4, 2) := by decide +kernel
theorem dX7_hands_38 : decode cX7_hands 38 = .ok (.iload_n 2, 1) := by decide +kernel
theorem dX7_hands_39 : decode cX7_hands 39 = .ok (.iand, 1) := by decide +kernel
theorem dX7_hands_40 : decode cX7_hands 40 = .ok (.ifCond .ne 17, 3) := by decide +kernel
theorem dX7_hands_43 : decode cX7_hands 43 = .ok (.aload_n 0, 1) := by decide +kernel
theorem dX7_hands_44 : decode cX7_hands 44 = .ok (.iload_n 1, 1) := by decide +kernel
theorem dX7_hands_45 : decode cX7_hands 45 = .ok (.iload 4, 2) := by decide +kernel
theorem dX7_hands_47 : decode cX7_hands 47 = .ok (.invokevirtual 134, 3) := by decide +kernel
theorem dX7_hands_50 : decode cX7_hands 50 = .ok (.ifCond .eq 7, 3) := by decide +kernel
theorem dX7_hands_53 : decode cX7_hands 53 = .ok (.iconst 1, 1) := by decide +kernel
theorem dX7_hands_54 : decode cX7_hands 54 = .ok (.goto 4, 3) := by decide +kernel
theorem dX7_hands_57 : decode cX7_hands 57 = .ok (.iconst 0, 1) := by decide +kernel
theorem dX7_hands_58 : decode cX7_hands 58 = .ok (.iadd, 1) := by decide +kernel
theorem dX7_hands_59 : decode cX7_hands 59 = .ok (.istore_n 3, 1) := by decide +kernel
theorem dX7_hands_60 : decode cX7_hands 60 = .ok (.iload 4, 2) := by decide +kernel
theorem dX7_hands_62 : decode cX7_hands 62 = .ok (.invokestatic 98, 3) := by decide +kernel
theorem dX7_hands_65 : decode cX7_hands 65 = .ok (.istore 4, 2) := by decide +kernel
theorem dX7_hands_67 : decode cX7_hands 67 = .ok (.goto (-39), 3) := by decide +kernel
theorem dX7_hands_70 : decode cX7_hands 70 = .ok (.iload_n 3, 1) := by decide +kernel
theorem dX7_hands_71 : decode cX7_hands 71 = .ok (.ireturn, 1) := by decide +kernel
theorem dX7_shownOf_0 : decode cX7_shownOf 0 = .ok (.iload_n 2, 1) := by decide +kernel
theorem dX7_shownOf_1 : decode cX7_shownOf 1 = .ok (.bipush 8, 2) := by decide +kernel
theorem dX7_shownOf_3 : decode cX7_shownOf 3 = .ok (.if_icmp .ge 14, 3) := by decide +kernel
theorem dX7_shownOf_6 : decode cX7_shownOf 6 = .ok (.aload_n 0, 1) := by decide +kernel
theorem dX7_shownOf_7 : decode cX7_shownOf 7 = .ok (.iload_n 1, 1) := by decide +kernel
theorem dX7_shownOf_8 : decode cX7_shownOf 8 = .ok (.iload_n 2, 1) := by decide +kernel
theorem dX7_shownOf_9 : decode cX7_shownOf 9 = .ok (.iconst 2, 1) := by decide +kernel
theorem dX7_shownOf_10 : decode cX7_shownOf 10 = .ok (.idiv, 1) := by decide +kernel
theorem dX7_shownOf_11 : decode cX7_shownOf 11 = .ok (.invokevirtual 50, 3) := by decide +kernel
theorem dX7_shownOf_14 : decode cX7_shownOf 14 = .ok (.goto 18, 3) := by decide +kernel
theorem dX7_shownOf_17 : decode cX7_shownOf 17 = .ok (.iload_n 2, 1) := by decide +kernel
theorem dX7_shownOf_18 : decode cX7_shownOf 18 = .ok (.bipush 10, 2) := by decide +kernel
theorem dX7_shownOf_20 : decode cX7_shownOf 20 = .ok (.if_icmp .ge 11, 3) := by decide +kernel
theorem dX7_shownOf_23 : decode cX7_shownOf 23 = .ok (.aload_n 0, 1) := by decide +kernel
theorem dX7_shownOf_24 : decode cX7_shownOf 24 = .ok (.iload_n 1, 1) := by decide +kernel
theorem dX7_shownOf_25 : decode cX7_shownOf 25 = .ok (.invokevirtual 74, 3) := by decide +kernel
theorem dX7_shownOf_28 : decode cX7_shownOf 28 = .ok (.goto 4, 3) := by decide +kernel
theorem dX7_shownOf_31 : decode cX7_shownOf 31 = .ok (.iload_n 1, 1) := by decide +kernel
theorem dX7_shownOf_32 : decode cX7_shownOf 32 = .ok (.ireturn, 1) := by decide +kernel
theorem dX7_joined_0 : decode cX7_joined 0 = .ok (.iload_n 2, 1) := by decide +kernel
theorem dX7_joined_1 : decode cX7_joined 1 = .ok (.bipush 10, 2) := by decide +kernel
theorem dX7_joined_3 : decode cX7_joined 3 = .ok (.if_icmp .ne 7, 3) := by decide +kernel
theorem dX7_joined_6 : decode cX7_joined 6 = .ok (.iload_n 0, 1) := by decide +kernel
theorem dX7_joined_7 : decode cX7_joined 7 = .ok (.iload_n 1, 1) := by decide +kernel
theorem dX7_joined_8 : decode cX7_joined 8 = .ok (.iand, 1) := by decide +kernel
theorem dX7_joined_9 : decode cX7_joined 9 = .ok (.ireturn, 1) := by decide +kernel
theorem dX7_joined_10 : decode cX7_joined 10 = .ok (.iload_n 2, 1) := by decide +kernel
theorem dX7_joined_11 : decode cX7_joined 11 = .ok (.bipush 11, 2) := by decide +kernel
theorem dX7_joined_13 : decode cX7_joined 13 = .ok (.if_icmp .ne 7, 3) := by decide +kernel
theorem dX7_joined_16 : decode cX7_joined 16 = .ok (.iload_n 0, 1) := by decide +kernel
theorem dX7_joined_17 : decode cX7_joined 17 = .ok (.iload_n 1, 1) := by decide +kernel
theorem dX7_joined_18 : decode cX7_joined 18 = .ok (.ior, 1) := by decide +kernel
theorem dX7_joined_19 : decode cX7_joined 19 = .ok (.ireturn, 1) := by decide +kernel
theorem dX7_joined_20 : decode cX7_joined 20 = .ok (.iload_n 2, 1) := by decide +kernel
theorem dX7_joined_21 : decode cX7_joined 21 = .ok (.iconst 2, 1) := by decide +kernel
theorem dX7_joined_22 : decode cX7_joined 22 = .ok (.irem, 1) := by decide +kernel
theorem dX7_joined_23 : decode cX7_joined 23 = .ok (.ifCond .ne 7, 3) := by decide +kernel
theorem dX7_joined_26 : decode cX7_joined 26 = .ok (.iconst 1, 1) := by decide +kernel
theorem dX7_joined_27 : decode cX7_joined 27 = .ok (.goto 4, 3) := by decide +kernel
theorem dX7_joined_30 : decode cX7_joined 30 = .ok (.iconst 0, 1) := by decide +kernel
theorem dX7_joined_31 : decode cX7_joined 31 = .ok (.istore_n 3, 1) := by decide +kernel
theorem dX7_joined_32 : decode cX7_joined 32 = .ok (.iload_n 3, 1) := by decide +kernel
theorem dX7_joined_33 : decode cX7_joined 33 = .ok (.iload_n 1, 1) := by decide +kernel
theorem dX7_joined_34 : decode cX7_joined 34 = .ok (.iload_n 0, 1) := by decide +kernel
theorem dX7_joined_35 : decode cX7_joined 35 = .ok (.if_icmp .ge 7, 3) := by decide +kernel
theorem dX7_joined_38 : decode cX7_joined 38 = .ok (.iconst 1, 1) := by decide +kernel
theorem dX7_joined_39 : decode cX7_joined 39 = .ok (.goto 4, 3) := by decide +kernel
theorem dX7_joined_42 : decode cX7_joined 42 = .ok (.iconst 0, 1) := by decide +kernel
theorem dX7_joined_43 : decode cX7_joined 43 = .ok (.if_icmp .ne 7, 3) := by decide +kernel
theorem dX7_joined_46 : decode cX7_joined 46 = .ok (.iload_n 1, 1) := by decide +kernel
theorem dX7_joined_47 : decode cX7_joined 47 = .ok (.goto 4, 3) := by decide +kernel
theorem dX7_joined_50 : decode cX7_joined 50 = .ok (.iload_n 0, 1) := by decide +kernel
theorem dX7_joined_51 : decode cX7_joined 51 = .ok (.ireturn, 1) := by decide +kernel
theorem dX7_shown_0 : decode cX7_shown 0 = .ok (.iload_n 1, 1) := by decide +kernel
theorem dX7_shown_1 : decode cX7_shown 1 = .ok (.invokestatic 105, 3) := by decide +kernel
theorem dX7_shown_4 : decode cX7_shown 4 = .ok (.ifCond .ne 5, 3) := by decide +kernel
theorem dX7_shown_7 : decode cX7_shown 7 = .ok (.iconst (-1), 1) := by decide +kernel
theorem dX7_shown_8 : decode cX7_shown 8 = .ok (.ireturn, 1) := by decide +kernel
theorem dX7_shown_9 : decode cX7_shown 9 = .ok (.iload_n 2, 1) := by decide +kernel
theorem dX7_shown_10 : decode cX7_shown 10 = .ok (.iconst 0, 1) := by decide +kernel
theorem dX7_shown_11 : decode cX7_shown 11 = .ok (.ldc 54, 2) := by decide +kernel
theorem dX7_shown_13 : decode cX7_shown 13 = .ok (.invokestatic 55, 3) := by decide +kernel
theorem dX7_shown_16 : decode cX7_shown 16 = .ok (.ifCond .eq 13, 3) := by decide +kernel
theorem dX7_shown_19 : decode cX7_shown 19 = .ok (.iload_n 3, 1) := by decide +kernel
theorem dX7_shown_20 : decode cX7_shown 20 = .ok (.iconst 0, 1) := by decide +kernel
theorem dX7_shown_21 : decode cX7_shown 21 = .ok (.bipush 11, 2) := by decide +kernel
theorem dX7_shown_23 : decode cX7_shown 23 = .ok (.invokestatic 55, 3) := by decide +kernel
theorem dX7_shown_26 : decode cX7_shown 26 = .ok (.ifCond .ne 6, 3) := by decide +kernel
theorem dX7_shown_29 : decode cX7_shown 29 = .ok (.bipush (-2), 2) := by decide +kernel
theorem dX7_shown_31 : decode cX7_shown 31 = .ok (.ireturn, 1) := by decide +kernel
theorem dX7_shown_32 : decode cX7_shown 32 = .ok (.iconst 0, 1) := by decide +kernel
theorem dX7_shown_33 : decode cX7_shown 33 = .ok (.istore 4, 2) := by decide +kernel
theorem dX7_shown_35 : decode cX7_shown 35 = .ok (.iconst 0, 1) := by decide +kernel
theorem dX7_shown_36 : decode cX7_shown 36 = .ok (.istore 5, 2) := by decide +kernel
theorem dX7_shown_38 : decode cX7_shown 38 = .ok (.bipush 31, 2) := by decide +kernel
theorem dX7_shown_40 : decode cX7_shown 40 = .ok (.istore 6, 2) := by decide +kernel
theorem dX7_shown_42 : decode cX7_shown 42 = .ok (.iload 6, 2) := by decide +kernel
theorem dX7_shown_44 : decode cX7_shown 44 = .ok (.ldc 54, 2) := by decide +kernel
theorem dX7_shown_46 : decode cX7_shown 46 = .ok (.if_icmp .gt 63, 3) := by decide +kernel
theorem dX7_shown_49 : decode cX7_shown 49 = .ok (.iload 6, 2) := by decide +kernel
theorem dX7_shown_51 : decode cX7_shown 51 = .ok (.iload_n 2, 1) := by decide +kernel
theorem dX7_shown_52 : decode cX7_shown 52 = .ok (.iand, 1) := by decide +kernel
theorem dX7_shown_53 : decode cX7_shown 53 = .ok (.ifCond .ne 46, 3) := by decide +kernel
theorem dX7_shown_56 : decode cX7_shown 56 = .ok (.aload_n 0, 1) := by decide +kernel
theorem dX7_shown_57 : decode cX7_shown 57 = .ok (.iload_n 1, 1) := by decide +kernel
theorem dX7_shown_58 : decode cX7_shown 58 = .ok (.iload 6, 2) := by decide +kernel
theorem dX7_shown_60 : decode cX7_shown 60 = .ok (.invokevirtual 134, 3) := by decide +kernel
theorem dX7_shown_63 : decode cX7_shown 63 = .ok (.ifCond .eq 36, 3) := by decide +kernel
theorem dX7_shown_66 : decode cX7_shown 66 = .ok (.iload 4, 2) := by decide +kernel
theorem dX7_shown_68 : decode cX7_shown 68 = .ok (.ifCond .eq 19, 3) := by decide +kernel
theorem dX7_shown_71 : decode cX7_shown 71 = .ok (.iload 5, 2) := by decide +kernel
theorem dX7_shown_73 : decode cX7_shown 73 = .ok (.aload_n 0, 1) := by decide +kernel
theorem dX7_shown_74 : decode cX7_shown 74 = .ok (.iload 6, 2) := by decide +kernel
theorem dX7_shown_76 : decode cX7_shown 76 = .ok (.iload_n 3, 1) := by decide +kernel
theorem dX7_shown_77 : decode cX7_shown 77 = .ok (.invokevirtual 137, 3) := by decide +kernel
theorem dX7_shown_80 : decode cX7_shown 80 = .ok (.iload_n 3, 1) := by decide +kernel
theorem dX7_shown_81 : decode cX7_shown 81 = .ok (.invokestatic 140, 3) := by decide +kernel
theorem dX7_shown_84 : decode cX7_shown 84 = .ok (.goto 10, 3) := by decide +kernel
theorem dX7_shown_87 : decode cX7_shown 87 = .ok (.aload_n 0, 1) := by decide +kernel
theorem dX7_shown_88 : decode cX7_shown 88 = .ok (.iload 6, 2) := by decide +kernel
theorem dX7_shown_90 : decode cX7_shown 90 = .ok (.iload_n 3, 1) := by decide +kernel
theorem dX7_shown_91 : decode cX7_shown 91 = .ok (.invokevirtual 137, 3) := by decide +kernel
theorem dX7_shown_94 : decode cX7_shown 94 = .ok (.istore 5, 2) := by decide +kernel
theorem dX7_shown_96 : decode cX7_shown 96 = .ok (.iconst 1, 1) := by decide +kernel
theorem dX7_shown_97 : decode cX7_shown 97 = .ok (.istore 4, 2) := by decide +kernel
theorem dX7_shown_99 : decode cX7_shown 99 = .ok (.iload 6, 2) := by decide +kernel
theorem dX7_shown_101 : decode cX7_shown 101 = .ok (.invokestatic 98, 3) := by decide +kernel
theorem dX7_shown_104 : decode cX7_shown 104 = .ok (.istore 6, 2) := by decide +kernel
theorem dX7_shown_106 : decode cX7_shown 106 = .ok (.goto (-64), 3) := by decide +kernel
theorem dX7_shown_109 : decode cX7_shown 109 = .ok (.iload 4, 2) := by decide +kernel
theorem dX7_shown_111 : decode cX7_shown 111 = .ok (.ifCond .eq 8, 3) := by decide +kernel
theorem dX7_shown_114 : decode cX7_shown 114 = .ok (.iload 5, 2) := by decide +kernel
theorem dX7_shown_116 : decode cX7_shown 116 = .ok (.goto 5, 3) := by decide +kernel
theorem dX7_shown_119 : decode cX7_shown 119 = .ok (.bipush (-6), 2) := by decide +kernel
theorem dX7_shown_121 : decode cX7_shown 121 = .ok (.ireturn, 1) := by decide +kernel
theorem dX7_fits_0 : decode cX7_fits 0 = .ok (.iload_n 1, 1) := by decide +kernel
theorem dX7_fits_1 : decode cX7_fits 1 = .ok (.invokestatic 105, 3) := by decide +kernel
theorem dX7_fits_4 : decode cX7_fits 4 = .ok (.ifCond .ne 5, 3) := by decide +kernel
theorem dX7_fits_7 : decode cX7_fits 7 = .ok (.iconst (-1), 1) := by decide +kernel
theorem dX7_fits_8 : decode cX7_fits 8 = .ok (.ireturn, 1) := by decide +kernel
theorem dX7_fits_9 : decode cX7_fits 9 = .ok (.aload_n 0, 1) := by decide +kernel
theorem dX7_fits_10 : decode cX7_fits 10 = .ok (.iload_n 2, 1) := by decide +kernel
theorem dX7_fits_11 : decode cX7_fits 11 = .ok (.invokevirtual 108, 3) := by decide +kernel
theorem dX7_fits_14 : decode cX7_fits 14 = .ok (.ifCond .ne 8, 3) := by decide +kernel
theorem dX7_fits_17 : decode cX7_fits 17 = .ok (.bipush (-2), 2) := by decide +kernel
theorem dX7_fits_19 : decode cX7_fits 19 = .ok (.goto 17, 3) := by decide +kernel
theorem dX7_fits_22 : decode cX7_fits 22 = .ok (.aload_n 0, 1) := by decide +kernel
theorem dX7_fits_23 : decode cX7_fits 23 = .ok (.iload_n 1, 1) := by decide +kernel
theorem dX7_fits_24 : decode cX7_fits 24 = .ok (.iload_n 2, 1) := by decide +kernel
theorem dX7_fits_25 : decode cX7_fits 25 = .ok (.invokevirtual 134, 3) := by decide +kernel
theorem dX7_fits_28 : decode cX7_fits 28 = .ok (.ifCond .eq 7, 3) := by decide +kernel
theorem dX7_fits_31 : decode cX7_fits 31 = .ok (.iconst 1, 1) := by decide +kernel
theorem dX7_fits_32 : decode cX7_fits 32 = .ok (.goto 4, 3) := by decide +kernel
theorem dX7_fits_35 : decode cX7_fits 35 = .ok (.iconst 0, 1) := by decide +kernel
theorem dX7_fits_36 : decode cX7_fits 36 = .ok (.ireturn, 1) := by decide +kernel
theorem dX7_ruleOf_0 : decode cX7_ruleOf 0 = .ok (.aload_n 0, 1) := by decide +kernel
theorem dX7_ruleOf_1 : decode cX7_ruleOf 1 = .ok (.iload_n 1, 1) := by decide +kernel
theorem dX7_ruleOf_2 : decode cX7_ruleOf 2 = .ok (.invokevirtual 108, 3) := by decide +kernel
theorem dX7_ruleOf_5 : decode cX7_ruleOf 5 = .ok (.ifCond .ne 6, 3) := by decide +kernel
theorem dX7_ruleOf_8 : decode cX7_ruleOf 8 = .ok (.bipush (-2), 2) := by decide +kernel
theorem dX7_ruleOf_10 : decode cX7_ruleOf 10 = .ok (.ireturn, 1) := by decide +kernel
theorem dX7_ruleOf_11 : decode cX7_ruleOf 11 = .ok (.aload_n 0, 1) := by decide +kernel
theorem dX7_ruleOf_12 : decode cX7_ruleOf 12 = .ok (.invokevirtual 120, 3) := by decide +kernel
theorem dX7_ruleOf_15 : decode cX7_ruleOf 15 = .ok (.ifCond .eq 8, 3) := by decide +kernel
theorem dX7_ruleOf_18 : decode cX7_ruleOf 18 = .ok (.bipush (-5), 2) := by decide +kernel
theorem dX7_ruleOf_20 : decode cX7_ruleOf 20 = .ok (.goto 35, 3) := by decide +kernel
theorem dX7_ruleOf_23 : decode cX7_ruleOf 23 = .ok (.aload_n 0, 1) := by decide +kernel
theorem dX7_ruleOf_24 : decode cX7_ruleOf 24 = .ok (.iload_n 1, 1) := by decide +kernel
theorem dX7_ruleOf_25 : decode cX7_ruleOf 25 = .ok (.aload_n 0, 1) := by decide +kernel
theorem dX7_ruleOf_26 : decode cX7_ruleOf 26 = .ok (.getfield 28, 3) := by decide +kernel
theorem dX7_ruleOf_29 : decode cX7_ruleOf 29 = .ok (.aload_n 0, 1) := by decide +kernel
theorem dX7_ruleOf_30 : decode cX7_ruleOf 30 = .ok (.getfield 67, 3) := by decide +kernel
theorem dX7_ruleOf_33 : decode cX7_ruleOf 33 = .ok (.iaload, 1) := by decide +kernel
theorem dX7_ruleOf_34 : decode cX7_ruleOf 34 = .ok (.aload_n 0, 1) := by decide +kernel
theorem dX7_ruleOf_35 : decode cX7_ruleOf 35 = .ok (.getfield 34, 3) := by decide +kernel
theorem dX7_ruleOf_38 : decode cX7_ruleOf 38 = .ok (.aload_n 0, 1) := by decide +kernel
theorem dX7_ruleOf_39 : decode cX7_ruleOf 39 = .ok (.getfield 67, 3) := by decide +kernel
theorem dX7_ruleOf_42 : decode cX7_ruleOf 42 = .ok (.iaload, 1) := by decide +kernel
theorem dX7_ruleOf_43 : decode cX7_ruleOf 43 = .ok (.aload_n 0, 1) := by decide +kernel
theorem dX7_ruleOf_44 : decode cX7_ruleOf 44 = .ok (.getfield 31, 3) := by decide +kernel
theorem dX7_ruleOf_47 : decode cX7_ruleOf 47 = .ok (.aload_n 0, 1) := by decide +kernel
theorem dX7_ruleOf_48 : decode cX7_ruleOf 48 = .ok (.getfield 67, 3) := by decide +kernel
theorem dX7_ruleOf_51 : decode cX7_ruleOf 51 = .ok (.iaload, 1) := by decide +kernel
theorem dX7_ruleOf_52 : decode cX7_ruleOf 52 = .ok (.invokevirtual 124, 3) := by decide +kernel
theorem dX7_ruleOf_55 : decode cX7_ruleOf 55 = .ok (.ireturn, 1) := by decide +kernel
theorem dX7_manyWith_0 : decode cX7_manyWith 0 = .ok (.iconst 0, 1) := by decide +kernel
theorem dX7_manyWith_1 : decode cX7_manyWith 1 = .ok (.istore 5, 2) := by decide +kernel
theorem dX7_manyWith_3 : decode cX7_manyWith 3 = .ok (.bipush 31, 2) := by decide +kernel
theorem dX7_manyWith_5 : decode cX7_manyWith 5 = .ok (.istore 6, 2) := by decide +kernel
theorem dX7_manyWith_7 : decode cX7_manyWith 7 = .ok (.iload 6, 2) := by decide +kernel
theorem dX7_manyWith_9 : decode cX7_manyWith 9 = .ok (.ldc 54, 2) := by decide +kernel
theorem dX7_manyWith_11 : decode cX7_manyWith 11 = .ok (.if_icmp .gt 37, 3) := by decide +kernel
theorem dX7_manyWith_14 : decode cX7_manyWith 14 = .ok (.iload 5, 2) := by decide +kernel
theorem dX7_manyWith_16 : decode cX7_manyWith 16 = .ok (.aload_n 0, 1) := by decide +kernel
theorem dX7_manyWith_17 : decode cX7_manyWith 17 = .ok (.iload 6, 2) := by decide +kernel
theorem dX7_manyWith_19 : decode cX7_manyWith 19 = .ok (.iload_n 2, 1) := by decide +kernel
theorem dX7_manyWith_20 : decode cX7_manyWith 20 = .ok (.iload_n 3, 1) := by decide +kernel
theorem dX7_manyWith_21 : decode cX7_manyWith 21 = .ok (.iload 4, 2) := by decide +kernel
theorem dX7_manyWith_23 : decode cX7_manyWith 23 = .ok (.invokevirtual 124, 3) := by decide +kernel
theorem dX7_manyWith_26 : decode cX7_manyWith 26 = .ok (.iload_n 1, 1) := by decide +kernel
theorem dX7_manyWith_27 : decode cX7_manyWith 27 = .ok (.if_icmp .ne 7, 3) := by decide +kernel
theorem dX7_manyWith_30 : decode cX7_manyWith 30 = .ok (.iconst 1, 1) := by decide +kernel
theorem dX7_manyWith_31 : decode cX7_manyWith 31 = .ok (.goto 4, 3) := by decide +kernel
theorem dX7_manyWith_34 : decode cX7_manyWith 34 = .ok (.iconst 0, 1) := by decide +kernel
theorem dX7_manyWith_35 : decode cX7_manyWith 35 = .ok (.iadd, 1) := by decide +kernel
theorem dX7_manyWith_36 : decode cX7_manyWith 36 = .ok (.istore 5, 2) := by decide +kernel
theorem dX7_manyWith_38 : decode cX7_manyWith 38 = .ok (.iload 6, 2) := by decide +kernel
theorem dX7_manyWith_40 : decode cX7_manyWith 40 = .ok (.invokestatic 98, 3) := by decide +kernel
theorem dX7_manyWith_43 : decode cX7_manyWith 43 = .ok (.istore 6, 2) := by decide +kernel
theorem dX7_manyWith_45 : decode cX7_manyWith 45 = .ok (.goto (-38), 3) := by decide +kernel
theorem dX7_manyWith_48 : decode cX7_manyWith 48 = .ok (.iload 5, 2) := by decide +kernel
theorem dX7_manyWith_50 : decode cX7_manyWith 50 = .ok (.ireturn, 1) := by decide +kernel
theorem dX7_reach_0 : decode cX7_reach 0 = .ok (.aload_n 0, 1) := by decide +kernel
theorem dX7_reach_1 : decode cX7_reach 1 = .ok (.iload_n 1, 1) := by decide +kernel
theorem dX7_reach_2 : decode cX7_reach 2 = .ok (.invokevirtual 91, 3) := by decide +kernel
theorem dX7_reach_5 : decode cX7_reach 5 = .ok (.ifCond .eq 20, 3) := by decide +kernel
theorem dX7_reach_8 : decode cX7_reach 8 = .ok (.aload_n 0, 1) := by decide +kernel
theorem dX7_reach_9 : decode cX7_reach 9 = .ok (.iload_n 1, 1) := by decide +kernel
theorem dX7_reach_10 : decode cX7_reach 10 = .ok (.aload_n 0, 1) := by decide +kernel
theorem dX7_reach_11 : decode cX7_reach 11 = .ok (.iload_n 1, 1) := by decide +kernel
theorem dX7_reach_12 : decode cX7_reach 12 = .ok (.iconst 0, 1) := by decide +kernel
theorem dX7_reach_13 : decode cX7_reach 13 = .ok (.invokevirtual 77, 3) := by decide +kernel
theorem dX7_reach_16 : decode cX7_reach 16 = .ok (.bipush (-6), 2) := by decide +kernel
theorem dX7_reach_18 : decode cX7_reach 18 = .ok (.iconst 0, 1) := by decide +kernel
theorem dX7_reach_19 : decode cX7_reach 19 = .ok (.invokevirtual 144, 3) := by decide +kernel
theorem dX7_reach_22 : decode cX7_reach 22 = .ok (.goto 4, 3) := by decide +kernel
theorem dX7_reach_25 : decode cX7_reach 25 = .ok (.iconst (-1), 1) := by decide +kernel
theorem dX7_reach_26 : decode cX7_reach 26 = .ok (.ireturn, 1) := by decide +kernel
theorem dX7_holes_0 : decode cX7_holes 0 = .ok (.iload_n 1, 1) := by decide +kernel
theorem dX7_holes_1 : decode cX7_holes 1 = .ok (.iconst 0, 1) := by decide +kernel
theorem dX7_holes_2 : decode cX7_holes 2 = .ok (.bipush 7, 2) := by decide +kernel
theorem dX7_holes_4 : decode cX7_holes 4 = .ok (.invokestatic 55, 3) := by decide +kernel
theorem dX7_holes_7 : decode cX7_holes 7 = .ok (.ifCond .eq 28, 3) := by decide +kernel
theorem dX7_holes_10 : decode cX7_holes 10 = .ok (.iload_n 2, 1) := by decide +kernel
theorem dX7_holes_11 : decode cX7_holes 11 = .ok (.bipush (-6), 2) := by decide +kernel
theorem dX7_holes_13 : decode cX7_holes 13 = .ok (.if_icmp .eq 13, 3) := by decide +kernel
theorem dX7_holes_16 : decode cX7_holes 16 = .ok (.iload_n 2, 1) := by decide +kernel
theorem dX7_holes_17 : decode cX7_holes 17 = .ok (.iconst 0, 1) := by decide +kernel
theorem dX7_holes_18 : decode cX7_holes 18 = .ok (.bipush 24, 2) := by decide +kernel
theorem dX7_holes_20 : decode cX7_holes 20 = .ok (.invokestatic 55, 3) := by decide +kernel
theorem dX7_holes_23 : decode cX7_holes 23 = .ok (.ifCond .eq 12, 3) := by decide +kernel
theorem dX7_holes_26 : decode cX7_holes 26 = .ok (.iload_n 3, 1) := by decide +kernel
theorem dX7_holes_27 : decode cX7_holes 27 = .ok (.iconst 0, 1) := by decide +kernel
theorem dX7_holes_28 : decode cX7_holes 28 = .ok (.iconst 1, 1) := by decide +kernel
theorem dX7_holes_29 : decode cX7_holes 29 = .ok (.invokestatic 55, 3) := by decide +kernel
theorem dX7_holes_32 : decode cX7_holes 32 = .ok (.ifCond .ne 6, 3) := by decide +kernel
theorem dX7_holes_35 : decode cX7_holes 35 = .ok (.bipush (-2), 2) := by decide +kernel
theorem dX7_holes_37 : decode cX7_holes 37 = .ok (.ireturn, 1) := by decide +kernel
theorem dX7_holes_38 : decode cX7_holes 38 = .ok (.aload_n 0, 1) := by decide +kernel
theorem dX7_holes_39 : decode cX7_holes 39 = .ok (.bipush (-6), 2) := by decide +kernel
theorem dX7_holes_41 : decode cX7_holes 41 = .ok (.iload_n 1, 1) := by decide +kernel
theorem dX7_holes_42 : decode cX7_holes 42 = .ok (.iload_n 2, 1) := by decide +kernel
theorem dX7_holes_43 : decode cX7_holes 43 = .ok (.iload_n 3, 1) := by decide +kernel
theorem dX7_holes_44 : decode cX7_holes 44 = .ok (.invokevirtual 144, 3) := by decide +kernel
theorem dX7_holes_47 : decode cX7_holes 47 = .ok (.ireturn, 1) := by decide +kernel
theorem dX7_winners_0 : decode cX7_winners 0 = .ok (.iload_n 1, 1) := by decide +kernel
theorem dX7_winners_1 : decode cX7_winners 1 = .ok (.iload_n 2, 1) := by decide +kernel
theorem dX7_winners_2 : decode cX7_winners 2 = .ok (.ior, 1) := by decide +kernel
theorem dX7_winners_3 : decode cX7_winners 3 = .ok (.iconst 5, 1) := by decide +kernel
theorem dX7_winners_4 : decode cX7_winners 4 = .ok (.iload_n 3, 1) := by decide +kernel
theorem dX7_winners_5 : decode cX7_winners 5 = .ok (.imul, 1) := by decide +kernel
theorem dX7_winners_6 : decode cX7_winners 6 = .ok (.ishr, 1) := by decide +kernel
theorem dX7_winners_7 : decode cX7_winners 7 = .ok (.bipush 31, 2) := by decide +kernel
theorem dX7_winners_9 : decode cX7_winners 9 = .ok (.iand, 1) := by decide +kernel
theorem dX7_winners_10 : decode cX7_winners 10 = .ok (.istore 4, 2) := by decide +kernel
theorem dX7_winners_12 : decode cX7_winners 12 = .ok (.iconst 0, 1) := by decide +kernel
theorem dX7_winners_13 : decode cX7_winners 13 = .ok (.istore 5, 2) := by decide +kernel
theorem dX7_winners_15 : decode cX7_winners 15 = .ok (.iload 5, 2) := by decide +kernel
theorem dX7_winners_17 : decode cX7_winners 17 = .ok (.iconst 5, 1) := by decide +kernel
theorem dX7_winners_18 : decode cX7_winners 18 = .ok (.if_icmp .ge 22, 3) := by decide +kernel
theorem dX7_winners_21 : decode cX7_winners 21 = .ok (.iload 4, 2) := by decide +kernel
theorem dX7_winners_23 : decode cX7_winners 23 = .ok (.iconst 4, 1) := by decide +kernel
theorem dX7_winners_24 : decode cX7_winners 24 = .ok (.iload 5, 2) := by decide +kernel
theorem dX7_winners_26 : decode cX7_winners 26 = .ok (.isub, 1) := by decide +kernel
theorem dX7_winners_27 : decode cX7_winners 27 = .ok (.ishr, 1) := by decide +kernel
theorem dX7_winners_28 : decode cX7_winners 28 = .ok (.iconst 1, 1) := by decide +kernel
theorem dX7_winners_29 : decode cX7_winners 29 = .ok (.iand, 1) := by decide +kernel
theorem dX7_winners_30 : decode cX7_winners 30 = .ok (.iconst 1, 1) := by decide +kernel
theorem dX7_winners_31 : decode cX7_winners 31 = .ok (.if_icmp .ne 9, 3) := by decide +kernel
theorem dX7_winners_34 : decode cX7_winners 34 = .ok (.iinc 5 1, 3) := by decide +kernel
theorem dX7_winners_37 : decode cX7_winners 37 = .ok (.goto (-22), 3) := by decide +kernel
theorem dX7_winners_40 : decode cX7_winners 40 = .ok (.aload_n 0, 1) := by decide +kernel
theorem dX7_winners_41 : decode cX7_winners 41 = .ok (.iload_n 1, 1) := by decide +kernel
theorem dX7_winners_42 : decode cX7_winners 42 = .ok (.iload_n 3, 1) := by decide +kernel
theorem dX7_winners_43 : decode cX7_winners 43 = .ok (.invokevirtual 50, 3) := by decide +kernel
theorem dX7_winners_46 : decode cX7_winners 46 = .ok (.aload_n 0, 1) := by decide +kernel
theorem dX7_winners_47 : decode cX7_winners 47 = .ok (.iload_n 2, 1) := by decide +kernel
theorem dX7_winners_48 : decode cX7_winners 48 = .ok (.iload_n 3, 1) := by decide +kernel
theorem dX7_winners_49 : decode cX7_winners 49 = .ok (.invokevirtual 50, 3) := by decide +kernel
theorem dX7_winners_52 : decode cX7_winners 52 = .ok (.if_icmp .le 12, 3) := by decide +kernel
theorem dX7_winners_55 : decode cX7_winners 55 = .ok (.aload_n 0, 1) := by decide +kernel
theorem dX7_winners_56 : decode cX7_winners 56 = .ok (.iload_n 1, 1) := by decide +kernel
theorem dX7_winners_57 : decode cX7_winners 57 = .ok (.iload_n 3, 1) := by decide +kernel
theorem dX7_winners_58 : decode cX7_winners 58 = .ok (.invokevirtual 50, 3) := by decide +kernel
theorem dX7_winners_61 : decode cX7_winners 61 = .ok (.goto 9, 3) := by decide +kernel
theorem dX7_winners_64 : decode cX7_winners 64 = .ok (.aload_n 0, 1) := by decide +kernel
theorem dX7_winners_65 : decode cX7_winners 65 = .ok (.iload_n 2, 1) := by decide +kernel
theorem dX7_winners_66 : decode cX7_winners 66 = .ok (.iload_n 3, 1) := by decide +kernel
theorem dX7_winners_67 : decode cX7_winners 67 = .ok (.invokevirtual 50, 3) := by decide +kernel
theorem dX7_winners_70 : decode cX7_winners 70 = .ok (.istore 6, 2) := by decide +kernel
theorem dX7_winners_72 : decode cX7_winners 72 = .ok (.iload 5, 2) := by decide +kernel
theorem dX7_winners_74 : decode cX7_winners 74 = .ok (.iload 6, 2) := by decide +kernel
theorem dX7_winners_76 : decode cX7_winners 76 = .ok (.if_icmp .ge 8, 3) := by decide +kernel
theorem dX7_winners_79 : decode cX7_winners 79 = .ok (.iload 5, 2) := by decide +kernel
theorem dX7_winners_81 : decode cX7_winners 81 = .ok (.goto 5, 3) := by decide +kernel
theorem dX7_winners_84 : decode cX7_winners 84 = .ok (.iload 6, 2) := by decide +kernel
theorem dX7_winners_86 : decode cX7_winners 86 = .ok (.ireturn, 1) := by decide +kernel
theorem dX7_ruffs_0 : decode cX7_ruffs 0 = .ok (.iload_n 3, 1) := by decide +kernel
theorem dX7_ruffs_1 : decode cX7_ruffs 1 = .ok (.iload 4, 2) := by decide +kernel
theorem dX7_ruffs_3 : decode cX7_ruffs 3 = .ok (.if_icmp .eq 35, 3) := by decide +kernel
theorem dX7_ruffs_6 : decode cX7_ruffs 6 = .ok (.aload_n 0, 1) := by decide +kernel
theorem dX7_ruffs_7 : decode cX7_ruffs 7 = .ok (.iload_n 1, 1) := by decide +kernel
theorem dX7_ruffs_8 : decode cX7_ruffs 8 = .ok (.iload_n 3, 1) := by decide +kernel
theorem dX7_ruffs_9 : decode cX7_ruffs 9 = .ok (.invokevirtual 50, 3) := by decide +kernel
theorem dX7_ruffs_12 : decode cX7_ruffs 12 = .ok (.ifCond .ne 26, 3) := by decide +kernel
theorem dX7_ruffs_15 : decode cX7_ruffs 15 = .ok (.aload_n 0, 1) := by decide +kernel
theorem dX7_ruffs_16 : decode cX7_ruffs 16 = .ok (.iload_n 1, 1) := by decide +kernel
theorem dX7_ruffs_17 : decode cX7_ruffs 17 = .ok (.iload 4, 2) := by decide +kernel
theorem dX7_ruffs_19 : decode cX7_ruffs 19 = .ok (.invokevirtual 50, 3) := by decide +kernel
theorem dX7_ruffs_22 : decode cX7_ruffs 22 = .ok (.ifCond .le 16, 3) := by decide +kernel
theorem dX7_ruffs_25 : decode cX7_ruffs 25 = .ok (.aload_n 0, 1) := by decide +kernel
theorem dX7_ruffs_26 : decode cX7_ruffs 26 = .ok (.iload_n 2, 1) := by decide +kernel
theorem dX7_ruffs_27 : decode cX7_ruffs 27 = .ok (.iload_n 3, 1) := by decide +kernel
theorem dX7_ruffs_28 : decode cX7_ruffs 28 = .ok (.invokevirtual 50, 3) := by decide +kernel
theorem dX7_ruffs_31 : decode cX7_ruffs 31 = .ok (.ifCond .le 7, 3) := by decide +kernel
theorem dX7_ruffs_34 : decode cX7_ruffs 34 = .ok (.iconst 1, 1) := by decide +kernel
theorem dX7_ruffs_35 : decode cX7_ruffs 35 = .ok (.goto 4, 3) := by decide +kernel
theorem dX7_ruffs_38 : decode cX7_ruffs 38 = .ok (.iconst 0, 1) := by decide +kernel
theorem dX7_ruffs_39 : decode cX7_ruffs 39 = .ok (.ireturn, 1) := by decide +kernel
theorem dX7_tricksOf_0 : decode cX7_tricksOf 0 = .ok (.iconst 0, 1) := by decide +kernel
theorem dX7_tricksOf_1 : decode cX7_tricksOf 1 = .ok (.istore 4, 2) := by decide +kernel
theorem dX7_tricksOf_3 : decode cX7_tricksOf 3 = .ok (.iconst 0, 1) := by decide +kernel
theorem dX7_tricksOf_4 : decode cX7_tricksOf 4 = .ok (.istore 5, 2) := by decide +kernel
theorem dX7_tricksOf_6 : decode cX7_tricksOf 6 = .ok (.iload 5, 2) := by decide +kernel
theorem dX7_tricksOf_8 : decode cX7_tricksOf 8 = .ok (.iconst 4, 1) := by decide +kernel
theorem dX7_tricksOf_9 : decode cX7_tricksOf 9 = .ok (.if_icmp .ge 71, 3) := by decide +kernel
theorem dX7_tricksOf_12 : decode cX7_tricksOf 12 = .ok (.iload 4, 2) := by decide +kernel
theorem dX7_tricksOf_14 : decode cX7_tricksOf 14 = .ok (.aload_n 0, 1) := by decide +kernel
theorem dX7_tricksOf_15 : decode cX7_tricksOf 15 = .ok (.iload_n 2, 1) := by decide +kernel
theorem dX7_tricksOf_16 : decode cX7_tricksOf 16 = .ok (.iload_n 3, 1) := by decide +kernel
theorem dX7_tricksOf_17 : decode cX7_tricksOf 17 = .ok (.iload 5, 2) := by decide +kernel
theorem dX7_tricksOf_19 : decode cX7_tricksOf 19 = .ok (.invokevirtual 147, 3) := by decide +kernel
theorem dX7_tricksOf_22 : decode cX7_tricksOf 22 = .ok (.iadd, 1) := by decide +kernel
theorem dX7_tricksOf_23 : decode cX7_tricksOf 23 = .ok (.istore 4, 2) := by decide +kernel
theorem dX7_tricksOf_25 : decode cX7_tricksOf 25 = .ok (.iload_n 1, 1) := by decide +kernel
theorem dX7_tricksOf_26 : decode cX7_tricksOf 26 = .ok (.iconst 4, 1) := by decide +kernel
theorem dX7_tricksOf_27 : decode cX7_tricksOf 27 = .ok (.if_icmp .ge 47, 3) := by decide +kernel
theorem dX7_tricksOf_30 : decode cX7_tricksOf 30 = .ok (.iload 4, 2) := by decide +kernel
theorem dX7_tricksOf_32 : decode cX7_tricksOf 32 = .ok (.aload_n 0, 1) := by decide +kernel
theorem dX7_tricksOf_33 : decode cX7_tricksOf 33 = .ok (.iload_n 2, 1) := by decide +kernel
theorem dX7_tricksOf_34 : decode cX7_tricksOf 34 = .ok (.iload_n 3, 1) := by decide +kernel
theorem dX7_tricksOf_35 : decode cX7_tricksOf 35 = .ok (.iload 5, 2) := by decide +kernel
theorem dX7_tricksOf_37 : decode cX7_tricksOf 37 = .ok (.iload_n 1, 1) := by decide +kernel
theorem dX7_tricksOf_38 : decode cX7_tricksOf 38 = .ok (.invokevirtual 150, 3) := by decide +kernel
theorem dX7_tricksOf_41 : decode cX7_tricksOf 41 = .ok (.ifCond .eq 7, 3) := by decide +kernel
theorem dX7_tricksOf_44 : decode cX7_tricksOf 44 = .ok (.iconst 1, 1) := by decide +kernel
theorem dX7_tricksOf_45 : decode cX7_tricksOf 45 = .ok (.goto 4, 3) := by decide +kernel
theorem dX7_tricksOf_48 : decode cX7_tricksOf 48 = .ok (.iconst 0, 1) := by decide +kernel
theorem dX7_tricksOf_49 : decode cX7_tricksOf 49 = .ok (.iadd, 1) := by decide +kernel
theorem dX7_tricksOf_50 : decode cX7_tricksOf 50 = .ok (.istore 4, 2) := by decide +kernel
theorem dX7_tricksOf_52 : decode cX7_tricksOf 52 = .ok (.iload 4, 2) := by decide +kernel
theorem dX7_tricksOf_54 : decode cX7_tricksOf 54 = .ok (.aload_n 0, 1) := by decide +kernel
theorem dX7_tricksOf_55 : decode cX7_tricksOf 55 = .ok (.iload_n 3, 1) := by decide +kernel
theorem dX7_tricksOf_56 : decode cX7_tricksOf 56 = .ok (.iload_n 2, 1) := by decide +kernel
theorem dX7_tricksOf_57 : decode cX7_tricksOf 57 = .ok (.iload 5, 2) := by decide +kernel
theorem dX7_tricksOf_59 : decode cX7_tricksOf 59 = .ok (.iload_n 1, 1) := by decide +kernel
theorem dX7_tricksOf_60 : decode cX7_tricksOf 60 = .ok (.invokevirtual 150, 3) := by decide +kernel
theorem dX7_tricksOf_63 : decode cX7_tricksOf 63 = .ok (.ifCond .eq 7, 3) := by decide +kernel
theorem dX7_tricksOf_66 : decode cX7_tricksOf 66 = .ok (.iconst 1, 1) := by decide +kernel
theorem dX7_tricksOf_67 : decode cX7_tricksOf 67 = .ok (.goto 4, 3) := by decide +kernel
theorem dX7_tricksOf_70 : decode cX7_tricksOf 70 = .ok (.iconst 0, 1) := by decide +kernel
theorem dX7_tricksOf_71 : decode cX7_tricksOf 71 = .ok (.iadd, 1) := by decide +kernel
theorem dX7_tricksOf_72 : decode cX7_tricksOf 72 = .ok (.istore 4, 2) := by decide +kernel
theorem dX7_tricksOf_74 : decode cX7_tricksOf 74 = .ok (.iinc 5 1, 3) := by decide +kernel
theorem dX7_tricksOf_77 : decode cX7_tricksOf 77 = .ok (.goto (-71), 3) := by decide +kernel
theorem dX7_tricksOf_80 : decode cX7_tricksOf 80 = .ok (.iload 4, 2) := by decide +kernel
theorem dX7_tricksOf_82 : decode cX7_tricksOf 82 = .ok (.iconst 5, 1) := by decide +kernel
theorem dX7_tricksOf_83 : decode cX7_tricksOf 83 = .ok (.if_icmp .ge 8, 3) := by decide +kernel
theorem dX7_tricksOf_86 : decode cX7_tricksOf 86 = .ok (.iload 4, 2) := by decide +kernel
theorem dX7_tricksOf_88 : decode cX7_tricksOf 88 = .ok (.goto 4, 3) := by decide +kernel
theorem dX7_tricksOf_91 : decode cX7_tricksOf 91 = .ok (.iconst 5, 1) := by decide +kernel
theorem dX7_tricksOf_92 : decode cX7_tricksOf 92 = .ok (.ireturn, 1) := by decide +kernel
theorem dX7_tricks_0 : decode cX7_tricks 0 = .ok (.iload_n 1, 1) := by decide +kernel
theorem dX7_tricks_1 : decode cX7_tricks 1 = .ok (.iconst 0, 1) := by decide +kernel
theorem dX7_tricks_2 : decode cX7_tricks 2 = .ok (.iconst 4, 1) := by decide +kernel
theorem dX7_tricks_3 : decode cX7_tricks 3 = .ok (.invokestatic 55, 3) := by decide +kernel
theorem dX7_tricks_6 : decode cX7_tricks 6 = .ok (.ifCond .eq 25, 3) := by decide +kernel
theorem dX7_tricks_9 : decode cX7_tricks 9 = .ok (.aload_n 0, 1) := by decide +kernel
theorem dX7_tricks_10 : decode cX7_tricks 10 = .ok (.iload_n 2, 1) := by decide +kernel
theorem dX7_tricks_11 : decode cX7_tricks 11 = .ok (.invokevirtual 108, 3) := by decide +kernel
theorem dX7_tricks_14 : decode cX7_tricks 14 = .ok (.ifCond .eq 17, 3) := by decide +kernel
theorem dX7_tricks_17 : decode cX7_tricks 17 = .ok (.aload_n 0, 1) := by decide +kernel
theorem dX7_tricks_18 : decode cX7_tricks 18 = .ok (.iload_n 3, 1) := by decide +kernel
theorem dX7_tricks_19 : decode cX7_tricks 19 = .ok (.invokevirtual 108, 3) := by decide +kernel
theorem dX7_tricks_22 : decode cX7_tricks 22 = .ok (.ifCond .eq 9, 3) := by decide +kernel
theorem dX7_tricks_25 : decode cX7_tricks 25 = .ok (.iload_n 2, 1) := by decide +kernel
theorem dX7_tricks_26 : decode cX7_tricks 26 = .ok (.iload_n 3, 1) := by decide +kernel
theorem dX7_tricks_27 : decode cX7_tricks 27 = .ok (.iand, 1) := by decide +kernel
theorem dX7_tricks_28 : decode cX7_tricks 28 = .ok (.ifCond .eq 6, 3) := by decide +kernel
theorem dX7_tricks_31 : decode cX7_tricks 31 = .ok (.bipush (-2), 2) := by decide +kernel
theorem dX7_tricks_33 : decode cX7_tricks 33 = .ok (.ireturn, 1) := by decide +kernel
theorem dX7_tricks_34 : decode cX7_tricks 34 = .ok (.aload_n 0, 1) := by decide +kernel
theorem dX7_tricks_35 : decode cX7_tricks 35 = .ok (.iload_n 1, 1) := by decide +kernel
theorem dX7_tricks_36 : decode cX7_tricks 36 = .ok (.iload_n 2, 1) := by decide +kernel
theorem dX7_tricks_37 : decode cX7_tricks 37 = .ok (.iload_n 3, 1) := by decide +kernel
theorem dX7_tricks_38 : decode cX7_tricks 38 = .ok (.invokevirtual 153, 3) := by decide +kernel
theorem dX7_tricks_41 : decode cX7_tricks 41 = .ok (.ireturn, 1) := by decide +kernel
theorem dX7_laySums_0 : decode cX7_laySums 0 = .ok (.aload_n 0, 1) := by decide +kernel
theorem dX7_laySums_1 : decode cX7_laySums 1 = .ok (.iconst 0, 1) := by decide +kernel
theorem dX7_laySums_2 : decode cX7_laySums 2 = .ok (.putfield 156, 3) := by decide +kernel
theorem dX7_laySums_5 : decode cX7_laySums 5 = .ok (.iconst 0, 1) := by decide +kernel
theorem dX7_laySums_6 : decode cX7_laySums 6 = .ok (.istore_n 2, 1) := by decide +kernel
theorem dX7_laySums_7 : decode cX7_laySums 7 = .ok (.iload_n 2, 1) := by decide +kernel
theorem dX7_laySums_8 : decode cX7_laySums 8 = .ok (.iconst 5, 1) := by decide +kernel
theorem dX7_laySums_9 : decode cX7_laySums 9 = .ok (.if_icmp .ge 16, 3) := by decide +kernel
theorem dX7_laySums_12 : decode cX7_laySums 12 = .ok (.aload_n 0, 1) := by decide +kernel
theorem dX7_laySums_13 : decode cX7_laySums 13 = .ok (.getfield 43, 3) := by decide +kernel
theorem dX7_laySums_16 : decode cX7_laySums 16 = .ok (.iload_n 2, 1) := by decide +kernel
theorem dX7_laySums_17 : decode cX7_laySums 17 = .ok (.lconst 0, 1) := by decide +kernel
theorem dX7_laySums_18 : decode cX7_laySums 18 = .ok (.lastore, 1) := by decide +kernel
theorem dX7_laySums_19 : decode cX7_laySums 19 = .ok (.iinc 2 1, 3) := by decide +kernel
theorem dX7_laySums_22 : decode cX7_laySums 22 = .ok (.goto (-15), 3) := by decide +kernel
theorem dX7_laySums_25 : decode cX7_laySums 25 = .ok (.aload_n 0, 1) := by decide +kernel
theorem dX7_laySums_26 : decode cX7_laySums 26 = .ok (.getfield 13, 3) := by decide +kernel
theorem dX7_laySums_29 : decode cX7_laySums 29 = .ok (.iload_n 1, 1) := by decide +kernel
theorem dX7_laySums_30 : decode cX7_laySums 30 = .ok (.iaload, 1) := by decide +kernel
theorem dX7_laySums_31 : decode cX7_laySums 31 = .ok (.istore_n 2, 1) := by decide +kernel
theorem dX7_laySums_32 : decode cX7_laySums 32 = .ok (.bipush 31, 2) := by decide +kernel
theorem dX7_laySums_34 : decode cX7_laySums 34 = .ok (.istore_n 3, 1) := by decide +kernel
theorem dX7_laySums_35 : decode cX7_laySums 35 = .ok (.iload_n 3, 1) := by decide +kernel
theorem dX7_laySums_36 : decode cX7_laySums 36 = .ok (.ldc 54, 2) := by decide +kernel
theorem dX7_laySums_38 : decode cX7_laySums 38 = .ok (.if_icmp .gt 72, 3) := by decide +kernel
theorem dX7_laySums_41 : decode cX7_laySums 41 = .ok (.iload_n 3, 1) := by decide +kernel
theorem dX7_laySums_42 : decode cX7_laySums 42 = .ok (.iload_n 2, 1) := by decide +kernel
theorem dX7_laySums_43 : decode cX7_laySums 43 = .ok (.iand, 1) := by decide +kernel
theorem dX7_laySums_44 : decode cX7_laySums 44 = .ok (.ifCond .ne 58, 3) := by decide +kernel
theorem dX7_laySums_47 : decode cX7_laySums 47 = .ok (.aload_n 0, 1) := by decide +kernel
theorem dX7_laySums_48 : decode cX7_laySums 48 = .ok (.iconst 1, 1) := by decide +kernel
theorem dX7_laySums_49 : decode cX7_laySums 49 = .ok (.iload_n 1, 1) := by decide +kernel
theorem dX7_laySums_50 : decode cX7_laySums 50 = .ok (.isub, 1) := by decide +kernel
theorem dX7_laySums_51 : decode cX7_laySums 51 = .ok (.iload_n 3, 1) := by decide +kernel
theorem dX7_laySums_52 : decode cX7_laySums 52 = .ok (.invokevirtual 134, 3) := by decide +kernel
theorem dX7_laySums_55 : decode cX7_laySums 55 = .ok (.ifCond .eq 47, 3) := by decide +kernel
theorem dX7_laySums_58 : decode cX7_laySums 58 = .ok (.aload_n 0, 1) := by decide +kernel
theorem dX7_laySums_59 : decode cX7_laySums 59 = .ok (.dup, 1) := by decide +kernel
theorem dX7_laySums_60 : decode cX7_laySums 60 = .ok (.getfield 156, 3) := by decide +kernel
theorem dX7_laySums_63 : decode cX7_laySums 63 = .ok (.iconst 1, 1) := by decide +kernel
theorem dX7_laySums_64 : decode cX7_laySums 64 = .ok (.iadd, 1) := by decide +kernel
theorem dX7_laySums_65 : decode cX7_laySums 65 = .ok (.putfield 156, 3) := by decide +kernel
theorem dX7_laySums_68 : decode cX7_laySums 68 = .ok (.iconst 0, 1) := by decide +kernel
theorem dX7_laySums_69 : decode cX7_laySums 69 = .ok (.istore 4, 2) := by decide +kernel
theorem dX7_laySums_71 : decode cX7_laySums 71 = .ok (.iload 4, 2) := by decide +kernel
theorem dX7_laySums_73 : decode cX7_laySums 73 = .ok (.iconst 5, 1) := by decide +kernel
theorem dX7_laySums_74 : decode cX7_laySums 74 = .ok (.if_icmp .ge 28, 3) := by decide +kernel
theorem dX7_laySums_77 : decode cX7_laySums 77 = .ok (.aload_n 0, 1) := by decide +kernel
theorem dX7_laySums_78 : decode cX7_laySums 78 = .ok (.getfield 43, 3) := by decide +kernel
theorem dX7_laySums_81 : decode cX7_laySums 81 = .ok (.iload 4, 2) := by decide +kernel
theorem dX7_laySums_83 : decode cX7_laySums 83 = .ok (.dup2, 1) := by decide +kernel
theorem dX7_laySums_84 : decode cX7_laySums 84 = .ok (.laload, 1) := by decide +kernel
theorem dX7_laySums_85 : decode cX7_laySums 85 = .ok (.aload_n 0, 1) := by decide +kernel
theorem dX7_laySums_86 : decode cX7_laySums 86 = .ok (.iload 4, 2) := by decide +kernel
theorem dX7_laySums_88 : decode cX7_laySums 88 = .ok (.iload_n 2, 1) := by decide +kernel
theorem dX7_laySums_89 : decode cX7_laySums 89 = .ok (.iload_n 3, 1) := by decide +kernel
theorem dX7_laySums_90 : decode cX7_laySums 90 = .ok (.invokevirtual 153, 3) := by decide +kernel
theorem dX7_laySums_93 : decode cX7_laySums 93 = .ok (.i2l, 1) := by decide +kernel
theorem dX7_laySums_94 : decode cX7_laySums 94 = .ok (.ladd, 1) := by decide +kernel
theorem dX7_laySums_95 : decode cX7_laySums 95 = .ok (.lastore, 1) := by decide +kernel
theorem dX7_laySums_96 : decode cX7_laySums 96 = .ok (.iinc 4 1, 3) := by decide +kernel
theorem dX7_laySums_99 : decode cX7_laySums 99 = .ok (.goto (-28), 3) := by decide +kernel
theorem dX7_laySums_102 : decode cX7_laySums 102 = .ok (.iload_n 3, 1) := by decide +kernel
theorem dX7_laySums_103 : decode cX7_laySums 103 = .ok (.invokestatic 98, 3) := by decide +kernel
theorem dX7_laySums_106 : decode cX7_laySums 106 = .ok (.istore_n 3, 1) := by decide +kernel
theorem dX7_laySums_107 : decode cX7_laySums 107 = .ok (.goto (-72), 3) := by decide +kernel
theorem dX7_laySums_110 : decode cX7_laySums 110 = .ok (.return_, 1) := by decide +kernel
theorem dX7_expected_0 : decode cX7_expected 0 = .ok (.iload_n 1, 1) := by decide +kernel
theorem dX7_expected_1 : decode cX7_expected 1 = .ok (.invokestatic 105, 3) := by decide +kernel
theorem dX7_expected_4 : decode cX7_expected 4 = .ok (.ifCond .ne 7, 3) := by decide +kernel
theorem dX7_expected_7 : decode cX7_expected 7 = .ok (.ldc2_w 159, 3) := by decide +kernel
theorem dX7_expected_10 : decode cX7_expected 10 = .ok (.lreturn, 1) := by decide +kernel
theorem dX7_expected_11 : decode cX7_expected 11 = .ok (.iload_n 2, 1) := by decide +kernel
theorem dX7_expected_12 : decode cX7_expected 12 = .ok (.iconst 0, 1) := by decide +kernel
theorem dX7_expected_13 : decode cX7_expected 13 = .ok (.iconst 4, 1) := by decide +kernel
theorem dX7_expected_14 : decode cX7_expected 14 = .ok (.invokestatic 55, 3) := by decide +kernel
theorem dX7_expected_17 : decode cX7_expected 17 = .ok (.ifCond .ne 7, 3) := by decide +kernel
theorem dX7_expected_20 : decode cX7_expected 20 = .ok (.ldc2_w 161, 3) := by decide +kernel
theorem dX7_expected_23 : decode cX7_expected 23 = .ok (.lreturn, 1) := by decide +kernel
theorem dX7_expected_24 : decode cX7_expected 24 = .ok (.aload_n 0, 1) := by decide +kernel
theorem dX7_expected_25 : decode cX7_expected 25 = .ok (.iload_n 1, 1) := by decide +kernel
theorem dX7_expected_26 : decode cX7_expected 26 = .ok (.invokevirtual 163, 3) := by decide +kernel
theorem dX7_expected_29 : decode cX7_expected 29 = .ok (.aload_n 0, 1) := by decide +kernel
theorem dX7_expected_30 : decode cX7_expected 30 = .ok (.getfield 43, 3) := by decide +kernel
theorem dX7_expected_33 : decode cX7_expected 33 = .ok (.iload_n 2, 1) := by decide +kernel
theorem dX7_expected_34 : decode cX7_expected 34 = .ok (.laload, 1) := by decide +kernel
theorem dX7_expected_35 : decode cX7_expected 35 = .ok (.lreturn, 1) := by decide +kernel
theorem dX7_contract_0 : decode cX7_contract 0 = .ok (.iload_n 1, 1) := by decide +kernel
theorem dX7_contract_1 : decode cX7_contract 1 = .ok (.invokestatic 105, 3) := by decide +kernel
theorem dX7_contract_4 : decode cX7_contract 4 = .ok (.ifCond .ne 5, 3) := by decide +kernel
theorem dX7_contract_7 : decode cX7_contract 7 = .ok (.iconst (-1), 1) := by decide +kernel
theorem dX7_contract_8 : decode cX7_contract 8 = .ok (.ireturn, 1) := by decide +kernel
theorem dX7_contract_9 : decode cX7_contract 9 = .ok (.aload_n 0, 1) := by decide +kernel
theorem dX7_contract_10 : decode cX7_contract 10 = .ok (.iload_n 1, 1) := by decide +kernel
theorem dX7_contract_11 : decode cX7_contract 11 = .ok (.invokevirtual 163, 3) := by decide +kernel
theorem dX7_contract_14 : decode cX7_contract 14 = .ok (.iconst 0, 1) := by decide +kernel
theorem dX7_contract_15 : decode cX7_contract 15 = .ok (.istore_n 2, 1) := by decide +kernel
theorem dX7_contract_16 : decode cX7_contract 16 = .ok (.iconst 1, 1) := by decide +kernel
theorem dX7_contract_17 : decode cX7_contract 17 = .ok (.istore_n 3, 1) := by decide +kernel
theorem dX7_contract_18 : decode cX7_contract 18 = .ok (.iload_n 3, 1) := by decide +kernel
theorem dX7_contract_19 : decode cX7_contract 19 = .ok (.iconst 5, 1) := by decide +kernel
theorem dX7_contract_20 : decode cX7_contract 20 = .ok (.if_icmp .ge 31, 3) := by decide +kernel
theorem dX7_contract_23 : decode cX7_contract 23 = .ok (.aload_n 0, 1) := by decide +kernel
theorem dX7_contract_24 : decode cX7_contract 24 = .ok (.getfield 43, 3) := by decide +kernel
theorem dX7_contract_27 : decode cX7_contract 27 = .ok (.iload_n 3, 1) := by decide +kernel
theorem dX7_contract_28 : decode cX7_contract 28 = .ok (.laload, 1) := by decide +kernel
theorem dX7_contract_29 : decode cX7_contract 29 = .ok (.aload_n 0, 1) := by decide +kernel
theorem dX7_contract_30 : decode cX7_contract 30 = .ok (.getfield 43, 3) := by decide +kernel
theorem dX7_contract_33 : decode cX7_contract 33 = .ok (.iload_n 2, 1) := by decide +kernel
theorem dX7_contract_34 : decode cX7_contract 34 = .ok (.laload, 1) := by decide +kernel
theorem dX7_contract_35 : decode cX7_contract 35 = .ok (.lcmp, 1) := by decide +kernel
theorem dX7_contract_36 : decode cX7_contract 36 = .ok (.ifCond .lt 7, 3) := by decide +kernel
theorem dX7_contract_39 : decode cX7_contract 39 = .ok (.iload_n 3, 1) := by decide +kernel
theorem dX7_contract_40 : decode cX7_contract 40 = .ok (.goto 4, 3) := by decide +kernel
theorem dX7_contract_43 : decode cX7_contract 43 = .ok (.iload_n 2, 1) := by decide +kernel
theorem dX7_contract_44 : decode cX7_contract 44 = .ok (.istore_n 2, 1) := by decide +kernel
theorem dX7_contract_45 : decode cX7_contract 45 = .ok (.iinc 3 1, 3) := by decide +kernel
theorem dX7_contract_48 : decode cX7_contract 48 = .ok (.goto (-30), 3) := by decide +kernel
theorem dX7_contract_51 : decode cX7_contract 51 = .ok (.aload_n 0, 1) := by decide +kernel
theorem dX7_contract_52 : decode cX7_contract 52 = .ok (.getfield 156, 3) := by decide +kernel
theorem dX7_contract_55 : decode cX7_contract 55 = .ok (.ifCond .ne 7, 3) := by decide +kernel
theorem dX7_contract_58 : decode cX7_contract 58 = .ok (.iconst 0, 1) := by decide +kernel
theorem dX7_contract_59 : decode cX7_contract 59 = .ok (.goto 16, 3) := by decide +kernel
theorem dX7_contract_62 : decode cX7_contract 62 = .ok (.aload_n 0, 1) := by decide +kernel
theorem dX7_contract_63 : decode cX7_contract 63 = .ok (.getfield 43, 3) := by decide +kernel
theorem dX7_contract_66 : decode cX7_contract 66 = .ok (.iload_n 2, 1) := by decide +kernel
theorem dX7_contract_67 : decode cX7_contract 67 = .ok (.laload, 1) := by decide +kernel
theorem dX7_contract_68 : decode cX7_contract 68 = .ok (.aload_n 0, 1) := by decide +kernel
theorem dX7_contract_69 : decode cX7_contract 69 = .ok (.getfield 156, 3) := by decide +kernel
theorem dX7_contract_72 : decode cX7_contract 72 = .ok (.i2l, 1) := by decide +kernel
theorem dX7_contract_73 : decode cX7_contract 73 = .ok (.ldiv, 1) := by decide +kernel
theorem dX7_contract_74 : decode cX7_contract 74 = .ok (.l2i, 1) := by decide +kernel
theorem dX7_contract_75 : decode cX7_contract 75 = .ok (.istore_n 3, 1) := by decide +kernel
theorem dX7_contract_76 : decode cX7_contract 76 = .ok (.iload_n 3, 1) := by decide +kernel
theorem dX7_contract_77 : decode cX7_contract 77 = .ok (.ifCond .ne 8, 3) := by decide +kernel
theorem dX7_contract_80 : decode cX7_contract 80 = .ok (.bipush (-6), 2) := by decide +kernel
theorem dX7_contract_82 : decode cX7_contract 82 = .ok (.goto 10, 3) := by decide +kernel
theorem dX7_contract_85 : decode cX7_contract 85 = .ok (.iconst 5, 1) := by decide +kernel
theorem dX7_contract_86 : decode cX7_contract 86 = .ok (.iload_n 3, 1) := by decide +kernel
theorem dX7_contract_87 : decode cX7_contract 87 = .ok (.iconst 1, 1) := by decide +kernel
theorem dX7_contract_88 : decode cX7_contract 88 = .ok (.isub, 1) := by decide +kernel
theorem dX7_contract_89 : decode cX7_contract 89 = .ok (.imul, 1) := by decide +kernel
theorem dX7_contract_90 : decode cX7_contract 90 = .ok (.iload_n 2, 1) := by decide +kernel
theorem dX7_contract_91 : decode cX7_contract 91 = .ok (.iadd, 1) := by decide +kernel
theorem dX7_contract_92 : decode cX7_contract 92 = .ok (.ireturn, 1) := by decide +kernel
theorem dX7_put_0 : decode cX7_put 0 = .ok (.iconst 0, 1) := by decide +kernel
theorem dX7_put_1 : decode cX7_put 1 = .ok (.istore_n 3, 1) := by decide +kernel
theorem dX7_put_2 : decode cX7_put 2 = .ok (.lload_n 1, 1) := by decide +kernel
theorem dX7_put_3 : decode cX7_put 3 = .ok (.lstore 4, 2) := by decide +kernel
theorem dX7_put_5 : decode cX7_put 5 = .ok (.iload_n 3, 1) := by decide +kernel
theorem dX7_put_6 : decode cX7_put 6 = .ok (.bipush 8, 2) := by decide +kernel
theorem dX7_put_8 : decode cX7_put 8 = .ok (.if_icmp .ge 47, 3) := by decide +kernel
theorem dX7_put_11 : decode cX7_put 11 = .ok (.lload 4, 2) := by decide +kernel
theorem dX7_put_13 : decode cX7_put 13 = .ok (.ldc2_w 166, 3) := by decide +kernel
theorem dX7_put_16 : decode cX7_put 16 = .ok (.land, 1) := by decide +kernel
theorem dX7_put_17 : decode cX7_put 17 = .ok (.lconst 0, 1) := by decide +kernel
theorem dX7_put_18 : decode cX7_put 18 = .ok (.lcmp, 1) := by decide +kernel
theorem dX7_put_19 : decode cX7_put 19 = .ok (.ifCond .eq 36, 3) := by decide +kernel
theorem dX7_put_22 : decode cX7_put 22 = .ok (.lload 4, 2) := by decide +kernel
theorem dX7_put_24 : decode cX7_put 24 = .ok (.ldc2_w 166, 3) := by decide +kernel
theorem dX7_put_27 : decode cX7_put 27 = .ok (.land, 1) := by decide +kernel
theorem dX7_put_28 : decode cX7_put 28 = .ok (.l2i, 1) := by decide +kernel
theorem dX7_put_29 : decode cX7_put 29 = .ok (.bipush 33, 2) := by decide +kernel
theorem dX7_put_31 : decode cX7_put 31 = .ok (.bipush 126, 2) := by decide +kernel
theorem dX7_put_33 : decode cX7_put 33 = .ok (.invokestatic 55, 3) := by decide +kernel
theorem dX7_put_36 : decode cX7_put 36 = .ok (.ifCond .ne 6, 3) := by decide +kernel
theorem dX7_put_39 : decode cX7_put 39 = .ok (.bipush (-2), 2) := by decide +kernel
theorem dX7_put_41 : decode cX7_put 41 = .ok (.ireturn, 1) := by decide +kernel
theorem dX7_put_42 : decode cX7_put 42 = .ok (.iinc 3 1, 3) := by decide +kernel
theorem dX7_put_45 : decode cX7_put 45 = .ok (.lload 4, 2) := by decide +kernel
theorem dX7_put_47 : decode cX7_put 47 = .ok (.bipush 8, 2) := by decide +kernel
theorem dX7_put_49 : decode cX7_put 49 = .ok (.lushr, 1) := by decide +kernel
theorem dX7_put_50 : decode cX7_put 50 = .ok (.lstore 4, 2) := by decide +kernel
theorem dX7_put_52 : decode cX7_put 52 = .ok (.goto (-47), 3) := by decide +kernel
theorem dX7_put_55 : decode cX7_put 55 = .ok (.iload_n 3, 1) := by decide +kernel
theorem dX7_put_56 : decode cX7_put 56 = .ok (.ifCond .eq 10, 3) := by decide +kernel
theorem dX7_put_59 : decode cX7_put 59 = .ok (.lload 4, 2) := by decide +kernel
theorem dX7_put_61 : decode cX7_put 61 = .ok (.lconst 0, 1) := by decide +kernel
theorem dX7_put_62 : decode cX7_put 62 = .ok (.lcmp, 1) := by decide +kernel
theorem dX7_put_63 : decode cX7_put 63 = .ok (.ifCond .eq 6, 3) := by decide +kernel
theorem dX7_put_66 : decode cX7_put 66 = .ok (.bipush (-2), 2) := by decide +kernel
theorem dX7_put_68 : decode cX7_put 68 = .ok (.ireturn, 1) := by decide +kernel
theorem dX7_put_69 : decode cX7_put 69 = .ok (.aload_n 0, 1) := by decide +kernel
theorem dX7_put_70 : decode cX7_put 70 = .ok (.getfield 131, 3) := by decide +kernel
theorem dX7_put_73 : decode cX7_put 73 = .ok (.iload_n 3, 1) := by decide +kernel
theorem dX7_put_74 : decode cX7_put 74 = .ok (.iadd, 1) := by decide +kernel
theorem dX7_put_75 : decode cX7_put 75 = .ok (.bipush 60, 2) := by decide +kernel
theorem dX7_put_77 : decode cX7_put 77 = .ok (.if_icmp .le 6, 3) := by decide +kernel
theorem dX7_put_80 : decode cX7_put 80 = .ok (.bipush (-4), 2) := by decide +kernel
theorem dX7_put_82 : decode cX7_put 82 = .ok (.ireturn, 1) := by decide +kernel
theorem dX7_put_83 : decode cX7_put 83 = .ok (.iconst 0, 1) := by decide +kernel
theorem dX7_put_84 : decode cX7_put 84 = .ok (.istore 6, 2) := by decide +kernel
theorem dX7_put_86 : decode cX7_put 86 = .ok (.iload 6, 2) := by decide +kernel
theorem dX7_put_88 : decode cX7_put 88 = .ok (.iload_n 3, 1) := by decide +kernel
theorem dX7_put_89 : decode cX7_put 89 = .ok (.if_icmp .ge 37, 3) := by decide +kernel
theorem dX7_put_92 : decode cX7_put 92 = .ok (.aload_n 0, 1) := by decide +kernel
theorem dX7_put_93 : decode cX7_put 93 = .ok (.getfield 37, 3) := by decide +kernel
theorem dX7_put_96 : decode cX7_put 96 = .ok (.aload_n 0, 1) := by decide +kernel
theorem dX7_put_97 : decode cX7_put 97 = .ok (.getfield 131, 3) := by decide +kernel
theorem dX7_put_100 : decode cX7_put 100 = .ok (.iload 6, 2) := by decide +kernel
theorem dX7_put_102 : decode cX7_put 102 = .ok (.iadd, 1) := by decide +kernel
theorem dX7_put_103 : decode cX7_put 103 = .ok (.lload_n 1, 1) := by decide +kernel
theorem dX7_put_104 : decode cX7_put 104 = .ok (.bipush 8, 2) := by decide +kernel
theorem dX7_put_106 : decode cX7_put 106 = .ok (.iload_n 3, 1) := by decide +kernel
theorem dX7_put_107 : decode cX7_put 107 = .ok (.iconst 1, 1) := by decide +kernel
theorem dX7_put_108 : decode cX7_put 108 = .ok (.isub, 1) := by decide +kernel
theorem dX7_put_109 : decode cX7_put 109 = .ok (.iload 6, 2) := by decide +kernel
theorem dX7_put_111 : decode cX7_put 111 = .ok (.isub, 1) := by decide +kernel
theorem dX7_put_112 : decode cX7_put 112 = .ok (.imul, 1) := by decide +kernel
theorem dX7_put_113 : decode cX7_put 113 = .ok (.lshr, 1) := by decide +kernel
theorem dX7_put_114 : decode cX7_put 114 = .ok (.ldc2_w 166, 3) := by decide +kernel
theorem dX7_put_117 : decode cX7_put 117 = .ok (.land, 1) := by decide +kernel
theorem dX7_put_118 : decode cX7_put 118 = .ok (.l2i, 1) := by decide +kernel
theorem dX7_put_119 : decode cX7_put 119 = .ok (.iastore, 1) := by decide +kernel
theorem dX7_put_120 : decode cX7_put 120 = .ok (.iinc 6 1, 3) := by decide +kernel
theorem dX7_put_123 : decode cX7_put 123 = .ok (.goto (-37), 3) := by decide +kernel
theorem dX7_put_126 : decode cX7_put 126 = .ok (.aload_n 0, 1) := by decide +kernel
theorem dX7_put_127 : decode cX7_put 127 = .ok (.dup, 1) := by decide +kernel
theorem dX7_put_128 : decode cX7_put 128 = .ok (.getfield 131, 3) := by decide +kernel
theorem dX7_put_131 : decode cX7_put 131 = .ok (.iload_n 3, 1) := by decide +kernel
theorem dX7_put_132 : decode cX7_put 132 = .ok (.iadd, 1) := by decide +kernel
theorem dX7_put_133 : decode cX7_put 133 = .ok (.putfield 131, 3) := by decide +kernel
theorem dX7_put_136 : decode cX7_put 136 = .ok (.aload_n 0, 1) := by decide +kernel
theorem dX7_put_137 : decode cX7_put 137 = .ok (.getfield 131, 3) := by decide +kernel
theorem dX7_put_140 : decode cX7_put 140 = .ok (.ireturn, 1) := by decide +kernel
theorem dX7_wipe_0 : decode cX7_wipe 0 = .ok (.aload_n 0, 1) := by decide +kernel
theorem dX7_wipe_1 : decode cX7_wipe 1 = .ok (.getfield 131, 3) := by decide +kernel
theorem dX7_wipe_4 : decode cX7_wipe 4 = .ok (.istore_n 1, 1) := by decide +kernel
theorem dX7_wipe_5 : decode cX7_wipe 5 = .ok (.aload_n 0, 1) := by decide +kernel
theorem dX7_wipe_6 : decode cX7_wipe 6 = .ok (.iconst 0, 1) := by decide +kernel
theorem dX7_wipe_7 : decode cX7_wipe 7 = .ok (.putfield 131, 3) := by decide +kernel
theorem dX7_wipe_10 : decode cX7_wipe 10 = .ok (.iload_n 1, 1) := by decide +kernel
theorem dX7_wipe_11 : decode cX7_wipe 11 = .ok (.ireturn, 1) := by decide +kernel
theorem dX7_next_0 : decode cX7_next 0 = .ok (.aload_n 0, 1) := by decide +kernel
theorem dX7_next_1 : decode cX7_next 1 = .ok (.getfield 168, 3) := by decide +kernel
theorem dX7_next_4 : decode cX7_next 4 = .ok (.aload_n 0, 1) := by decide +kernel
theorem dX7_next_5 : decode cX7_next 5 = .ok (.getfield 131, 3) := by decide +kernel
theorem dX7_next_8 : decode cX7_next 8 = .ok (.if_icmp .ge 15, 3) := by decide +kernel
theorem dX7_next_11 : decode cX7_next 11 = .ok (.aload_n 0, 1) := by decide +kernel
theorem dX7_next_12 : decode cX7_next 12 = .ok (.getfield 37, 3) := by decide +kernel
theorem dX7_next_15 : decode cX7_next 15 = .ok (.aload_n 0, 1) := by decide +kernel
theorem dX7_next_16 : decode cX7_next 16 = .ok (.getfield 168, 3) := by decide +kernel
theorem dX7_next_19 : decode cX7_next 19 = .ok (.iaload, 1) := by decide +kernel
theorem dX7_next_20 : decode cX7_next 20 = .ok (.goto 4, 3) := by decide +kernel
theorem dX7_next_23 : decode cX7_next 23 = .ok (.iconst 0, 1) := by decide +kernel
theorem dX7_next_24 : decode cX7_next 24 = .ok (.ireturn, 1) := by decide +kernel
theorem dX7_takeOne_0 : decode cX7_takeOne 0 = .ok (.aload_n 0, 1) := by decide +kernel
theorem dX7_takeOne_1 : decode cX7_takeOne 1 = .ok (.aload_n 0, 1) := by decide +kernel
theorem dX7_takeOne_2 : decode cX7_takeOne 2 = .ok (.getfield 171, 3) := by decide +kernel
theorem dX7_takeOne_5 : decode cX7_takeOne 5 = .ok (.ifCond .ne 15, 3) := by decide +kernel
theorem dX7_takeOne_8 : decode cX7_takeOne 8 = .ok (.aload_n 0, 1) := by decide +kernel
theorem dX7_takeOne_9 : decode cX7_takeOne 9 = .ok (.invokevirtual 174, 3) := by decide +kernel
theorem dX7_takeOne_12 : decode cX7_takeOne 12 = .ok (.iload_n 1, 1) := by decide +kernel
theorem dX7_takeOne_13 : decode cX7_takeOne 13 = .ok (.iload_n 2, 1) := by decide +kernel
theorem dX7_takeOne_14 : decode cX7_takeOne 14 = .ok (.invokestatic 55, 3) := by decide +kernel
theorem dX7_takeOne_17 : decode cX7_takeOne 17 = .ok (.ifCond .ne 7, 3) := by decide +kernel
theorem dX7_takeOne_20 : decode cX7_takeOne 20 = .ok (.iconst 1, 1) := by decide +kernel
theorem dX7_takeOne_21 : decode cX7_takeOne 21 = .ok (.goto 4, 3) := by decide +kernel
theorem dX7_takeOne_24 : decode cX7_takeOne 24 = .ok (.iconst 0, 1) := by decide +kernel
theorem dX7_takeOne_25 : decode cX7_takeOne 25 = .ok (.putfield 171, 3) := by decide +kernel
theorem dX7_takeOne_28 : decode cX7_takeOne 28 = .ok (.aload_n 0, 1) := by decide +kernel
theorem dX7_takeOne_29 : decode cX7_takeOne 29 = .ok (.invokevirtual 174, 3) := by decide +kernel
theorem dX7_takeOne_32 : decode cX7_takeOne 32 = .ok (.iload_n 1, 1) := by decide +kernel
theorem dX7_takeOne_33 : decode cX7_takeOne 33 = .ok (.isub, 1) := by decide +kernel
theorem dX7_takeOne_34 : decode cX7_takeOne 34 = .ok (.istore_n 3, 1) := by decide +kernel
theorem dX7_takeOne_35 : decode cX7_takeOne 35 = .ok (.aload_n 0, 1) := by decide +kernel
theorem dX7_takeOne_36 : decode cX7_takeOne 36 = .ok (.dup, 1) := by decide +kernel
theorem dX7_takeOne_37 : decode cX7_takeOne 37 = .ok (.getfield 168, 3) := by decide +kernel
theorem dX7_takeOne_40 : decode cX7_takeOne 40 = .ok (.aload_n 0, 1) := by decide +kernel
theorem dX7_takeOne_41 : decode cX7_takeOne 41 = .ok (.getfield 171, 3) := by decide +kernel
theorem dX7_takeOne_44 : decode cX7_takeOne 44 = .ok (.ifCond .eq 7, 3) := by decide +kernel
theorem dX7_takeOne_47 : decode cX7_takeOne 47 = .ok (.iconst 0, 1) := by decide +kernel
theorem dX7_takeOne_48 : decode cX7_takeOne 48 = .ok (.goto 4, 3) := by decide +kernel
theorem dX7_takeOne_51 : decode cX7_takeOne 51 = .ok (.iconst 1, 1) := by decide +kernel
theorem dX7_takeOne_52 : decode cX7_takeOne 52 = .ok (.iadd, 1) := by decide +kernel
theorem dX7_takeOne_53 : decode cX7_takeOne 53 = .ok (.putfield 168, 3) := by decide +kernel
theorem dX7_takeOne_56 : decode cX7_takeOne 56 = .ok (.aload_n 0, 1) := by decide +kernel
theorem dX7_takeOne_57 : decode cX7_takeOne 57 = .ok (.getfield 171, 3) := by decide +kernel
theorem dX7_takeOne_60 : decode cX7_takeOne 60 = .ok (.ifCond .eq 7, 3) := by decide +kernel
theorem dX7_takeOne_63 : decode cX7_takeOne 63 = .ok (.iconst 0, 1) := by decide +kernel
theorem dX7_takeOne_64 : decode cX7_takeOne 64 = .ok (.goto 4, 3) := by decide +kernel
theorem dX7_takeOne_67 : decode cX7_takeOne 67 = .ok (.iload_n 3, 1) := by decide +kernel
theorem dX7_takeOne_68 : decode cX7_takeOne 68 = .ok (.ireturn, 1) := by decide +kernel
theorem dX7_suitBy_0 : decode cX7_suitBy 0 = .ok (.iload_n 0, 1) := by decide +kernel
theorem dX7_suitBy_1 : decode cX7_suitBy 1 = .ok (.bipush 99, 2) := by decide +kernel
theorem dX7_suitBy_3 : decode cX7_suitBy 3 = .ok (.if_icmp .ne 7, 3) := by decide +kernel
theorem dX7_suitBy_6 : decode cX7_suitBy 6 = .ok (.iconst 0, 1) := by decide +kernel
theorem dX7_suitBy_7 : decode cX7_suitBy 7 = .ok (.goto 35, 3) := by decide +kernel
theorem dX7_suitBy_10 : decode cX7_suitBy 10 = .ok (.iload_n 0, 1) := by decide +kernel
theorem dX7_suitBy_11 : decode cX7_suitBy 11 = .ok (.bipush 100, 2) := by decide +kernel
theorem dX7_suitBy_13 : decode cX7_suitBy 13 = .ok (.if_icmp .ne 7, 3) := by decide +kernel
theorem dX7_suitBy_16 : decode cX7_suitBy 16 = .ok (.iconst 1, 1) := by decide +kernel
theorem dX7_suitBy_17 : decode cX7_suitBy 17 = .ok (.goto 25, 3) := by decide +kernel
theorem dX7_suitBy_20 : decode cX7_suitBy 20 = .ok (.iload_n 0, 1) := by decide +kernel
theorem dX7_suitBy_21 : decode cX7_suitBy 21 = .ok (.bipush 104, 2) := by decide +kernel
theorem dX7_suitBy_23 : decode cX7_suitBy 23 = .ok (.if_icmp .ne 7, 3) := by decide +kernel
theorem dX7_suitBy_26 : decode cX7_suitBy 26 = .ok (.iconst 2, 1) := by decide +kernel
theorem dX7_suitBy_27 : decode cX7_suitBy 27 = .ok (.goto 15, 3) := by decide +kernel
theorem dX7_suitBy_30 : decode cX7_suitBy 30 = .ok (.iload_n 0, 1) := by decide +kernel
theorem dX7_suitBy_31 : decode cX7_suitBy 31 = .ok (.bipush 115, 2) := by decide +kernel
theorem dX7_suitBy_33 : decode cX7_suitBy 33 = .ok (.if_icmp .ne 7, 3) := by decide +kernel
theorem dX7_suitBy_36 : decode cX7_suitBy 36 = .ok (.iconst 3, 1) := by decide +kernel
theorem dX7_suitBy_37 : decode cX7_suitBy 37 = .ok (.goto 5, 3) := by decide +kernel
theorem dX7_suitBy_40 : decode cX7_suitBy 40 = .ok (.bipush (-6), 2) := by decide +kernel
theorem dX7_suitBy_42 : decode cX7_suitBy 42 = .ok (.ireturn, 1) := by decide +kernel
theorem dX7_takeNumber_0 : decode cX7_takeNumber 0 = .ok (.aload_n 0, 1) := by decide +kernel
theorem dX7_takeNumber_1 : decode cX7_takeNumber 1 = .ok (.bipush 48, 2) := by decide +kernel
theorem dX7_takeNumber_3 : decode cX7_takeNumber 3 = .ok (.bipush 48, 2) := by decide +kernel
theorem dX7_takeNumber_5 : decode cX7_takeNumber 5 = .ok (.iload_n 1, 1) := by decide +kernel
theorem dX7_takeNumber_6 : decode cX7_takeNumber 6 = .ok (.bipush 9, 2) := by decide +kernel
theorem dX7_takeNumber_8 : decode cX7_takeNumber 8 = .ok (.if_icmp .ge 7, 3) := by decide +kernel
theorem dX7_takeNumber_11 : decode cX7_takeNumber 11 = .ok (.iload_n 1, 1) := by decide +kernel
theorem dX7_takeNumber_12 : decode cX7_takeNumber 12 = .ok (.goto 5, 3) := by decide +kernel
theorem dX7_takeNumber_15 : decode cX7_takeNumber 15 = .ok (.bipush 9, 2) := by decide +kernel
theorem dX7_takeNumber_17 : decode cX7_takeNumber 17 = .ok (.iadd, 1) := by decide +kernel
theorem dX7_takeNumber_18 : decode cX7_takeNumber 18 = .ok (.invokevirtual 177, 3) := by decide +kernel
theorem dX7_takeNumber_21 : decode cX7_takeNumber 21 = .ok (.istore_n 2, 1) := by decide +kernel
theorem dX7_takeNumber_22 : decode cX7_takeNumber 22 = .ok (.aload_n 0, 1) := by decide +kernel
theorem dX7_takeNumber_23 : decode cX7_takeNumber 23 = .ok (.getfield 171, 3) := by decide +kernel
theorem dX7_takeNumber_26 : decode cX7_takeNumber 26 = .ok (.ifCond .ne 63, 3) := by decide +kernel
theorem dX7_takeNumber_29 : decode cX7_takeNumber 29 = .ok (.iload_n 2, 1) := by decide +kernel
theorem dX7_takeNumber_30 : decode cX7_takeNumber 30 = .ok (.ifCond .le 59, 3) := by decide +kernel
theorem dX7_takeNumber_33 : decode cX7_takeNumber 33 = .ok (.aload_n 0, 1) := by decide +kernel
theorem dX7_takeNumber_34 : decode cX7_takeNumber 34 = .ok (.invokevirtual 174, 3) := by decide +kernel
theorem dX7_takeNumber_37 : decode cX7_takeNumber 37 = .ok (.bipush 48, 2) := by decide +kernel
theorem dX7_takeNumber_39 : decode cX7_takeNumber 39 = .ok (.bipush 57, 2) := by decide +kernel
theorem dX7_takeNumber_41 : decode cX7_takeNumber 41 = .ok (.invokestatic 55, 3) := by decide +kernel
theorem dX7_takeNumber_44 : decode cX7_takeNumber 44 = .ok (.ifCond .eq 45, 3) := by decide +kernel
theorem dX7_takeNumber_47 : decode cX7_takeNumber 47 = .ok (.bipush 10, 2) := by decide +kernel
theorem dX7_takeNumber_49 : decode cX7_takeNumber 49 = .ok (.iload_n 2, 1) := by decide +kernel
theorem dX7_takeNumber_50 : decode cX7_takeNumber 50 = .ok (.imul, 1) := by decide +kernel
theorem dX7_takeNumber_51 : decode cX7_takeNumber 51 = .ok (.aload_n 0, 1) := by decide +kernel
theorem dX7_takeNumber_52 : decode cX7_takeNumber 52 = .ok (.invokevirtual 174, 3) := by decide +kernel
theorem dX7_takeNumber_55 : decode cX7_takeNumber 55 = .ok (.iadd, 1) := by decide +kernel
theorem dX7_takeNumber_56 : decode cX7_takeNumber 56 = .ok (.bipush 48, 2) := by decide +kernel
theorem dX7_takeNumber_58 : decode cX7_takeNumber 58 = .ok (.isub, 1) := by decide +kernel
theorem dX7_takeNumber_59 : decode cX7_takeNumber 59 = .ok (.iload_n 1, 1) := by decide +kernel
theorem dX7_takeNumber_60 : decode cX7_takeNumber 60 = .ok (.if_icmp .gt 29, 3) := by decide +kernel
theorem dX7_takeNumber_63 : decode cX7_takeNumber 63 = .ok (.bipush 10, 2) := by decide +kernel
theorem dX7_takeNumber_65 : decode cX7_takeNumber 65 = .ok (.iload_n 2, 1) := by decide +kernel
theorem dX7_takeNumber_66 : decode cX7_takeNumber 66 = .ok (.imul, 1) := by decide +kernel
theorem dX7_takeNumber_67 : decode cX7_takeNumber 67 = .ok (.aload_n 0, 1) := by decide +kernel
theorem dX7_takeNumber_68 : decode cX7_takeNumber 68 = .ok (.invokevirtual 174, 3) := by decide +kernel
theorem dX7_takeNumber_71 : decode cX7_takeNumber 71 = .ok (.iadd, 1) := by decide +kernel
theorem dX7_takeNumber_72 : decode cX7_takeNumber 72 = .ok (.bipush 48, 2) := by decide +kernel
theorem dX7_takeNumber_74 : decode cX7_takeNumber 74 = .ok (.isub, 1) := by decide +kernel
theorem dX7_takeNumber_75 : decode cX7_takeNumber 75 = .ok (.istore_n 2, 1) := by decide +kernel
theorem dX7_takeNumber_76 : decode cX7_takeNumber 76 = .ok (.aload_n 0, 1) := by decide +kernel
theorem dX7_takeNumber_77 : decode cX7_takeNumber 77 = .ok (.dup, 1) := by decide +kernel
theorem dX7_takeNumber_78 : decode cX7_takeNumber 78 = .ok (.getfield 168, 3) := by decide +kernel
theorem dX7_takeNumber_81 : decode cX7_takeNumber 81 = .ok (.iconst 1, 1) := by decide +kernel
theorem dX7_takeNumber_82 : decode cX7_takeNumber 82 = .ok (.iadd, 1) := by decide +kernel
theorem dX7_takeNumber_83 : decode cX7_takeNumber 83 = .ok (.putfield 168, 3) := by decide +kernel
theorem dX7_takeNumber_86 : decode cX7_takeNumber 86 = .ok (.goto (-64), 3) := by decide +kernel
theorem dX7_takeNumber_89 : decode cX7_takeNumber 89 = .ok (.iload_n 2, 1) := by decide +kernel
theorem dX7_takeNumber_90 : decode cX7_takeNumber 90 = .ok (.ireturn, 1) := by decide +kernel
theorem dX7_takeCall_0 : decode cX7_takeCall 0 = .ok (.aload_n 0, 1) := by decide +kernel
theorem dX7_takeCall_1 : decode cX7_takeCall 1 = .ok (.getfield 171, 3) := by decide +kernel
theorem dX7_takeCall_4 : decode cX7_takeCall 4 = .ok (.ifCond .ne 31, 3) := by decide +kernel
theorem dX7_takeCall_7 : decode cX7_takeCall 7 = .ok (.aload_n 0, 1) := by decide +kernel
theorem dX7_takeCall_8 : decode cX7_takeCall 8 = .ok (.invokevirtual 174, 3) := by decide +kernel
theorem dX7_takeCall_11 : decode cX7_takeCall 11 = .ok (.bipush 112, 2) := by decide +kernel
theorem dX7_takeCall_13 : decode cX7_takeCall 13 = .ok (.if_icmp .ne 22, 3) := by decide +kernel
theorem dX7_takeCall_16 : decode cX7_takeCall 16 = .ok (.aload_n 0, 1) := by decide +kernel
theorem dX7_takeCall_17 : decode cX7_takeCall 17 = .ok (.dup, 1) := by decide +kernel
theorem dX7_takeCall_18 : decode cX7_takeCall 18 = .ok (.getfield 168, 3) := by decide +kernel
theorem dX7_takeCall_21 : decode cX7_takeCall 21 = .ok (.iconst 1, 1) := by decide +kernel
theorem dX7_takeCall_22 : decode cX7_takeCall 22 = .ok (.iadd, 1) := by decide +kernel
theorem dX7_takeCall_23 : decode cX7_takeCall 23 = .ok (.putfield 168, 3) := by decide +kernel
theorem dX7_takeCall_26 : decode cX7_takeCall 26 = .ok (.aload_n 0, 1) := by decide +kernel
theorem dX7_takeCall_27 : decode cX7_takeCall 27 = .ok (.getfield 40, 3) := by decide +kernel
theorem dX7_takeCall_30 : decode cX7_takeCall 30 = .ok (.iconst 1, 1) := by decide +kernel
theorem dX7_takeCall_31 : decode cX7_takeCall 31 = .ok (.bipush 25, 2) := by decide +kernel
theorem dX7_takeCall_33 : decode cX7_takeCall 33 = .ok (.iastore, 1) := by decide +kernel
theorem dX7_takeCall_34 : decode cX7_takeCall 34 = .ok (.return_, 1) := by decide +kernel
theorem dX7_takeCall_35 : decode cX7_takeCall 35 = .ok (.iconst 1, 1) := by decide +kernel
theorem dX7_takeCall_36 : decode cX7_takeCall 36 = .ok (.aload_n 0, 1) := by decide +kernel
theorem dX7_takeCall_37 : decode cX7_takeCall 37 = .ok (.bipush 49, 2) := by decide +kernel
theorem dX7_takeCall_39 : decode cX7_takeCall 39 = .ok (.bipush 53, 2) := by decide +kernel
theorem dX7_takeCall_41 : decode cX7_takeCall 41 = .ok (.invokevirtual 177, 3) := by decide +kernel
theorem dX7_takeCall_44 : decode cX7_takeCall 44 = .ok (.iadd, 1) := by decide +kernel
theorem dX7_takeCall_45 : decode cX7_takeCall 45 = .ok (.istore_n 1, 1) := by decide +kernel
theorem dX7_takeCall_46 : decode cX7_takeCall 46 = .ok (.aload_n 0, 1) := by decide +kernel
theorem dX7_takeCall_47 : decode cX7_takeCall 47 = .ok (.invokevirtual 174, 3) := by decide +kernel
theorem dX7_takeCall_50 : decode cX7_takeCall 50 = .ok (.bipush 110, 2) := by decide +kernel
theorem dX7_takeCall_52 : decode cX7_takeCall 52 = .ok (.if_icmp .ne 7, 3) := by decide +kernel
theorem dX7_takeCall_55 : decode cX7_takeCall 55 = .ok (.iconst 4, 1) := by decide +kernel
theorem dX7_takeCall_56 : decode cX7_takeCall 56 = .ok (.goto 10, 3) := by decide +kernel
theorem dX7_takeCall_59 : decode cX7_takeCall 59 = .ok (.aload_n 0, 1) := by decide +kernel
theorem dX7_takeCall_60 : decode cX7_takeCall 60 = .ok (.invokevirtual 174, 3) := by decide +kernel
theorem dX7_takeCall_63 : decode cX7_takeCall 63 = .ok (.invokestatic 180, 3) := by decide +kernel
theorem dX7_takeCall_66 : decode cX7_takeCall 66 = .ok (.istore_n 2, 1) := by decide +kernel
theorem dX7_takeCall_67 : decode cX7_takeCall 67 = .ok (.aload_n 0, 1) := by decide +kernel
theorem dX7_takeCall_68 : decode cX7_takeCall 68 = .ok (.aload_n 0, 1) := by decide +kernel
theorem dX7_takeCall_69 : decode cX7_takeCall 69 = .ok (.getfield 171, 3) := by decide +kernel
theorem dX7_takeCall_72 : decode cX7_takeCall 72 = .ok (.ifCond .ne 7, 3) := by decide +kernel
theorem dX7_takeCall_75 : decode cX7_takeCall 75 = .ok (.iload_n 2, 1) := by decide +kernel
theorem dX7_takeCall_76 : decode cX7_takeCall 76 = .ok (.ifCond .ge 7, 3) := by decide +kernel
theorem dX7_takeCall_79 : decode cX7_takeCall 79 = .ok (.iconst 1, 1) := by decide +kernel
theorem dX7_takeCall_80 : decode cX7_takeCall 80 = .ok (.goto 4, 3) := by decide +kernel
theorem dX7_takeCall_83 : decode cX7_takeCall 83 = .ok (.iconst 0, 1) := by decide +kernel
theorem dX7_takeCall_84 : decode cX7_takeCall 84 = .ok (.putfield 171, 3) := by decide +kernel
theorem dX7_takeCall_87 : decode cX7_takeCall 87 = .ok (.aload_n 0, 1) := by decide +kernel
theorem dX7_takeCall_88 : decode cX7_takeCall 88 = .ok (.dup, 1) := by decide +kernel
theorem dX7_takeCall_89 : decode cX7_takeCall 89 = .ok (.getfield 168, 3) := by decide +kernel
theorem dX7_takeCall_92 : decode cX7_takeCall 92 = .ok (.aload_n 0, 1) := by decide +kernel
theorem dX7_takeCall_93 : decode cX7_takeCall 93 = .ok (.getfield 171, 3) := by decide +kernel
theorem dX7_takeCall_96 : decode cX7_takeCall 96 = .ok (.ifCond .eq 7, 3) := by decide +kernel
theorem dX7_takeCall_99 : decode cX7_takeCall 99 = .ok (.iconst 0, 1) := by decide +kernel
theorem dX7_takeCall_100 : decode cX7_takeCall 100 = .ok (.goto 4, 3) := by decide +kernel
theorem dX7_takeCall_103 : decode cX7_takeCall 103 = .ok (.iconst 1, 1) := by decide +kernel
theorem dX7_takeCall_104 : decode cX7_takeCall 104 = .ok (.iadd, 1) := by decide +kernel
theorem dX7_takeCall_105 : decode cX7_takeCall 105 = .ok (.putfield 168, 3) := by decide +kernel
theorem dX7_takeCall_108 : decode cX7_takeCall 108 = .ok (.aload_n 0, 1) := by decide +kernel
theorem dX7_takeCall_109 : decode cX7_takeCall 109 = .ok (.getfield 40, 3) := by decide +kernel
theorem dX7_takeCall_112 : decode cX7_takeCall 112 = .ok (.iconst 1, 1) := by decide +kernel
theorem dX7_takeCall_113 : decode cX7_takeCall 113 = .ok (.iconst 5, 1) := by decide +kernel
theorem dX7_takeCall_114 : decode cX7_takeCall 114 = .ok (.iload_n 1, 1) := by decide +kernel
theorem dX7_takeCall_115 : decode cX7_takeCall 115 = .ok (.iconst 1, 1) := by decide +kernel
theorem dX7_takeCall_116 : decode cX7_takeCall 116 = .ok (.isub, 1) := by decide +kernel
theorem dX7_takeCall_117 : decode cX7_takeCall 117 = .ok (.imul, 1) := by decide +kernel
theorem dX7_takeCall_118 : decode cX7_takeCall 118 = .ok (.iload_n 2, 1) := by decide +kernel
theorem dX7_takeCall_119 : decode cX7_takeCall 119 = .ok (.iadd, 1) := by decide +kernel
theorem dX7_takeCall_120 : decode cX7_takeCall 120 = .ok (.iastore, 1) := by decide +kernel
theorem dX7_takeCall_121 : decode cX7_takeCall 121 = .ok (.return_, 1) := by decide +kernel
theorem dX7_takeCondition_0 : decode cX7_takeCondition 0 = .ok (.aload_n 0, 1) := by decide +kernel
theorem dX7_takeCondition_1 : decode cX7_takeCondition 1 = .ok (.invokevirtual 174, 3) := by decide +kernel
theorem dX7_takeCondition_4 : decode cX7_takeCondition 4 = .ok (.bipush 43, 2) := by decide +kernel
theorem dX7_takeCondition_6 : decode cX7_takeCondition 6 = .ok (.if_icmp .ne 7, 3) := by decide +kernel
theorem dX7_takeCondition_9 : decode cX7_takeCondition 9 = .ok (.iconst 4, 1) := by decide +kernel
theorem dX7_takeCondition_10 : decode cX7_takeCondition 10 = .ok (.goto 10, 3) := by decide +kernel
theorem dX7_takeCondition_13 : decode cX7_takeCondition 13 = .ok (.aload_n 0, 1) := by decide +kernel
theorem dX7_takeCondition_14 : decode cX7_takeCondition 14 = .ok (.invokevirtual 174, 3) := by decide +kernel
theorem dX7_takeCondition_17 : decode cX7_takeCondition 17 = .ok (.invokestatic 180, 3) := by decide +kernel
theorem dX7_takeCondition_20 : decode cX7_takeCondition 20 = .ok (.istore_n 2, 1) := by decide +kernel
theorem dX7_takeCondition_21 : decode cX7_takeCondition 21 = .ok (.aload_n 0, 1) := by decide +kernel
theorem dX7_takeCondition_22 : decode cX7_takeCondition 22 = .ok (.aload_n 0, 1) := by decide +kernel
theorem dX7_takeCondition_23 : decode cX7_takeCondition 23 = .ok (.getfield 171, 3) := by decide +kernel
theorem dX7_takeCondition_26 : decode cX7_takeCondition 26 = .ok (.ifCond .ne 16, 3) := by decide +kernel
theorem dX7_takeCondition_29 : decode cX7_takeCondition 29 = .ok (.iload_n 2, 1) := by decide +kernel
theorem dX7_takeCondition_30 : decode cX7_takeCondition 30 = .ok (.ifCond .lt 12, 3) := by decide +kernel
theorem dX7_takeCondition_33 : decode cX7_takeCondition 33 = .ok (.iload_n 1, 1) := by decide +kernel
theorem dX7_takeCondition_34 : decode cX7_takeCondition 34 = .ok (.iload_n 2, 1) := by decide +kernel
theorem dX7_takeCondition_35 : decode cX7_takeCondition 35 = .ok (.ishr, 1) := by decide +kernel
theorem dX7_takeCondition_36 : decode cX7_takeCondition 36 = .ok (.iconst 1, 1) := by decide +kernel
theorem dX7_takeCondition_37 : decode cX7_takeCondition 37 = .ok (.iand, 1) := by decide +kernel
theorem dX7_takeCondition_38 : decode cX7_takeCondition 38 = .ok (.iconst 1, 1) := by decide +kernel
theorem dX7_takeCondition_39 : decode cX7_takeCondition 39 = .ok (.if_icmp .ne 7, 3) := by decide +kernel
theorem dX7_takeCondition_42 : decode cX7_takeCondition 42 = .ok (.iconst 1, 1) := by decide +kernel
theorem dX7_takeCondition_43 : decode cX7_takeCondition 43 = .ok (.goto 4, 3) := by decide +kernel
theorem dX7_takeCondition_46 : decode cX7_takeCondition 46 = .ok (.iconst 0, 1) := by decide +kernel
theorem dX7_takeCondition_47 : decode cX7_takeCondition 47 = .ok (.putfield 171, 3) := by decide +kernel
theorem dX7_takeCondition_50 : decode cX7_takeCondition 50 = .ok (.aload_n 0, 1) := by decide +kernel
theorem dX7_takeCondition_51 : decode cX7_takeCondition 51 = .ok (.getfield 171, 3) := by decide +kernel
theorem dX7_takeCondition_54 : decode cX7_takeCondition 54 = .ok (.ifCond .eq 5, 3) := by decide +kernel
theorem dX7_takeCondition_57 : decode cX7_takeCondition 57 = .ok (.iload_n 1, 1) := by decide +kernel
theorem dX7_takeCondition_58 : decode cX7_takeCondition 58 = .ok (.ireturn, 1) := by decide +kernel
theorem dX7_takeCondition_59 : decode cX7_takeCondition 59 = .ok (.aload_n 0, 1) := by decide +kernel
theorem dX7_takeCondition_60 : decode cX7_takeCondition 60 = .ok (.dup, 1) := by decide +kernel
theorem dX7_takeCondition_61 : decode cX7_takeCondition 61 = .ok (.getfield 168, 3) := by decide +kernel
theorem dX7_takeCondition_64 : decode cX7_takeCondition 64 = .ok (.iconst 1, 1) := by decide +kernel
theorem dX7_takeCondition_65 : decode cX7_takeCondition 65 = .ok (.iadd, 1) := by decide +kernel
theorem dX7_takeCondition_66 : decode cX7_takeCondition 66 = .ok (.putfield 168, 3) := by decide +kernel
theorem dX7_takeCondition_69 : decode cX7_takeCondition 69 = .ok (.iload_n 2, 1) := by decide +kernel
theorem dX7_takeCondition_70 : decode cX7_takeCondition 70 = .ok (.iconst 4, 1) := by decide +kernel
theorem dX7_takeCondition_71 : decode cX7_takeCondition 71 = .ok (.if_icmp .ne 8, 3) := by decide +kernel
theorem dX7_takeCondition_74 : decode cX7_takeCondition 74 = .ok (.bipush 20, 2) := by decide +kernel
theorem dX7_takeCondition_76 : decode cX7_takeCondition 76 = .ok (.goto 4, 3) := by decide +kernel
theorem dX7_takeCondition_79 : decode cX7_takeCondition 79 = .ok (.iconst 5, 1) := by decide +kernel
theorem dX7_takeCondition_80 : decode cX7_takeCondition 80 = .ok (.istore_n 3, 1) := by decide +kernel
theorem dX7_takeCondition_81 : decode cX7_takeCondition 81 = .ok (.aload_n 0, 1) := by decide +kernel
theorem dX7_takeCondition_82 : decode cX7_takeCondition 82 = .ok (.iload_n 3, 1) := by decide +kernel
theorem dX7_takeCondition_83 : decode cX7_takeCondition 83 = .ok (.invokevirtual 183, 3) := by decide +kernel
theorem dX7_takeCondition_86 : decode cX7_takeCondition 86 = .ok (.istore 4, 2) := by decide +kernel
theorem dX7_takeCondition_88 : decode cX7_takeCondition 88 = .ok (.aload_n 0, 1) := by decide +kernel
theorem dX7_takeCondition_89 : decode cX7_takeCondition 89 = .ok (.bipush 45, 2) := by decide +kernel
theorem dX7_takeCondition_91 : decode cX7_takeCondition 91 = .ok (.bipush 45, 2) := by decide +kernel
theorem dX7_takeCondition_93 : decode cX7_takeCondition 93 = .ok (.invokevirtual 177, 3) := by decide +kernel
theorem dX7_takeCondition_96 : decode cX7_takeCondition 96 = .ok (.istore 5, 2) := by decide +kernel
theorem dX7_takeCondition_98 : decode cX7_takeCondition 98 = .ok (.aload_n 0, 1) := by decide +kernel
theorem dX7_takeCondition_99 : decode cX7_takeCondition 99 = .ok (.iload_n 3, 1) := by decide +kernel
theorem dX7_takeCondition_100 : decode cX7_takeCondition 100 = .ok (.invokevirtual 183, 3) := by decide +kernel
theorem dX7_takeCondition_103 : decode cX7_takeCondition 103 = .ok (.istore 6, 2) := by decide +kernel
theorem dX7_takeCondition_105 : decode cX7_takeCondition 105 = .ok (.aload_n 0, 1) := by decide +kernel
theorem dX7_takeCondition_106 : decode cX7_takeCondition 106 = .ok (.getfield 171, 3) := by decide +kernel
theorem dX7_takeCondition_109 : decode cX7_takeCondition 109 = .ok (.ifCond .ne 25, 3) := by decide +kernel
theorem dX7_takeCondition_112 : decode cX7_takeCondition 112 = .ok (.iload 6, 2) := by decide +kernel
theorem dX7_takeCondition_114 : decode cX7_takeCondition 114 = .ok (.iload 4, 2) := by decide +kernel
theorem dX7_takeCondition_116 : decode cX7_takeCondition 116 = .ok (.if_icmp .ge 18, 3) := by decide +kernel
theorem dX7_takeCondition_119 : decode cX7_takeCondition 119 = .ok (.aload_n 0, 1) := by decide +kernel
theorem dX7_takeCondition_120 : decode cX7_takeCondition 120 = .ok (.iconst 1, 1) := by decide +kernel
theorem dX7_takeCondition_121 : decode cX7_takeCondition 121 = .ok (.putfield 171, 3) := by decide +kernel
theorem dX7_takeCondition_124 : decode cX7_takeCondition 124 = .ok (.aload_n 0, 1) := by decide +kernel
theorem dX7_takeCondition_125 : decode cX7_takeCondition 125 = .ok (.dup, 1) := by decide +kernel
theorem dX7_takeCondition_126 : decode cX7_takeCondition 126 = .ok (.getfield 168, 3) := by decide +kernel
theorem dX7_takeCondition_129 : decode cX7_takeCondition 129 = .ok (.iconst 1, 1) := by decide +kernel
theorem dX7_takeCondition_130 : decode cX7_takeCondition 130 = .ok (.isub, 1) := by decide +kernel
theorem dX7_takeCondition_131 : decode cX7_takeCondition 131 = .ok (.putfield 168, 3) := by decide +kernel
theorem dX7_takeCondition_134 : decode cX7_takeCondition 134 = .ok (.aload_n 0, 1) := by decide +kernel
theorem dX7_takeCondition_135 : decode cX7_takeCondition 135 = .ok (.getfield 40, 3) := by decide +kernel
theorem dX7_takeCondition_138 : decode cX7_takeCondition 138 = .ok (.iconst 4, 1) := by decide +kernel
theorem dX7_takeCondition_139 : decode cX7_takeCondition 139 = .ok (.iconst 2, 1) := by decide +kernel
theorem dX7_takeCondition_140 : decode cX7_takeCondition 140 = .ok (.iload_n 2, 1) := by decide +kernel
theorem dX7_takeCondition_141 : decode cX7_takeCondition 141 = .ok (.imul, 1) := by decide +kernel
theorem dX7_takeCondition_142 : decode cX7_takeCondition 142 = .ok (.iadd, 1) := by decide +kernel
theorem dX7_takeCondition_143 : decode cX7_takeCondition 143 = .ok (.iload 4, 2) := by decide +kernel
theorem dX7_takeCondition_145 : decode cX7_takeCondition 145 = .ok (.iastore, 1) := by decide +kernel
theorem dX7_takeCondition_146 : decode cX7_takeCondition 146 = .ok (.aload_n 0, 1) := by decide +kernel
theorem dX7_takeCondition_147 : decode cX7_takeCondition 147 = .ok (.getfield 40, 3) := by decide +kernel
theorem dX7_takeCondition_150 : decode cX7_takeCondition 150 = .ok (.iconst 4, 1) := by decide +kernel
theorem dX7_takeCondition_151 : decode cX7_takeCondition 151 = .ok (.iconst 2, 1) := by decide +kernel
theorem dX7_takeCondition_152 : decode cX7_takeCondition 152 = .ok (.iload_n 2, 1) := by decide +kernel
theorem dX7_takeCondition_153 : decode cX7_takeCondition 153 = .ok (.imul, 1) := by decide +kernel
theorem dX7_takeCondition_154 : decode cX7_takeCondition 154 = .ok (.iadd, 1) := by decide +kernel
theorem dX7_takeCondition_155 : decode cX7_takeCondition 155 = .ok (.iconst 1, 1) := by decide +kernel
theorem dX7_takeCondition_156 : decode cX7_takeCondition 156 = .ok (.iadd, 1) := by decide +kernel
theorem dX7_takeCondition_157 : decode cX7_takeCondition 157 = .ok (.iload 6, 2) := by decide +kernel
theorem dX7_takeCondition_159 : decode cX7_takeCondition 159 = .ok (.iload 5, 2) := by decide +kernel
theorem dX7_takeCondition_161 : decode cX7_takeCondition 161 = .ok (.iadd, 1) := by decide +kernel
theorem dX7_takeCondition_162 : decode cX7_takeCondition 162 = .ok (.iastore, 1) := by decide +kernel
theorem dX7_takeCondition_163 : decode cX7_takeCondition 163 = .ok (.iload_n 1, 1) := by decide +kernel
theorem dX7_takeCondition_164 : decode cX7_takeCondition 164 = .ok (.iconst 1, 1) := by decide +kernel
theorem dX7_takeCondition_165 : decode cX7_takeCondition 165 = .ok (.iload_n 2, 1) := by decide +kernel
theorem dX7_takeCondition_166 : decode cX7_takeCondition 166 = .ok (.ishl, 1) := by decide +kernel
theorem dX7_takeCondition_167 : decode cX7_takeCondition 167 = .ok (.ior, 1) := by decide +kernel
theorem dX7_takeCondition_168 : decode cX7_takeCondition 168 = .ok (.ireturn, 1) := by decide +kernel
theorem dX7_fault_0 : decode cX7_fault 0 = .ok (.aload_n 0, 1) := by decide +kernel
theorem dX7_fault_1 : decode cX7_fault 1 = .ok (.iconst 0, 1) := by decide +kernel
theorem dX7_fault_2 : decode cX7_fault 2 = .ok (.putfield 168, 3) := by decide +kernel
theorem dX7_fault_5 : decode cX7_fault 5 = .ok (.aload_n 0, 1) := by decide +kernel
theorem dX7_fault_6 : decode cX7_fault 6 = .ok (.iconst 0, 1) := by decide +kernel
theorem dX7_fault_7 : decode cX7_fault 7 = .ok (.putfield 171, 3) := by decide +kernel
theorem dX7_fault_10 : decode cX7_fault 10 = .ok (.aload_n 0, 1) := by decide +kernel
theorem dX7_fault_11 : decode cX7_fault 11 = .ok (.invokevirtual 84, 3) := by decide +kernel
theorem dX7_fault_14 : decode cX7_fault 14 = .ok (.aload_n 0, 1) := by decide +kernel
theorem dX7_fault_15 : decode cX7_fault 15 = .ok (.getfield 40, 3) := by decide +kernel
theorem dX7_fault_18 : decode cX7_fault 18 = .ok (.iconst 0, 1) := by decide +kernel
theorem dX7_fault_19 : decode cX7_fault 19 = .ok (.aload_n 0, 1) := by decide +kernel
theorem dX7_fault_20 : decode cX7_fault 20 = .ok (.bipush 48, 2) := by decide +kernel
theorem dX7_fault_22 : decode cX7_fault 22 = .ok (.bipush 55, 2) := by decide +kernel
theorem dX7_fault_24 : decode cX7_fault 24 = .ok (.invokevirtual 177, 3) := by decide +kernel
theorem dX7_fault_27 : decode cX7_fault 27 = .ok (.iastore, 1) := by decide +kernel
theorem dX7_fault_28 : decode cX7_fault 28 = .ok (.aload_n 0, 1) := by decide +kernel
theorem dX7_fault_29 : decode cX7_fault 29 = .ok (.bipush 58, 2) := by decide +kernel
theorem dX7_fault_31 : decode cX7_fault 31 = .ok (.bipush 58, 2) := by decide +kernel
theorem dX7_fault_33 : decode cX7_fault 33 = .ok (.invokevirtual 177, 3) := by decide +kernel
theorem dX7_fault_36 : decode cX7_fault 36 = .ok (.istore_n 1, 1) := by decide +kernel
theorem dX7_fault_37 : decode cX7_fault 37 = .ok (.aload_n 0, 1) := by decide +kernel
theorem dX7_fault_38 : decode cX7_fault 38 = .ok (.invokevirtual 186, 3) := by decide +kernel
theorem dX7_fault_41 : decode cX7_fault 41 = .ok (.aload_n 0, 1) := by decide +kernel
theorem dX7_fault_42 : decode cX7_fault 42 = .ok (.bipush 62, 2) := by decide +kernel
theorem dX7_fault_44 : decode cX7_fault 44 = .ok (.bipush 62, 2) := by decide +kernel
theorem dX7_fault_46 : decode cX7_fault 46 = .ok (.invokevirtual 177, 3) := by decide +kernel
theorem dX7_fault_49 : decode cX7_fault 49 = .ok (.istore_n 1, 1) := by decide +kernel
theorem dX7_fault_50 : decode cX7_fault 50 = .ok (.aload_n 0, 1) := by decide +kernel
theorem dX7_fault_51 : decode cX7_fault 51 = .ok (.getfield 40, 3) := by decide +kernel
theorem dX7_fault_54 : decode cX7_fault 54 = .ok (.iconst 2, 1) := by decide +kernel
theorem dX7_fault_55 : decode cX7_fault 55 = .ok (.aload_n 0, 1) := by decide +kernel
theorem dX7_fault_56 : decode cX7_fault 56 = .ok (.bipush 48, 2) := by decide +kernel
theorem dX7_fault_58 : decode cX7_fault 58 = .ok (.bipush 55, 2) := by decide +kernel
theorem dX7_fault_60 : decode cX7_fault 60 = .ok (.invokevirtual 177, 3) := by decide +kernel
theorem dX7_fault_63 : decode cX7_fault 63 = .ok (.iastore, 1) := by decide +kernel
theorem dX7_fault_64 : decode cX7_fault 64 = .ok (.aload_n 0, 1) := by decide +kernel
theorem dX7_fault_65 : decode cX7_fault 65 = .ok (.getfield 40, 3) := by decide +kernel
theorem dX7_fault_68 : decode cX7_fault 68 = .ok (.iconst 3, 1) := by decide +kernel
theorem dX7_fault_69 : decode cX7_fault 69 = .ok (.aload_n 0, 1) := by decide +kernel
theorem dX7_fault_70 : decode cX7_fault 70 = .ok (.getfield 171, 3) := by decide +kernel
theorem dX7_fault_73 : decode cX7_fault 73 = .ok (.ifCond .ne 16, 3) := by decide +kernel
theorem dX7_fault_76 : decode cX7_fault 76 = .ok (.aload_n 0, 1) := by decide +kernel
theorem dX7_fault_77 : decode cX7_fault 77 = .ok (.invokevirtual 174, 3) := by decide +kernel
theorem dX7_fault_80 : decode cX7_fault 80 = .ok (.bipush 33, 2) := by decide +kernel
theorem dX7_fault_82 : decode cX7_fault 82 = .ok (.if_icmp .ne 7, 3) := by decide +kernel
theorem dX7_fault_85 : decode cX7_fault 85 = .ok (.iconst 1, 1) := by decide +kernel
theorem dX7_fault_86 : decode cX7_fault 86 = .ok (.goto 4, 3) := by decide +kernel
theorem dX7_fault_89 : decode cX7_fault 89 = .ok (.iconst 0, 1) := by decide +kernel
theorem dX7_fault_90 : decode cX7_fault 90 = .ok (.iastore, 1) := by decide +kernel
theorem dX7_fault_91 : decode cX7_fault 91 = .ok (.aload_n 0, 1) := by decide +kernel
theorem dX7_fault_92 : decode cX7_fault 92 = .ok (.dup, 1) := by decide +kernel
theorem dX7_fault_93 : decode cX7_fault 93 = .ok (.getfield 168, 3) := by decide +kernel
theorem dX7_fault_96 : decode cX7_fault 96 = .ok (.aload_n 0, 1) := by decide +kernel
theorem dX7_fault_97 : decode cX7_fault 97 = .ok (.getfield 40, 3) := by decide +kernel
theorem dX7_fault_100 : decode cX7_fault 100 = .ok (.iconst 3, 1) := by decide +kernel
theorem dX7_fault_101 : decode cX7_fault 101 = .ok (.iaload, 1) := by decide +kernel
theorem dX7_fault_102 : decode cX7_fault 102 = .ok (.iadd, 1) := by decide +kernel
theorem dX7_fault_103 : decode cX7_fault 103 = .ok (.putfield 168, 3) := by decide +kernel
theorem dX7_fault_106 : decode cX7_fault 106 = .ok (.iload_n 1, 1) := by decide +kernel
theorem dX7_fault_107 : decode cX7_fault 107 = .ok (.istore_n 2, 1) := by decide +kernel
theorem dX7_fault_108 : decode cX7_fault 108 = .ok (.aload_n 0, 1) := by decide +kernel
theorem dX7_fault_109 : decode cX7_fault 109 = .ok (.getfield 171, 3) := by decide +kernel
theorem dX7_fault_112 : decode cX7_fault 112 = .ok (.ifCond .ne 31, 3) := by decide +kernel
theorem dX7_fault_115 : decode cX7_fault 115 = .ok (.aload_n 0, 1) := by decide +kernel
theorem dX7_fault_116 : decode cX7_fault 116 = .ok (.invokevirtual 174, 3) := by decide +kernel
theorem dX7_fault_119 : decode cX7_fault 119 = .ok (.bipush 44, 2) := by decide +kernel
theorem dX7_fault_121 : decode cX7_fault 121 = .ok (.if_icmp .ne 22, 3) := by decide +kernel
theorem dX7_fault_124 : decode cX7_fault 124 = .ok (.aload_n 0, 1) := by decide +kernel
theorem dX7_fault_125 : decode cX7_fault 125 = .ok (.dup, 1) := by decide +kernel
theorem dX7_fault_126 : decode cX7_fault 126 = .ok (.getfield 168, 3) := by decide +kernel
theorem dX7_fault_129 : decode cX7_fault 129 = .ok (.iconst 1, 1) := by decide +kernel
theorem dX7_fault_130 : decode cX7_fault 130 = .ok (.iadd, 1) := by decide +kernel
theorem dX7_fault_131 : decode cX7_fault 131 = .ok (.putfield 168, 3) := by decide +kernel
theorem dX7_fault_134 : decode cX7_fault 134 = .ok (.aload_n 0, 1) := by decide +kernel
theorem dX7_fault_135 : decode cX7_fault 135 = .ok (.iload_n 2, 1) := by decide +kernel
theorem dX7_fault_136 : decode cX7_fault 136 = .ok (.invokevirtual 189, 3) := by decide +kernel
theorem dX7_fault_139 : decode cX7_fault 139 = .ok (.istore_n 2, 1) := by decide +kernel
theorem dX7_fault_140 : decode cX7_fault 140 = .ok (.goto (-32), 3) := by decide +kernel
theorem dX7_fault_143 : decode cX7_fault 143 = .ok (.aload_n 0, 1) := by decide +kernel
theorem dX7_fault_144 : decode cX7_fault 144 = .ok (.getfield 171, 3) := by decide +kernel
theorem dX7_fault_147 : decode cX7_fault 147 = .ok (.ifCond .ne 14, 3) := by decide +kernel
theorem dX7_fault_150 : decode cX7_fault 150 = .ok (.aload_n 0, 1) := by decide +kernel
theorem dX7_fault_151 : decode cX7_fault 151 = .ok (.getfield 168, 3) := by decide +kernel
theorem dX7_fault_154 : decode cX7_fault 154 = .ok (.aload_n 0, 1) := by decide +kernel
theorem dX7_fault_155 : decode cX7_fault 155 = .ok (.getfield 131, 3) := by decide +kernel
theorem dX7_fault_158 : decode cX7_fault 158 = .ok (.if_icmp .ge 10, 3) := by decide +kernel
theorem dX7_fault_161 : decode cX7_fault 161 = .ok (.aload_n 0, 1) := by decide +kernel
theorem dX7_fault_162 : decode cX7_fault 162 = .ok (.getfield 168, 3) := by decide +kernel
theorem dX7_fault_165 : decode cX7_fault 165 = .ok (.goto 5, 3) := by decide +kernel
theorem dX7_fault_168 : decode cX7_fault 168 = .ok (.bipush (-6), 2) := by decide +kernel
theorem dX7_fault_170 : decode cX7_fault 170 = .ok (.ireturn, 1) := by decide +kernel
theorem dX7_load_0 : decode cX7_load 0 = .ok (.aload_n 0, 1) := by decide +kernel
theorem dX7_load_1 : decode cX7_load 1 = .ok (.invokevirtual 192, 3) := by decide +kernel
theorem dX7_load_4 : decode cX7_load 4 = .ok (.bipush (-6), 2) := by decide +kernel
theorem dX7_load_6 : decode cX7_load 6 = .ok (.if_icmp .eq 6, 3) := by decide +kernel
theorem dX7_load_9 : decode cX7_load 9 = .ok (.bipush (-3), 2) := by decide +kernel
theorem dX7_load_11 : decode cX7_load 11 = .ok (.ireturn, 1) := by decide +kernel
theorem dX7_load_12 : decode cX7_load 12 = .ok (.aload_n 0, 1) := by decide +kernel
theorem dX7_load_13 : decode cX7_load 13 = .ok (.invokevirtual 87, 3) := by decide +kernel
theorem dX7_load_16 : decode cX7_load 16 = .ok (.istore_n 1, 1) := by decide +kernel
theorem dX7_load_17 : decode cX7_load 17 = .ok (.aload_n 0, 1) := by decide +kernel
theorem dX7_load_18 : decode cX7_load 18 = .ok (.iload_n 1, 1) := by decide +kernel
theorem dX7_load_19 : decode cX7_load 19 = .ok (.ifCond .ge 10, 3) := by decide +kernel
theorem dX7_load_22 : decode cX7_load 22 = .ok (.aload_n 0, 1) := by decide +kernel
theorem dX7_load_23 : decode cX7_load 23 = .ok (.getfield 131, 3) := by decide +kernel
theorem dX7_load_26 : decode cX7_load 26 = .ok (.goto 4, 3) := by decide +kernel
theorem dX7_load_29 : decode cX7_load 29 = .ok (.iconst 0, 1) := by decide +kernel
theorem dX7_load_30 : decode cX7_load 30 = .ok (.putfield 131, 3) := by decide +kernel
theorem dX7_load_33 : decode cX7_load 33 = .ok (.iload_n 1, 1) := by decide +kernel
theorem dX7_load_34 : decode cX7_load 34 = .ok (.ireturn, 1) := by decide +kernel
theorem dJ5_init_d00df_0 : decode cJ5_init_d00df 0 = .ok (.aload_n 0, 1) := by decide +kernel
theorem dJ5_init_d00df_1 : decode cJ5_init_d00df 1 = .ok (.invokespecial 3, 3) := by decide +kernel
theorem dJ5_init_d00df_4 : decode cJ5_init_d00df 4 = .ok (.getstatic 18, 3) := by decide +kernel
theorem dJ5_init_d00df_7 : decode cJ5_init_d00df 7 = .ok (.ifCond .eq 18, 3) := by decide +kernel
theorem dJ5_init_d00df_10 : decode cJ5_init_d00df 10 = .ok (.aload_n 0, 1) := by decide +kernel
theorem dJ5_init_d00df_11 : decode cJ5_init_d00df 11 = .ok (.iload_n 1, 1) := by decide +kernel
theorem dJ5_init_d00df_12 : decode cJ5_init_d00df 12 = .ok (.newarray .byte, 2) := by decide +kernel
theorem dJ5_init_d00df_14 : decode cJ5_init_d00df 14 = .ok (.putfield 15, 3) := by decide +kernel
theorem dJ5_init_d00df_17 : decode cJ5_init_d00df 17 = .ok (.aload_n 0, 1) := by decide +kernel
theorem dJ5_init_d00df_18 : decode cJ5_init_d00df 18 = .ok (.iconst 0, 1) := by decide +kernel
theorem dJ5_init_d00df_19 : decode cJ5_init_d00df 19 = .ok (.putfield 22, 3) := by decide +kernel
theorem dJ5_init_d00df_22 : decode cJ5_init_d00df 22 = .ok (.goto 16, 3) := by decide +kernel
theorem dJ5_init_d00df_25 : decode cJ5_init_d00df 25 = .ok (.aload_n 0, 1) := by decide +kernel
theorem dJ5_init_d00df_26 : decode cJ5_init_d00df 26 = .ok (.iload_n 1, 1) := by decide +kernel
theorem dJ5_init_d00df_27 : decode cJ5_init_d00df 27 = .ok (.invokestatic 26, 3) := by decide +kernel
theorem dJ5_init_d00df_30 : decode cJ5_init_d00df 30 = .ok (.putfield 15, 3) := by decide +kernel
theorem dJ5_init_d00df_33 : decode cJ5_init_d00df 33 = .ok (.aload_n 0, 1) := by decide +kernel
theorem dJ5_init_d00df_34 : decode cJ5_init_d00df 34 = .ok (.iconst 1, 1) := by decide +kernel
theorem dJ5_init_d00df_35 : decode cJ5_init_d00df 35 = .ok (.putfield 22, 3) := by decide +kernel
theorem dJ5_init_d00df_38 : decode cJ5_init_d00df 38 = .ok (.return_, 1) := by decide +kernel
theorem dJ5_length_8abf5_0 : decode cJ5_length_8abf5 0 = .ok (.aload_n 0, 1) := by decide +kernel
theorem dJ5_length_8abf5_1 : decode cJ5_length_8abf5 1 = .ok (.getfield 79, 3) := by decide +kernel
theorem dJ5_length_8abf5_4 : decode cJ5_length_8abf5 4 = .ok (.ireturn, 1) := by decide +kernel
theorem dJ5_ensureCapacityInternal_d00df_0 : decode cJ5_ensureCapacityInternal_d00df 0 = .ok (.aload_n 0, 1) := by decide +kernel
theorem dJ5_ensureCapacityInternal_d00df_1 : decode cJ5_ensureCapacityInternal_d00df 1 = .ok (.getfield 15, 3) := by decide +kernel
theorem dJ5_ensureCapacityInternal_d00df_4 : decode cJ5_ensureCapacityInternal_d00df 4 = .ok (.arraylength, 1) := by decide +kernel
theorem dJ5_ensureCapacityInternal_d00df_5 : decode cJ5_ensureCapacityInternal_d00df 5 = .ok (.aload_n 0, 1) := by decide +kernel
theorem dJ5_ensureCapacityInternal_d00df_6 : decode cJ5_ensureCapacityInternal_d00df 6 = .ok (.getfield 22, 3) := by decide +kernel
theorem dJ5_ensureCapacityInternal_d00df_9 : decode cJ5_ensureCapacityInternal_d00df 9 = .ok (.ishr, 1) := by decide +kernel
theorem dJ5_ensureCapacityInternal_d00df_10 : decode cJ5_ensureCapacityInternal_d00df 10 = .ok (.istore_n 2, 1) := by decide +kernel
theorem dJ5_ensureCapacityInternal_d00df_11 : decode cJ5_ensureCapacityInternal_d00df 11 = .ok (.iload_n 1, 1) := by decide +kernel
theorem dJ5_ensureCapacityInternal_d00df_12 : decode cJ5_ensureCapacityInternal_d00df 12 = .ok (.iload_n 2, 1) := by decide +kernel
theorem dJ5_ensureCapacityInternal_d00df_13 : decode cJ5_ensureCapacityInternal_d00df 13 = .ok (.isub, 1) := by decide +kernel
theorem dJ5_ensureCapacityInternal_d00df_14 : decode cJ5_ensureCapacityInternal_d00df 14 = .ok (.ifCond .le 24, 3) := by decide +kernel
theorem dJ5_ensureCapacityInternal_d00df_17 : decode cJ5_ensureCapacityInternal_d00df 17 = .ok (.aload_n 0, 1) := by decide +kernel
theorem dJ5_ensureCapacityInternal_d00df_18 : decode cJ5_ensureCapacityInternal_d00df 18 = .ok (.aload_n 0, 1) := by decide +kernel
theorem dJ5_ensureCapacityInternal_d00df_19 : decode cJ5_ensureCapacityInternal_d00df 19 = .ok (.getfield 15, 3) := by decide +kernel
theorem dJ5_ensureCapacityInternal_d00df_22 : decode cJ5_ensureCapacityInternal_d00df 22 = .ok (.aload_n 0, 1) := by decide +kernel
theorem dJ5_ensureCapacityInternal_d00df_23 : decode cJ5_ensureCapacityInternal_d00df 23 = .ok (.iload_n 1, 1) := by decide +kernel
theorem dJ5_ensureCapacityInternal_d00df_24 : decode cJ5_ensureCapacityInternal_d00df 24 = .ok (.invokevirtual 104, 3) := by decide +kernel
theorem dJ5_ensureCapacityInternal_d00df_27 : decode cJ5_ensureCapacityInternal_d00df 27 = .ok (.aload_n 0, 1) := by decide +kernel
theorem dJ5_ensureCapacityInternal_d00df_28 : decode cJ5_ensureCapacityInternal_d00df 28 = .ok (.getfield 22, 3) := by decide +kernel
theorem dJ5_ensureCapacityInternal_d00df_31 : decode cJ5_ensureCapacityInternal_d00df 31 = .ok (.ishl, 1) := by decide +kernel
theorem dJ5_ensureCapacityInternal_d00df_32 : decode cJ5_ensureCapacityInternal_d00df 32 = .ok (.invokestatic 108, 3) := by decide +kernel
theorem dJ5_ensureCapacityInternal_d00df_35 : decode cJ5_ensureCapacityInternal_d00df 35 = .ok (.putfield 15, 3) := by decide +kernel
theorem dJ5_ensureCapacityInternal_d00df_38 : decode cJ5_ensureCapacityInternal_d00df 38 = .ok (.return_, 1) := by decide +kernel
theorem dJ5_newCapacity_0f7a4_0 : decode cJ5_newCapacity_0f7a4 0 = .ok (.aload_n 0, 1) := by decide +kernel
theorem dJ5_newCapacity_0f7a4_1 : decode cJ5_newCapacity_0f7a4 1 = .ok (.getfield 15, 3) := by decide +kernel
theorem dJ5_newCapacity_0f7a4_4 : decode cJ5_newCapacity_0f7a4 4 = .ok (.arraylength, 1) := by decide +kernel
theorem dJ5_newCapacity_0f7a4_5 : decode cJ5_newCapacity_0f7a4 5 = .ok (.istore_n 2, 1) := by decide +kernel
theorem dJ5_newCapacity_0f7a4_6 : decode cJ5_newCapacity_0f7a4 6 = .ok (.iload_n 1, 1) := by decide +kernel
theorem dJ5_newCapacity_0f7a4_7 : decode cJ5_newCapacity_0f7a4 7 = .ok (.aload_n 0, 1) := by decide +kernel
theorem dJ5_newCapacity_0f7a4_8 : decode cJ5_newCapacity_0f7a4 8 = .ok (.getfield 22, 3) := by decide +kernel
theorem dJ5_newCapacity_0f7a4_11 : decode cJ5_newCapacity_0f7a4 11 = .ok (.ishl, 1) := by decide +kernel
theorem dJ5_newCapacity_0f7a4_12 : decode cJ5_newCapacity_0f7a4 12 = .ok (.istore_n 3, 1) := by decide +kernel
theorem dJ5_newCapacity_0f7a4_13 : decode cJ5_newCapacity_0f7a4 13 = .ok (.iload_n 3, 1) := by decide +kernel
theorem dJ5_newCapacity_0f7a4_14 : decode cJ5_newCapacity_0f7a4 14 = .ok (.iload_n 2, 1) := by decide +kernel
theorem dJ5_newCapacity_0f7a4_15 : decode cJ5_newCapacity_0f7a4 15 = .ok (.isub, 1) := by decide +kernel
theorem dJ5_newCapacity_0f7a4_16 : decode cJ5_newCapacity_0f7a4 16 = .ok (.istore 4, 2) := by decide +kernel
theorem dJ5_newCapacity_0f7a4_18 : decode cJ5_newCapacity_0f7a4 18 = .ok (.iload_n 2, 1) := by decide +kernel
theorem dJ5_newCapacity_0f7a4_19 : decode cJ5_newCapacity_0f7a4 19 = .ok (.iload 4, 2) := by decide +kernel
theorem dJ5_newCapacity_0f7a4_21 : decode cJ5_newCapacity_0f7a4 21 = .ok (.iload_n 2, 1) := by decide +kernel
theorem dJ5_newCapacity_0f7a4_22 : decode cJ5_newCapacity_0f7a4 22 = .ok (.iconst 2, 1) := by decide +kernel
theorem dJ5_newCapacity_0f7a4_23 : decode cJ5_newCapacity_0f7a4 23 = .ok (.aload_n 0, 1) := by decide +kernel
theorem dJ5_newCapacity_0f7a4_24 : decode cJ5_newCapacity_0f7a4 24 = .ok (.getfield 22, 3) := by decide +kernel
theorem dJ5_newCapacity_0f7a4_27 : decode cJ5_newCapacity_0f7a4 27 = .ok (.ishl, 1) := by decide +kernel
theorem dJ5_newCapacity_0f7a4_28 : decode cJ5_newCapacity_0f7a4 28 = .ok (.iadd, 1) := by decide +kernel
theorem dJ5_newCapacity_0f7a4_29 : decode cJ5_newCapacity_0f7a4 29 = .ok (.invokestatic 114, 3) := by decide +kernel
theorem dJ5_newCapacity_0f7a4_32 : decode cJ5_newCapacity_0f7a4 32 = .ok (.istore 5, 2) := by decide +kernel
theorem dJ5_newCapacity_0f7a4_34 : decode cJ5_newCapacity_0f7a4 34 = .ok (.iload 5, 2) := by decide +kernel
theorem dJ5_newCapacity_0f7a4_36 : decode cJ5_newCapacity_0f7a4 36 = .ok (.ldc 39, 2) := by decide +kernel
theorem dJ5_newCapacity_0f7a4_38 : decode cJ5_newCapacity_0f7a4 38 = .ok (.if_icmp .ne 13, 3) := by decide +kernel
theorem dJ5_newCapacity_0f7a4_41 : decode cJ5_newCapacity_0f7a4 41 = .ok (.new 120, 3) := by decide +kernel
theorem dJ5_newCapacity_0f7a4_44 : decode cJ5_newCapacity_0f7a4 44 = .ok (.dup, 1) := by decide +kernel
theorem dJ5_newCapacity_0f7a4_45 : decode cJ5_newCapacity_0f7a4 45 = .ok (.ldc 122, 2) := by decide +kernel
theorem dJ5_newCapacity_0f7a4_47 : decode cJ5_newCapacity_0f7a4 47 = .ok (.invokespecial 124, 3) := by decide +kernel
theorem dJ5_newCapacity_0f7a4_50 : decode cJ5_newCapacity_0f7a4 50 = .ok (.athrow, 1) := by decide +kernel
theorem dJ5_newCapacity_0f7a4_51 : decode cJ5_newCapacity_0f7a4 51 = .ok (.iload 5, 2) := by decide +kernel
theorem dJ5_newCapacity_0f7a4_53 : decode cJ5_newCapacity_0f7a4 53 = .ok (.aload_n 0, 1) := by decide +kernel
theorem dJ5_newCapacity_0f7a4_54 : decode cJ5_newCapacity_0f7a4 54 = .ok (.getfield 22, 3) := by decide +kernel
theorem dJ5_newCapacity_0f7a4_57 : decode cJ5_newCapacity_0f7a4 57 = .ok (.ishr, 1) := by decide +kernel
theorem dJ5_newCapacity_0f7a4_58 : decode cJ5_newCapacity_0f7a4 58 = .ok (.ireturn, 1) := by decide +kernel
theorem dJ5_inflate_da8c8_0 : decode cJ5_inflate_da8c8 0 = .ok (.aload_n 0, 1) := by decide +kernel
theorem dJ5_inflate_da8c8_1 : decode cJ5_inflate_da8c8 1 = .ok (.invokevirtual 83, 3) := by decide +kernel
theorem dJ5_inflate_da8c8_4 : decode cJ5_inflate_da8c8 4 = .ok (.ifCond .ne 4, 3) := by decide +kernel
theorem dJ5_inflate_da8c8_7 : decode cJ5_inflate_da8c8 7 = .ok (.return_, 1) := by decide +kernel
theorem dJ5_inflate_da8c8_8 : decode cJ5_inflate_da8c8 8 = .ok (.aload_n 0, 1) := by decide +kernel
theorem dJ5_inflate_da8c8_9 : decode cJ5_inflate_da8c8 9 = .ok (.getfield 15, 3) := by decide +kernel
theorem dJ5_inflate_da8c8_12 : decode cJ5_inflate_da8c8 12 = .ok (.arraylength, 1) := by decide +kernel
theorem dJ5_inflate_da8c8_13 : decode cJ5_inflate_da8c8 13 = .ok (.invokestatic 26, 3) := by decide +kernel
theorem dJ5_inflate_da8c8_16 : decode cJ5_inflate_da8c8 16 = .ok (.astore_n 1, 1) := by decide +kernel
theorem dJ5_inflate_da8c8_17 : decode cJ5_inflate_da8c8 17 = .ok (.aload_n 0, 1) := by decide +kernel
theorem dJ5_inflate_da8c8_18 : decode cJ5_inflate_da8c8 18 = .ok (.getfield 15, 3) := by decide +kernel
theorem dJ5_inflate_da8c8_21 : decode cJ5_inflate_da8c8 21 = .ok (.iconst 0, 1) := by decide +kernel
theorem dJ5_inflate_da8c8_22 : decode cJ5_inflate_da8c8 22 = .ok (.aload_n 1, 1) := by decide +kernel
theorem dJ5_inflate_da8c8_23 : decode cJ5_inflate_da8c8 23 = .ok (.iconst 0, 1) := by decide +kernel
theorem dJ5_inflate_da8c8_24 : decode cJ5_inflate_da8c8 24 = .ok (.aload_n 0, 1) := by decide +kernel
theorem dJ5_inflate_da8c8_25 : decode cJ5_inflate_da8c8 25 = .ok (.getfield 79, 3) := by decide +kernel
theorem dJ5_inflate_da8c8_28 : decode cJ5_inflate_da8c8 28 = .ok (.invokestatic 125, 3) := by decide +kernel
theorem dJ5_inflate_da8c8_31 : decode cJ5_inflate_da8c8 31 = .ok (.aload_n 0, 1) := by decide +kernel
theorem dJ5_inflate_da8c8_32 : decode cJ5_inflate_da8c8 32 = .ok (.aload_n 1, 1) := by decide +kernel
theorem dJ5_inflate_da8c8_33 : decode cJ5_inflate_da8c8 33 = .ok (.putfield 15, 3) := by decide +kernel
theorem dJ5_inflate_da8c8_36 : decode cJ5_inflate_da8c8 36 = .ok (.aload_n 0, 1) := by decide +kernel
theorem dJ5_inflate_da8c8_37 : decode cJ5_inflate_da8c8 37 = .ok (.iconst 1, 1) := by decide +kernel
theorem dJ5_inflate_da8c8_38 : decode cJ5_inflate_da8c8 38 = .ok (.putfield 22, 3) := by decide +kernel
theorem dJ5_inflate_da8c8_41 : decode cJ5_inflate_da8c8 41 = .ok (.return_, 1) := by decide +kernel
theorem dJ5_setLength_d00df_0 : decode cJ5_setLength_d00df 0 = .ok (.iload_n 1, 1) := by decide +kernel
theorem dJ5_setLength_d00df_1 : decode cJ5_setLength_d00df 1 = .ok (.ifCond .ge 12, 3) := by decide +kernel
theorem dJ5_setLength_d00df_4 : decode cJ5_setLength_d00df 4 = .ok (.new 129, 3) := by decide +kernel
theorem dJ5_setLength_d00df_7 : decode cJ5_setLength_d00df 7 = .ok (.dup, 1) := by decide +kernel
theorem dJ5_setLength_d00df_8 : decode cJ5_setLength_d00df 8 = .ok (.iload_n 1, 1) := by decide +kernel
theorem dJ5_setLength_d00df_9 : decode cJ5_setLength_d00df 9 = .ok (.invokespecial 131, 3) := by decide +kernel
theorem dJ5_setLength_d00df_12 : decode cJ5_setLength_d00df 12 = .ok (.athrow, 1) := by decide +kernel
theorem dJ5_setLength_d00df_13 : decode cJ5_setLength_d00df 13 = .ok (.aload_n 0, 1) := by decide +kernel
theorem dJ5_setLength_d00df_14 : decode cJ5_setLength_d00df 14 = .ok (.iload_n 1, 1) := by decide +kernel
theorem dJ5_setLength_d00df_15 : decode cJ5_setLength_d00df 15 = .ok (.invokevirtual 100, 3) := by decide +kernel
theorem dJ5_setLength_d00df_18 : decode cJ5_setLength_d00df 18 = .ok (.aload_n 0, 1) := by decide +kernel
theorem dJ5_setLength_d00df_19 : decode cJ5_setLength_d00df 19 = .ok (.getfield 79, 3) := by decide +kernel
theorem dJ5_setLength_d00df_22 : decode cJ5_setLength_d00df 22 = .ok (.iload_n 1, 1) := by decide +kernel
theorem dJ5_setLength_d00df_23 : decode cJ5_setLength_d00df 23 = .ok (.if_icmp .ge 40, 3) := by decide +kernel
theorem dJ5_setLength_d00df_26 : decode cJ5_setLength_d00df 26 = .ok (.aload_n 0, 1) := by decide +kernel
theorem dJ5_setLength_d00df_27 : decode cJ5_setLength_d00df 27 = .ok (.invokevirtual 83, 3) := by decide +kernel
theorem dJ5_setLength_d00df_30 : decode cJ5_setLength_d00df 30 = .ok (.ifCond .eq 18, 3) := by decide +kernel
theorem dJ5_setLength_d00df_33 : decode cJ5_setLength_d00df 33 = .ok (.aload_n 0, 1) := by decide +kernel
theorem dJ5_setLength_d00df_34 : decode cJ5_setLength_d00df 34 = .ok (.getfield 15, 3) := by decide +kernel
theorem dJ5_setLength_d00df_37 : decode cJ5_setLength_d00df 37 = .ok (.aload_n 0, 1) := by decide +kernel
theorem dJ5_setLength_d00df_38 : decode cJ5_setLength_d00df 38 = .ok (.getfield 79, 3) := by decide +kernel
theorem dJ5_setLength_d00df_41 : decode cJ5_setLength_d00df 41 = .ok (.iload_n 1, 1) := by decide +kernel
theorem dJ5_setLength_d00df_42 : decode cJ5_setLength_d00df 42 = .ok (.invokestatic 133, 3) := by decide +kernel
theorem dJ5_setLength_d00df_45 : decode cJ5_setLength_d00df 45 = .ok (.goto 31, 3) := by decide +kernel
theorem dJ5_setLength_d00df_48 : decode cJ5_setLength_d00df 48 = .ok (.aload_n 0, 1) := by decide +kernel
theorem dJ5_setLength_d00df_49 : decode cJ5_setLength_d00df 49 = .ok (.getfield 15, 3) := by decide +kernel
theorem dJ5_setLength_d00df_52 : decode cJ5_setLength_d00df 52 = .ok (.aload_n 0, 1) := by decide +kernel
theorem dJ5_setLength_d00df_53 : decode cJ5_setLength_d00df 53 = .ok (.getfield 79, 3) := by decide +kernel
theorem dJ5_setLength_d00df_56 : decode cJ5_setLength_d00df 56 = .ok (.iload_n 1, 1) := by decide +kernel
theorem dJ5_setLength_d00df_57 : decode cJ5_setLength_d00df 57 = .ok (.invokestatic 137, 3) := by decide +kernel
theorem dJ5_setLength_d00df_60 : decode cJ5_setLength_d00df 60 = .ok (.goto 16, 3) := by decide +kernel
theorem dJ5_setLength_d00df_63 : decode cJ5_setLength_d00df 63 = .ok (.aload_n 0, 1) := by decide +kernel
theorem dJ5_setLength_d00df_64 : decode cJ5_setLength_d00df 64 = .ok (.getfield 79, 3) := by decide +kernel
theorem dJ5_setLength_d00df_67 : decode cJ5_setLength_d00df 67 = .ok (.iload_n 1, 1) := by decide +kernel
theorem dJ5_setLength_d00df_68 : decode cJ5_setLength_d00df 68 = .ok (.if_icmp .le 8, 3) := by decide +kernel
theorem dJ5_setLength_d00df_71 : decode cJ5_setLength_d00df 71 = .ok (.aload_n 0, 1) := by decide +kernel
theorem dJ5_setLength_d00df_72 : decode cJ5_setLength_d00df 72 = .ok (.iconst 1, 1) := by decide +kernel
theorem dJ5_setLength_d00df_73 : decode cJ5_setLength_d00df 73 = .ok (.putfield 73, 3) := by decide +kernel
theorem dJ5_setLength_d00df_76 : decode cJ5_setLength_d00df 76 = .ok (.aload_n 0, 1) := by decide +kernel
theorem dJ5_setLength_d00df_77 : decode cJ5_setLength_d00df 77 = .ok (.iload_n 1, 1) := by decide +kernel
theorem dJ5_setLength_d00df_78 : decode cJ5_setLength_d00df 78 = .ok (.putfield 79, 3) := by decide +kernel
theorem dJ5_setLength_d00df_81 : decode cJ5_setLength_d00df 81 = .ok (.return_, 1) := by decide +kernel
theorem dJ5_charAt_5068e_0 : decode cJ5_charAt_5068e 0 = .ok (.aload_n 0, 1) := by decide +kernel
theorem dJ5_charAt_5068e_1 : decode cJ5_charAt_5068e 1 = .ok (.getfield 22, 3) := by decide +kernel
theorem dJ5_charAt_5068e_4 : decode cJ5_charAt_5068e 4 = .ok (.istore_n 2, 1) := by decide +kernel
theorem dJ5_charAt_5068e_5 : decode cJ5_charAt_5068e 5 = .ok (.aload_n 0, 1) := by decide +kernel
theorem dJ5_charAt_5068e_6 : decode cJ5_charAt_5068e 6 = .ok (.getfield 15, 3) := by decide +kernel
theorem dJ5_charAt_5068e_9 : decode cJ5_charAt_5068e 9 = .ok (.astore_n 3, 1) := by decide +kernel
theorem dJ5_charAt_5068e_10 : decode cJ5_charAt_5068e 10 = .ok (.aload_n 0, 1) := by decide +kernel
theorem dJ5_charAt_5068e_11 : decode cJ5_charAt_5068e 11 = .ok (.getfield 79, 3) := by decide +kernel
theorem dJ5_charAt_5068e_14 : decode cJ5_charAt_5068e 14 = .ok (.aload_n 3, 1) := by decide +kernel
theorem dJ5_charAt_5068e_15 : decode cJ5_charAt_5068e 15 = .ok (.arraylength, 1) := by decide +kernel
theorem dJ5_charAt_5068e_16 : decode cJ5_charAt_5068e 16 = .ok (.iload_n 2, 1) := by decide +kernel
theorem dJ5_charAt_5068e_17 : decode cJ5_charAt_5068e 17 = .ok (.ishr, 1) := by decide +kernel
theorem dJ5_charAt_5068e_18 : decode cJ5_charAt_5068e 18 = .ok (.invokestatic 138, 3) := by decide +kernel
theorem dJ5_charAt_5068e_21 : decode cJ5_charAt_5068e 21 = .ok (.istore 4, 2) := by decide +kernel
theorem dJ5_charAt_5068e_23 : decode cJ5_charAt_5068e 23 = .ok (.iload_n 1, 1) := by decide +kernel
theorem dJ5_charAt_5068e_24 : decode cJ5_charAt_5068e 24 = .ok (.iload 4, 2) := by decide +kernel
theorem dJ5_charAt_5068e_26 : decode cJ5_charAt_5068e 26 = .ok (.invokestatic 144, 3) := by decide +kernel
theorem dJ5_charAt_5068e_29 : decode cJ5_charAt_5068e 29 = .ok (.iload_n 2, 1) := by decide +kernel
theorem dJ5_charAt_5068e_30 : decode cJ5_charAt_5068e 30 = .ok (.ifCond .ne 12, 3) := by decide +kernel
theorem dJ5_charAt_5068e_33 : decode cJ5_charAt_5068e 33 = .ok (.aload_n 3, 1) := by decide +kernel
theorem dJ5_charAt_5068e_34 : decode cJ5_charAt_5068e 34 = .ok (.iload_n 1, 1) := by decide +kernel
theorem dJ5_charAt_5068e_35 : decode cJ5_charAt_5068e 35 = .ok (.baload, 1) := by decide +kernel
theorem dJ5_charAt_5068e_36 : decode cJ5_charAt_5068e 36 = .ok (.sipush 255, 3) := by decide +kernel
theorem dJ5_charAt_5068e_39 : decode cJ5_charAt_5068e 39 = .ok (.iand, 1) := by decide +kernel
theorem dJ5_charAt_5068e_40 : decode cJ5_charAt_5068e 40 = .ok (.i2c, 1) := by decide +kernel
theorem dJ5_charAt_5068e_41 : decode cJ5_charAt_5068e 41 = .ok (.ireturn, 1) := by decide +kernel
theorem dJ5_charAt_5068e_42 : decode cJ5_charAt_5068e 42 = .ok (.aload_n 3, 1) := by decide +kernel
theorem dJ5_charAt_5068e_43 : decode cJ5_charAt_5068e 43 = .ok (.iload_n 1, 1) := by decide +kernel
theorem dJ5_charAt_5068e_44 : decode cJ5_charAt_5068e 44 = .ok (.invokestatic 148, 3) := by decide +kernel
theorem dJ5_charAt_5068e_47 : decode cJ5_charAt_5068e 47 = .ok (.ireturn, 1) := by decide +kernel
theorem dJ5_append_3fe6f_0 : decode cJ5_append_3fe6f 0 = .ok (.aload_n 0, 1) := by decide +kernel
theorem dJ5_append_3fe6f_1 : decode cJ5_append_3fe6f 1 = .ok (.aload_n 0, 1) := by decide +kernel
theorem dJ5_append_3fe6f_2 : decode cJ5_append_3fe6f 2 = .ok (.getfield 79, 3) := by decide +kernel
theorem dJ5_append_3fe6f_5 : decode cJ5_append_3fe6f 5 = .ok (.iconst 1, 1) := by decide +kernel
theorem dJ5_append_3fe6f_6 : decode cJ5_append_3fe6f 6 = .ok (.iadd, 1) := by decide +kernel
theorem dJ5_append_3fe6f_7 : decode cJ5_append_3fe6f 7 = .ok (.invokevirtual 100, 3) := by decide +kernel
theorem dJ5_append_3fe6f_10 : decode cJ5_append_3fe6f 10 = .ok (.aload_n 0, 1) := by decide +kernel
theorem dJ5_append_3fe6f_11 : decode cJ5_append_3fe6f 11 = .ok (.invokevirtual 83, 3) := by decide +kernel
theorem dJ5_append_3fe6f_14 : decode cJ5_append_3fe6f 14 = .ok (.ifCond .eq 31, 3) := by decide +kernel
theorem dJ5_append_3fe6f_17 : decode cJ5_append_3fe6f 17 = .ok (.iload_n 1, 1) := by decide +kernel
theorem dJ5_append_3fe6f_18 : decode cJ5_append_3fe6f 18 = .ok (.invokestatic 191, 3) := by decide +kernel
theorem dJ5_append_3fe6f_21 : decode cJ5_append_3fe6f 21 = .ok (.ifCond .eq 24, 3) := by decide +kernel
theorem dJ5_append_3fe6f_24 : decode cJ5_append_3fe6f 24 = .ok (.aload_n 0, 1) := by decide +kernel
theorem dJ5_append_3fe6f_25 : decode cJ5_append_3fe6f 25 = .ok (.getfield 15, 3) := by decide +kernel
theorem dJ5_append_3fe6f_28 : decode cJ5_append_3fe6f 28 = .ok (.aload_n 0, 1) := by decide +kernel
theorem dJ5_append_3fe6f_29 : decode cJ5_append_3fe6f 29 = .ok (.dup, 1) := by decide +kernel
theorem dJ5_append_3fe6f_30 : decode cJ5_append_3fe6f 30 = .ok (.getfield 79, 3) := by decide +kernel
theorem dJ5_append_3fe6f_33 : decode cJ5_append_3fe6f 33 = .ok (.dup_x1, 1) := by decide +kernel
theorem dJ5_append_3fe6f_34 : decode cJ5_append_3fe6f 34 = .ok (.iconst 1, 1) := by decide +kernel
theorem dJ5_append_3fe6f_35 : decode cJ5_append_3fe6f 35 = .ok (.iadd, 1) := by decide +kernel
theorem dJ5_append_3fe6f_36 : decode cJ5_append_3fe6f 36 = .ok (.putfield 79, 3) := by decide +kernel
theorem dJ5_append_3fe6f_39 : decode cJ5_append_3fe6f 39 = .ok (.iload_n 1, 1) := by decide +kernel
theorem dJ5_append_3fe6f_40 : decode cJ5_append_3fe6f 40 = .ok (.i2b, 1) := by decide +kernel
theorem dJ5_append_3fe6f_41 : decode cJ5_append_3fe6f 41 = .ok (.bastore, 1) := by decide +kernel
theorem dJ5_append_3fe6f_42 : decode cJ5_append_3fe6f 42 = .ok (.goto 33, 3) := by decide +kernel
theorem dJ5_append_3fe6f_45 : decode cJ5_append_3fe6f 45 = .ok (.aload_n 0, 1) := by decide +kernel
theorem dJ5_append_3fe6f_46 : decode cJ5_append_3fe6f 46 = .ok (.invokevirtual 83, 3) := by decide +kernel
theorem dJ5_append_3fe6f_49 : decode cJ5_append_3fe6f 49 = .ok (.ifCond .eq 7, 3) := by decide +kernel
theorem dJ5_append_3fe6f_52 : decode cJ5_append_3fe6f 52 = .ok (.aload_n 0, 1) := by decide +kernel
theorem dJ5_append_3fe6f_53 : decode cJ5_append_3fe6f 53 = .ok (.invokevirtual 195, 3) := by decide +kernel
theorem dJ5_append_3fe6f_56 : decode cJ5_append_3fe6f 56 = .ok (.aload_n 0, 1) := by decide +kernel
theorem dJ5_append_3fe6f_57 : decode cJ5_append_3fe6f 57 = .ok (.getfield 15, 3) := by decide +kernel
theorem dJ5_append_3fe6f_60 : decode cJ5_append_3fe6f 60 = .ok (.aload_n 0, 1) := by decide +kernel
theorem dJ5_append_3fe6f_61 : decode cJ5_append_3fe6f 61 = .ok (.dup, 1) := by decide +kernel
theorem dJ5_append_3fe6f_62 : decode cJ5_append_3fe6f 62 = .ok (.getfield 79, 3) := by decide +kernel
theorem dJ5_append_3fe6f_65 : decode cJ5_append_3fe6f 65 = .ok (.dup_x1, 1) := by decide +kernel
theorem dJ5_append_3fe6f_66 : decode cJ5_append_3fe6f 66 = .ok (.iconst 1, 1) := by decide +kernel
theorem dJ5_append_3fe6f_67 : decode cJ5_append_3fe6f 67 = .ok (.iadd, 1) := by decide +kernel
theorem dJ5_append_3fe6f_68 : decode cJ5_append_3fe6f 68 = .ok (.putfield 79, 3) := by decide +kernel
theorem dJ5_append_3fe6f_71 : decode cJ5_append_3fe6f 71 = .ok (.iload_n 1, 1) := by decide +kernel
theorem dJ5_append_3fe6f_72 : decode cJ5_append_3fe6f 72 = .ok (.invokestatic 197, 3) := by decide +kernel
theorem dJ5_append_3fe6f_75 : decode cJ5_append_3fe6f 75 = .ok (.aload_n 0, 1) := by decide +kernel
theorem dJ5_append_3fe6f_76 : decode cJ5_append_3fe6f 76 = .ok (.areturn, 1) := by decide +kernel
theorem dJ5_isLatin1_aae02_0 : decode cJ5_isLatin1_aae02 0 = .ok (.getstatic 18, 3) := by decide +kernel
theorem dJ5_isLatin1_aae02_3 : decode cJ5_isLatin1_aae02 3 = .ok (.ifCond .eq 14, 3) := by decide +kernel
theorem dJ5_isLatin1_aae02_6 : decode cJ5_isLatin1_aae02 6 = .ok (.aload_n 0, 1) := by decide +kernel
theorem dJ5_isLatin1_aae02_7 : decode cJ5_isLatin1_aae02 7 = .ok (.getfield 22, 3) := by decide +kernel
theorem dJ5_isLatin1_aae02_10 : decode cJ5_isLatin1_aae02 10 = .ok (.ifCond .ne 7, 3) := by decide +kernel
theorem dJ5_isLatin1_aae02_13 : decode cJ5_isLatin1_aae02 13 = .ok (.iconst 1, 1) := by decide +kernel
theorem dJ5_isLatin1_aae02_14 : decode cJ5_isLatin1_aae02 14 = .ok (.goto 4, 3) := by decide +kernel
theorem dJ5_isLatin1_aae02_17 : decode cJ5_isLatin1_aae02 17 = .ok (.iconst 0, 1) := by decide +kernel
theorem dJ5_isLatin1_aae02_18 : decode cJ5_isLatin1_aae02 18 = .ok (.ireturn, 1) := by decide +kernel
theorem dJ6_numberOfTrailingZeros_0f7a4_0 : decode cJ6_numberOfTrailingZeros_0f7a4 0 = .ok (.iload_n 0, 1) := by decide +kernel
theorem dJ6_numberOfTrailingZeros_0f7a4_1 : decode cJ6_numberOfTrailingZeros_0f7a4 1 = .ok (.iconst (-1), 1) := by decide +kernel
theorem dJ6_numberOfTrailingZeros_0f7a4_2 : decode cJ6_numberOfTrailingZeros_0f7a4 2 = .ok (.ixor, 1) := by decide +kernel
theorem dJ6_numberOfTrailingZeros_0f7a4_3 : decode cJ6_numberOfTrailingZeros_0f7a4 3 = .ok (.iload_n 0, 1) := by decide +kernel
theorem dJ6_numberOfTrailingZeros_0f7a4_4 : decode cJ6_numberOfTrailingZeros_0f7a4 4 = .ok (.iconst 1, 1) := by decide +kernel
theorem dJ6_numberOfTrailingZeros_0f7a4_5 : decode cJ6_numberOfTrailingZeros_0f7a4 5 = .ok (.isub, 1) := by decide +kernel
theorem dJ6_numberOfTrailingZeros_0f7a4_6 : decode cJ6_numberOfTrailingZeros_0f7a4 6 = .ok (.iand, 1) := by decide +kernel
theorem dJ6_numberOfTrailingZeros_0f7a4_7 : decode cJ6_numberOfTrailingZeros_0f7a4 7 = .ok (.istore_n 0, 1) := by decide +kernel
theorem dJ6_numberOfTrailingZeros_0f7a4_8 : decode cJ6_numberOfTrailingZeros_0f7a4 8 = .ok (.iload_n 0, 1) := by decide +kernel
theorem dJ6_numberOfTrailingZeros_0f7a4_9 : decode cJ6_numberOfTrailingZeros_0f7a4 9 = .ok (.ifCond .gt 8, 3) := by decide +kernel
theorem dJ6_numberOfTrailingZeros_0f7a4_12 : decode cJ6_numberOfTrailingZeros_0f7a4 12 = .ok (.iload_n 0, 1) := by decide +kernel
theorem dJ6_numberOfTrailingZeros_0f7a4_13 : decode cJ6_numberOfTrailingZeros_0f7a4 13 = .ok (.bipush 32, 2) := by decide +kernel
theorem dJ6_numberOfTrailingZeros_0f7a4_15 : decode cJ6_numberOfTrailingZeros_0f7a4 15 = .ok (.iand, 1) := by decide +kernel
theorem dJ6_numberOfTrailingZeros_0f7a4_16 : decode cJ6_numberOfTrailingZeros_0f7a4 16 = .ok (.ireturn, 1) := by decide +kernel
theorem dJ6_numberOfTrailingZeros_0f7a4_17 : decode cJ6_numberOfTrailingZeros_0f7a4 17 = .ok (.iconst 1, 1) := by decide +kernel
theorem dJ6_numberOfTrailingZeros_0f7a4_18 : decode cJ6_numberOfTrailingZeros_0f7a4 18 = .ok (.istore_n 1, 1) := by decide +kernel
theorem dJ6_numberOfTrailingZeros_0f7a4_19 : decode cJ6_numberOfTrailingZeros_0f7a4 19 = .ok (.iload_n 0, 1) := by decide +kernel
theorem dJ6_numberOfTrailingZeros_0f7a4_20 : decode cJ6_numberOfTrailingZeros_0f7a4 20 = .ok (.ldc_w 264, 3) := by decide +kernel
theorem dJ6_numberOfTrailingZeros_0f7a4_23 : decode cJ6_numberOfTrailingZeros_0f7a4 23 = .ok (.if_icmp .le 11, 3) := by decide +kernel
theorem dJ6_numberOfTrailingZeros_0f7a4_26 : decode cJ6_numberOfTrailingZeros_0f7a4 26 = .ok (.iinc 1 16, 3) := by decide +kernel
theorem dJ6_numberOfTrailingZeros_0f7a4_29 : decode cJ6_numberOfTrailingZeros_0f7a4 29 = .ok (.iload_n 0, 1) := by decide +kernel
theorem dJ6_numberOfTrailingZeros_0f7a4_30 : decode cJ6_numberOfTrailingZeros_0f7a4 30 = .ok (.bipush 16, 2) := by decide +kernel
theorem dJ6_numberOfTrailingZeros_0f7a4_32 : decode cJ6_numberOfTrailingZeros_0f7a4 32 = .ok (.iushr, 1) := by decide +kernel
theorem dJ6_numberOfTrailingZeros_0f7a4_33 : decode cJ6_numberOfTrailingZeros_0f7a4 33 = .ok (.istore_n 0, 1) := by decide +kernel
theorem dJ6_numberOfTrailingZeros_0f7a4_34 : decode cJ6_numberOfTrailingZeros_0f7a4 34 = .ok (.iload_n 0, 1) := by decide +kernel
theorem dJ6_numberOfTrailingZeros_0f7a4_35 : decode cJ6_numberOfTrailingZeros_0f7a4 35 = .ok (.sipush 256, 3) := by decide +kernel
theorem dJ6_numberOfTrailingZeros_0f7a4_38 : decode cJ6_numberOfTrailingZeros_0f7a4 38 = .ok (.if_icmp .le 11, 3) := by decide +kernel
theorem dJ6_numberOfTrailingZeros_0f7a4_41 : decode cJ6_numberOfTrailingZeros_0f7a4 41 = .ok (.iinc 1 8, 3) := by decide +kernel
theorem dJ6_numberOfTrailingZeros_0f7a4_44 : decode cJ6_numberOfTrailingZeros_0f7a4 44 = .ok (.iload_n 0, 1) := by decide +kernel
theorem dJ6_numberOfTrailingZeros_0f7a4_45 : decode cJ6_numberOfTrailingZeros_0f7a4 45 = .ok (.bipush 8, 2) := by decide +kernel
theorem dJ6_numberOfTrailingZeros_0f7a4_47 : decode cJ6_numberOfTrailingZeros_0f7a4 47 = .ok (.iushr, 1) := by decide +kernel
theorem dJ6_numberOfTrailingZeros_0f7a4_48 : decode cJ6_numberOfTrailingZeros_0f7a4 48 = .ok (.istore_n 0, 1) := by decide +kernel
theorem dJ6_numberOfTrailingZeros_0f7a4_49 : decode cJ6_numberOfTrailingZeros_0f7a4 49 = .ok (.iload_n 0, 1) := by decide +kernel
theorem dJ6_numberOfTrailingZeros_0f7a4_50 : decode cJ6_numberOfTrailingZeros_0f7a4 50 = .ok (.bipush 16, 2) := by decide +kernel
theorem dJ6_numberOfTrailingZeros_0f7a4_52 : decode cJ6_numberOfTrailingZeros_0f7a4 52 = .ok (.if_icmp .le 10, 3) := by decide +kernel
theorem dJ6_numberOfTrailingZeros_0f7a4_55 : decode cJ6_numberOfTrailingZeros_0f7a4 55 = .ok (.iinc 1 4, 3) := by decide +kernel
theorem dJ6_numberOfTrailingZeros_0f7a4_58 : decode cJ6_numberOfTrailingZeros_0f7a4 58 = .ok (.iload_n 0, 1) := by decide +kernel
theorem dJ6_numberOfTrailingZeros_0f7a4_59 : decode cJ6_numberOfTrailingZeros_0f7a4 59 = .ok (.iconst 4, 1) := by decide +kernel
theorem dJ6_numberOfTrailingZeros_0f7a4_60 : decode cJ6_numberOfTrailingZeros_0f7a4 60 = .ok (.iushr, 1) := by decide +kernel
theorem dJ6_numberOfTrailingZeros_0f7a4_61 : decode cJ6_numberOfTrailingZeros_0f7a4 61 = .ok (.istore_n 0, 1) := by decide +kernel
theorem dJ6_numberOfTrailingZeros_0f7a4_62 : decode cJ6_numberOfTrailingZeros_0f7a4 62 = .ok (.iload_n 0, 1) := by decide +kernel
theorem dJ6_numberOfTrailingZeros_0f7a4_63 : decode cJ6_numberOfTrailingZeros_0f7a4 63 = .ok (.iconst 4, 1) := by decide +kernel
theorem dJ6_numberOfTrailingZeros_0f7a4_64 : decode cJ6_numberOfTrailingZeros_0f7a4 64 = .ok (.if_icmp .le 10, 3) := by decide +kernel
theorem dJ6_numberOfTrailingZeros_0f7a4_67 : decode cJ6_numberOfTrailingZeros_0f7a4 67 = .ok (.iinc 1 2, 3) := by decide +kernel
theorem dJ6_numberOfTrailingZeros_0f7a4_70 : decode cJ6_numberOfTrailingZeros_0f7a4 70 = .ok (.iload_n 0, 1) := by decide +kernel
theorem dJ6_numberOfTrailingZeros_0f7a4_71 : decode cJ6_numberOfTrailingZeros_0f7a4 71 = .ok (.iconst 2, 1) := by decide +kernel
theorem dJ6_numberOfTrailingZeros_0f7a4_72 : decode cJ6_numberOfTrailingZeros_0f7a4 72 = .ok (.iushr, 1) := by decide +kernel
theorem dJ6_numberOfTrailingZeros_0f7a4_73 : decode cJ6_numberOfTrailingZeros_0f7a4 73 = .ok (.istore_n 0, 1) := by decide +kernel
theorem dJ6_numberOfTrailingZeros_0f7a4_74 : decode cJ6_numberOfTrailingZeros_0f7a4 74 = .ok (.iload_n 1, 1) := by decide +kernel
theorem dJ6_numberOfTrailingZeros_0f7a4_75 : decode cJ6_numberOfTrailingZeros_0f7a4 75 = .ok (.iload_n 0, 1) := by decide +kernel
theorem dJ6_numberOfTrailingZeros_0f7a4_76 : decode cJ6_numberOfTrailingZeros_0f7a4 76 = .ok (.iconst 1, 1) := by decide +kernel
theorem dJ6_numberOfTrailingZeros_0f7a4_77 : decode cJ6_numberOfTrailingZeros_0f7a4 77 = .ok (.iushr, 1) := by decide +kernel
theorem dJ6_numberOfTrailingZeros_0f7a4_78 : decode cJ6_numberOfTrailingZeros_0f7a4 78 = .ok (.iadd, 1) := by decide +kernel
theorem dJ6_numberOfTrailingZeros_0f7a4_79 : decode cJ6_numberOfTrailingZeros_0f7a4 79 = .ok (.ireturn, 1) := by decide +kernel
theorem dJ6_bitCount_0f7a4_0 : decode cJ6_bitCount_0f7a4 0 = .ok (.iload_n 0, 1) := by decide +kernel
theorem dJ6_bitCount_0f7a4_1 : decode cJ6_bitCount_0f7a4 1 = .ok (.iload_n 0, 1) := by decide +kernel
theorem dJ6_bitCount_0f7a4_2 : decode cJ6_bitCount_0f7a4 2 = .ok (.iconst 1, 1) := by decide +kernel
theorem dJ6_bitCount_0f7a4_3 : decode cJ6_bitCount_0f7a4 3 = .ok (.iushr, 1) := by decide +kernel
theorem dJ6_bitCount_0f7a4_4 : decode cJ6_bitCount_0f7a4 4 = .ok (.ldc_w 265, 3) := by decide +kernel
theorem dJ6_bitCount_0f7a4_7 : decode cJ6_bitCount_0f7a4 7 = .ok (.iand, 1) := by decide +kernel
theorem dJ6_bitCount_0f7a4_8 : decode cJ6_bitCount_0f7a4 8 = .ok (.isub, 1) := by decide +kernel
theorem dJ6_bitCount_0f7a4_9 : decode cJ6_bitCount_0f7a4 9 = .ok (.istore_n 0, 1) := by decide +kernel
theorem dJ6_bitCount_0f7a4_10 : decode cJ6_bitCount_0f7a4 10 = .ok (.iload_n 0, 1) := by decide +kernel
theorem dJ6_bitCount_0f7a4_11 : decode cJ6_bitCount_0f7a4 11 = .ok (.ldc_w 266, 3) := by decide +kernel
theorem dJ6_bitCount_0f7a4_14 : decode cJ6_bitCount_0f7a4 14 = .ok (.iand, 1) := by decide +kernel
theorem dJ6_bitCount_0f7a4_15 : decode cJ6_bitCount_0f7a4 15 = .ok (.iload_n 0, 1) := by decide +kernel
theorem dJ6_bitCount_0f7a4_16 : decode cJ6_bitCount_0f7a4 16 = .ok (.iconst 2, 1) := by decide +kernel
theorem dJ6_bitCount_0f7a4_17 : decode cJ6_bitCount_0f7a4 17 = .ok (.iushr, 1) := by decide +kernel
theorem dJ6_bitCount_0f7a4_18 : decode cJ6_bitCount_0f7a4 18 = .ok (.ldc_w 266, 3) := by decide +kernel
theorem dJ6_bitCount_0f7a4_21 : decode cJ6_bitCount_0f7a4 21 = .ok (.iand, 1) := by decide +kernel
theorem dJ6_bitCount_0f7a4_22 : decode cJ6_bitCount_0f7a4 22 = .ok (.iadd, 1) := by decide +kernel
theorem dJ6_bitCount_0f7a4_23 : decode cJ6_bitCount_0f7a4 23 = .ok (.istore_n 0, 1) := by decide +kernel
theorem dJ6_bitCount_0f7a4_24 : decode cJ6_bitCount_0f7a4 24 = .ok (.iload_n 0, 1) := by decide +kernel
theorem dJ6_bitCount_0f7a4_25 : decode cJ6_bitCount_0f7a4 25 = .ok (.iload_n 0, 1) := by decide +kernel
theorem dJ6_bitCount_0f7a4_26 : decode cJ6_bitCount_0f7a4 26 = .ok (.iconst 4, 1) := by decide +kernel
theorem dJ6_bitCount_0f7a4_27 : decode cJ6_bitCount_0f7a4 27 = .ok (.iushr, 1) := by decide +kernel
theorem dJ6_bitCount_0f7a4_28 : decode cJ6_bitCount_0f7a4 28 = .ok (.iadd, 1) := by decide +kernel
theorem dJ6_bitCount_0f7a4_29 : decode cJ6_bitCount_0f7a4 29 = .ok (.ldc_w 267, 3) := by decide +kernel
theorem dJ6_bitCount_0f7a4_32 : decode cJ6_bitCount_0f7a4 32 = .ok (.iand, 1) := by decide +kernel
theorem dJ6_bitCount_0f7a4_33 : decode cJ6_bitCount_0f7a4 33 = .ok (.istore_n 0, 1) := by decide +kernel
theorem dJ6_bitCount_0f7a4_34 : decode cJ6_bitCount_0f7a4 34 = .ok (.iload_n 0, 1) := by decide +kernel
theorem dJ6_bitCount_0f7a4_35 : decode cJ6_bitCount_0f7a4 35 = .ok (.iload_n 0, 1) := by decide +kernel
theorem dJ6_bitCount_0f7a4_36 : decode cJ6_bitCount_0f7a4 36 = .ok (.bipush 8, 2) := by decide +kernel
theorem dJ6_bitCount_0f7a4_38 : decode cJ6_bitCount_0f7a4 38 = .ok (.iushr, 1) := by decide +kernel
theorem dJ6_bitCount_0f7a4_39 : decode cJ6_bitCount_0f7a4 39 = .ok (.iadd, 1) := by decide +kernel
theorem dJ6_bitCount_0f7a4_40 : decode cJ6_bitCount_0f7a4 40 = .ok (.istore_n 0, 1) := by decide +kernel
theorem dJ6_bitCount_0f7a4_41 : decode cJ6_bitCount_0f7a4 41 = .ok (.iload_n 0, 1) := by decide +kernel
theorem dJ6_bitCount_0f7a4_42 : decode cJ6_bitCount_0f7a4 42 = .ok (.iload_n 0, 1) := by decide +kernel
theorem dJ6_bitCount_0f7a4_43 : decode cJ6_bitCount_0f7a4 43 = .ok (.bipush 16, 2) := by decide +kernel
theorem dJ6_bitCount_0f7a4_45 : decode cJ6_bitCount_0f7a4 45 = .ok (.iushr, 1) := by decide +kernel
theorem dJ6_bitCount_0f7a4_46 : decode cJ6_bitCount_0f7a4 46 = .ok (.iadd, 1) := by decide +kernel
theorem dJ6_bitCount_0f7a4_47 : decode cJ6_bitCount_0f7a4 47 = .ok (.istore_n 0, 1) := by decide +kernel
theorem dJ6_bitCount_0f7a4_48 : decode cJ6_bitCount_0f7a4 48 = .ok (.iload_n 0, 1) := by decide +kernel
theorem dJ6_bitCount_0f7a4_49 : decode cJ6_bitCount_0f7a4 49 = .ok (.bipush 63, 2) := by decide +kernel
theorem dJ6_bitCount_0f7a4_51 : decode cJ6_bitCount_0f7a4 51 = .ok (.iand, 1) := by decide +kernel
theorem dJ6_bitCount_0f7a4_52 : decode cJ6_bitCount_0f7a4 52 = .ok (.ireturn, 1) := by decide +kernel
theorem dJ9_max_7cf53_0 : decode cJ9_max_7cf53 0 = .ok (.iload_n 0, 1) := by decide +kernel
theorem dJ9_max_7cf53_1 : decode cJ9_max_7cf53 1 = .ok (.iload_n 1, 1) := by decide +kernel
theorem dJ9_max_7cf53_2 : decode cJ9_max_7cf53 2 = .ok (.if_icmp .lt 7, 3) := by decide +kernel
theorem dJ9_max_7cf53_5 : decode cJ9_max_7cf53 5 = .ok (.iload_n 0, 1) := by decide +kernel
theorem dJ9_max_7cf53_6 : decode cJ9_max_7cf53 6 = .ok (.goto 4, 3) := by decide +kernel
theorem dJ9_max_7cf53_9 : decode cJ9_max_7cf53 9 = .ok (.iload_n 1, 1) := by decide +kernel
theorem dJ9_max_7cf53_10 : decode cJ9_max_7cf53 10 = .ok (.ireturn, 1) := by decide +kernel
theorem dJ9_min_7cf53_0 : decode cJ9_min_7cf53 0 = .ok (.iload_n 0, 1) := by decide +kernel
theorem dJ9_min_7cf53_1 : decode cJ9_min_7cf53 1 = .ok (.iload_n 1, 1) := by decide +kernel
theorem dJ9_min_7cf53_2 : decode cJ9_min_7cf53 2 = .ok (.if_icmp .gt 7, 3) := by decide +kernel
theorem dJ9_min_7cf53_5 : decode cJ9_min_7cf53 5 = .ok (.iload_n 0, 1) := by decide +kernel
theorem dJ9_min_7cf53_6 : decode cJ9_min_7cf53 6 = .ok (.goto 4, 3) := by decide +kernel
theorem dJ9_min_7cf53_9 : decode cJ9_min_7cf53 9 = .ok (.iload_n 1, 1) := by decide +kernel
theorem dJ9_min_7cf53_10 : decode cJ9_min_7cf53 10 = .ok (.ireturn, 1) := by decide +kernel
theorem dJ0_checkIndex_df160_0 : decode cJ0_checkIndex_df160 0 = .ok (.iload_n 0, 1) := by decide +kernel
theorem dJ0_checkIndex_df160_1 : decode cJ0_checkIndex_df160 1 = .ok (.iload_n 1, 1) := by decide +kernel
theorem dJ0_checkIndex_df160_2 : decode cJ0_checkIndex_df160 2 = .ok (.getstatic 1053, 3) := by decide +kernel
theorem dJ0_checkIndex_df160_5 : decode cJ0_checkIndex_df160 5 = .ok (.invokestatic 1059, 3) := by decide +kernel
theorem dJ0_checkIndex_df160_8 : decode cJ0_checkIndex_df160 8 = .ok (.pop, 1) := by decide +kernel
theorem dJ0_checkIndex_df160_9 : decode cJ0_checkIndex_df160 9 = .ok (.return_, 1) := by decide +kernel
theorem dJ0_checkBoundsOffCount_cabcc_0 : decode cJ0_checkBoundsOffCount_cabcc 0 = .ok (.iload_n 0, 1) := by decide +kernel
theorem dJ0_checkBoundsOffCount_cabcc_1 : decode cJ0_checkBoundsOffCount_cabcc 1 = .ok (.iload_n 1, 1) := by decide +kernel
theorem dJ0_checkBoundsOffCount_cabcc_2 : decode cJ0_checkBoundsOffCount_cabcc 2 = .ok (.iload_n 2, 1) := by decide +kernel
theorem dJ0_checkBoundsOffCount_cabcc_3 : decode cJ0_checkBoundsOffCount_cabcc 3 = .ok (.getstatic 1053, 3) := by decide +kernel
theorem dJ0_checkBoundsOffCount_cabcc_6 : decode cJ0_checkBoundsOffCount_cabcc 6 = .ok (.invokestatic 1065, 3) := by decide +kernel
theorem dJ0_checkBoundsOffCount_cabcc_9 : decode cJ0_checkBoundsOffCount_cabcc 9 = .ok (.ireturn, 1) := by decide +kernel
theorem dJ4_init_da8c8_0 : decode cJ4_init_da8c8 0 = .ok (.aload_n 0, 1) := by decide +kernel
theorem dJ4_init_da8c8_1 : decode cJ4_init_da8c8 1 = .ok (.bipush 16, 2) := by decide +kernel
theorem dJ4_init_da8c8_3 : decode cJ4_init_da8c8 3 = .ok (.invokespecial 1, 3) := by decide +kernel
theorem dJ4_init_da8c8_6 : decode cJ4_init_da8c8 6 = .ok (.return_, 1) := by decide +kernel
theorem dJ4_append_cf468_0 : decode cJ4_append_cf468 0 = .ok (.aload_n 0, 1) := by decide +kernel
theorem dJ4_append_cf468_1 : decode cJ4_append_cf468 1 = .ok (.iload_n 1, 1) := by decide +kernel
theorem dJ4_append_cf468_2 : decode cJ4_append_cf468 2 = .ok (.invokespecial 50, 3) := by decide +kernel
theorem dJ4_append_cf468_5 : decode cJ4_append_cf468 5 = .ok (.pop, 1) := by decide +kernel
theorem dJ4_append_cf468_6 : decode cJ4_append_cf468 6 = .ok (.aload_n 0, 1) := by decide +kernel
theorem dJ4_append_cf468_7 : decode cJ4_append_cf468 7 = .ok (.areturn, 1) := by decide +kernel
theorem dJ4_charAt_5068e_0 : decode cJ4_charAt_5068e 0 = .ok (.aload_n 0, 1) := by decide +kernel
theorem dJ4_charAt_5068e_1 : decode cJ4_charAt_5068e 1 = .ok (.iload_n 1, 1) := by decide +kernel
theorem dJ4_charAt_5068e_2 : decode cJ4_charAt_5068e 2 = .ok (.invokespecial 329, 3) := by decide +kernel
theorem dJ4_charAt_5068e_5 : decode cJ4_charAt_5068e 5 = .ok (.ireturn, 1) := by decide +kernel
theorem dJ4_setLength_d00df_0 : decode cJ4_setLength_d00df 0 = .ok (.aload_n 0, 1) := by decide +kernel
theorem dJ4_setLength_d00df_1 : decode cJ4_setLength_d00df 1 = .ok (.iload_n 1, 1) := by decide +kernel
theorem dJ4_setLength_d00df_2 : decode cJ4_setLength_d00df 2 = .ok (.invokespecial 333, 3) := by decide +kernel
theorem dJ4_setLength_d00df_5 : decode cJ4_setLength_d00df 5 = .ok (.return_, 1) := by decide +kernel
theorem dJ4_length_8abf5_0 : decode cJ4_length_8abf5 0 = .ok (.aload_n 0, 1) := by decide +kernel
theorem dJ4_length_8abf5_1 : decode cJ4_length_8abf5 1 = .ok (.invokespecial 343, 3) := by decide +kernel
theorem dJ4_length_8abf5_4 : decode cJ4_length_8abf5 4 = .ok (.ireturn, 1) := by decide +kernel
theorem dJ1_canEncode_fc78d_0 : decode cJ1_canEncode_fc78d 0 = .ok (.iload_n 0, 1) := by decide +kernel
theorem dJ1_canEncode_fc78d_1 : decode cJ1_canEncode_fc78d 1 = .ok (.sipush 255, 3) := by decide +kernel
theorem dJ1_canEncode_fc78d_4 : decode cJ1_canEncode_fc78d 4 = .ok (.if_icmp .gt 7, 3) := by decide +kernel
theorem dJ1_canEncode_fc78d_7 : decode cJ1_canEncode_fc78d 7 = .ok (.iconst 1, 1) := by decide +kernel
theorem dJ1_canEncode_fc78d_8 : decode cJ1_canEncode_fc78d 8 = .ok (.goto 4, 3) := by decide +kernel
theorem dJ1_canEncode_fc78d_11 : decode cJ1_canEncode_fc78d 11 = .ok (.iconst 0, 1) := by decide +kernel
theorem dJ1_canEncode_fc78d_12 : decode cJ1_canEncode_fc78d 12 = .ok (.ireturn, 1) := by decide +kernel
theorem dJ1_fillNull_b72d1_0 : decode cJ1_fillNull_b72d1 0 = .ok (.aload_n 0, 1) := by decide +kernel
theorem dJ1_fillNull_b72d1_1 : decode cJ1_fillNull_b72d1 1 = .ok (.iload_n 1, 1) := by decide +kernel
theorem dJ1_fillNull_b72d1_2 : decode cJ1_fillNull_b72d1 2 = .ok (.iload_n 2, 1) := by decide +kernel
theorem dJ1_fillNull_b72d1_3 : decode cJ1_fillNull_b72d1 3 = .ok (.iconst 0, 1) := by decide +kernel
theorem dJ1_fillNull_b72d1_4 : decode cJ1_fillNull_b72d1 4 = .ok (.invokestatic 236, 3) := by decide +kernel
theorem dJ1_fillNull_b72d1_7 : decode cJ1_fillNull_b72d1 7 = .ok (.return_, 1) := by decide +kernel
theorem dJ1_inflate_0e8fd_0 : decode cJ1_inflate_0e8fd 0 = .ok (.aload_n 0, 1) := by decide +kernel
theorem dJ1_inflate_0e8fd_1 : decode cJ1_inflate_0e8fd 1 = .ok (.iload_n 1, 1) := by decide +kernel
theorem dJ1_inflate_0e8fd_2 : decode cJ1_inflate_0e8fd 2 = .ok (.aload_n 2, 1) := by decide +kernel
theorem dJ1_inflate_0e8fd_3 : decode cJ1_inflate_0e8fd 3 = .ok (.iload_n 3, 1) := by decide +kernel
theorem dJ1_inflate_0e8fd_4 : decode cJ1_inflate_0e8fd 4 = .ok (.iload 4, 2) := by decide +kernel
theorem dJ1_inflate_0e8fd_6 : decode cJ1_inflate_0e8fd 6 = .ok (.invokestatic 240, 3) := by decide +kernel
theorem dJ1_inflate_0e8fd_9 : decode cJ1_inflate_0e8fd 9 = .ok (.return_, 1) := by decide +kernel
theorem dJ2_newBytesFor_77867_0 : decode cJ2_newBytesFor_77867 0 = .ok (.iload_n 0, 1) := by decide +kernel
theorem dJ2_newBytesFor_77867_1 : decode cJ2_newBytesFor_77867 1 = .ok (.invokestatic 11, 3) := by decide +kernel
theorem dJ2_newBytesFor_77867_4 : decode cJ2_newBytesFor_77867 4 = .ok (.newarray .byte, 2) := by decide +kernel
theorem dJ2_newBytesFor_77867_6 : decode cJ2_newBytesFor_77867 6 = .ok (.areturn, 1) := by decide +kernel
theorem dJ2_newBytesLength_0f7a4_0 : decode cJ2_newBytesLength_0f7a4 0 = .ok (.iload_n 0, 1) := by decide +kernel
theorem dJ2_newBytesLength_0f7a4_1 : decode cJ2_newBytesLength_0f7a4 1 = .ok (.ifCond .ge 11, 3) := by decide +kernel
theorem dJ2_newBytesLength_0f7a4_4 : decode cJ2_newBytesLength_0f7a4 4 = .ok (.new 17, 3) := by decide +kernel
theorem dJ2_newBytesLength_0f7a4_7 : decode cJ2_newBytesLength_0f7a4 7 = .ok (.dup, 1) := by decide +kernel
theorem dJ2_newBytesLength_0f7a4_8 : decode cJ2_newBytesLength_0f7a4 8 = .ok (.invokespecial 19, 3) := by decide +kernel
theorem dJ2_newBytesLength_0f7a4_11 : decode cJ2_newBytesLength_0f7a4 11 = .ok (.athrow, 1) := by decide +kernel
theorem dJ2_newBytesLength_0f7a4_12 : decode cJ2_newBytesLength_0f7a4 12 = .ok (.iload_n 0, 1) := by decide +kernel
theorem dJ2_newBytesLength_0f7a4_13 : decode cJ2_newBytesLength_0f7a4 13 = .ok (.ldc 20, 2) := by decide +kernel
theorem dJ2_newBytesLength_0f7a4_15 : decode cJ2_newBytesLength_0f7a4 15 = .ok (.if_icmp .lt 40, 3) := by decide +kernel
theorem dJ2_newBytesLength_0f7a4_18 : decode cJ2_newBytesLength_0f7a4 18 = .ok (.new 21, 3) := by decide +kernel
theorem dJ2_newBytesLength_0f7a4_21 : decode cJ2_newBytesLength_0f7a4 21 = .ok (.dup, 1) := by decide +kernel
theorem dJ2_newBytesLength_0f7a4_22 : decode cJ2_newBytesLength_0f7a4 22 = .ok (.new 23, 3) := by decide +kernel
theorem dJ2_newBytesLength_0f7a4_25 : decode cJ2_newBytesLength_0f7a4 25 = .ok (.dup, 1) := by decide +kernel
theorem dJ2_newBytesLength_0f7a4_26 : decode cJ2_newBytesLength_0f7a4 26 = .ok (.invokespecial 25, 3) := by decide +kernel
theorem dJ2_newBytesLength_0f7a4_29 : decode cJ2_newBytesLength_0f7a4 29 = .ok (.ldc 26, 2) := by decide +kernel
theorem dJ2_newBytesLength_0f7a4_31 : decode cJ2_newBytesLength_0f7a4 31 = .ok (.invokevirtual 28, 3) := by decide +kernel
theorem dJ2_newBytesLength_0f7a4_34 : decode cJ2_newBytesLength_0f7a4 34 = .ok (.iload_n 0, 1) := by decide +kernel
theorem dJ2_newBytesLength_0f7a4_35 : decode cJ2_newBytesLength_0f7a4 35 = .ok (.invokevirtual 32, 3) := by decide +kernel
theorem dJ2_newBytesLength_0f7a4_38 : decode cJ2_newBytesLength_0f7a4 38 = .ok (.ldc 35, 2) := by decide +kernel
theorem dJ2_newBytesLength_0f7a4_40 : decode cJ2_newBytesLength_0f7a4 40 = .ok (.invokevirtual 28, 3) := by decide +kernel
theorem dJ2_newBytesLength_0f7a4_43 : decode cJ2_newBytesLength_0f7a4 43 = .ok (.ldc 20, 2) := by decide +kernel
theorem dJ2_newBytesLength_0f7a4_45 : decode cJ2_newBytesLength_0f7a4 45 = .ok (.invokevirtual 32, 3) := by decide +kernel
theorem dJ2_newBytesLength_0f7a4_48 : decode cJ2_newBytesLength_0f7a4 48 = .ok (.invokevirtual 37, 3) := by decide +kernel
theorem dJ2_newBytesLength_0f7a4_51 : decode cJ2_newBytesLength_0f7a4 51 = .ok (.invokespecial 41, 3) := by decide +kernel
theorem dJ2_newBytesLength_0f7a4_54 : decode cJ2_newBytesLength_0f7a4 54 = .ok (.athrow, 1) := by decide +kernel
theorem dJ2_newBytesLength_0f7a4_55 : decode cJ2_newBytesLength_0f7a4 55 = .ok (.iload_n 0, 1) := by decide +kernel
theorem dJ2_newBytesLength_0f7a4_56 : decode cJ2_newBytesLength_0f7a4 56 = .ok (.iconst 1, 1) := by decide +kernel
theorem dJ2_newBytesLength_0f7a4_57 : decode cJ2_newBytesLength_0f7a4 57 = .ok (.ishl, 1) := by decide +kernel
theorem dJ2_newBytesLength_0f7a4_58 : decode cJ2_newBytesLength_0f7a4 58 = .ok (.ireturn, 1) := by decide +kernel
theorem dJ2_putChar_b72d1_0 : decode cJ2_putChar_b72d1 0 = .ok (.getstatic 44, 3) := by decide +kernel
theorem dJ2_putChar_b72d1_3 : decode cJ2_putChar_b72d1 3 = .ok (.ifCond .ne 25, 3) := by decide +kernel
theorem dJ2_putChar_b72d1_6 : decode cJ2_putChar_b72d1 6 = .ok (.iload_n 1, 1) := by decide +kernel
theorem dJ2_putChar_b72d1_7 : decode cJ2_putChar_b72d1 7 = .ok (.ifCond .lt 11, 3) := by decide +kernel
theorem dJ2_putChar_b72d1_10 : decode cJ2_putChar_b72d1 10 = .ok (.iload_n 1, 1) := by decide +kernel
theorem dJ2_putChar_b72d1_11 : decode cJ2_putChar_b72d1 11 = .ok (.aload_n 0, 1) := by decide +kernel
theorem dJ2_putChar_b72d1_12 : decode cJ2_putChar_b72d1 12 = .ok (.invokestatic 48, 3) := by decide +kernel
theorem dJ2_putChar_b72d1_15 : decode cJ2_putChar_b72d1 15 = .ok (.if_icmp .lt 13, 3) := by decide +kernel
theorem dJ2_putChar_b72d1_18 : decode cJ2_putChar_b72d1 18 = .ok (.new 52, 3) := by decide +kernel
theorem dJ2_putChar_b72d1_21 : decode cJ2_putChar_b72d1 21 = .ok (.dup, 1) := by decide +kernel
theorem dJ2_putChar_b72d1_22 : decode cJ2_putChar_b72d1 22 = .ok (.ldc 54, 2) := by decide +kernel
theorem dJ2_putChar_b72d1_24 : decode cJ2_putChar_b72d1 24 = .ok (.invokespecial 56, 3) := by decide +kernel
theorem dJ2_putChar_b72d1_27 : decode cJ2_putChar_b72d1 27 = .ok (.athrow, 1) := by decide +kernel
theorem dJ2_putChar_b72d1_28 : decode cJ2_putChar_b72d1 28 = .ok (.iload_n 1, 1) := by decide +kernel
theorem dJ2_putChar_b72d1_29 : decode cJ2_putChar_b72d1 29 = .ok (.iconst 1, 1) := by decide +kernel
theorem dJ2_putChar_b72d1_30 : decode cJ2_putChar_b72d1 30 = .ok (.ishl, 1) := by decide +kernel
theorem dJ2_putChar_b72d1_31 : decode cJ2_putChar_b72d1 31 = .ok (.istore_n 1, 1) := by decide +kernel
theorem dJ2_putChar_b72d1_32 : decode cJ2_putChar_b72d1 32 = .ok (.aload_n 0, 1) := by decide +kernel
theorem dJ2_putChar_b72d1_33 : decode cJ2_putChar_b72d1 33 = .ok (.iload_n 1, 1) := by decide +kernel
theorem dJ2_putChar_b72d1_34 : decode cJ2_putChar_b72d1 34 = .ok (.iinc 1 1, 3) := by decide +kernel
theorem dJ2_putChar_b72d1_37 : decode cJ2_putChar_b72d1 37 = .ok (.iload_n 2, 1) := by decide +kernel
theorem dJ2_putChar_b72d1_38 : decode cJ2_putChar_b72d1 38 = .ok (.getstatic 59, 3) := by decide +kernel
theorem dJ2_putChar_b72d1_41 : decode cJ2_putChar_b72d1 41 = .ok (.ishr, 1) := by decide +kernel
theorem dJ2_putChar_b72d1_42 : decode cJ2_putChar_b72d1 42 = .ok (.i2b, 1) := by decide +kernel
theorem dJ2_putChar_b72d1_43 : decode cJ2_putChar_b72d1 43 = .ok (.bastore, 1) := by decide +kernel
theorem dJ2_putChar_b72d1_44 : decode cJ2_putChar_b72d1 44 = .ok (.aload_n 0, 1) := by decide +kernel
theorem dJ2_putChar_b72d1_45 : decode cJ2_putChar_b72d1 45 = .ok (.iload_n 1, 1) := by decide +kernel
theorem dJ2_putChar_b72d1_46 : decode cJ2_putChar_b72d1 46 = .ok (.iload_n 2, 1) := by decide +kernel
theorem dJ2_putChar_b72d1_47 : decode cJ2_putChar_b72d1 47 = .ok (.getstatic 63, 3) := by decide +kernel
theorem dJ2_putChar_b72d1_50 : decode cJ2_putChar_b72d1 50 = .ok (.ishr, 1) := by decide +kernel
theorem dJ2_putChar_b72d1_51 : decode cJ2_putChar_b72d1 51 = .ok (.i2b, 1) := by decide +kernel
theorem dJ2_putChar_b72d1_52 : decode cJ2_putChar_b72d1 52 = .ok (.bastore, 1) := by decide +kernel
theorem dJ2_putChar_b72d1_53 : decode cJ2_putChar_b72d1 53 = .ok (.return_, 1) := by decide +kernel
theorem dJ2_getChar_3b067_0 : decode cJ2_getChar_3b067 0 = .ok (.getstatic 44, 3) := by decide +kernel
theorem dJ2_getChar_3b067_3 : decode cJ2_getChar_3b067 3 = .ok (.ifCond .ne 25, 3) := by decide +kernel
theorem dJ2_getChar_3b067_6 : decode cJ2_getChar_3b067 6 = .ok (.iload_n 1, 1) := by decide +kernel
theorem dJ2_getChar_3b067_7 : decode cJ2_getChar_3b067 7 = .ok (.ifCond .lt 11, 3) := by decide +kernel
theorem dJ2_getChar_3b067_10 : decode cJ2_getChar_3b067 10 = .ok (.iload_n 1, 1) := by decide +kernel
theorem dJ2_getChar_3b067_11 : decode cJ2_getChar_3b067 11 = .ok (.aload_n 0, 1) := by decide +kernel
theorem dJ2_getChar_3b067_12 : decode cJ2_getChar_3b067 12 = .ok (.invokestatic 48, 3) := by decide +kernel
theorem dJ2_getChar_3b067_15 : decode cJ2_getChar_3b067 15 = .ok (.if_icmp .lt 13, 3) := by decide +kernel
theorem dJ2_getChar_3b067_18 : decode cJ2_getChar_3b067 18 = .ok (.new 52, 3) := by decide +kernel
theorem dJ2_getChar_3b067_21 : decode cJ2_getChar_3b067 21 = .ok (.dup, 1) := by decide +kernel
theorem dJ2_getChar_3b067_22 : decode cJ2_getChar_3b067 22 = .ok (.ldc 54, 2) := by decide +kernel
theorem dJ2_getChar_3b067_24 : decode cJ2_getChar_3b067 24 = .ok (.invokespecial 56, 3) := by decide +kernel
theorem dJ2_getChar_3b067_27 : decode cJ2_getChar_3b067 27 = .ok (.athrow, 1) := by decide +kernel
theorem dJ2_getChar_3b067_28 : decode cJ2_getChar_3b067 28 = .ok (.iload_n 1, 1) := by decide +kernel
theorem dJ2_getChar_3b067_29 : decode cJ2_getChar_3b067 29 = .ok (.iconst 1, 1) := by decide +kernel
theorem dJ2_getChar_3b067_30 : decode cJ2_getChar_3b067 30 = .ok (.ishl, 1) := by decide +kernel
theorem dJ2_getChar_3b067_31 : decode cJ2_getChar_3b067 31 = .ok (.istore_n 1, 1) := by decide +kernel
theorem dJ2_getChar_3b067_32 : decode cJ2_getChar_3b067 32 = .ok (.aload_n 0, 1) := by decide +kernel
theorem dJ2_getChar_3b067_33 : decode cJ2_getChar_3b067 33 = .ok (.iload_n 1, 1) := by decide +kernel
theorem dJ2_getChar_3b067_34 : decode cJ2_getChar_3b067 34 = .ok (.iinc 1 1, 3) := by decide +kernel
theorem dJ2_getChar_3b067_37 : decode cJ2_getChar_3b067 37 = .ok (.baload, 1) := by decide +kernel
theorem dJ2_getChar_3b067_38 : decode cJ2_getChar_3b067 38 = .ok (.sipush 255, 3) := by decide +kernel
theorem dJ2_getChar_3b067_41 : decode cJ2_getChar_3b067 41 = .ok (.iand, 1) := by decide +kernel
theorem dJ2_getChar_3b067_42 : decode cJ2_getChar_3b067 42 = .ok (.getstatic 59, 3) := by decide +kernel
theorem dJ2_getChar_3b067_45 : decode cJ2_getChar_3b067 45 = .ok (.ishl, 1) := by decide +kernel
theorem dJ2_getChar_3b067_46 : decode cJ2_getChar_3b067 46 = .ok (.aload_n 0, 1) := by decide +kernel
theorem dJ2_getChar_3b067_47 : decode cJ2_getChar_3b067 47 = .ok (.iload_n 1, 1) := by decide +kernel
theorem dJ2_getChar_3b067_48 : decode cJ2_getChar_3b067 48 = .ok (.baload, 1) := by decide +kernel
theorem dJ2_getChar_3b067_49 : decode cJ2_getChar_3b067 49 = .ok (.sipush 255, 3) := by decide +kernel
theorem dJ2_getChar_3b067_52 : decode cJ2_getChar_3b067 52 = .ok (.iand, 1) := by decide +kernel
theorem dJ2_getChar_3b067_53 : decode cJ2_getChar_3b067 53 = .ok (.getstatic 63, 3) := by decide +kernel
theorem dJ2_getChar_3b067_56 : decode cJ2_getChar_3b067 56 = .ok (.ishl, 1) := by decide +kernel
theorem dJ2_getChar_3b067_57 : decode cJ2_getChar_3b067 57 = .ok (.ior, 1) := by decide +kernel
theorem dJ2_getChar_3b067_58 : decode cJ2_getChar_3b067 58 = .ok (.i2c, 1) := by decide +kernel
theorem dJ2_getChar_3b067_59 : decode cJ2_getChar_3b067 59 = .ok (.ireturn, 1) := by decide +kernel
theorem dJ2_length_9d52b_0 : decode cJ2_length_9d52b 0 = .ok (.aload_n 0, 1) := by decide +kernel
theorem dJ2_length_9d52b_1 : decode cJ2_length_9d52b 1 = .ok (.arraylength, 1) := by decide +kernel
theorem dJ2_length_9d52b_2 : decode cJ2_length_9d52b 2 = .ok (.iconst 1, 1) := by decide +kernel
theorem dJ2_length_9d52b_3 : decode cJ2_length_9d52b 3 = .ok (.ishr, 1) := by decide +kernel
theorem dJ2_length_9d52b_4 : decode cJ2_length_9d52b 4 = .ok (.ireturn, 1) := by decide +kernel
theorem dJ2_fillNull_b72d1_0 : decode cJ2_fillNull_b72d1 0 = .ok (.aload_n 0, 1) := by decide +kernel
theorem dJ2_fillNull_b72d1_1 : decode cJ2_fillNull_b72d1 1 = .ok (.iload_n 1, 1) := by decide +kernel
theorem dJ2_fillNull_b72d1_2 : decode cJ2_fillNull_b72d1 2 = .ok (.iconst 1, 1) := by decide +kernel
theorem dJ2_fillNull_b72d1_3 : decode cJ2_fillNull_b72d1 3 = .ok (.ishl, 1) := by decide +kernel
theorem dJ2_fillNull_b72d1_4 : decode cJ2_fillNull_b72d1 4 = .ok (.iload_n 2, 1) := by decide +kernel
theorem dJ2_fillNull_b72d1_5 : decode cJ2_fillNull_b72d1 5 = .ok (.iconst 1, 1) := by decide +kernel
theorem dJ2_fillNull_b72d1_6 : decode cJ2_fillNull_b72d1 6 = .ok (.ishl, 1) := by decide +kernel
theorem dJ2_fillNull_b72d1_7 : decode cJ2_fillNull_b72d1 7 = .ok (.iconst 0, 1) := by decide +kernel
theorem dJ2_fillNull_b72d1_8 : decode cJ2_fillNull_b72d1 8 = .ok (.invokestatic 380, 3) := by decide +kernel
theorem dJ2_fillNull_b72d1_11 : decode cJ2_fillNull_b72d1 11 = .ok (.return_, 1) := by decide +kernel
theorem dJ2_putCharSB_b72d1_0 : decode cJ2_putCharSB_b72d1 0 = .ok (.iload_n 1, 1) := by decide +kernel
theorem dJ2_putCharSB_b72d1_1 : decode cJ2_putCharSB_b72d1 1 = .ok (.aload_n 0, 1) := by decide +kernel
theorem dJ2_putCharSB_b72d1_2 : decode cJ2_putCharSB_b72d1 2 = .ok (.invokestatic 67, 3) := by decide +kernel
theorem dJ2_putCharSB_b72d1_5 : decode cJ2_putCharSB_b72d1 5 = .ok (.aload_n 0, 1) := by decide +kernel
theorem dJ2_putCharSB_b72d1_6 : decode cJ2_putCharSB_b72d1 6 = .ok (.iload_n 1, 1) := by decide +kernel
theorem dJ2_putCharSB_b72d1_7 : decode cJ2_putCharSB_b72d1 7 = .ok (.iload_n 2, 1) := by decide +kernel
theorem dJ2_putCharSB_b72d1_8 : decode cJ2_putCharSB_b72d1 8 = .ok (.invokestatic 111, 3) := by decide +kernel
theorem dJ2_putCharSB_b72d1_11 : decode cJ2_putCharSB_b72d1 11 = .ok (.return_, 1) := by decide +kernel
theorem dJ2_inflate_0e8fd_0 : decode cJ2_inflate_0e8fd 0 = .ok (.iload_n 3, 1) := by decide +kernel
theorem dJ2_inflate_0e8fd_1 : decode cJ2_inflate_0e8fd 1 = .ok (.iload 4, 2) := by decide +kernel
theorem dJ2_inflate_0e8fd_3 : decode cJ2_inflate_0e8fd 3 = .ok (.aload_n 2, 1) := by decide +kernel
theorem dJ2_inflate_0e8fd_4 : decode cJ2_inflate_0e8fd 4 = .ok (.invokestatic 173, 3) := by decide +kernel
theorem dJ2_inflate_0e8fd_7 : decode cJ2_inflate_0e8fd 7 = .ok (.iconst 0, 1) := by decide +kernel
theorem dJ2_inflate_0e8fd_8 : decode cJ2_inflate_0e8fd 8 = .ok (.istore 5, 2) := by decide +kernel
theorem dJ2_inflate_0e8fd_10 : decode cJ2_inflate_0e8fd 10 = .ok (.iload 5, 2) := by decide +kernel
theorem dJ2_inflate_0e8fd_12 : decode cJ2_inflate_0e8fd 12 = .ok (.iload 4, 2) := by decide +kernel
theorem dJ2_inflate_0e8fd_14 : decode cJ2_inflate_0e8fd 14 = .ok (.if_icmp .ge 27, 3) := by decide +kernel
theorem dJ2_inflate_0e8fd_17 : decode cJ2_inflate_0e8fd 17 = .ok (.aload_n 2, 1) := by decide +kernel
theorem dJ2_inflate_0e8fd_18 : decode cJ2_inflate_0e8fd 18 = .ok (.iload_n 3, 1) := by decide +kernel
theorem dJ2_inflate_0e8fd_19 : decode cJ2_inflate_0e8fd 19 = .ok (.iinc 3 1, 3) := by decide +kernel
theorem dJ2_inflate_0e8fd_22 : decode cJ2_inflate_0e8fd 22 = .ok (.aload_n 0, 1) := by decide +kernel
theorem dJ2_inflate_0e8fd_23 : decode cJ2_inflate_0e8fd 23 = .ok (.iload_n 1, 1) := by decide +kernel
theorem dJ2_inflate_0e8fd_24 : decode cJ2_inflate_0e8fd 24 = .ok (.iinc 1 1, 3) := by decide +kernel
theorem dJ2_inflate_0e8fd_27 : decode cJ2_inflate_0e8fd 27 = .ok (.baload, 1) := by decide +kernel
theorem dJ2_inflate_0e8fd_28 : decode cJ2_inflate_0e8fd 28 = .ok (.sipush 255, 3) := by decide +kernel
theorem dJ2_inflate_0e8fd_31 : decode cJ2_inflate_0e8fd 31 = .ok (.iand, 1) := by decide +kernel
theorem dJ2_inflate_0e8fd_32 : decode cJ2_inflate_0e8fd 32 = .ok (.invokestatic 111, 3) := by decide +kernel
theorem dJ2_inflate_0e8fd_35 : decode cJ2_inflate_0e8fd 35 = .ok (.iinc 5 1, 3) := by decide +kernel
theorem dJ2_inflate_0e8fd_38 : decode cJ2_inflate_0e8fd 38 = .ok (.goto (-28), 3) := by decide +kernel
theorem dJ2_inflate_0e8fd_41 : decode cJ2_inflate_0e8fd 41 = .ok (.return_, 1) := by decide +kernel
theorem dJ2_checkIndex_2214a_0 : decode cJ2_checkIndex_2214a 0 = .ok (.iload_n 0, 1) := by decide +kernel
theorem dJ2_checkIndex_2214a_1 : decode cJ2_checkIndex_2214a 1 = .ok (.aload_n 1, 1) := by decide +kernel
theorem dJ2_checkIndex_2214a_2 : decode cJ2_checkIndex_2214a 2 = .ok (.invokestatic 48, 3) := by decide +kernel
theorem dJ2_checkIndex_2214a_5 : decode cJ2_checkIndex_2214a 5 = .ok (.invokestatic 414, 3) := by decide +kernel
theorem dJ2_checkIndex_2214a_8 : decode cJ2_checkIndex_2214a 8 = .ok (.return_, 1) := by decide +kernel
theorem dJ2_checkBoundsOffCount_d044e_0 : decode cJ2_checkBoundsOffCount_d044e 0 = .ok (.iload_n 0, 1) := by decide +kernel
theorem dJ2_checkBoundsOffCount_d044e_1 : decode cJ2_checkBoundsOffCount_d044e 1 = .ok (.iload_n 1, 1) := by decide +kernel
theorem dJ2_checkBoundsOffCount_d044e_2 : decode cJ2_checkBoundsOffCount_d044e 2 = .ok (.aload_n 2, 1) := by decide +kernel
theorem dJ2_checkBoundsOffCount_d044e_3 : decode cJ2_checkBoundsOffCount_d044e 3 = .ok (.invokestatic 48, 3) := by decide +kernel
theorem dJ2_checkBoundsOffCount_d044e_6 : decode cJ2_checkBoundsOffCount_d044e 6 = .ok (.invokestatic 419, 3) := by decide +kernel
theorem dJ2_checkBoundsOffCount_d044e_9 : decode cJ2_checkBoundsOffCount_d044e 9 = .ok (.pop, 1) := by decide +kernel
theorem dJ2_checkBoundsOffCount_d044e_10 : decode cJ2_checkBoundsOffCount_d044e 10 = .ok (.return_, 1) := by decide +kernel
theorem dJxa1e45_init_da8c8_0 : decode cJxa1e45_init_da8c8 0 = .ok (.aload_n 0, 1) := by decide +kernel
theorem dJxa1e45_init_da8c8_1 : decode cJxa1e45_init_da8c8 1 = .ok (.invokespecial 1, 3) := by decide +kernel
theorem dJxa1e45_init_da8c8_4 : decode cJxa1e45_init_da8c8 4 = .ok (.return_, 1) := by decide +kernel
theorem dJxc12de_init_da8c8_0 : decode cJxc12de_init_da8c8 0 = .ok (.aload_n 0, 1) := by decide +kernel
theorem dJxc12de_init_da8c8_1 : decode cJxc12de_init_da8c8 1 = .ok (.invokespecial 1, 3) := by decide +kernel
theorem dJxc12de_init_da8c8_4 : decode cJxc12de_init_da8c8 4 = .ok (.aload_n 0, 1) := by decide +kernel
theorem dJxc12de_init_da8c8_5 : decode cJxc12de_init_da8c8 5 = .ok (.iconst 0, 1) := by decide +kernel
theorem dJxc12de_init_da8c8_6 : decode cJxc12de_init_da8c8 6 = .ok (.putfield 7, 3) := by decide +kernel
theorem dJxc12de_init_da8c8_9 : decode cJxc12de_init_da8c8 9 = .ok (.return_, 1) := by decide +kernel
theorem dJx4a65c_init_da8c8_0 : decode cJx4a65c_init_da8c8 0 = .ok (.aload_n 0, 1) := by decide +kernel
theorem dJx4a65c_init_da8c8_1 : decode cJx4a65c_init_da8c8 1 = .ok (.invokespecial 1, 3) := by decide +kernel
theorem dJx4a65c_init_da8c8_4 : decode cJx4a65c_init_da8c8 4 = .ok (.aload_n 0, 1) := by decide +kernel
theorem dJx4a65c_init_da8c8_5 : decode cJx4a65c_init_da8c8 5 = .ok (.getstatic 39, 3) := by decide +kernel
theorem dJx4a65c_init_da8c8_8 : decode cJx4a65c_init_da8c8 8 = .ok (.putfield 9, 3) := by decide +kernel
theorem dJx4a65c_init_da8c8_11 : decode cJx4a65c_init_da8c8 11 = .ok (.return_, 1) := by decide +kernel
theorem dJx4a65c_grow_92f84_0 : decode cJx4a65c_grow_92f84 0 = .ok (.aload_n 0, 1) := by decide +kernel
theorem dJx4a65c_grow_92f84_1 : decode cJx4a65c_grow_92f84 1 = .ok (.getfield 9, 3) := by decide +kernel
theorem dJx4a65c_grow_92f84_4 : decode cJx4a65c_grow_92f84 4 = .ok (.arraylength, 1) := by decide +kernel
theorem dJx4a65c_grow_92f84_5 : decode cJx4a65c_grow_92f84 5 = .ok (.istore_n 2, 1) := by decide +kernel
theorem dJx4a65c_grow_92f84_6 : decode cJx4a65c_grow_92f84 6 = .ok (.iload_n 2, 1) := by decide +kernel
theorem dJx4a65c_grow_92f84_7 : decode cJx4a65c_grow_92f84 7 = .ok (.ifCond .gt 13, 3) := by decide +kernel
theorem dJx4a65c_grow_92f84_10 : decode cJx4a65c_grow_92f84 10 = .ok (.aload_n 0, 1) := by decide +kernel
theorem dJx4a65c_grow_92f84_11 : decode cJx4a65c_grow_92f84 11 = .ok (.getfield 9, 3) := by decide +kernel
theorem dJx4a65c_grow_92f84_14 : decode cJx4a65c_grow_92f84 14 = .ok (.getstatic 39, 3) := by decide +kernel
theorem dJx4a65c_grow_92f84_17 : decode cJx4a65c_grow_92f84 17 = .ok (.if_acmp .eq 28, 3) := by decide +kernel
theorem dJx4a65c_grow_92f84_20 : decode cJx4a65c_grow_92f84 20 = .ok (.iload_n 2, 1) := by decide +kernel
theorem dJx4a65c_grow_92f84_21 : decode cJx4a65c_grow_92f84 21 = .ok (.iload_n 1, 1) := by decide +kernel
theorem dJx4a65c_grow_92f84_22 : decode cJx4a65c_grow_92f84 22 = .ok (.iload_n 2, 1) := by decide +kernel
theorem dJx4a65c_grow_92f84_23 : decode cJx4a65c_grow_92f84 23 = .ok (.isub, 1) := by decide +kernel
theorem dJx4a65c_grow_92f84_24 : decode cJx4a65c_grow_92f84 24 = .ok (.iload_n 2, 1) := by decide +kernel
theorem dJx4a65c_grow_92f84_25 : decode cJx4a65c_grow_92f84 25 = .ok (.iconst 1, 1) := by decide +kernel
theorem dJx4a65c_grow_92f84_26 : decode cJx4a65c_grow_92f84 26 = .ok (.ishr, 1) := by decide +kernel
theorem dJx4a65c_grow_92f84_27 : decode cJx4a65c_grow_92f84 27 = .ok (.invokestatic 73, 3) := by decide +kernel
theorem dJx4a65c_grow_92f84_30 : decode cJx4a65c_grow_92f84 30 = .ok (.istore_n 3, 1) := by decide +kernel
theorem dJx4a65c_grow_92f84_31 : decode cJx4a65c_grow_92f84 31 = .ok (.aload_n 0, 1) := by decide +kernel
theorem dJx4a65c_grow_92f84_32 : decode cJx4a65c_grow_92f84 32 = .ok (.aload_n 0, 1) := by decide +kernel
theorem dJx4a65c_grow_92f84_33 : decode cJx4a65c_grow_92f84 33 = .ok (.getfield 9, 3) := by decide +kernel
theorem dJx4a65c_grow_92f84_36 : decode cJx4a65c_grow_92f84 36 = .ok (.iload_n 3, 1) := by decide +kernel
theorem dJx4a65c_grow_92f84_37 : decode cJx4a65c_grow_92f84 37 = .ok (.invokestatic 66, 3) := by decide +kernel
theorem dJx4a65c_grow_92f84_40 : decode cJx4a65c_grow_92f84 40 = .ok (.dup_x1, 1) := by decide +kernel
theorem dJx4a65c_grow_92f84_41 : decode cJx4a65c_grow_92f84 41 = .ok (.putfield 9, 3) := by decide +kernel
theorem dJx4a65c_grow_92f84_44 : decode cJx4a65c_grow_92f84 44 = .ok (.areturn, 1) := by decide +kernel
theorem dJx4a65c_grow_92f84_45 : decode cJx4a65c_grow_92f84 45 = .ok (.aload_n 0, 1) := by decide +kernel
theorem dJx4a65c_grow_92f84_46 : decode cJx4a65c_grow_92f84 46 = .ok (.bipush 10, 2) := by decide +kernel
theorem dJx4a65c_grow_92f84_48 : decode cJx4a65c_grow_92f84 48 = .ok (.iload_n 1, 1) := by decide +kernel
theorem dJx4a65c_grow_92f84_49 : decode cJx4a65c_grow_92f84 49 = .ok (.invokestatic 79, 3) := by decide +kernel
theorem dJx4a65c_grow_92f84_52 : decode cJx4a65c_grow_92f84 52 = .ok (.anewarray 7, 3) := by decide +kernel
theorem dJx4a65c_grow_92f84_55 : decode cJx4a65c_grow_92f84 55 = .ok (.dup_x1, 1) := by decide +kernel
theorem dJx4a65c_grow_92f84_56 : decode cJx4a65c_grow_92f84 56 = .ok (.putfield 9, 3) := by decide +kernel
theorem dJx4a65c_grow_92f84_59 : decode cJx4a65c_grow_92f84 59 = .ok (.areturn, 1) := by decide +kernel
theorem dJx4a65c_grow_d5877_0 : decode cJx4a65c_grow_d5877 0 = .ok (.aload_n 0, 1) := by decide +kernel
theorem dJx4a65c_grow_d5877_1 : decode cJx4a65c_grow_d5877 1 = .ok (.aload_n 0, 1) := by decide +kernel
theorem dJx4a65c_grow_d5877_2 : decode cJx4a65c_grow_d5877 2 = .ok (.getfield 48, 3) := by decide +kernel
theorem dJx4a65c_grow_d5877_5 : decode cJx4a65c_grow_d5877 5 = .ok (.iconst 1, 1) := by decide +kernel
theorem dJx4a65c_grow_d5877_6 : decode cJx4a65c_grow_d5877 6 = .ok (.iadd, 1) := by decide +kernel
theorem dJx4a65c_grow_d5877_7 : decode cJx4a65c_grow_d5877 7 = .ok (.invokevirtual 69, 3) := by decide +kernel
theorem dJx4a65c_grow_d5877_10 : decode cJx4a65c_grow_d5877 10 = .ok (.areturn, 1) := by decide +kernel
theorem dJx4a65c_size_8abf5_0 : decode cJx4a65c_size_8abf5 0 = .ok (.aload_n 0, 1) := by decide +kernel
theorem dJx4a65c_size_8abf5_1 : decode cJx4a65c_size_8abf5 1 = .ok (.getfield 48, 3) := by decide +kernel
theorem dJx4a65c_size_8abf5_4 : decode cJx4a65c_size_8abf5 4 = .ok (.ireturn, 1) := by decide +kernel
theorem dJx4a65c_elementData_915e3_0 : decode cJx4a65c_elementData_915e3 0 = .ok (.aload_n 0, 1) := by decide +kernel
theorem dJx4a65c_elementData_915e3_1 : decode cJx4a65c_elementData_915e3 1 = .ok (.getfield 9, 3) := by decide +kernel
theorem dJx4a65c_elementData_915e3_4 : decode cJx4a65c_elementData_915e3 4 = .ok (.iload_n 1, 1) := by decide +kernel
theorem dJx4a65c_elementData_915e3_5 : decode cJx4a65c_elementData_915e3 5 = .ok (.aaload, 1) := by decide +kernel
theorem dJx4a65c_elementData_915e3_6 : decode cJx4a65c_elementData_915e3 6 = .ok (.areturn, 1) := by decide +kernel
theorem dJx4a65c_get_915e3_0 : decode cJx4a65c_get_915e3 0 = .ok (.iload_n 1, 1) := by decide +kernel
theorem dJx4a65c_get_915e3_1 : decode cJx4a65c_get_915e3 1 = .ok (.aload_n 0, 1) := by decide +kernel
theorem dJx4a65c_get_915e3_2 : decode cJx4a65c_get_915e3 2 = .ok (.getfield 48, 3) := by decide +kernel
theorem dJx4a65c_get_915e3_5 : decode cJx4a65c_get_915e3 5 = .ok (.invokestatic 118, 3) := by decide +kernel
theorem dJx4a65c_get_915e3_8 : decode cJx4a65c_get_915e3 8 = .ok (.pop, 1) := by decide +kernel
theorem dJx4a65c_get_915e3_9 : decode cJx4a65c_get_915e3 9 = .ok (.aload_n 0, 1) := by decide +kernel
theorem dJx4a65c_get_915e3_10 : decode cJx4a65c_get_915e3 10 = .ok (.iload_n 1, 1) := by decide +kernel
theorem dJx4a65c_get_915e3_11 : decode cJx4a65c_get_915e3 11 = .ok (.invokevirtual 123, 3) := by decide +kernel
theorem dJx4a65c_get_915e3_14 : decode cJx4a65c_get_915e3 14 = .ok (.areturn, 1) := by decide +kernel
theorem dJx4a65c_add_72be8_0 : decode cJx4a65c_add_72be8 0 = .ok (.iload_n 3, 1) := by decide +kernel
theorem dJx4a65c_add_72be8_1 : decode cJx4a65c_add_72be8 1 = .ok (.aload_n 2, 1) := by decide +kernel
theorem dJx4a65c_add_72be8_2 : decode cJx4a65c_add_72be8 2 = .ok (.arraylength, 1) := by decide +kernel
theorem dJx4a65c_add_72be8_3 : decode cJx4a65c_add_72be8 3 = .ok (.if_icmp .ne 8, 3) := by decide +kernel
theorem dJx4a65c_add_72be8_6 : decode cJx4a65c_add_72be8 6 = .ok (.aload_n 0, 1) := by decide +kernel
theorem dJx4a65c_add_72be8_7 : decode cJx4a65c_add_72be8 7 = .ok (.invokevirtual 129, 3) := by decide +kernel
theorem dJx4a65c_add_72be8_10 : decode cJx4a65c_add_72be8 10 = .ok (.astore_n 2, 1) := by decide +kernel
theorem dJx4a65c_add_72be8_11 : decode cJx4a65c_add_72be8 11 = .ok (.aload_n 2, 1) := by decide +kernel
theorem dJx4a65c_add_72be8_12 : decode cJx4a65c_add_72be8 12 = .ok (.iload_n 3, 1) := by decide +kernel
theorem dJx4a65c_add_72be8_13 : decode cJx4a65c_add_72be8 13 = .ok (.aload_n 1, 1) := by decide +kernel
theorem dJx4a65c_add_72be8_14 : decode cJx4a65c_add_72be8 14 = .ok (.aastore, 1) := by decide +kernel
theorem dJx4a65c_add_72be8_15 : decode cJx4a65c_add_72be8 15 = .ok (.aload_n 0, 1) := by decide +kernel
theorem dJx4a65c_add_72be8_16 : decode cJx4a65c_add_72be8 16 = .ok (.iload_n 3, 1) := by decide +kernel
theorem dJx4a65c_add_72be8_17 : decode cJx4a65c_add_72be8 17 = .ok (.iconst 1, 1) := by decide +kernel
theorem dJx4a65c_add_72be8_18 : decode cJx4a65c_add_72be8 18 = .ok (.iadd, 1) := by decide +kernel
theorem dJx4a65c_add_72be8_19 : decode cJx4a65c_add_72be8 19 = .ok (.putfield 48, 3) := by decide +kernel
theorem dJx4a65c_add_72be8_22 : decode cJx4a65c_add_72be8 22 = .ok (.return_, 1) := by decide +kernel
theorem dJx4a65c_add_9ea2d_0 : decode cJx4a65c_add_9ea2d 0 = .ok (.aload_n 0, 1) := by decide +kernel
theorem dJx4a65c_add_9ea2d_1 : decode cJx4a65c_add_9ea2d 1 = .ok (.dup, 1) := by decide +kernel
theorem dJx4a65c_add_9ea2d_2 : decode cJx4a65c_add_9ea2d 2 = .ok (.getfield 63, 3) := by decide +kernel
theorem dJx4a65c_add_9ea2d_5 : decode cJx4a65c_add_9ea2d 5 = .ok (.iconst 1, 1) := by decide +kernel
theorem dJx4a65c_add_9ea2d_6 : decode cJx4a65c_add_9ea2d 6 = .ok (.iadd, 1) := by decide +kernel
theorem dJx4a65c_add_9ea2d_7 : decode cJx4a65c_add_9ea2d 7 = .ok (.putfield 63, 3) := by decide +kernel
theorem dJx4a65c_add_9ea2d_10 : decode cJx4a65c_add_9ea2d 10 = .ok (.aload_n 0, 1) := by decide +kernel
theorem dJx4a65c_add_9ea2d_11 : decode cJx4a65c_add_9ea2d 11 = .ok (.aload_n 1, 1) := by decide +kernel
theorem dJx4a65c_add_9ea2d_12 : decode cJx4a65c_add_9ea2d 12 = .ok (.aload_n 0, 1) := by decide +kernel
theorem dJx4a65c_add_9ea2d_13 : decode cJx4a65c_add_9ea2d 13 = .ok (.getfield 9, 3) := by decide +kernel
theorem dJx4a65c_add_9ea2d_16 : decode cJx4a65c_add_9ea2d 16 = .ok (.aload_n 0, 1) := by decide +kernel
theorem dJx4a65c_add_9ea2d_17 : decode cJx4a65c_add_9ea2d 17 = .ok (.getfield 48, 3) := by decide +kernel
theorem dJx4a65c_add_9ea2d_20 : decode cJx4a65c_add_9ea2d 20 = .ok (.invokevirtual 131, 3) := by decide +kernel
theorem dJx4a65c_add_9ea2d_23 : decode cJx4a65c_add_9ea2d 23 = .ok (.iconst 1, 1) := by decide +kernel
theorem dJx4a65c_add_9ea2d_24 : decode cJx4a65c_add_9ea2d 24 = .ok (.ireturn, 1) := by decide +kernel
theorem dJx4a65c_add_7a177_0 : decode cJx4a65c_add_7a177 0 = .ok (.aload_n 0, 1) := by decide +kernel
theorem dJx4a65c_add_7a177_1 : decode cJx4a65c_add_7a177 1 = .ok (.iload_n 1, 1) := by decide +kernel
theorem dJx4a65c_add_7a177_2 : decode cJx4a65c_add_7a177 2 = .ok (.invokevirtual 135, 3) := by decide +kernel
theorem dJx4a65c_add_7a177_5 : decode cJx4a65c_add_7a177 5 = .ok (.aload_n 0, 1) := by decide +kernel
theorem dJx4a65c_add_7a177_6 : decode cJx4a65c_add_7a177 6 = .ok (.dup, 1) := by decide +kernel
theorem dJx4a65c_add_7a177_7 : decode cJx4a65c_add_7a177 7 = .ok (.getfield 63, 3) := by decide +kernel
theorem dJx4a65c_add_7a177_10 : decode cJx4a65c_add_7a177 10 = .ok (.iconst 1, 1) := by decide +kernel
theorem dJx4a65c_add_7a177_11 : decode cJx4a65c_add_7a177 11 = .ok (.iadd, 1) := by decide +kernel
theorem dJx4a65c_add_7a177_12 : decode cJx4a65c_add_7a177 12 = .ok (.putfield 63, 3) := by decide +kernel
theorem dJx4a65c_add_7a177_15 : decode cJx4a65c_add_7a177 15 = .ok (.aload_n 0, 1) := by decide +kernel
theorem dJx4a65c_add_7a177_16 : decode cJx4a65c_add_7a177 16 = .ok (.getfield 48, 3) := by decide +kernel
theorem dJx4a65c_add_7a177_19 : decode cJx4a65c_add_7a177 19 = .ok (.dup, 1) := by decide +kernel
theorem dJx4a65c_add_7a177_20 : decode cJx4a65c_add_7a177 20 = .ok (.istore_n 3, 1) := by decide +kernel
theorem dJx4a65c_add_7a177_21 : decode cJx4a65c_add_7a177 21 = .ok (.aload_n 0, 1) := by decide +kernel
theorem dJx4a65c_add_7a177_22 : decode cJx4a65c_add_7a177 22 = .ok (.getfield 9, 3) := by decide +kernel
theorem dJx4a65c_add_7a177_25 : decode cJx4a65c_add_7a177 25 = .ok (.dup, 1) := by decide +kernel
theorem dJx4a65c_add_7a177_26 : decode cJx4a65c_add_7a177 26 = .ok (.astore 4, 2) := by decide +kernel
theorem dJx4a65c_add_7a177_28 : decode cJx4a65c_add_7a177 28 = .ok (.arraylength, 1) := by decide +kernel
theorem dJx4a65c_add_7a177_29 : decode cJx4a65c_add_7a177 29 = .ok (.if_icmp .ne 9, 3) := by decide +kernel
theorem dJx4a65c_add_7a177_32 : decode cJx4a65c_add_7a177 32 = .ok (.aload_n 0, 1) := by decide +kernel
theorem dJx4a65c_add_7a177_33 : decode cJx4a65c_add_7a177 33 = .ok (.invokevirtual 129, 3) := by decide +kernel
theorem dJx4a65c_add_7a177_36 : decode cJx4a65c_add_7a177 36 = .ok (.astore 4, 2) := by decide +kernel
theorem dJx4a65c_add_7a177_38 : decode cJx4a65c_add_7a177 38 = .ok (.aload 4, 2) := by decide +kernel
theorem dJx4a65c_add_7a177_40 : decode cJx4a65c_add_7a177 40 = .ok (.iload_n 1, 1) := by decide +kernel
theorem dJx4a65c_add_7a177_41 : decode cJx4a65c_add_7a177 41 = .ok (.aload 4, 2) := by decide +kernel
theorem dJx4a65c_add_7a177_43 : decode cJx4a65c_add_7a177 43 = .ok (.iload_n 1, 1) := by decide +kernel
theorem dJx4a65c_add_7a177_44 : decode cJx4a65c_add_7a177 44 = .ok (.iconst 1, 1) := by decide +kernel
theorem dJx4a65c_add_7a177_45 : decode cJx4a65c_add_7a177 45 = .ok (.iadd, 1) := by decide +kernel
theorem dJx4a65c_add_7a177_46 : decode cJx4a65c_add_7a177 46 = .ok (.iload_n 3, 1) := by decide +kernel
theorem dJx4a65c_add_7a177_47 : decode cJx4a65c_add_7a177 47 = .ok (.iload_n 1, 1) := by decide +kernel
theorem dJx4a65c_add_7a177_48 : decode cJx4a65c_add_7a177 48 = .ok (.isub, 1) := by decide +kernel
theorem dJx4a65c_add_7a177_49 : decode cJx4a65c_add_7a177 49 = .ok (.invokestatic 112, 3) := by decide +kernel
theorem dJx4a65c_add_7a177_52 : decode cJx4a65c_add_7a177 52 = .ok (.aload 4, 2) := by decide +kernel
theorem dJx4a65c_add_7a177_54 : decode cJx4a65c_add_7a177 54 = .ok (.iload_n 1, 1) := by decide +kernel
theorem dJx4a65c_add_7a177_55 : decode cJx4a65c_add_7a177 55 = .ok (.aload_n 2, 1) := by decide +kernel
theorem dJx4a65c_add_7a177_56 : decode cJx4a65c_add_7a177 56 = .ok (.aastore, 1) := by decide +kernel
theorem dJx4a65c_add_7a177_57 : decode cJx4a65c_add_7a177 57 = .ok (.aload_n 0, 1) := by decide +kernel
theorem dJx4a65c_add_7a177_58 : decode cJx4a65c_add_7a177 58 = .ok (.iload_n 3, 1) := by decide +kernel
theorem dJx4a65c_add_7a177_59 : decode cJx4a65c_add_7a177 59 = .ok (.iconst 1, 1) := by decide +kernel
theorem dJx4a65c_add_7a177_60 : decode cJx4a65c_add_7a177 60 = .ok (.iadd, 1) := by decide +kernel
theorem dJx4a65c_add_7a177_61 : decode cJx4a65c_add_7a177 61 = .ok (.putfield 48, 3) := by decide +kernel
theorem dJx4a65c_add_7a177_64 : decode cJx4a65c_add_7a177 64 = .ok (.return_, 1) := by decide +kernel
theorem dJx4a65c_remove_915e3_0 : decode cJx4a65c_remove_915e3 0 = .ok (.iload_n 1, 1) := by decide +kernel
theorem dJx4a65c_remove_915e3_1 : decode cJx4a65c_remove_915e3 1 = .ok (.aload_n 0, 1) := by decide +kernel
theorem dJx4a65c_remove_915e3_2 : decode cJx4a65c_remove_915e3 2 = .ok (.getfield 48, 3) := by decide +kernel
theorem dJx4a65c_remove_915e3_5 : decode cJx4a65c_remove_915e3 5 = .ok (.invokestatic 118, 3) := by decide +kernel
theorem dJx4a65c_remove_915e3_8 : decode cJx4a65c_remove_915e3 8 = .ok (.pop, 1) := by decide +kernel
theorem dJx4a65c_remove_915e3_9 : decode cJx4a65c_remove_915e3 9 = .ok (.aload_n 0, 1) := by decide +kernel
theorem dJx4a65c_remove_915e3_10 : decode cJx4a65c_remove_915e3 10 = .ok (.getfield 9, 3) := by decide +kernel
theorem dJx4a65c_remove_915e3_13 : decode cJx4a65c_remove_915e3 13 = .ok (.astore_n 2, 1) := by decide +kernel
theorem dJx4a65c_remove_915e3_14 : decode cJx4a65c_remove_915e3 14 = .ok (.aload_n 2, 1) := by decide +kernel
theorem dJx4a65c_remove_915e3_15 : decode cJx4a65c_remove_915e3 15 = .ok (.iload_n 1, 1) := by decide +kernel
theorem dJx4a65c_remove_915e3_16 : decode cJx4a65c_remove_915e3 16 = .ok (.aaload, 1) := by decide +kernel
theorem dJx4a65c_remove_915e3_17 : decode cJx4a65c_remove_915e3 17 = .ok (.astore_n 3, 1) := by decide +kernel
theorem dJx4a65c_remove_915e3_18 : decode cJx4a65c_remove_915e3 18 = .ok (.aload_n 0, 1) := by decide +kernel
theorem dJx4a65c_remove_915e3_19 : decode cJx4a65c_remove_915e3 19 = .ok (.aload_n 2, 1) := by decide +kernel
theorem dJx4a65c_remove_915e3_20 : decode cJx4a65c_remove_915e3 20 = .ok (.iload_n 1, 1) := by decide +kernel
theorem dJx4a65c_remove_915e3_21 : decode cJx4a65c_remove_915e3 21 = .ok (.invokevirtual 144, 3) := by decide +kernel
theorem dJx4a65c_remove_915e3_24 : decode cJx4a65c_remove_915e3 24 = .ok (.aload_n 3, 1) := by decide +kernel
theorem dJx4a65c_remove_915e3_25 : decode cJx4a65c_remove_915e3 25 = .ok (.areturn, 1) := by decide +kernel
theorem dJx4a65c_fastRemove_b59b0_0 : decode cJx4a65c_fastRemove_b59b0 0 = .ok (.aload_n 0, 1) := by decide +kernel
theorem dJx4a65c_fastRemove_b59b0_1 : decode cJx4a65c_fastRemove_b59b0 1 = .ok (.dup, 1) := by decide +kernel
theorem dJx4a65c_fastRemove_b59b0_2 : decode cJx4a65c_fastRemove_b59b0 2 = .ok (.getfield 63, 3) := by decide +kernel
theorem dJx4a65c_fastRemove_b59b0_5 : decode cJx4a65c_fastRemove_b59b0 5 = .ok (.iconst 1, 1) := by decide +kernel
theorem dJx4a65c_fastRemove_b59b0_6 : decode cJx4a65c_fastRemove_b59b0 6 = .ok (.iadd, 1) := by decide +kernel
theorem dJx4a65c_fastRemove_b59b0_7 : decode cJx4a65c_fastRemove_b59b0 7 = .ok (.putfield 63, 3) := by decide +kernel
theorem dJx4a65c_fastRemove_b59b0_10 : decode cJx4a65c_fastRemove_b59b0 10 = .ok (.aload_n 0, 1) := by decide +kernel
theorem dJx4a65c_fastRemove_b59b0_11 : decode cJx4a65c_fastRemove_b59b0 11 = .ok (.getfield 48, 3) := by decide +kernel
theorem dJx4a65c_fastRemove_b59b0_14 : decode cJx4a65c_fastRemove_b59b0 14 = .ok (.iconst 1, 1) := by decide +kernel
theorem dJx4a65c_fastRemove_b59b0_15 : decode cJx4a65c_fastRemove_b59b0 15 = .ok (.isub, 1) := by decide +kernel
theorem dJx4a65c_fastRemove_b59b0_16 : decode cJx4a65c_fastRemove_b59b0 16 = .ok (.dup, 1) := by decide +kernel
theorem dJx4a65c_fastRemove_b59b0_17 : decode cJx4a65c_fastRemove_b59b0 17 = .ok (.istore_n 3, 1) := by decide +kernel
theorem dJx4a65c_fastRemove_b59b0_18 : decode cJx4a65c_fastRemove_b59b0 18 = .ok (.iload_n 2, 1) := by decide +kernel
theorem dJx4a65c_fastRemove_b59b0_19 : decode cJx4a65c_fastRemove_b59b0 19 = .ok (.if_icmp .le 15, 3) := by decide +kernel
theorem dJx4a65c_fastRemove_b59b0_22 : decode cJx4a65c_fastRemove_b59b0 22 = .ok (.aload_n 1, 1) := by decide +kernel
theorem dJx4a65c_fastRemove_b59b0_23 : decode cJx4a65c_fastRemove_b59b0 23 = .ok (.iload_n 2, 1) := by decide +kernel
theorem dJx4a65c_fastRemove_b59b0_24 : decode cJx4a65c_fastRemove_b59b0 24 = .ok (.iconst 1, 1) := by decide +kernel
theorem dJx4a65c_fastRemove_b59b0_25 : decode cJx4a65c_fastRemove_b59b0 25 = .ok (.iadd, 1) := by decide +kernel
theorem dJx4a65c_fastRemove_b59b0_26 : decode cJx4a65c_fastRemove_b59b0 26 = .ok (.aload_n 1, 1) := by decide +kernel
theorem dJx4a65c_fastRemove_b59b0_27 : decode cJx4a65c_fastRemove_b59b0 27 = .ok (.iload_n 2, 1) := by decide +kernel
theorem dJx4a65c_fastRemove_b59b0_28 : decode cJx4a65c_fastRemove_b59b0 28 = .ok (.iload_n 3, 1) := by decide +kernel
theorem dJx4a65c_fastRemove_b59b0_29 : decode cJx4a65c_fastRemove_b59b0 29 = .ok (.iload_n 2, 1) := by decide +kernel
theorem dJx4a65c_fastRemove_b59b0_30 : decode cJx4a65c_fastRemove_b59b0 30 = .ok (.isub, 1) := by decide +kernel
theorem dJx4a65c_fastRemove_b59b0_31 : decode cJx4a65c_fastRemove_b59b0 31 = .ok (.invokestatic 112, 3) := by decide +kernel
theorem dJx4a65c_fastRemove_b59b0_34 : decode cJx4a65c_fastRemove_b59b0 34 = .ok (.aload_n 1, 1) := by decide +kernel
theorem dJx4a65c_fastRemove_b59b0_35 : decode cJx4a65c_fastRemove_b59b0 35 = .ok (.aload_n 0, 1) := by decide +kernel
theorem dJx4a65c_fastRemove_b59b0_36 : decode cJx4a65c_fastRemove_b59b0 36 = .ok (.iload_n 3, 1) := by decide +kernel
theorem dJx4a65c_fastRemove_b59b0_37 : decode cJx4a65c_fastRemove_b59b0 37 = .ok (.dup_x1, 1) := by decide +kernel
theorem dJx4a65c_fastRemove_b59b0_38 : decode cJx4a65c_fastRemove_b59b0 38 = .ok (.putfield 48, 3) := by decide +kernel
theorem dJx4a65c_fastRemove_b59b0_41 : decode cJx4a65c_fastRemove_b59b0 41 = .ok (.aconst_null, 1) := by decide +kernel
theorem dJx4a65c_fastRemove_b59b0_42 : decode cJx4a65c_fastRemove_b59b0 42 = .ok (.aastore, 1) := by decide +kernel
theorem dJx4a65c_fastRemove_b59b0_43 : decode cJx4a65c_fastRemove_b59b0 43 = .ok (.return_, 1) := by decide +kernel
theorem dJx4a65c_clear_da8c8_0 : decode cJx4a65c_clear_da8c8 0 = .ok (.aload_n 0, 1) := by decide +kernel
theorem dJx4a65c_clear_da8c8_1 : decode cJx4a65c_clear_da8c8 1 = .ok (.dup, 1) := by decide +kernel
theorem dJx4a65c_clear_da8c8_2 : decode cJx4a65c_clear_da8c8 2 = .ok (.getfield 63, 3) := by decide +kernel
theorem dJx4a65c_clear_da8c8_5 : decode cJx4a65c_clear_da8c8 5 = .ok (.iconst 1, 1) := by decide +kernel
theorem dJx4a65c_clear_da8c8_6 : decode cJx4a65c_clear_da8c8 6 = .ok (.iadd, 1) := by decide +kernel
theorem dJx4a65c_clear_da8c8_7 : decode cJx4a65c_clear_da8c8 7 = .ok (.putfield 63, 3) := by decide +kernel
theorem dJx4a65c_clear_da8c8_10 : decode cJx4a65c_clear_da8c8 10 = .ok (.aload_n 0, 1) := by decide +kernel
theorem dJx4a65c_clear_da8c8_11 : decode cJx4a65c_clear_da8c8 11 = .ok (.getfield 9, 3) := by decide +kernel
theorem dJx4a65c_clear_da8c8_14 : decode cJx4a65c_clear_da8c8 14 = .ok (.astore_n 1, 1) := by decide +kernel
theorem dJx4a65c_clear_da8c8_15 : decode cJx4a65c_clear_da8c8 15 = .ok (.aload_n 0, 1) := by decide +kernel
theorem dJx4a65c_clear_da8c8_16 : decode cJx4a65c_clear_da8c8 16 = .ok (.getfield 48, 3) := by decide +kernel
theorem dJx4a65c_clear_da8c8_19 : decode cJx4a65c_clear_da8c8 19 = .ok (.istore_n 2, 1) := by decide +kernel
theorem dJx4a65c_clear_da8c8_20 : decode cJx4a65c_clear_da8c8 20 = .ok (.aload_n 0, 1) := by decide +kernel
theorem dJx4a65c_clear_da8c8_21 : decode cJx4a65c_clear_da8c8 21 = .ok (.iconst 0, 1) := by decide +kernel
theorem dJx4a65c_clear_da8c8_22 : decode cJx4a65c_clear_da8c8 22 = .ok (.dup_x1, 1) := by decide +kernel
theorem dJx4a65c_clear_da8c8_23 : decode cJx4a65c_clear_da8c8 23 = .ok (.putfield 48, 3) := by decide +kernel
theorem dJx4a65c_clear_da8c8_26 : decode cJx4a65c_clear_da8c8 26 = .ok (.istore_n 3, 1) := by decide +kernel
theorem dJx4a65c_clear_da8c8_27 : decode cJx4a65c_clear_da8c8 27 = .ok (.iload_n 3, 1) := by decide +kernel
theorem dJx4a65c_clear_da8c8_28 : decode cJx4a65c_clear_da8c8 28 = .ok (.iload_n 2, 1) := by decide +kernel
theorem dJx4a65c_clear_da8c8_29 : decode cJx4a65c_clear_da8c8 29 = .ok (.if_icmp .ge 13, 3) := by decide +kernel
theorem dJx4a65c_clear_da8c8_32 : decode cJx4a65c_clear_da8c8 32 = .ok (.aload_n 1, 1) := by decide +kernel
theorem dJx4a65c_clear_da8c8_33 : decode cJx4a65c_clear_da8c8 33 = .ok (.iload_n 3, 1) := by decide +kernel
theorem dJx4a65c_clear_da8c8_34 : decode cJx4a65c_clear_da8c8 34 = .ok (.aconst_null, 1) := by decide +kernel
theorem dJx4a65c_clear_da8c8_35 : decode cJx4a65c_clear_da8c8 35 = .ok (.aastore, 1) := by decide +kernel
theorem dJx4a65c_clear_da8c8_36 : decode cJx4a65c_clear_da8c8 36 = .ok (.iinc 3 1, 3) := by decide +kernel
theorem dJx4a65c_clear_da8c8_39 : decode cJx4a65c_clear_da8c8 39 = .ok (.goto (-12), 3) := by decide +kernel
theorem dJx4a65c_clear_da8c8_42 : decode cJx4a65c_clear_da8c8 42 = .ok (.return_, 1) := by decide +kernel
theorem dJx4a65c_rangeCheckForAdd_d00df_0 : decode cJx4a65c_rangeCheckForAdd_d00df 0 = .ok (.iload_n 1, 1) := by decide +kernel
theorem dJx4a65c_rangeCheckForAdd_d00df_1 : decode cJx4a65c_rangeCheckForAdd_d00df 1 = .ok (.aload_n 0, 1) := by decide +kernel
theorem dJx4a65c_rangeCheckForAdd_d00df_2 : decode cJx4a65c_rangeCheckForAdd_d00df 2 = .ok (.getfield 48, 3) := by decide +kernel
theorem dJx4a65c_rangeCheckForAdd_d00df_5 : decode cJx4a65c_rangeCheckForAdd_d00df 5 = .ok (.if_icmp .gt 7, 3) := by decide +kernel
theorem dJx4a65c_rangeCheckForAdd_d00df_8 : decode cJx4a65c_rangeCheckForAdd_d00df 8 = .ok (.iload_n 1, 1) := by decide +kernel
theorem dJx4a65c_rangeCheckForAdd_d00df_9 : decode cJx4a65c_rangeCheckForAdd_d00df 9 = .ok (.ifCond .ge 16, 3) := by decide +kernel
theorem dJx4a65c_rangeCheckForAdd_d00df_12 : decode cJx4a65c_rangeCheckForAdd_d00df 12 = .ok (.new 187, 3) := by decide +kernel
theorem dJx4a65c_rangeCheckForAdd_d00df_15 : decode cJx4a65c_rangeCheckForAdd_d00df 15 = .ok (.dup, 1) := by decide +kernel
theorem dJx4a65c_rangeCheckForAdd_d00df_16 : decode cJx4a65c_rangeCheckForAdd_d00df 16 = .ok (.aload_n 0, 1) := by decide +kernel
theorem dJx4a65c_rangeCheckForAdd_d00df_17 : decode cJx4a65c_rangeCheckForAdd_d00df 17 = .ok (.iload_n 1, 1) := by decide +kernel
theorem dJx4a65c_rangeCheckForAdd_d00df_18 : decode cJx4a65c_rangeCheckForAdd_d00df 18 = .ok (.invokevirtual 198, 3) := by decide +kernel
theorem dJx4a65c_rangeCheckForAdd_d00df_21 : decode cJx4a65c_rangeCheckForAdd_d00df 21 = .ok (.invokespecial 193, 3) := by decide +kernel
theorem dJx4a65c_rangeCheckForAdd_d00df_24 : decode cJx4a65c_rangeCheckForAdd_d00df 24 = .ok (.athrow, 1) := by decide +kernel
theorem dJx4a65c_rangeCheckForAdd_d00df_25 : decode cJx4a65c_rangeCheckForAdd_d00df 25 = .ok (.return_, 1) := by decide +kernel
theorem dJ7_rangeCheck_23922_0 : decode cJ7_rangeCheck_23922 0 = .ok (.iload_n 1, 1) := by decide +kernel
theorem dJ7_rangeCheck_23922_1 : decode cJ7_rangeCheck_23922 1 = .ok (.iload_n 2, 1) := by decide +kernel
theorem dJ7_rangeCheck_23922_2 : decode cJ7_rangeCheck_23922 2 = .ok (.if_icmp .le 44, 3) := by decide +kernel
theorem dJ7_rangeCheck_23922_5 : decode cJ7_rangeCheck_23922 5 = .ok (.new 43, 3) := by decide +kernel
theorem dJ7_rangeCheck_23922_8 : decode cJ7_rangeCheck_23922 8 = .ok (.dup, 1) := by decide +kernel
theorem dJ7_rangeCheck_23922_9 : decode cJ7_rangeCheck_23922 9 = .ok (.new 45, 3) := by decide +kernel
theorem dJ7_rangeCheck_23922_12 : decode cJ7_rangeCheck_23922 12 = .ok (.dup, 1) := by decide +kernel
theorem dJ7_rangeCheck_23922_13 : decode cJ7_rangeCheck_23922 13 = .ok (.invokespecial 47, 3) := by decide +kernel
theorem dJ7_rangeCheck_23922_16 : decode cJ7_rangeCheck_23922 16 = .ok (.ldc 48, 2) := by decide +kernel
theorem dJ7_rangeCheck_23922_18 : decode cJ7_rangeCheck_23922 18 = .ok (.invokevirtual 50, 3) := by decide +kernel
theorem dJ7_rangeCheck_23922_21 : decode cJ7_rangeCheck_23922 21 = .ok (.iload_n 1, 1) := by decide +kernel
theorem dJ7_rangeCheck_23922_22 : decode cJ7_rangeCheck_23922 22 = .ok (.invokevirtual 54, 3) := by decide +kernel
theorem dJ7_rangeCheck_23922_25 : decode cJ7_rangeCheck_23922 25 = .ok (.ldc 57, 2) := by decide +kernel
theorem dJ7_rangeCheck_23922_27 : decode cJ7_rangeCheck_23922 27 = .ok (.invokevirtual 50, 3) := by decide +kernel
theorem dJ7_rangeCheck_23922_30 : decode cJ7_rangeCheck_23922 30 = .ok (.iload_n 2, 1) := by decide +kernel
theorem dJ7_rangeCheck_23922_31 : decode cJ7_rangeCheck_23922 31 = .ok (.invokevirtual 54, 3) := by decide +kernel
theorem dJ7_rangeCheck_23922_34 : decode cJ7_rangeCheck_23922 34 = .ok (.ldc 59, 2) := by decide +kernel
theorem dJ7_rangeCheck_23922_36 : decode cJ7_rangeCheck_23922 36 = .ok (.invokevirtual 50, 3) := by decide +kernel
theorem dJ7_rangeCheck_23922_39 : decode cJ7_rangeCheck_23922 39 = .ok (.invokevirtual 61, 3) := by decide +kernel
theorem dJ7_rangeCheck_23922_42 : decode cJ7_rangeCheck_23922 42 = .ok (.invokespecial 65, 3) := by decide +kernel
theorem dJ7_rangeCheck_23922_45 : decode cJ7_rangeCheck_23922 45 = .ok (.athrow, 1) := by decide +kernel
theorem dJ7_rangeCheck_23922_46 : decode cJ7_rangeCheck_23922 46 = .ok (.iload_n 1, 1) := by decide +kernel
theorem dJ7_rangeCheck_23922_47 : decode cJ7_rangeCheck_23922 47 = .ok (.ifCond .ge 12, 3) := by decide +kernel
theorem dJ7_rangeCheck_23922_50 : decode cJ7_rangeCheck_23922 50 = .ok (.new 68, 3) := by decide +kernel
theorem dJ7_rangeCheck_23922_53 : decode cJ7_rangeCheck_23922 53 = .ok (.dup, 1) := by decide +kernel
theorem dJ7_rangeCheck_23922_54 : decode cJ7_rangeCheck_23922 54 = .ok (.iload_n 1, 1) := by decide +kernel
theorem dJ7_rangeCheck_23922_55 : decode cJ7_rangeCheck_23922 55 = .ok (.invokespecial 70, 3) := by decide +kernel
theorem dJ7_rangeCheck_23922_58 : decode cJ7_rangeCheck_23922 58 = .ok (.athrow, 1) := by decide +kernel
theorem dJ7_rangeCheck_23922_59 : decode cJ7_rangeCheck_23922 59 = .ok (.iload_n 2, 1) := by decide +kernel
theorem dJ7_rangeCheck_23922_60 : decode cJ7_rangeCheck_23922 60 = .ok (.iload_n 0, 1) := by decide +kernel
theorem dJ7_rangeCheck_23922_61 : decode cJ7_rangeCheck_23922 61 = .ok (.if_icmp .le 12, 3) := by decide +kernel
theorem dJ7_rangeCheck_23922_64 : decode cJ7_rangeCheck_23922 64 = .ok (.new 68, 3) := by decide +kernel
theorem dJ7_rangeCheck_23922_67 : decode cJ7_rangeCheck_23922 67 = .ok (.dup, 1) := by decide +kernel
theorem dJ7_rangeCheck_23922_68 : decode cJ7_rangeCheck_23922 68 = .ok (.iload_n 2, 1) := by decide +kernel
theorem dJ7_rangeCheck_23922_69 : decode cJ7_rangeCheck_23922 69 = .ok (.invokespecial 70, 3) := by decide +kernel
theorem dJ7_rangeCheck_23922_72 : decode cJ7_rangeCheck_23922 72 = .ok (.athrow, 1) := by decide +kernel
theorem dJ7_rangeCheck_23922_73 : decode cJ7_rangeCheck_23922 73 = .ok (.return_, 1) := by decide +kernel
theorem dJ7_fill_eb02e_0 : decode cJ7_fill_eb02e 0 = .ok (.aload_n 0, 1) := by decide +kernel
theorem dJ7_fill_eb02e_1 : decode cJ7_fill_eb02e 1 = .ok (.arraylength, 1) := by decide +kernel
theorem dJ7_fill_eb02e_2 : decode cJ7_fill_eb02e 2 = .ok (.iload_n 1, 1) := by decide +kernel
theorem dJ7_fill_eb02e_3 : decode cJ7_fill_eb02e 3 = .ok (.iload_n 2, 1) := by decide +kernel
theorem dJ7_fill_eb02e_4 : decode cJ7_fill_eb02e 4 = .ok (.invokestatic 13, 3) := by decide +kernel
theorem dJ7_fill_eb02e_7 : decode cJ7_fill_eb02e 7 = .ok (.iload_n 1, 1) := by decide +kernel
theorem dJ7_fill_eb02e_8 : decode cJ7_fill_eb02e 8 = .ok (.istore 4, 2) := by decide +kernel
theorem dJ7_fill_eb02e_10 : decode cJ7_fill_eb02e 10 = .ok (.iload 4, 2) := by decide +kernel
theorem dJ7_fill_eb02e_12 : decode cJ7_fill_eb02e 12 = .ok (.iload_n 2, 1) := by decide +kernel
theorem dJ7_fill_eb02e_13 : decode cJ7_fill_eb02e 13 = .ok (.if_icmp .ge 14, 3) := by decide +kernel
theorem dJ7_fill_eb02e_16 : decode cJ7_fill_eb02e 16 = .ok (.aload_n 0, 1) := by decide +kernel
theorem dJ7_fill_eb02e_17 : decode cJ7_fill_eb02e 17 = .ok (.iload 4, 2) := by decide +kernel
theorem dJ7_fill_eb02e_19 : decode cJ7_fill_eb02e 19 = .ok (.iload_n 3, 1) := by decide +kernel
theorem dJ7_fill_eb02e_20 : decode cJ7_fill_eb02e 20 = .ok (.bastore, 1) := by decide +kernel
theorem dJ7_fill_eb02e_21 : decode cJ7_fill_eb02e 21 = .ok (.iinc 4 1, 3) := by decide +kernel
theorem dJ7_fill_eb02e_24 : decode cJ7_fill_eb02e 24 = .ok (.goto (-14), 3) := by decide +kernel
theorem dJ7_fill_eb02e_27 : decode cJ7_fill_eb02e 27 = .ok (.return_, 1) := by decide +kernel
theorem dJ7_copyOf_1904c_0 : decode cJ7_copyOf_1904c 0 = .ok (.aload_n 0, 1) := by decide +kernel
theorem dJ7_copyOf_1904c_1 : decode cJ7_copyOf_1904c 1 = .ok (.iload_n 1, 1) := by decide +kernel
theorem dJ7_copyOf_1904c_2 : decode cJ7_copyOf_1904c 2 = .ok (.aload_n 0, 1) := by decide +kernel
theorem dJ7_copyOf_1904c_3 : decode cJ7_copyOf_1904c 3 = .ok (.invokevirtual 86, 3) := by decide +kernel
theorem dJ7_copyOf_1904c_6 : decode cJ7_copyOf_1904c 6 = .ok (.invokestatic 300, 3) := by decide +kernel
theorem dJ7_copyOf_1904c_9 : decode cJ7_copyOf_1904c 9 = .ok (.areturn, 1) := by decide +kernel
theorem dJ7_copyOf_6403c_0 : decode cJ7_copyOf_6403c 0 = .ok (.aload_n 2, 1) := by decide +kernel
theorem dJ7_copyOf_6403c_1 : decode cJ7_copyOf_6403c 1 = .ok (.ldc 110, 2) := by decide +kernel
theorem dJ7_copyOf_6403c_3 : decode cJ7_copyOf_6403c 3 = .ok (.if_acmp .ne 10, 3) := by decide +kernel
theorem dJ7_copyOf_6403c_6 : decode cJ7_copyOf_6403c 6 = .ok (.iload_n 1, 1) := by decide +kernel
theorem dJ7_copyOf_6403c_7 : decode cJ7_copyOf_6403c 7 = .ok (.anewarray 2, 3) := by decide +kernel
theorem dJ7_copyOf_6403c_10 : decode cJ7_copyOf_6403c 10 = .ok (.goto 14, 3) := by decide +kernel
theorem dJ7_copyOf_6403c_13 : decode cJ7_copyOf_6403c 13 = .ok (.aload_n 2, 1) := by decide +kernel
theorem dJ7_copyOf_6403c_14 : decode cJ7_copyOf_6403c 14 = .ok (.invokevirtual 90, 3) := by decide +kernel
theorem dJ7_copyOf_6403c_17 : decode cJ7_copyOf_6403c 17 = .ok (.iload_n 1, 1) := by decide +kernel
theorem dJ7_copyOf_6403c_18 : decode cJ7_copyOf_6403c 18 = .ok (.invokestatic 95, 3) := by decide +kernel
theorem dJ7_copyOf_6403c_21 : decode cJ7_copyOf_6403c 21 = .ok (.checkcast 110, 3) := by decide +kernel
theorem dJ7_copyOf_6403c_24 : decode cJ7_copyOf_6403c 24 = .ok (.astore_n 3, 1) := by decide +kernel
theorem dJ7_copyOf_6403c_25 : decode cJ7_copyOf_6403c 25 = .ok (.aload_n 0, 1) := by decide +kernel
theorem dJ7_copyOf_6403c_26 : decode cJ7_copyOf_6403c 26 = .ok (.iconst 0, 1) := by decide +kernel
theorem dJ7_copyOf_6403c_27 : decode cJ7_copyOf_6403c 27 = .ok (.aload_n 3, 1) := by decide +kernel
theorem dJ7_copyOf_6403c_28 : decode cJ7_copyOf_6403c 28 = .ok (.iconst 0, 1) := by decide +kernel
theorem dJ7_copyOf_6403c_29 : decode cJ7_copyOf_6403c 29 = .ok (.aload_n 0, 1) := by decide +kernel
theorem dJ7_copyOf_6403c_30 : decode cJ7_copyOf_6403c 30 = .ok (.arraylength, 1) := by decide +kernel
theorem dJ7_copyOf_6403c_31 : decode cJ7_copyOf_6403c 31 = .ok (.iload_n 1, 1) := by decide +kernel
theorem dJ7_copyOf_6403c_32 : decode cJ7_copyOf_6403c 32 = .ok (.invokestatic 304, 3) := by decide +kernel
theorem dJ7_copyOf_6403c_35 : decode cJ7_copyOf_6403c 35 = .ok (.invokestatic 150, 3) := by decide +kernel
theorem dJ7_copyOf_6403c_38 : decode cJ7_copyOf_6403c 38 = .ok (.aload_n 3, 1) := by decide +kernel
theorem dJ7_copyOf_6403c_39 : decode cJ7_copyOf_6403c 39 = .ok (.areturn, 1) := by decide +kernel
theorem dJ7_copyOf_9075b_0 : decode cJ7_copyOf_9075b 0 = .ok (.iload_n 1, 1) := by decide +kernel
theorem dJ7_copyOf_9075b_1 : decode cJ7_copyOf_9075b 1 = .ok (.aload_n 0, 1) := by decide +kernel
theorem dJ7_copyOf_9075b_2 : decode cJ7_copyOf_9075b 2 = .ok (.arraylength, 1) := by decide +kernel
theorem dJ7_copyOf_9075b_3 : decode cJ7_copyOf_9075b 3 = .ok (.if_icmp .ne 11, 3) := by decide +kernel
theorem dJ7_copyOf_9075b_6 : decode cJ7_copyOf_9075b 6 = .ok (.aload_n 0, 1) := by decide +kernel
theorem dJ7_copyOf_9075b_7 : decode cJ7_copyOf_9075b 7 = .ok (.invokevirtual 310, 3) := by decide +kernel
theorem dJ7_copyOf_9075b_10 : decode cJ7_copyOf_9075b 10 = .ok (.checkcast 311, 3) := by decide +kernel
theorem dJ7_copyOf_9075b_13 : decode cJ7_copyOf_9075b 13 = .ok (.areturn, 1) := by decide +kernel
theorem dJ7_copyOf_9075b_14 : decode cJ7_copyOf_9075b 14 = .ok (.iload_n 1, 1) := by decide +kernel
theorem dJ7_copyOf_9075b_15 : decode cJ7_copyOf_9075b 15 = .ok (.newarray .byte, 2) := by decide +kernel
theorem dJ7_copyOf_9075b_17 : decode cJ7_copyOf_9075b 17 = .ok (.astore_n 2, 1) := by decide +kernel
theorem dJ7_copyOf_9075b_18 : decode cJ7_copyOf_9075b 18 = .ok (.aload_n 0, 1) := by decide +kernel
theorem dJ7_copyOf_9075b_19 : decode cJ7_copyOf_9075b 19 = .ok (.iconst 0, 1) := by decide +kernel
theorem dJ7_copyOf_9075b_20 : decode cJ7_copyOf_9075b 20 = .ok (.aload_n 2, 1) := by decide +kernel
theorem dJ7_copyOf_9075b_21 : decode cJ7_copyOf_9075b 21 = .ok (.iconst 0, 1) := by decide +kernel
theorem dJ7_copyOf_9075b_22 : decode cJ7_copyOf_9075b 22 = .ok (.aload_n 0, 1) := by decide +kernel
theorem dJ7_copyOf_9075b_23 : decode cJ7_copyOf_9075b 23 = .ok (.arraylength, 1) := by decide +kernel
theorem dJ7_copyOf_9075b_24 : decode cJ7_copyOf_9075b 24 = .ok (.iload_n 1, 1) := by decide +kernel
theorem dJ7_copyOf_9075b_25 : decode cJ7_copyOf_9075b 25 = .ok (.invokestatic 304, 3) := by decide +kernel
theorem dJ7_copyOf_9075b_28 : decode cJ7_copyOf_9075b 28 = .ok (.invokestatic 150, 3) := by decide +kernel
theorem dJ7_copyOf_9075b_31 : decode cJ7_copyOf_9075b 31 = .ok (.aload_n 2, 1) := by decide +kernel
theorem dJ7_copyOf_9075b_32 : decode cJ7_copyOf_9075b 32 = .ok (.areturn, 1) := by decide +kernel
theorem dJ15_checkIndex_7cf53_0 : decode cJ15_checkIndex_7cf53 0 = .ok (.iload_n 0, 1) := by decide +kernel
theorem dJ15_checkIndex_7cf53_1 : decode cJ15_checkIndex_7cf53 1 = .ok (.iload_n 1, 1) := by decide +kernel
theorem dJ15_checkIndex_7cf53_2 : decode cJ15_checkIndex_7cf53 2 = .ok (.aconst_null, 1) := by decide +kernel
theorem dJ15_checkIndex_7cf53_3 : decode cJ15_checkIndex_7cf53 3 = .ok (.invokestatic 105, 3) := by decide +kernel
theorem dJ15_checkIndex_7cf53_6 : decode cJ15_checkIndex_7cf53 6 = .ok (.ireturn, 1) := by decide +kernel
theorem dJ8_newLength_cabcc_0 : decode cJ8_newLength_cabcc 0 = .ok (.iload_n 0, 1) := by decide +kernel
theorem dJ8_newLength_cabcc_1 : decode cJ8_newLength_cabcc 1 = .ok (.iload_n 1, 1) := by decide +kernel
theorem dJ8_newLength_cabcc_2 : decode cJ8_newLength_cabcc 2 = .ok (.iload_n 2, 1) := by decide +kernel
theorem dJ8_newLength_cabcc_3 : decode cJ8_newLength_cabcc 3 = .ok (.invokestatic 194, 3) := by decide +kernel
theorem dJ8_newLength_cabcc_6 : decode cJ8_newLength_cabcc 6 = .ok (.iadd, 1) := by decide +kernel
theorem dJ8_newLength_cabcc_7 : decode cJ8_newLength_cabcc 7 = .ok (.istore_n 3, 1) := by decide +kernel
theorem dJ8_newLength_cabcc_8 : decode cJ8_newLength_cabcc 8 = .ok (.iconst 0, 1) := by decide +kernel
theorem dJ8_newLength_cabcc_9 : decode cJ8_newLength_cabcc 9 = .ok (.iload_n 3, 1) := by decide +kernel
theorem dJ8_newLength_cabcc_10 : decode cJ8_newLength_cabcc 10 = .ok (.if_icmp .ge 11, 3) := by decide +kernel
theorem dJ8_newLength_cabcc_13 : decode cJ8_newLength_cabcc 13 = .ok (.iload_n 3, 1) := by decide +kernel
theorem dJ8_newLength_cabcc_14 : decode cJ8_newLength_cabcc 14 = .ok (.ldc 200, 2) := by decide +kernel
theorem dJ8_newLength_cabcc_16 : decode cJ8_newLength_cabcc 16 = .ok (.if_icmp .gt 5, 3) := by decide +kernel
theorem dJ8_newLength_cabcc_19 : decode cJ8_newLength_cabcc 19 = .ok (.iload_n 3, 1) := by decide +kernel
theorem dJ8_newLength_cabcc_20 : decode cJ8_newLength_cabcc 20 = .ok (.ireturn, 1) := by decide +kernel
theorem dJ8_newLength_cabcc_21 : decode cJ8_newLength_cabcc 21 = .ok (.iload_n 0, 1) := by decide +kernel
theorem dJ8_newLength_cabcc_22 : decode cJ8_newLength_cabcc 22 = .ok (.iload_n 1, 1) := by decide +kernel
theorem dJ8_newLength_cabcc_23 : decode cJ8_newLength_cabcc 23 = .ok (.invokestatic 201, 3) := by decide +kernel
theorem dJ8_newLength_cabcc_26 : decode cJ8_newLength_cabcc 26 = .ok (.ireturn, 1) := by decide +kernel
theorem dJ8_hugeLength_7cf53_0 : decode cJ8_hugeLength_7cf53 0 = .ok (.iload_n 0, 1) := by decide +kernel
theorem dJ8_hugeLength_7cf53_1 : decode cJ8_hugeLength_7cf53 1 = .ok (.iload_n 1, 1) := by decide +kernel
theorem dJ8_hugeLength_7cf53_2 : decode cJ8_hugeLength_7cf53 2 = .ok (.iadd, 1) := by decide +kernel
theorem dJ8_hugeLength_7cf53_3 : decode cJ8_hugeLength_7cf53 3 = .ok (.istore_n 2, 1) := by decide +kernel
theorem dJ8_hugeLength_7cf53_4 : decode cJ8_hugeLength_7cf53 4 = .ok (.iload_n 2, 1) := by decide +kernel
theorem dJ8_hugeLength_7cf53_5 : decode cJ8_hugeLength_7cf53 5 = .ok (.ifCond .ge 44, 3) := by decide +kernel
theorem dJ8_hugeLength_7cf53_8 : decode cJ8_hugeLength_7cf53 8 = .ok (.new 204, 3) := by decide +kernel
theorem dJ8_hugeLength_7cf53_11 : decode cJ8_hugeLength_7cf53 11 = .ok (.dup, 1) := by decide +kernel
theorem dJ8_hugeLength_7cf53_12 : decode cJ8_hugeLength_7cf53 12 = .ok (.new 89, 3) := by decide +kernel
theorem dJ8_hugeLength_7cf53_15 : decode cJ8_hugeLength_7cf53 15 = .ok (.dup, 1) := by decide +kernel
theorem dJ8_hugeLength_7cf53_16 : decode cJ8_hugeLength_7cf53 16 = .ok (.invokespecial 91, 3) := by decide +kernel
theorem dJ8_hugeLength_7cf53_19 : decode cJ8_hugeLength_7cf53 19 = .ok (.ldc 206, 2) := by decide +kernel
theorem dJ8_hugeLength_7cf53_21 : decode cJ8_hugeLength_7cf53 21 = .ok (.invokevirtual 94, 3) := by decide +kernel
theorem dJ8_hugeLength_7cf53_24 : decode cJ8_hugeLength_7cf53 24 = .ok (.iload_n 0, 1) := by decide +kernel
theorem dJ8_hugeLength_7cf53_25 : decode cJ8_hugeLength_7cf53 25 = .ok (.invokevirtual 98, 3) := by decide +kernel
theorem dJ8_hugeLength_7cf53_28 : decode cJ8_hugeLength_7cf53 28 = .ok (.ldc 208, 2) := by decide +kernel
theorem dJ8_hugeLength_7cf53_30 : decode cJ8_hugeLength_7cf53 30 = .ok (.invokevirtual 94, 3) := by decide +kernel
theorem dJ8_hugeLength_7cf53_33 : decode cJ8_hugeLength_7cf53 33 = .ok (.iload_n 1, 1) := by decide +kernel
theorem dJ8_hugeLength_7cf53_34 : decode cJ8_hugeLength_7cf53 34 = .ok (.invokevirtual 98, 3) := by decide +kernel
theorem dJ8_hugeLength_7cf53_37 : decode cJ8_hugeLength_7cf53 37 = .ok (.ldc 210, 2) := by decide +kernel
theorem dJ8_hugeLength_7cf53_39 : decode cJ8_hugeLength_7cf53 39 = .ok (.invokevirtual 94, 3) := by decide +kernel
theorem dJ8_hugeLength_7cf53_42 : decode cJ8_hugeLength_7cf53 42 = .ok (.invokevirtual 101, 3) := by decide +kernel
theorem dJ8_hugeLength_7cf53_45 : decode cJ8_hugeLength_7cf53 45 = .ok (.invokespecial 212, 3) := by decide +kernel
theorem dJ8_hugeLength_7cf53_48 : decode cJ8_hugeLength_7cf53 48 = .ok (.athrow, 1) := by decide +kernel
theorem dJ8_hugeLength_7cf53_49 : decode cJ8_hugeLength_7cf53 49 = .ok (.iload_n 2, 1) := by decide +kernel
theorem dJ8_hugeLength_7cf53_50 : decode cJ8_hugeLength_7cf53 50 = .ok (.ldc 200, 2) := by decide +kernel
theorem dJ8_hugeLength_7cf53_52 : decode cJ8_hugeLength_7cf53 52 = .ok (.if_icmp .gt 6, 3) := by decide +kernel
theorem dJ8_hugeLength_7cf53_55 : decode cJ8_hugeLength_7cf53 55 = .ok (.ldc 200, 2) := by decide +kernel
theorem dJ8_hugeLength_7cf53_57 : decode cJ8_hugeLength_7cf53 57 = .ok (.ireturn, 1) := by decide +kernel
theorem dJ8_hugeLength_7cf53_58 : decode cJ8_hugeLength_7cf53 58 = .ok (.iload_n 2, 1) := by decide +kernel
theorem dJ8_hugeLength_7cf53_59 : decode cJ8_hugeLength_7cf53 59 = .ok (.ireturn, 1) := by decide +kernel
theorem dJ3_checkIndex_8e157_0 : decode cJ3_checkIndex_8e157 0 = .ok (.iload_n 0, 1) := by decide +kernel
theorem dJ3_checkIndex_8e157_1 : decode cJ3_checkIndex_8e157 1 = .ok (.ifCond .lt 8, 3) := by decide +kernel
theorem dJ3_checkIndex_8e157_4 : decode cJ3_checkIndex_8e157 4 = .ok (.iload_n 0, 1) := by decide +kernel
theorem dJ3_checkIndex_8e157_5 : decode cJ3_checkIndex_8e157 5 = .ok (.iload_n 1, 1) := by decide +kernel
theorem dJ3_checkIndex_8e157_6 : decode cJ3_checkIndex_8e157 6 = .ok (.if_icmp .lt 10, 3) := by decide +kernel
theorem dJ3_checkIndex_8e157_9 : decode cJ3_checkIndex_8e157 9 = .ok (.aload_n 2, 1) := by decide +kernel
theorem dJ3_checkIndex_8e157_10 : decode cJ3_checkIndex_8e157 10 = .ok (.iload_n 0, 1) := by decide +kernel
theorem dJ3_checkIndex_8e157_11 : decode cJ3_checkIndex_8e157 11 = .ok (.iload_n 1, 1) := by decide +kernel
theorem dJ3_checkIndex_8e157_12 : decode cJ3_checkIndex_8e157 12 = .ok (.invokestatic 95, 3) := by decide +kernel
theorem dJ3_checkIndex_8e157_15 : decode cJ3_checkIndex_8e157 15 = .ok (.athrow, 1) := by decide +kernel
theorem dJ3_checkIndex_8e157_16 : decode cJ3_checkIndex_8e157 16 = .ok (.iload_n 0, 1) := by decide +kernel
theorem dJ3_checkIndex_8e157_17 : decode cJ3_checkIndex_8e157 17 = .ok (.ireturn, 1) := by decide +kernel
theorem dJ3_checkFromIndexSize_8c36e_0 : decode cJ3_checkFromIndexSize_8c36e 0 = .ok (.iload_n 2, 1) := by decide +kernel
theorem dJ3_checkFromIndexSize_8c36e_1 : decode cJ3_checkFromIndexSize_8c36e 1 = .ok (.iload_n 0, 1) := by decide +kernel
theorem dJ3_checkFromIndexSize_8c36e_2 : decode cJ3_checkFromIndexSize_8c36e 2 = .ok (.ior, 1) := by decide +kernel
theorem dJ3_checkFromIndexSize_8c36e_3 : decode cJ3_checkFromIndexSize_8c36e 3 = .ok (.iload_n 1, 1) := by decide +kernel
theorem dJ3_checkFromIndexSize_8c36e_4 : decode cJ3_checkFromIndexSize_8c36e 4 = .ok (.ior, 1) := by decide +kernel
theorem dJ3_checkFromIndexSize_8c36e_5 : decode cJ3_checkFromIndexSize_8c36e 5 = .ok (.ifCond .lt 10, 3) := by decide +kernel
theorem dJ3_checkFromIndexSize_8c36e_8 : decode cJ3_checkFromIndexSize_8c36e 8 = .ok (.iload_n 1, 1) := by decide +kernel
theorem dJ3_checkFromIndexSize_8c36e_9 : decode cJ3_checkFromIndexSize_8c36e 9 = .ok (.iload_n 2, 1) := by decide +kernel
theorem dJ3_checkFromIndexSize_8c36e_10 : decode cJ3_checkFromIndexSize_8c36e 10 = .ok (.iload_n 0, 1) := by decide +kernel
theorem dJ3_checkFromIndexSize_8c36e_11 : decode cJ3_checkFromIndexSize_8c36e 11 = .ok (.isub, 1) := by decide +kernel
theorem dJ3_checkFromIndexSize_8c36e_12 : decode cJ3_checkFromIndexSize_8c36e 12 = .ok (.if_icmp .le 11, 3) := by decide +kernel
theorem dJ3_checkFromIndexSize_8c36e_15 : decode cJ3_checkFromIndexSize_8c36e 15 = .ok (.aload_n 3, 1) := by decide +kernel
theorem dJ3_checkFromIndexSize_8c36e_16 : decode cJ3_checkFromIndexSize_8c36e 16 = .ok (.iload_n 0, 1) := by decide +kernel
theorem dJ3_checkFromIndexSize_8c36e_17 : decode cJ3_checkFromIndexSize_8c36e 17 = .ok (.iload_n 1, 1) := by decide +kernel
theorem dJ3_checkFromIndexSize_8c36e_18 : decode cJ3_checkFromIndexSize_8c36e 18 = .ok (.iload_n 2, 1) := by decide +kernel
theorem dJ3_checkFromIndexSize_8c36e_19 : decode cJ3_checkFromIndexSize_8c36e 19 = .ok (.invokestatic 103, 3) := by decide +kernel
theorem dJ3_checkFromIndexSize_8c36e_22 : decode cJ3_checkFromIndexSize_8c36e 22 = .ok (.athrow, 1) := by decide +kernel
theorem dJ3_checkFromIndexSize_8c36e_23 : decode cJ3_checkFromIndexSize_8c36e 23 = .ok (.iload_n 0, 1) := by decide +kernel
theorem dJ3_checkFromIndexSize_8c36e_24 : decode cJ3_checkFromIndexSize_8c36e 24 = .ok (.ireturn, 1) := by decide +kernel
end
section
theorem dL_law_0 : decode cL_law 0 = .ok (.new 7, 3) := by decide +kernel
theorem dL_law_3 : decode cL_law 3 = .ok (.dup, 1) := by decide +kernel
theorem dL_law_4 : decode cL_law 4 = .ok (.invokespecial 9, 3) := by decide +kernel
theorem dL_law_7 : decode cL_law 7 = .ok (.astore_n 1, 1) := by decide +kernel
theorem dL_law_8 : decode cL_law 8 = .ok (.new 10, 3) := by decide +kernel
theorem dL_law_11 : decode cL_law 11 = .ok (.dup, 1) := by decide +kernel
theorem dL_law_12 : decode cL_law 12 = .ok (.invokespecial 12, 3) := by decide +kernel
theorem dL_law_15 : decode cL_law 15 = .ok (.astore_n 2, 1) := by decide +kernel
theorem dL_law_16 : decode cL_law 16 = .ok (.iconst 0, 1) := by decide +kernel
theorem dL_law_17 : decode cL_law 17 = .ok (.istore_n 3, 1) := by decide +kernel
theorem dL_law_18 : decode cL_law 18 = .ok (.iload_n 3, 1) := by decide +kernel
theorem dL_law_19 : decode cL_law 19 = .ok (.aload_n 0, 1) := by decide +kernel
theorem dL_law_20 : decode cL_law 20 = .ok (.arraylength, 1) := by decide +kernel
theorem dL_law_21 : decode cL_law 21 = .ok (.iconst 5, 1) := by decide +kernel
theorem dL_law_22 : decode cL_law 22 = .ok (.isub, 1) := by decide +kernel
theorem dL_law_23 : decode cL_law 23 = .ok (.if_icmp .gt 931, 3) := by decide +kernel
theorem dL_law_26 : decode cL_law 26 = .ok (.aload_n 0, 1) := by decide +kernel
theorem dL_law_27 : decode cL_law 27 = .ok (.iload_n 3, 1) := by decide +kernel
theorem dL_law_28 : decode cL_law 28 = .ok (.iaload, 1) := by decide +kernel
theorem dL_law_29 : decode cL_law 29 = .ok (.bipush 31, 2) := by decide +kernel
theorem dL_law_31 : decode cL_law 31 = .ok (.iand, 1) := by decide +kernel
theorem dL_law_32 : decode cL_law 32 = .ok (.tableswitch 916 0 26 #[124, 177, 230, 253, 286, 319, 352, 375, 408, 421, 434, 457, 470, 503, 526, 559, 602, 635, 658, 681, 724, 767, 801, 824, 877, 890, 903], 124) := by decide +kernel
theorem dL_law_156 : decode cL_law 156 = .ok (.aload_n 1, 1) := by decide +kernel
theorem dL_law_157 : decode cL_law 157 = .ok (.aload_n 0, 1) := by decide +kernel
theorem dL_law_158 : decode cL_law 158 = .ok (.iload_n 3, 1) := by decide +kernel
theorem dL_law_159 : decode cL_law 159 = .ok (.iconst 1, 1) := by decide +kernel
theorem dL_law_160 : decode cL_law 160 = .ok (.iadd, 1) := by decide +kernel
theorem dL_law_161 : decode cL_law 161 = .ok (.iaload, 1) := by decide +kernel
theorem dL_law_162 : decode cL_law 162 = .ok (.aload_n 0, 1) := by decide +kernel
theorem dL_law_163 : decode cL_law 163 = .ok (.iload_n 3, 1) := by decide +kernel
theorem dL_law_164 : decode cL_law 164 = .ok (.iconst 2, 1) := by decide +kernel
theorem dL_law_165 : decode cL_law 165 = .ok (.iadd, 1) := by decide +kernel
theorem dL_law_166 : decode cL_law 166 = .ok (.iaload, 1) := by decide +kernel
theorem dL_law_167 : decode cL_law 167 = .ok (.aload_n 0, 1) := by decide +kernel
theorem dL_law_168 : decode cL_law 168 = .ok (.iload_n 3, 1) := by decide +kernel
theorem dL_law_169 : decode cL_law 169 = .ok (.iconst 3, 1) := by decide +kernel
theorem dL_law_170 : decode cL_law 170 = .ok (.iadd, 1) := by decide +kernel
theorem dL_law_171 : decode cL_law 171 = .ok (.iaload, 1) := by decide +kernel
theorem dL_law_172 : decode cL_law 172 = .ok (.aload_n 0, 1) := by decide +kernel
theorem dL_law_173 : decode cL_law 173 = .ok (.iload_n 3, 1) := by decide +kernel
theorem dL_law_174 : decode cL_law 174 = .ok (.iconst 4, 1) := by decide +kernel
theorem dL_law_175 : decode cL_law 175 = .ok (.iadd, 1) := by decide +kernel
theorem dL_law_176 : decode cL_law 176 = .ok (.iaload, 1) := by decide +kernel
theorem dL_law_177 : decode cL_law 177 = .ok (.invokevirtual 13, 3) := by decide +kernel
theorem dL_law_180 : decode cL_law 180 = .ok (.aload_n 2, 1) := by decide +kernel
theorem dL_law_181 : decode cL_law 181 = .ok (.aload_n 0, 1) := by decide +kernel
theorem dL_law_182 : decode cL_law 182 = .ok (.iload_n 3, 1) := by decide +kernel
theorem dL_law_183 : decode cL_law 183 = .ok (.iconst 1, 1) := by decide +kernel
theorem dL_law_184 : decode cL_law 184 = .ok (.iadd, 1) := by decide +kernel
theorem dL_law_185 : decode cL_law 185 = .ok (.iaload, 1) := by decide +kernel
theorem dL_law_186 : decode cL_law 186 = .ok (.aload_n 0, 1) := by decide +kernel
theorem dL_law_187 : decode cL_law 187 = .ok (.iload_n 3, 1) := by decide +kernel
theorem dL_law_188 : decode cL_law 188 = .ok (.iconst 2, 1) := by decide +kernel
theorem dL_law_189 : decode cL_law 189 = .ok (.iadd, 1) := by decide +kernel
theorem dL_law_190 : decode cL_law 190 = .ok (.iaload, 1) := by decide +kernel
theorem dL_law_191 : decode cL_law 191 = .ok (.aload_n 0, 1) := by decide +kernel
theorem dL_law_192 : decode cL_law 192 = .ok (.iload_n 3, 1) := by decide +kernel
theorem dL_law_193 : decode cL_law 193 = .ok (.iconst 3, 1) := by decide +kernel
theorem dL_law_194 : decode cL_law 194 = .ok (.iadd, 1) := by decide +kernel
theorem dL_law_195 : decode cL_law 195 = .ok (.iaload, 1) := by decide +kernel
theorem dL_law_196 : decode cL_law 196 = .ok (.aload_n 0, 1) := by decide +kernel
theorem dL_law_197 : decode cL_law 197 = .ok (.iload_n 3, 1) := by decide +kernel
theorem dL_law_198 : decode cL_law 198 = .ok (.iconst 4, 1) := by decide +kernel
theorem dL_law_199 : decode cL_law 199 = .ok (.iadd, 1) := by decide +kernel
theorem dL_law_200 : decode cL_law 200 = .ok (.iaload, 1) := by decide +kernel
theorem dL_law_201 : decode cL_law 201 = .ok (.invokevirtual 17, 3) := by decide +kernel
theorem dL_law_204 : decode cL_law 204 = .ok (.if_icmp .eq 744, 3) := by decide +kernel
theorem dL_law_207 : decode cL_law 207 = .ok (.iconst 0, 1) := by decide +kernel
theorem dL_law_208 : decode cL_law 208 = .ok (.ireturn, 1) := by decide +kernel
theorem dL_law_209 : decode cL_law 209 = .ok (.aload_n 1, 1) := by decide +kernel
theorem dL_law_210 : decode cL_law 210 = .ok (.aload_n 0, 1) := by decide +kernel
theorem dL_law_211 : decode cL_law 211 = .ok (.iload_n 3, 1) := by decide +kernel
theorem dL_law_212 : decode cL_law 212 = .ok (.iconst 1, 1) := by decide +kernel
theorem dL_law_213 : decode cL_law 213 = .ok (.iadd, 1) := by decide +kernel
theorem dL_law_214 : decode cL_law 214 = .ok (.iaload, 1) := by decide +kernel
theorem dL_law_215 : decode cL_law 215 = .ok (.aload_n 0, 1) := by decide +kernel
theorem dL_law_216 : decode cL_law 216 = .ok (.iload_n 3, 1) := by decide +kernel
theorem dL_law_217 : decode cL_law 217 = .ok (.iconst 2, 1) := by decide +kernel
theorem dL_law_218 : decode cL_law 218 = .ok (.iadd, 1) := by decide +kernel
theorem dL_law_219 : decode cL_law 219 = .ok (.iaload, 1) := by decide +kernel
theorem dL_law_220 : decode cL_law 220 = .ok (.aload_n 0, 1) := by decide +kernel
theorem dL_law_221 : decode cL_law 221 = .ok (.iload_n 3, 1) := by decide +kernel
theorem dL_law_222 : decode cL_law 222 = .ok (.iconst 3, 1) := by decide +kernel
theorem dL_law_223 : decode cL_law 223 = .ok (.iadd, 1) := by decide +kernel
theorem dL_law_224 : decode cL_law 224 = .ok (.iaload, 1) := by decide +kernel
theorem dL_law_225 : decode cL_law 225 = .ok (.aload_n 0, 1) := by decide +kernel
theorem dL_law_226 : decode cL_law 226 = .ok (.iload_n 3, 1) := by decide +kernel
theorem dL_law_227 : decode cL_law 227 = .ok (.iconst 4, 1) := by decide +kernel
theorem dL_law_228 : decode cL_law 228 = .ok (.iadd, 1) := by decide +kernel
theorem dL_law_229 : decode cL_law 229 = .ok (.iaload, 1) := by decide +kernel
theorem dL_law_230 : decode cL_law 230 = .ok (.invokevirtual 18, 3) := by decide +kernel
theorem dL_law_233 : decode cL_law 233 = .ok (.aload_n 2, 1) := by decide +kernel
theorem dL_law_234 : decode cL_law 234 = .ok (.aload_n 0, 1) := by decide +kernel
theorem dL_law_235 : decode cL_law 235 = .ok (.iload_n 3, 1) := by decide +kernel
theorem dL_law_236 : decode cL_law 236 = .ok (.iconst 1, 1) := by decide +kernel
theorem dL_law_237 : decode cL_law 237 = .ok (.iadd, 1) := by decide +kernel
theorem dL_law_238 : decode cL_law 238 = .ok (.iaload, 1) := by decide +kernel
theorem dL_law_239 : decode cL_law 239 = .ok (.aload_n 0, 1) := by decide +kernel
theorem dL_law_240 : decode cL_law 240 = .ok (.iload_n 3, 1) := by decide +kernel
theorem dL_law_241 : decode cL_law 241 = .ok (.iconst 2, 1) := by decide +kernel
theorem dL_law_242 : decode cL_law 242 = .ok (.iadd, 1) := by decide +kernel
theorem dL_law_243 : decode cL_law 243 = .ok (.iaload, 1) := by decide +kernel
theorem dL_law_244 : decode cL_law 244 = .ok (.aload_n 0, 1) := by decide +kernel
theorem dL_law_245 : decode cL_law 245 = .ok (.iload_n 3, 1) := by decide +kernel
theorem dL_law_246 : decode cL_law 246 = .ok (.iconst 3, 1) := by decide +kernel
theorem dL_law_247 : decode cL_law 247 = .ok (.iadd, 1) := by decide +kernel
theorem dL_law_248 : decode cL_law 248 = .ok (.iaload, 1) := by decide +kernel
theorem dL_law_249 : decode cL_law 249 = .ok (.aload_n 0, 1) := by decide +kernel
theorem dL_law_250 : decode cL_law 250 = .ok (.iload_n 3, 1) := by decide +kernel
theorem dL_law_251 : decode cL_law 251 = .ok (.iconst 4, 1) := by decide +kernel
theorem dL_law_252 : decode cL_law 252 = .ok (.iadd, 1) := by decide +kernel
theorem dL_law_253 : decode cL_law 253 = .ok (.iaload, 1) := by decide +kernel
theorem dL_law_254 : decode cL_law 254 = .ok (.invokevirtual 21, 3) := by decide +kernel
theorem dL_law_257 : decode cL_law 257 = .ok (.if_icmp .eq 691, 3) := by decide +kernel
theorem dL_law_260 : decode cL_law 260 = .ok (.iconst 0, 1) := by decide +kernel
theorem dL_law_261 : decode cL_law 261 = .ok (.ireturn, 1) := by decide +kernel
theorem dL_law_262 : decode cL_law 262 = .ok (.aload_n 1, 1) := by decide +kernel
theorem dL_law_263 : decode cL_law 263 = .ok (.aload_n 0, 1) := by decide +kernel
theorem dL_law_264 : decode cL_law 264 = .ok (.iload_n 3, 1) := by decide +kernel
theorem dL_law_265 : decode cL_law 265 = .ok (.iconst 1, 1) := by decide +kernel
theorem dL_law_266 : decode cL_law 266 = .ok (.iadd, 1) := by decide +kernel
theorem dL_law_267 : decode cL_law 267 = .ok (.iaload, 1) := by decide +kernel
theorem dL_law_268 : decode cL_law 268 = .ok (.invokevirtual 22, 3) := by decide +kernel
theorem dL_law_271 : decode cL_law 271 = .ok (.aload_n 2, 1) := by decide +kernel
theorem dL_law_272 : decode cL_law 272 = .ok (.aload_n 0, 1) := by decide +kernel
theorem dL_law_273 : decode cL_law 273 = .ok (.iload_n 3, 1) := by decide +kernel
theorem dL_law_274 : decode cL_law 274 = .ok (.iconst 1, 1) := by decide +kernel
theorem dL_law_275 : decode cL_law 275 = .ok (.iadd, 1) := by decide +kernel
theorem dL_law_276 : decode cL_law 276 = .ok (.iaload, 1) := by decide +kernel
theorem dL_law_277 : decode cL_law 277 = .ok (.invokevirtual 26, 3) := by decide +kernel
theorem dL_law_280 : decode cL_law 280 = .ok (.if_icmp .eq 668, 3) := by decide +kernel
theorem dL_law_283 : decode cL_law 283 = .ok (.iconst 0, 1) := by decide +kernel
theorem dL_law_284 : decode cL_law 284 = .ok (.ireturn, 1) := by decide +kernel
theorem dL_law_285 : decode cL_law 285 = .ok (.aload_n 1, 1) := by decide +kernel
theorem dL_law_286 : decode cL_law 286 = .ok (.aload_n 0, 1) := by decide +kernel
theorem dL_law_287 : decode cL_law 287 = .ok (.iload_n 3, 1) := by decide +kernel
theorem dL_law_288 : decode cL_law 288 = .ok (.iconst 1, 1) := by decide +kernel
theorem dL_law_289 : decode cL_law 289 = .ok (.iadd, 1) := by decide +kernel
theorem dL_law_290 : decode cL_law 290 = .ok (.iaload, 1) := by decide +kernel
theorem dL_law_291 : decode cL_law 291 = .ok (.aload_n 0, 1) := by decide +kernel
theorem dL_law_292 : decode cL_law 292 = .ok (.iload_n 3, 1) := by decide +kernel
theorem dL_law_293 : decode cL_law 293 = .ok (.iconst 2, 1) := by decide +kernel
theorem dL_law_294 : decode cL_law 294 = .ok (.iadd, 1) := by decide +kernel
theorem dL_law_295 : decode cL_law 295 = .ok (.iaload, 1) := by decide +kernel
theorem dL_law_296 : decode cL_law 296 = .ok (.invokevirtual 27, 3) := by decide +kernel
theorem dL_law_299 : decode cL_law 299 = .ok (.aload_n 2, 1) := by decide +kernel
theorem dL_law_300 : decode cL_law 300 = .ok (.aload_n 0, 1) := by decide +kernel
theorem dL_law_301 : decode cL_law 301 = .ok (.iload_n 3, 1) := by decide +kernel
theorem dL_law_302 : decode cL_law 302 = .ok (.iconst 1, 1) := by decide +kernel
theorem dL_law_303 : decode cL_law 303 = .ok (.iadd, 1) := by decide +kernel
theorem dL_law_304 : decode cL_law 304 = .ok (.iaload, 1) := by decide +kernel
theorem dL_law_305 : decode cL_law 305 = .ok (.aload_n 0, 1) := by decide +kernel
theorem dL_law_306 : decode cL_law 306 = .ok (.iload_n 3, 1) := by decide +kernel
theorem dL_law_307 : decode cL_law 307 = .ok (.iconst 2, 1) := by decide +kernel
theorem dL_law_308 : decode cL_law 308 = .ok (.iadd, 1) := by decide +kernel
theorem dL_law_309 : decode cL_law 309 = .ok (.iaload, 1) := by decide +kernel
theorem dL_law_310 : decode cL_law 310 = .ok (.invokevirtual 31, 3) := by decide +kernel
theorem dL_law_313 : decode cL_law 313 = .ok (.if_icmp .eq 635, 3) := by decide +kernel
theorem dL_law_316 : decode cL_law 316 = .ok (.iconst 0, 1) := by decide +kernel
theorem dL_law_317 : decode cL_law 317 = .ok (.ireturn, 1) := by decide +kernel
theorem dL_law_318 : decode cL_law 318 = .ok (.aload_n 1, 1) := by decide +kernel
theorem dL_law_319 : decode cL_law 319 = .ok (.aload_n 0, 1) := by decide +kernel
theorem dL_law_320 : decode cL_law 320 = .ok (.iload_n 3, 1) := by decide +kernel
theorem dL_law_321 : decode cL_law 321 = .ok (.iconst 1, 1) := by decide +kernel
theorem dL_law_322 : decode cL_law 322 = .ok (.iadd, 1) := by decide +kernel
theorem dL_law_323 : decode cL_law 323 = .ok (.iaload, 1) := by decide +kernel
theorem dL_law_324 : decode cL_law 324 = .ok (.aload_n 0, 1) := by decide +kernel
theorem dL_law_325 : decode cL_law 325 = .ok (.iload_n 3, 1) := by decide +kernel
theorem dL_law_326 : decode cL_law 326 = .ok (.iconst 2, 1) := by decide +kernel
theorem dL_law_327 : decode cL_law 327 = .ok (.iadd, 1) := by decide +kernel
theorem dL_law_328 : decode cL_law 328 = .ok (.iaload, 1) := by decide +kernel
theorem dL_law_329 : decode cL_law 329 = .ok (.invokevirtual 32, 3) := by decide +kernel
theorem dL_law_332 : decode cL_law 332 = .ok (.aload_n 2, 1) := by decide +kernel
theorem dL_law_333 : decode cL_law 333 = .ok (.aload_n 0, 1) := by decide +kernel
theorem dL_law_334 : decode cL_law 334 = .ok (.iload_n 3, 1) := by decide +kernel
theorem dL_law_335 : decode cL_law 335 = .ok (.iconst 1, 1) := by decide +kernel
theorem dL_law_336 : decode cL_law 336 = .ok (.iadd, 1) := by decide +kernel
theorem dL_law_337 : decode cL_law 337 = .ok (.iaload, 1) := by decide +kernel
theorem dL_law_338 : decode cL_law 338 = .ok (.aload_n 0, 1) := by decide +kernel
theorem dL_law_339 : decode cL_law 339 = .ok (.iload_n 3, 1) := by decide +kernel
theorem dL_law_340 : decode cL_law 340 = .ok (.iconst 2, 1) := by decide +kernel
theorem dL_law_341 : decode cL_law 341 = .ok (.iadd, 1) := by decide +kernel
theorem dL_law_342 : decode cL_law 342 = .ok (.iaload, 1) := by decide +kernel
theorem dL_law_343 : decode cL_law 343 = .ok (.invokevirtual 35, 3) := by decide +kernel
theorem dL_law_346 : decode cL_law 346 = .ok (.if_icmp .eq 602, 3) := by decide +kernel
theorem dL_law_349 : decode cL_law 349 = .ok (.iconst 0, 1) := by decide +kernel
theorem dL_law_350 : decode cL_law 350 = .ok (.ireturn, 1) := by decide +kernel
theorem dL_law_351 : decode cL_law 351 = .ok (.aload_n 1, 1) := by decide +kernel
theorem dL_law_352 : decode cL_law 352 = .ok (.aload_n 0, 1) := by decide +kernel
theorem dL_law_353 : decode cL_law 353 = .ok (.iload_n 3, 1) := by decide +kernel
theorem dL_law_354 : decode cL_law 354 = .ok (.iconst 1, 1) := by decide +kernel
theorem dL_law_355 : decode cL_law 355 = .ok (.iadd, 1) := by decide +kernel
theorem dL_law_356 : decode cL_law 356 = .ok (.iaload, 1) := by decide +kernel
theorem dL_law_357 : decode cL_law 357 = .ok (.aload_n 0, 1) := by decide +kernel
theorem dL_law_358 : decode cL_law 358 = .ok (.iload_n 3, 1) := by decide +kernel
theorem dL_law_359 : decode cL_law 359 = .ok (.iconst 2, 1) := by decide +kernel
theorem dL_law_360 : decode cL_law 360 = .ok (.iadd, 1) := by decide +kernel
theorem dL_law_361 : decode cL_law 361 = .ok (.iaload, 1) := by decide +kernel
theorem dL_law_362 : decode cL_law 362 = .ok (.invokevirtual 36, 3) := by decide +kernel
theorem dL_law_365 : decode cL_law 365 = .ok (.aload_n 2, 1) := by decide +kernel
theorem dL_law_366 : decode cL_law 366 = .ok (.aload_n 0, 1) := by decide +kernel
theorem dL_law_367 : decode cL_law 367 = .ok (.iload_n 3, 1) := by decide +kernel
theorem dL_law_368 : decode cL_law 368 = .ok (.iconst 1, 1) := by decide +kernel
theorem dL_law_369 : decode cL_law 369 = .ok (.iadd, 1) := by decide +kernel
theorem dL_law_370 : decode cL_law 370 = .ok (.iaload, 1) := by decide +kernel
theorem dL_law_371 : decode cL_law 371 = .ok (.aload_n 0, 1) := by decide +kernel
theorem dL_law_372 : decode cL_law 372 = .ok (.iload_n 3, 1) := by decide +kernel
theorem dL_law_373 : decode cL_law 373 = .ok (.iconst 2, 1) := by decide +kernel
theorem dL_law_374 : decode cL_law 374 = .ok (.iadd, 1) := by decide +kernel
theorem dL_law_375 : decode cL_law 375 = .ok (.iaload, 1) := by decide +kernel
theorem dL_law_376 : decode cL_law 376 = .ok (.invokevirtual 39, 3) := by decide +kernel
theorem dL_law_379 : decode cL_law 379 = .ok (.if_icmp .eq 569, 3) := by decide +kernel
theorem dL_law_382 : decode cL_law 382 = .ok (.iconst 0, 1) := by decide +kernel
theorem dL_law_383 : decode cL_law 383 = .ok (.ireturn, 1) := by decide +kernel
theorem dL_law_384 : decode cL_law 384 = .ok (.aload_n 1, 1) := by decide +kernel
theorem dL_law_385 : decode cL_law 385 = .ok (.aload_n 0, 1) := by decide +kernel
theorem dL_law_386 : decode cL_law 386 = .ok (.iload_n 3, 1) := by decide +kernel
theorem dL_law_387 : decode cL_law 387 = .ok (.iconst 1, 1) := by decide +kernel
theorem dL_law_388 : decode cL_law 388 = .ok (.iadd, 1) := by decide +kernel
theorem dL_law_389 : decode cL_law 389 = .ok (.iaload, 1) := by decide +kernel
theorem dL_law_390 : decode cL_law 390 = .ok (.invokevirtual 40, 3) := by decide +kernel
theorem dL_law_393 : decode cL_law 393 = .ok (.aload_n 2, 1) := by decide +kernel
theorem dL_law_394 : decode cL_law 394 = .ok (.aload_n 0, 1) := by decide +kernel
theorem dL_law_395 : decode cL_law 395 = .ok (.iload_n 3, 1) := by decide +kernel
theorem dL_law_396 : decode cL_law 396 = .ok (.iconst 1, 1) := by decide +kernel
theorem dL_law_397 : decode cL_law 397 = .ok (.iadd, 1) := by decide +kernel
theorem dL_law_398 : decode cL_law 398 = .ok (.iaload, 1) := by decide +kernel
theorem dL_law_399 : decode cL_law 399 = .ok (.invokevirtual 43, 3) := by decide +kernel
theorem dL_law_402 : decode cL_law 402 = .ok (.if_icmp .eq 546, 3) := by decide +kernel
theorem dL_law_405 : decode cL_law 405 = .ok (.iconst 0, 1) := by decide +kernel
theorem dL_law_406 : decode cL_law 406 = .ok (.ireturn, 1) := by decide +kernel
theorem dL_law_407 : decode cL_law 407 = .ok (.aload_n 1, 1) := by decide +kernel
theorem dL_law_408 : decode cL_law 408 = .ok (.aload_n 0, 1) := by decide +kernel
theorem dL_law_409 : decode cL_law 409 = .ok (.iload_n 3, 1) := by decide +kernel
theorem dL_law_410 : decode cL_law 410 = .ok (.iconst 1, 1) := by decide +kernel
theorem dL_law_411 : decode cL_law 411 = .ok (.iadd, 1) := by decide +kernel
theorem dL_law_412 : decode cL_law 412 = .ok (.iaload, 1) := by decide +kernel
theorem dL_law_413 : decode cL_law 413 = .ok (.aload_n 0, 1) := by decide +kernel
theorem dL_law_414 : decode cL_law 414 = .ok (.iload_n 3, 1) := by decide +kernel
theorem dL_law_415 : decode cL_law 415 = .ok (.iconst 2, 1) := by decide +kernel
theorem dL_law_416 : decode cL_law 416 = .ok (.iadd, 1) := by decide +kernel
theorem dL_law_417 : decode cL_law 417 = .ok (.iaload, 1) := by decide +kernel
theorem dL_law_418 : decode cL_law 418 = .ok (.invokevirtual 44, 3) := by decide +kernel
theorem dL_law_421 : decode cL_law 421 = .ok (.aload_n 2, 1) := by decide +kernel
theorem dL_law_422 : decode cL_law 422 = .ok (.aload_n 0, 1) := by decide +kernel
theorem dL_law_423 : decode cL_law 423 = .ok (.iload_n 3, 1) := by decide +kernel
theorem dL_law_424 : decode cL_law 424 = .ok (.iconst 1, 1) := by decide +kernel
theorem dL_law_425 : decode cL_law 425 = .ok (.iadd, 1) := by decide +kernel
theorem dL_law_426 : decode cL_law 426 = .ok (.iaload, 1) := by decide +kernel
theorem dL_law_427 : decode cL_law 427 = .ok (.aload_n 0, 1) := by decide +kernel
theorem dL_law_428 : decode cL_law 428 = .ok (.iload_n 3, 1) := by decide +kernel
theorem dL_law_429 : decode cL_law 429 = .ok (.iconst 2, 1) := by decide +kernel
theorem dL_law_430 : decode cL_law 430 = .ok (.iadd, 1) := by decide +kernel
theorem dL_law_431 : decode cL_law 431 = .ok (.iaload, 1) := by decide +kernel
theorem dL_law_432 : decode cL_law 432 = .ok (.invokevirtual 47, 3) := by decide +kernel
theorem dL_law_435 : decode cL_law 435 = .ok (.if_icmp .eq 513, 3) := by decide +kernel
theorem dL_law_438 : decode cL_law 438 = .ok (.iconst 0, 1) := by decide +kernel
theorem dL_law_439 : decode cL_law 439 = .ok (.ireturn, 1) := by decide +kernel
theorem dL_law_440 : decode cL_law 440 = .ok (.aload_n 1, 1) := by decide +kernel
theorem dL_law_441 : decode cL_law 441 = .ok (.invokevirtual 48, 3) := by decide +kernel
theorem dL_law_444 : decode cL_law 444 = .ok (.aload_n 2, 1) := by decide +kernel
theorem dL_law_445 : decode cL_law 445 = .ok (.invokevirtual 52, 3) := by decide +kernel
theorem dL_law_448 : decode cL_law 448 = .ok (.if_icmp .eq 500, 3) := by decide +kernel
theorem dL_law_451 : decode cL_law 451 = .ok (.iconst 0, 1) := by decide +kernel
theorem dL_law_452 : decode cL_law 452 = .ok (.ireturn, 1) := by decide +kernel
theorem dL_law_453 : decode cL_law 453 = .ok (.aload_n 1, 1) := by decide +kernel
theorem dL_law_454 : decode cL_law 454 = .ok (.invokevirtual 53, 3) := by decide +kernel
theorem dL_law_457 : decode cL_law 457 = .ok (.aload_n 2, 1) := by decide +kernel
theorem dL_law_458 : decode cL_law 458 = .ok (.invokevirtual 56, 3) := by decide +kernel
theorem dL_law_461 : decode cL_law 461 = .ok (.if_icmp .eq 487, 3) := by decide +kernel
theorem dL_law_464 : decode cL_law 464 = .ok (.iconst 0, 1) := by decide +kernel
theorem dL_law_465 : decode cL_law 465 = .ok (.ireturn, 1) := by decide +kernel
theorem dL_law_466 : decode cL_law 466 = .ok (.aload_n 1, 1) := by decide +kernel
theorem dL_law_467 : decode cL_law 467 = .ok (.aload_n 0, 1) := by decide +kernel
theorem dL_law_468 : decode cL_law 468 = .ok (.iload_n 3, 1) := by decide +kernel
theorem dL_law_469 : decode cL_law 469 = .ok (.iconst 1, 1) := by decide +kernel
theorem dL_law_470 : decode cL_law 470 = .ok (.iadd, 1) := by decide +kernel
theorem dL_law_471 : decode cL_law 471 = .ok (.iaload, 1) := by decide +kernel
theorem dL_law_472 : decode cL_law 472 = .ok (.invokevirtual 57, 3) := by decide +kernel
theorem dL_law_475 : decode cL_law 475 = .ok (.aload_n 2, 1) := by decide +kernel
theorem dL_law_476 : decode cL_law 476 = .ok (.aload_n 0, 1) := by decide +kernel
theorem dL_law_477 : decode cL_law 477 = .ok (.iload_n 3, 1) := by decide +kernel
theorem dL_law_478 : decode cL_law 478 = .ok (.iconst 1, 1) := by decide +kernel
theorem dL_law_479 : decode cL_law 479 = .ok (.iadd, 1) := by decide +kernel
theorem dL_law_480 : decode cL_law 480 = .ok (.iaload, 1) := by decide +kernel
theorem dL_law_481 : decode cL_law 481 = .ok (.invokevirtual 60, 3) := by decide +kernel
theorem dL_law_484 : decode cL_law 484 = .ok (.if_icmp .eq 464, 3) := by decide +kernel
theorem dL_law_487 : decode cL_law 487 = .ok (.iconst 0, 1) := by decide +kernel
theorem dL_law_488 : decode cL_law 488 = .ok (.ireturn, 1) := by decide +kernel
theorem dL_law_489 : decode cL_law 489 = .ok (.aload_n 1, 1) := by decide +kernel
theorem dL_law_490 : decode cL_law 490 = .ok (.invokevirtual 61, 3) := by decide +kernel
theorem dL_law_493 : decode cL_law 493 = .ok (.aload_n 2, 1) := by decide +kernel
theorem dL_law_494 : decode cL_law 494 = .ok (.invokevirtual 64, 3) := by decide +kernel
theorem dL_law_497 : decode cL_law 497 = .ok (.if_icmp .eq 451, 3) := by decide +kernel
theorem dL_law_500 : decode cL_law 500 = .ok (.iconst 0, 1) := by decide +kernel
theorem dL_law_501 : decode cL_law 501 = .ok (.ireturn, 1) := by decide +kernel
theorem dL_law_502 : decode cL_law 502 = .ok (.aload_n 1, 1) := by decide +kernel
theorem dL_law_503 : decode cL_law 503 = .ok (.aload_n 0, 1) := by decide +kernel
theorem dL_law_504 : decode cL_law 504 = .ok (.iload_n 3, 1) := by decide +kernel
theorem dL_law_505 : decode cL_law 505 = .ok (.iconst 1, 1) := by decide +kernel
theorem dL_law_506 : decode cL_law 506 = .ok (.iadd, 1) := by decide +kernel
theorem dL_law_507 : decode cL_law 507 = .ok (.iaload, 1) := by decide +kernel
theorem dL_law_508 : decode cL_law 508 = .ok (.aload_n 0, 1) := by decide +kernel
theorem dL_law_509 : decode cL_law 509 = .ok (.iload_n 3, 1) := by decide +kernel
theorem dL_law_510 : decode cL_law 510 = .ok (.iconst 2, 1) := by decide +kernel
theorem dL_law_511 : decode cL_law 511 = .ok (.iadd, 1) := by decide +kernel
theorem dL_law_512 : decode cL_law 512 = .ok (.iaload, 1) := by decide +kernel
theorem dL_law_513 : decode cL_law 513 = .ok (.invokevirtual 65, 3) := by decide +kernel
theorem dL_law_516 : decode cL_law 516 = .ok (.aload_n 2, 1) := by decide +kernel
theorem dL_law_517 : decode cL_law 517 = .ok (.aload_n 0, 1) := by decide +kernel
theorem dL_law_518 : decode cL_law 518 = .ok (.iload_n 3, 1) := by decide +kernel
theorem dL_law_519 : decode cL_law 519 = .ok (.iconst 1, 1) := by decide +kernel
theorem dL_law_520 : decode cL_law 520 = .ok (.iadd, 1) := by decide +kernel
theorem dL_law_521 : decode cL_law 521 = .ok (.iaload, 1) := by decide +kernel
theorem dL_law_522 : decode cL_law 522 = .ok (.aload_n 0, 1) := by decide +kernel
theorem dL_law_523 : decode cL_law 523 = .ok (.iload_n 3, 1) := by decide +kernel
theorem dL_law_524 : decode cL_law 524 = .ok (.iconst 2, 1) := by decide +kernel
theorem dL_law_525 : decode cL_law 525 = .ok (.iadd, 1) := by decide +kernel
theorem dL_law_526 : decode cL_law 526 = .ok (.iaload, 1) := by decide +kernel
theorem dL_law_527 : decode cL_law 527 = .ok (.invokevirtual 68, 3) := by decide +kernel
theorem dL_law_530 : decode cL_law 530 = .ok (.if_icmp .eq 418, 3) := by decide +kernel
theorem dL_law_533 : decode cL_law 533 = .ok (.iconst 0, 1) := by decide +kernel
theorem dL_law_534 : decode cL_law 534 = .ok (.ireturn, 1) := by decide +kernel
theorem dL_law_535 : decode cL_law 535 = .ok (.aload_n 1, 1) := by decide +kernel
theorem dL_law_536 : decode cL_law 536 = .ok (.aload_n 0, 1) := by decide +kernel
theorem dL_law_537 : decode cL_law 537 = .ok (.iload_n 3, 1) := by decide +kernel
theorem dL_law_538 : decode cL_law 538 = .ok (.iconst 1, 1) := by decide +kernel
theorem dL_law_539 : decode cL_law 539 = .ok (.iadd, 1) := by decide +kernel
theorem dL_law_540 : decode cL_law 540 = .ok (.iaload, 1) := by decide +kernel
theorem dL_law_541 : decode cL_law 541 = .ok (.invokevirtual 69, 3) := by decide +kernel
theorem dL_law_544 : decode cL_law 544 = .ok (.aload_n 2, 1) := by decide +kernel
theorem dL_law_545 : decode cL_law 545 = .ok (.aload_n 0, 1) := by decide +kernel
theorem dL_law_546 : decode cL_law 546 = .ok (.iload_n 3, 1) := by decide +kernel
theorem dL_law_547 : decode cL_law 547 = .ok (.iconst 1, 1) := by decide +kernel
theorem dL_law_548 : decode cL_law 548 = .ok (.iadd, 1) := by decide +kernel
theorem dL_law_549 : decode cL_law 549 = .ok (.iaload, 1) := by decide +kernel
theorem dL_law_550 : decode cL_law 550 = .ok (.invokevirtual 72, 3) := by decide +kernel
theorem dL_law_553 : decode cL_law 553 = .ok (.if_icmp .eq 395, 3) := by decide +kernel
theorem dL_law_556 : decode cL_law 556 = .ok (.iconst 0, 1) := by decide +kernel
theorem dL_law_557 : decode cL_law 557 = .ok (.ireturn, 1) := by decide +kernel
theorem dL_law_558 : decode cL_law 558 = .ok (.aload_n 1, 1) := by decide +kernel
theorem dL_law_559 : decode cL_law 559 = .ok (.aload_n 0, 1) := by decide +kernel
theorem dL_law_560 : decode cL_law 560 = .ok (.iload_n 3, 1) := by decide +kernel
theorem dL_law_561 : decode cL_law 561 = .ok (.iconst 1, 1) := by decide +kernel
theorem dL_law_562 : decode cL_law 562 = .ok (.iadd, 1) := by decide +kernel
theorem dL_law_563 : decode cL_law 563 = .ok (.iaload, 1) := by decide +kernel
theorem dL_law_564 : decode cL_law 564 = .ok (.aload_n 0, 1) := by decide +kernel
theorem dL_law_565 : decode cL_law 565 = .ok (.iload_n 3, 1) := by decide +kernel
theorem dL_law_566 : decode cL_law 566 = .ok (.iconst 2, 1) := by decide +kernel
theorem dL_law_567 : decode cL_law 567 = .ok (.iadd, 1) := by decide +kernel
theorem dL_law_568 : decode cL_law 568 = .ok (.iaload, 1) := by decide +kernel
theorem dL_law_569 : decode cL_law 569 = .ok (.invokevirtual 73, 3) := by decide +kernel
theorem dL_law_572 : decode cL_law 572 = .ok (.aload_n 2, 1) := by decide +kernel
theorem dL_law_573 : decode cL_law 573 = .ok (.aload_n 0, 1) := by decide +kernel
theorem dL_law_574 : decode cL_law 574 = .ok (.iload_n 3, 1) := by decide +kernel
theorem dL_law_575 : decode cL_law 575 = .ok (.iconst 1, 1) := by decide +kernel
theorem dL_law_576 : decode cL_law 576 = .ok (.iadd, 1) := by decide +kernel
theorem dL_law_577 : decode cL_law 577 = .ok (.iaload, 1) := by decide +kernel
theorem dL_law_578 : decode cL_law 578 = .ok (.aload_n 0, 1) := by decide +kernel
theorem dL_law_579 : decode cL_law 579 = .ok (.iload_n 3, 1) := by decide +kernel
theorem dL_law_580 : decode cL_law 580 = .ok (.iconst 2, 1) := by decide +kernel
theorem dL_law_581 : decode cL_law 581 = .ok (.iadd, 1) := by decide +kernel
theorem dL_law_582 : decode cL_law 582 = .ok (.iaload, 1) := by decide +kernel
theorem dL_law_583 : decode cL_law 583 = .ok (.invokevirtual 76, 3) := by decide +kernel
theorem dL_law_586 : decode cL_law 586 = .ok (.if_icmp .eq 362, 3) := by decide +kernel
theorem dL_law_589 : decode cL_law 589 = .ok (.iconst 0, 1) := by decide +kernel
theorem dL_law_590 : decode cL_law 590 = .ok (.ireturn, 1) := by decide +kernel
theorem dL_law_591 : decode cL_law 591 = .ok (.aload_n 1, 1) := by decide +kernel
theorem dL_law_592 : decode cL_law 592 = .ok (.aload_n 0, 1) := by decide +kernel
theorem dL_law_593 : decode cL_law 593 = .ok (.iload_n 3, 1) := by decide +kernel
theorem dL_law_594 : decode cL_law 594 = .ok (.iconst 1, 1) := by decide +kernel
theorem dL_law_595 : decode cL_law 595 = .ok (.iadd, 1) := by decide +kernel
theorem dL_law_596 : decode cL_law 596 = .ok (.iaload, 1) := by decide +kernel
theorem dL_law_597 : decode cL_law 597 = .ok (.aload_n 0, 1) := by decide +kernel
theorem dL_law_598 : decode cL_law 598 = .ok (.iload_n 3, 1) := by decide +kernel
theorem dL_law_599 : decode cL_law 599 = .ok (.iconst 2, 1) := by decide +kernel
theorem dL_law_600 : decode cL_law 600 = .ok (.iadd, 1) := by decide +kernel
theorem dL_law_601 : decode cL_law 601 = .ok (.iaload, 1) := by decide +kernel
theorem dL_law_602 : decode cL_law 602 = .ok (.aload_n 0, 1) := by decide +kernel
theorem dL_law_603 : decode cL_law 603 = .ok (.iload_n 3, 1) := by decide +kernel
theorem dL_law_604 : decode cL_law 604 = .ok (.iconst 3, 1) := by decide +kernel
theorem dL_law_605 : decode cL_law 605 = .ok (.iadd, 1) := by decide +kernel
theorem dL_law_606 : decode cL_law 606 = .ok (.iaload, 1) := by decide +kernel
theorem dL_law_607 : decode cL_law 607 = .ok (.invokevirtual 77, 3) := by decide +kernel
theorem dL_law_610 : decode cL_law 610 = .ok (.aload_n 2, 1) := by decide +kernel
theorem dL_law_611 : decode cL_law 611 = .ok (.aload_n 0, 1) := by decide +kernel
theorem dL_law_612 : decode cL_law 612 = .ok (.iload_n 3, 1) := by decide +kernel
theorem dL_law_613 : decode cL_law 613 = .ok (.iconst 1, 1) := by decide +kernel
theorem dL_law_614 : decode cL_law 614 = .ok (.iadd, 1) := by decide +kernel
theorem dL_law_615 : decode cL_law 615 = .ok (.iaload, 1) := by decide +kernel
theorem dL_law_616 : decode cL_law 616 = .ok (.aload_n 0, 1) := by decide +kernel
theorem dL_law_617 : decode cL_law 617 = .ok (.iload_n 3, 1) := by decide +kernel
theorem dL_law_618 : decode cL_law 618 = .ok (.iconst 2, 1) := by decide +kernel
theorem dL_law_619 : decode cL_law 619 = .ok (.iadd, 1) := by decide +kernel
theorem dL_law_620 : decode cL_law 620 = .ok (.iaload, 1) := by decide +kernel
theorem dL_law_621 : decode cL_law 621 = .ok (.aload_n 0, 1) := by decide +kernel
theorem dL_law_622 : decode cL_law 622 = .ok (.iload_n 3, 1) := by decide +kernel
theorem dL_law_623 : decode cL_law 623 = .ok (.iconst 3, 1) := by decide +kernel
theorem dL_law_624 : decode cL_law 624 = .ok (.iadd, 1) := by decide +kernel
theorem dL_law_625 : decode cL_law 625 = .ok (.iaload, 1) := by decide +kernel
theorem dL_law_626 : decode cL_law 626 = .ok (.invokevirtual 81, 3) := by decide +kernel
theorem dL_law_629 : decode cL_law 629 = .ok (.if_icmp .eq 319, 3) := by decide +kernel
theorem dL_law_632 : decode cL_law 632 = .ok (.iconst 0, 1) := by decide +kernel
theorem dL_law_633 : decode cL_law 633 = .ok (.ireturn, 1) := by decide +kernel
theorem dL_law_634 : decode cL_law 634 = .ok (.aload_n 1, 1) := by decide +kernel
theorem dL_law_635 : decode cL_law 635 = .ok (.aload_n 0, 1) := by decide +kernel
theorem dL_law_636 : decode cL_law 636 = .ok (.iload_n 3, 1) := by decide +kernel
theorem dL_law_637 : decode cL_law 637 = .ok (.iconst 1, 1) := by decide +kernel
theorem dL_law_638 : decode cL_law 638 = .ok (.iadd, 1) := by decide +kernel
theorem dL_law_639 : decode cL_law 639 = .ok (.iaload, 1) := by decide +kernel
theorem dL_law_640 : decode cL_law 640 = .ok (.aload_n 0, 1) := by decide +kernel
theorem dL_law_641 : decode cL_law 641 = .ok (.iload_n 3, 1) := by decide +kernel
theorem dL_law_642 : decode cL_law 642 = .ok (.iconst 2, 1) := by decide +kernel
theorem dL_law_643 : decode cL_law 643 = .ok (.iadd, 1) := by decide +kernel
theorem dL_law_644 : decode cL_law 644 = .ok (.iaload, 1) := by decide +kernel
theorem dL_law_645 : decode cL_law 645 = .ok (.invokevirtual 82, 3) := by decide +kernel
theorem dL_law_648 : decode cL_law 648 = .ok (.aload_n 2, 1) := by decide +kernel
theorem dL_law_649 : decode cL_law 649 = .ok (.aload_n 0, 1) := by decide +kernel
theorem dL_law_650 : decode cL_law 650 = .ok (.iload_n 3, 1) := by decide +kernel
theorem dL_law_651 : decode cL_law 651 = .ok (.iconst 1, 1) := by decide +kernel
theorem dL_law_652 : decode cL_law 652 = .ok (.iadd, 1) := by decide +kernel
theorem dL_law_653 : decode cL_law 653 = .ok (.iaload, 1) := by decide +kernel
theorem dL_law_654 : decode cL_law 654 = .ok (.aload_n 0, 1) := by decide +kernel
theorem dL_law_655 : decode cL_law 655 = .ok (.iload_n 3, 1) := by decide +kernel
theorem dL_law_656 : decode cL_law 656 = .ok (.iconst 2, 1) := by decide +kernel
theorem dL_law_657 : decode cL_law 657 = .ok (.iadd, 1) := by decide +kernel
theorem dL_law_658 : decode cL_law 658 = .ok (.iaload, 1) := by decide +kernel
theorem dL_law_659 : decode cL_law 659 = .ok (.invokevirtual 85, 3) := by decide +kernel
theorem dL_law_662 : decode cL_law 662 = .ok (.if_icmp .eq 286, 3) := by decide +kernel
theorem dL_law_665 : decode cL_law 665 = .ok (.iconst 0, 1) := by decide +kernel
theorem dL_law_666 : decode cL_law 666 = .ok (.ireturn, 1) := by decide +kernel
theorem dL_law_667 : decode cL_law 667 = .ok (.aload_n 1, 1) := by decide +kernel
theorem dL_law_668 : decode cL_law 668 = .ok (.aload_n 0, 1) := by decide +kernel
theorem dL_law_669 : decode cL_law 669 = .ok (.iload_n 3, 1) := by decide +kernel
theorem dL_law_670 : decode cL_law 670 = .ok (.iconst 1, 1) := by decide +kernel
theorem dL_law_671 : decode cL_law 671 = .ok (.iadd, 1) := by decide +kernel
theorem dL_law_672 : decode cL_law 672 = .ok (.iaload, 1) := by decide +kernel
theorem dL_law_673 : decode cL_law 673 = .ok (.invokevirtual 86, 3) := by decide +kernel
theorem dL_law_676 : decode cL_law 676 = .ok (.aload_n 2, 1) := by decide +kernel
theorem dL_law_677 : decode cL_law 677 = .ok (.aload_n 0, 1) := by decide +kernel
theorem dL_law_678 : decode cL_law 678 = .ok (.iload_n 3, 1) := by decide +kernel
theorem dL_law_679 : decode cL_law 679 = .ok (.iconst 1, 1) := by decide +kernel
theorem dL_law_680 : decode cL_law 680 = .ok (.iadd, 1) := by decide +kernel
theorem dL_law_681 : decode cL_law 681 = .ok (.iaload, 1) := by decide +kernel
theorem dL_law_682 : decode cL_law 682 = .ok (.invokevirtual 89, 3) := by decide +kernel
theorem dL_law_685 : decode cL_law 685 = .ok (.if_icmp .eq 263, 3) := by decide +kernel
theorem dL_law_688 : decode cL_law 688 = .ok (.iconst 0, 1) := by decide +kernel
theorem dL_law_689 : decode cL_law 689 = .ok (.ireturn, 1) := by decide +kernel
theorem dL_law_690 : decode cL_law 690 = .ok (.aload_n 1, 1) := by decide +kernel
theorem dL_law_691 : decode cL_law 691 = .ok (.aload_n 0, 1) := by decide +kernel
theorem dL_law_692 : decode cL_law 692 = .ok (.iload_n 3, 1) := by decide +kernel
theorem dL_law_693 : decode cL_law 693 = .ok (.iconst 1, 1) := by decide +kernel
theorem dL_law_694 : decode cL_law 694 = .ok (.iadd, 1) := by decide +kernel
theorem dL_law_695 : decode cL_law 695 = .ok (.iaload, 1) := by decide +kernel
theorem dL_law_696 : decode cL_law 696 = .ok (.invokevirtual 90, 3) := by decide +kernel
theorem dL_law_699 : decode cL_law 699 = .ok (.aload_n 2, 1) := by decide +kernel
theorem dL_law_700 : decode cL_law 700 = .ok (.aload_n 0, 1) := by decide +kernel
theorem dL_law_701 : decode cL_law 701 = .ok (.iload_n 3, 1) := by decide +kernel
theorem dL_law_702 : decode cL_law 702 = .ok (.iconst 1, 1) := by decide +kernel
theorem dL_law_703 : decode cL_law 703 = .ok (.iadd, 1) := by decide +kernel
theorem dL_law_704 : decode cL_law 704 = .ok (.iaload, 1) := by decide +kernel
theorem dL_law_705 : decode cL_law 705 = .ok (.invokevirtual 93, 3) := by decide +kernel
theorem dL_law_708 : decode cL_law 708 = .ok (.if_icmp .eq 240, 3) := by decide +kernel
theorem dL_law_711 : decode cL_law 711 = .ok (.iconst 0, 1) := by decide +kernel
theorem dL_law_712 : decode cL_law 712 = .ok (.ireturn, 1) := by decide +kernel
theorem dL_law_713 : decode cL_law 713 = .ok (.aload_n 1, 1) := by decide +kernel
theorem dL_law_714 : decode cL_law 714 = .ok (.aload_n 0, 1) := by decide +kernel
theorem dL_law_715 : decode cL_law 715 = .ok (.iload_n 3, 1) := by decide +kernel
theorem dL_law_716 : decode cL_law 716 = .ok (.iconst 1, 1) := by decide +kernel
theorem dL_law_717 : decode cL_law 717 = .ok (.iadd, 1) := by decide +kernel
theorem dL_law_718 : decode cL_law 718 = .ok (.iaload, 1) := by decide +kernel
theorem dL_law_719 : decode cL_law 719 = .ok (.aload_n 0, 1) := by decide +kernel
theorem dL_law_720 : decode cL_law 720 = .ok (.iload_n 3, 1) := by decide +kernel
theorem dL_law_721 : decode cL_law 721 = .ok (.iconst 2, 1) := by decide +kernel
theorem dL_law_722 : decode cL_law 722 = .ok (.iadd, 1) := by decide +kernel
theorem dL_law_723 : decode cL_law 723 = .ok (.iaload, 1) := by decide +kernel
theorem dL_law_724 : decode cL_law 724 = .ok (.aload_n 0, 1) := by decide +kernel
theorem dL_law_725 : decode cL_law 725 = .ok (.iload_n 3, 1) := by decide +kernel
theorem dL_law_726 : decode cL_law 726 = .ok (.iconst 3, 1) := by decide +kernel
theorem dL_law_727 : decode cL_law 727 = .ok (.iadd, 1) := by decide +kernel
theorem dL_law_728 : decode cL_law 728 = .ok (.iaload, 1) := by decide +kernel
theorem dL_law_729 : decode cL_law 729 = .ok (.invokevirtual 94, 3) := by decide +kernel
theorem dL_law_732 : decode cL_law 732 = .ok (.aload_n 2, 1) := by decide +kernel
theorem dL_law_733 : decode cL_law 733 = .ok (.aload_n 0, 1) := by decide +kernel
theorem dL_law_734 : decode cL_law 734 = .ok (.iload_n 3, 1) := by decide +kernel
theorem dL_law_735 : decode cL_law 735 = .ok (.iconst 1, 1) := by decide +kernel
theorem dL_law_736 : decode cL_law 736 = .ok (.iadd, 1) := by decide +kernel
theorem dL_law_737 : decode cL_law 737 = .ok (.iaload, 1) := by decide +kernel
theorem dL_law_738 : decode cL_law 738 = .ok (.aload_n 0, 1) := by decide +kernel
theorem dL_law_739 : decode cL_law 739 = .ok (.iload_n 3, 1) := by decide +kernel
theorem dL_law_740 : decode cL_law 740 = .ok (.iconst 2, 1) := by decide +kernel
theorem dL_law_741 : decode cL_law 741 = .ok (.iadd, 1) := by decide +kernel
theorem dL_law_742 : decode cL_law 742 = .ok (.iaload, 1) := by decide +kernel
theorem dL_law_743 : decode cL_law 743 = .ok (.aload_n 0, 1) := by decide +kernel
theorem dL_law_744 : decode cL_law 744 = .ok (.iload_n 3, 1) := by decide +kernel
theorem dL_law_745 : decode cL_law 745 = .ok (.iconst 3, 1) := by decide +kernel
theorem dL_law_746 : decode cL_law 746 = .ok (.iadd, 1) := by decide +kernel
theorem dL_law_747 : decode cL_law 747 = .ok (.iaload, 1) := by decide +kernel
theorem dL_law_748 : decode cL_law 748 = .ok (.invokevirtual 97, 3) := by decide +kernel
theorem dL_law_751 : decode cL_law 751 = .ok (.if_icmp .eq 197, 3) := by decide +kernel
theorem dL_law_754 : decode cL_law 754 = .ok (.iconst 0, 1) := by decide +kernel
theorem dL_law_755 : decode cL_law 755 = .ok (.ireturn, 1) := by decide +kernel
theorem dL_law_756 : decode cL_law 756 = .ok (.aload_n 1, 1) := by decide +kernel
theorem dL_law_757 : decode cL_law 757 = .ok (.aload_n 0, 1) := by decide +kernel
theorem dL_law_758 : decode cL_law 758 = .ok (.iload_n 3, 1) := by decide +kernel
theorem dL_law_759 : decode cL_law 759 = .ok (.iconst 1, 1) := by decide +kernel
theorem dL_law_760 : decode cL_law 760 = .ok (.iadd, 1) := by decide +kernel
theorem dL_law_761 : decode cL_law 761 = .ok (.iaload, 1) := by decide +kernel
theorem dL_law_762 : decode cL_law 762 = .ok (.aload_n 0, 1) := by decide +kernel
theorem dL_law_763 : decode cL_law 763 = .ok (.iload_n 3, 1) := by decide +kernel
theorem dL_law_764 : decode cL_law 764 = .ok (.iconst 2, 1) := by decide +kernel
theorem dL_law_765 : decode cL_law 765 = .ok (.iadd, 1) := by decide +kernel
theorem dL_law_766 : decode cL_law 766 = .ok (.iaload, 1) := by decide +kernel
theorem dL_law_767 : decode cL_law 767 = .ok (.aload_n 0, 1) := by decide +kernel
theorem dL_law_768 : decode cL_law 768 = .ok (.iload_n 3, 1) := by decide +kernel
theorem dL_law_769 : decode cL_law 769 = .ok (.iconst 3, 1) := by decide +kernel
theorem dL_law_770 : decode cL_law 770 = .ok (.iadd, 1) := by decide +kernel
theorem dL_law_771 : decode cL_law 771 = .ok (.iaload, 1) := by decide +kernel
theorem dL_law_772 : decode cL_law 772 = .ok (.invokevirtual 98, 3) := by decide +kernel
theorem dL_law_775 : decode cL_law 775 = .ok (.aload_n 2, 1) := by decide +kernel
theorem dL_law_776 : decode cL_law 776 = .ok (.aload_n 0, 1) := by decide +kernel
theorem dL_law_777 : decode cL_law 777 = .ok (.iload_n 3, 1) := by decide +kernel
theorem dL_law_778 : decode cL_law 778 = .ok (.iconst 1, 1) := by decide +kernel
theorem dL_law_779 : decode cL_law 779 = .ok (.iadd, 1) := by decide +kernel
theorem dL_law_780 : decode cL_law 780 = .ok (.iaload, 1) := by decide +kernel
theorem dL_law_781 : decode cL_law 781 = .ok (.aload_n 0, 1) := by decide +kernel
theorem dL_law_782 : decode cL_law 782 = .ok (.iload_n 3, 1) := by decide +kernel
theorem dL_law_783 : decode cL_law 783 = .ok (.iconst 2, 1) := by decide +kernel
theorem dL_law_784 : decode cL_law 784 = .ok (.iadd, 1) := by decide +kernel
theorem dL_law_785 : decode cL_law 785 = .ok (.iaload, 1) := by decide +kernel
theorem dL_law_786 : decode cL_law 786 = .ok (.aload_n 0, 1) := by decide +kernel
theorem dL_law_787 : decode cL_law 787 = .ok (.iload_n 3, 1) := by decide +kernel
theorem dL_law_788 : decode cL_law 788 = .ok (.iconst 3, 1) := by decide +kernel
theorem dL_law_789 : decode cL_law 789 = .ok (.iadd, 1) := by decide +kernel
theorem dL_law_790 : decode cL_law 790 = .ok (.iaload, 1) := by decide +kernel
theorem dL_law_791 : decode cL_law 791 = .ok (.invokevirtual 101, 3) := by decide +kernel
theorem dL_law_794 : decode cL_law 794 = .ok (.if_icmp .eq 154, 3) := by decide +kernel
theorem dL_law_797 : decode cL_law 797 = .ok (.iconst 0, 1) := by decide +kernel
theorem dL_law_798 : decode cL_law 798 = .ok (.ireturn, 1) := by decide +kernel
theorem dL_law_799 : decode cL_law 799 = .ok (.aload_n 1, 1) := by decide +kernel
theorem dL_law_800 : decode cL_law 800 = .ok (.aload_n 0, 1) := by decide +kernel
theorem dL_law_801 : decode cL_law 801 = .ok (.iload_n 3, 1) := by decide +kernel
theorem dL_law_802 : decode cL_law 802 = .ok (.iconst 1, 1) := by decide +kernel
theorem dL_law_803 : decode cL_law 803 = .ok (.iadd, 1) := by decide +kernel
theorem dL_law_804 : decode cL_law 804 = .ok (.iaload, 1) := by decide +kernel
theorem dL_law_805 : decode cL_law 805 = .ok (.aload_n 0, 1) := by decide +kernel
theorem dL_law_806 : decode cL_law 806 = .ok (.iload_n 3, 1) := by decide +kernel
theorem dL_law_807 : decode cL_law 807 = .ok (.iconst 2, 1) := by decide +kernel
theorem dL_law_808 : decode cL_law 808 = .ok (.iadd, 1) := by decide +kernel
theorem dL_law_809 : decode cL_law 809 = .ok (.iaload, 1) := by decide +kernel
theorem dL_law_810 : decode cL_law 810 = .ok (.invokevirtual 102, 3) := by decide +kernel
theorem dL_law_813 : decode cL_law 813 = .ok (.aload_n 2, 1) := by decide +kernel
theorem dL_law_814 : decode cL_law 814 = .ok (.aload_n 0, 1) := by decide +kernel
theorem dL_law_815 : decode cL_law 815 = .ok (.iload_n 3, 1) := by decide +kernel
theorem dL_law_816 : decode cL_law 816 = .ok (.iconst 1, 1) := by decide +kernel
theorem dL_law_817 : decode cL_law 817 = .ok (.iadd, 1) := by decide +kernel
theorem dL_law_818 : decode cL_law 818 = .ok (.iaload, 1) := by decide +kernel
theorem dL_law_819 : decode cL_law 819 = .ok (.aload_n 0, 1) := by decide +kernel
theorem dL_law_820 : decode cL_law 820 = .ok (.iload_n 3, 1) := by decide +kernel
theorem dL_law_821 : decode cL_law 821 = .ok (.iconst 2, 1) := by decide +kernel
theorem dL_law_822 : decode cL_law 822 = .ok (.iadd, 1) := by decide +kernel
theorem dL_law_823 : decode cL_law 823 = .ok (.iaload, 1) := by decide +kernel
theorem dL_law_824 : decode cL_law 824 = .ok (.invokevirtual 106, 3) := by decide +kernel
theorem dL_law_827 : decode cL_law 827 = .ok (.lcmp, 1) := by decide +kernel
theorem dL_law_828 : decode cL_law 828 = .ok (.ifCond .eq 120, 3) := by decide +kernel
theorem dL_law_831 : decode cL_law 831 = .ok (.iconst 0, 1) := by decide +kernel
theorem dL_law_832 : decode cL_law 832 = .ok (.ireturn, 1) := by decide +kernel
theorem dL_law_833 : decode cL_law 833 = .ok (.aload_n 1, 1) := by decide +kernel
theorem dL_law_834 : decode cL_law 834 = .ok (.aload_n 0, 1) := by decide +kernel
theorem dL_law_835 : decode cL_law 835 = .ok (.iload_n 3, 1) := by decide +kernel
theorem dL_law_836 : decode cL_law 836 = .ok (.iconst 1, 1) := by decide +kernel
theorem dL_law_837 : decode cL_law 837 = .ok (.iadd, 1) := by decide +kernel
theorem dL_law_838 : decode cL_law 838 = .ok (.iaload, 1) := by decide +kernel
theorem dL_law_839 : decode cL_law 839 = .ok (.invokevirtual 107, 3) := by decide +kernel
theorem dL_law_842 : decode cL_law 842 = .ok (.aload_n 2, 1) := by decide +kernel
theorem dL_law_843 : decode cL_law 843 = .ok (.aload_n 0, 1) := by decide +kernel
theorem dL_law_844 : decode cL_law 844 = .ok (.iload_n 3, 1) := by decide +kernel
theorem dL_law_845 : decode cL_law 845 = .ok (.iconst 1, 1) := by decide +kernel
theorem dL_law_846 : decode cL_law 846 = .ok (.iadd, 1) := by decide +kernel
theorem dL_law_847 : decode cL_law 847 = .ok (.iaload, 1) := by decide +kernel
theorem dL_law_848 : decode cL_law 848 = .ok (.invokevirtual 110, 3) := by decide +kernel
theorem dL_law_851 : decode cL_law 851 = .ok (.if_icmp .eq 97, 3) := by decide +kernel
theorem dL_law_854 : decode cL_law 854 = .ok (.iconst 0, 1) := by decide +kernel
theorem dL_law_855 : decode cL_law 855 = .ok (.ireturn, 1) := by decide +kernel
theorem dL_law_856 : decode cL_law 856 = .ok (.aload_n 1, 1) := by decide +kernel
theorem dL_law_857 : decode cL_law 857 = .ok (.aload_n 0, 1) := by decide +kernel
theorem dL_law_858 : decode cL_law 858 = .ok (.iload_n 3, 1) := by decide +kernel
theorem dL_law_859 : decode cL_law 859 = .ok (.iconst 1, 1) := by decide +kernel
theorem dL_law_860 : decode cL_law 860 = .ok (.iadd, 1) := by decide +kernel
theorem dL_law_861 : decode cL_law 861 = .ok (.iaload, 1) := by decide +kernel
theorem dL_law_862 : decode cL_law 862 = .ok (.i2l, 1) := by decide +kernel
theorem dL_law_863 : decode cL_law 863 = .ok (.bipush 32, 2) := by decide +kernel
theorem dL_law_865 : decode cL_law 865 = .ok (.lshl, 1) := by decide +kernel
theorem dL_law_866 : decode cL_law 866 = .ok (.aload_n 0, 1) := by decide +kernel
theorem dL_law_867 : decode cL_law 867 = .ok (.iload_n 3, 1) := by decide +kernel
theorem dL_law_868 : decode cL_law 868 = .ok (.iconst 2, 1) := by decide +kernel
theorem dL_law_869 : decode cL_law 869 = .ok (.iadd, 1) := by decide +kernel
theorem dL_law_870 : decode cL_law 870 = .ok (.iaload, 1) := by decide +kernel
theorem dL_law_871 : decode cL_law 871 = .ok (.i2l, 1) := by decide +kernel
theorem dL_law_872 : decode cL_law 872 = .ok (.ldc2_w 111, 3) := by decide +kernel
theorem dL_law_875 : decode cL_law 875 = .ok (.land, 1) := by decide +kernel
theorem dL_law_876 : decode cL_law 876 = .ok (.lor, 1) := by decide +kernel
theorem dL_law_877 : decode cL_law 877 = .ok (.invokevirtual 113, 3) := by decide +kernel
theorem dL_law_880 : decode cL_law 880 = .ok (.aload_n 2, 1) := by decide +kernel
theorem dL_law_881 : decode cL_law 881 = .ok (.aload_n 0, 1) := by decide +kernel
theorem dL_law_882 : decode cL_law 882 = .ok (.iload_n 3, 1) := by decide +kernel
theorem dL_law_883 : decode cL_law 883 = .ok (.iconst 1, 1) := by decide +kernel
theorem dL_law_884 : decode cL_law 884 = .ok (.iadd, 1) := by decide +kernel
theorem dL_law_885 : decode cL_law 885 = .ok (.iaload, 1) := by decide +kernel
theorem dL_law_886 : decode cL_law 886 = .ok (.i2l, 1) := by decide +kernel
theorem dL_law_887 : decode cL_law 887 = .ok (.bipush 32, 2) := by decide +kernel
theorem dL_law_889 : decode cL_law 889 = .ok (.lshl, 1) := by decide +kernel
theorem dL_law_890 : decode cL_law 890 = .ok (.aload_n 0, 1) := by decide +kernel
theorem dL_law_891 : decode cL_law 891 = .ok (.iload_n 3, 1) := by decide +kernel
theorem dL_law_892 : decode cL_law 892 = .ok (.iconst 2, 1) := by decide +kernel
theorem dL_law_893 : decode cL_law 893 = .ok (.iadd, 1) := by decide +kernel
theorem dL_law_894 : decode cL_law 894 = .ok (.iaload, 1) := by decide +kernel
theorem dL_law_895 : decode cL_law 895 = .ok (.i2l, 1) := by decide +kernel
theorem dL_law_896 : decode cL_law 896 = .ok (.ldc2_w 111, 3) := by decide +kernel
theorem dL_law_899 : decode cL_law 899 = .ok (.land, 1) := by decide +kernel
theorem dL_law_900 : decode cL_law 900 = .ok (.lor, 1) := by decide +kernel
theorem dL_law_901 : decode cL_law 901 = .ok (.invokevirtual 117, 3) := by decide +kernel
theorem dL_law_904 : decode cL_law 904 = .ok (.if_icmp .eq 44, 3) := by decide +kernel
theorem dL_law_907 : decode cL_law 907 = .ok (.iconst 0, 1) := by decide +kernel
theorem dL_law_908 : decode cL_law 908 = .ok (.ireturn, 1) := by decide +kernel
theorem dL_law_909 : decode cL_law 909 = .ok (.aload_n 1, 1) := by decide +kernel
theorem dL_law_910 : decode cL_law 910 = .ok (.invokevirtual 118, 3) := by decide +kernel
theorem dL_law_913 : decode cL_law 913 = .ok (.aload_n 2, 1) := by decide +kernel
theorem dL_law_914 : decode cL_law 914 = .ok (.invokevirtual 121, 3) := by decide +kernel
theorem dL_law_917 : decode cL_law 917 = .ok (.if_icmp .eq 31, 3) := by decide +kernel
theorem dL_law_920 : decode cL_law 920 = .ok (.iconst 0, 1) := by decide +kernel
theorem dL_law_921 : decode cL_law 921 = .ok (.ireturn, 1) := by decide +kernel
theorem dL_law_922 : decode cL_law 922 = .ok (.aload_n 1, 1) := by decide +kernel
theorem dL_law_923 : decode cL_law 923 = .ok (.invokevirtual 122, 3) := by decide +kernel
theorem dL_law_926 : decode cL_law 926 = .ok (.aload_n 2, 1) := by decide +kernel
theorem dL_law_927 : decode cL_law 927 = .ok (.invokevirtual 125, 3) := by decide +kernel
theorem dL_law_930 : decode cL_law 930 = .ok (.if_icmp .eq 18, 3) := by decide +kernel
theorem dL_law_933 : decode cL_law 933 = .ok (.iconst 0, 1) := by decide +kernel
theorem dL_law_934 : decode cL_law 934 = .ok (.ireturn, 1) := by decide +kernel
theorem dL_law_935 : decode cL_law 935 = .ok (.aload_n 1, 1) := by decide +kernel
theorem dL_law_936 : decode cL_law 936 = .ok (.invokevirtual 126, 3) := by decide +kernel
theorem dL_law_939 : decode cL_law 939 = .ok (.aload_n 2, 1) := by decide +kernel
theorem dL_law_940 : decode cL_law 940 = .ok (.invokevirtual 129, 3) := by decide +kernel
theorem dL_law_943 : decode cL_law 943 = .ok (.if_icmp .eq 5, 3) := by decide +kernel
theorem dL_law_946 : decode cL_law 946 = .ok (.iconst 0, 1) := by decide +kernel
theorem dL_law_947 : decode cL_law 947 = .ok (.ireturn, 1) := by decide +kernel
theorem dL_law_948 : decode cL_law 948 = .ok (.iinc 3 5, 3) := by decide +kernel
theorem dL_law_951 : decode cL_law 951 = .ok (.goto (-933), 3) := by decide +kernel
theorem dL_law_954 : decode cL_law 954 = .ok (.iconst 1, 1) := by decide +kernel
theorem dL_law_955 : decode cL_law 955 = .ok (.ireturn, 1) := by decide +kernel
end
section
/-! what goes along with every walk: the tables' words, the known part of the heap as a partial function of addresses -/
theorem tb_w {args a' : Array Value} {s U : State} {w : Cond} (hok : tOk w = true) (hW : s.WarmedH U.vm) (h : w.before args s = true) : w.before a' U = true := by
  cases w with
  | arrayClass ty => exact word_at hW (Or.inr ⟨_, rfl⟩) h
  | fieldLinkNest a i b n d hh => exact va_tabs rfl (rfl : (s.setVm U.vm).vm = U.vm) (Cond.fieldLinkNest_warmed hW h)
  | methodLinkNest a i x hh => exact va_tabs rfl (rfl : (s.setVm U.vm).vm = U.vm) (Cond.methodLinkNest_warmed hW h)
  | _ => exact word_at hW (Or.inl hok) h
def TB (s : State) : Prop := ∀ w ∈ tG, w.before #[] s = true
theorem tb_ok {w : Cond} (h : w ∈ tG) : tOk w = true := (List.mem_filter.mp h).2
theorem tb_moved {s U : State} (h : TB s) (hW : s.WarmedH U.vm) : TB U := fun w hw => tb_w (tb_ok hw) hW (h w hw)
theorem tb_all {s : State} {args : Array Value} (h : TB s) : ∀ w ∈ tG, w.before args s = true := fun w hw => tb_w (tb_ok hw) (State.WarmedH.refl s) (h w hw)
abbrev HP : Type := Nat → Option va_E
abbrev HG : Type := va_G × (Nat → ClassId) × (Nat → Nat)
/-- the heap holds what hp says -/
def Hd (G : HG) (hp : HP) (H : Heap) : Prop := ∀ (a : Nat) (e : va_E), hp a = some e → va_at G.1 vwCl (a, e) H
def Ow (A : Nat → Prop) (hp : HP) : Prop := ∀ (a : Nat) (e : va_E), hp a = some e → A a
abbrev tyL (G : HG) : List (ClassId × FieldType) := [(G.2.1 0, .byte), (G.2.1 1, .int), (G.2.1 2, .long), (G.2.1 3, .object "java/lang/Object")]
def KK (G : HG) (U : State) : Prop := va_K G.1 vwCl (tyL G) U ∧ va_AO "java/lang/Object" U ∧ va_Mi "[Ljava/lang/Object;" (G.2.2 1) U ∧ va_Dc U ∧ va_Nw (.castable "BidLanguage$Rule" "java/lang/Object") U ∧ va_Nw (.castable "BidLanguage$MadeCall" "java/lang/Object") U
theorem ca_moved {a b : String} {u U : State} (hvm : u.vm.Alike U.vm) (h : va_Nw (.castable a b) u) : va_Nw (.castable a b) U := va_tabs rfl (rfl : (u.setVm U.vm).vm = U.vm) (by rw [Cond.castable_setVm hvm]; exact h)
theorem KK.moved {G : HG} {u U : State} (hvm : u.vm.Alike U.vm) (h : KK G u) : KK G U := ⟨va_K.moved hvm h.1, va_AO.moved hvm h.2.1, va_Mi.moved hvm h.2.2.1, va_Dc.moved hvm h.2.2.2.1, ca_moved hvm h.2.2.2.2.1, ca_moved hvm h.2.2.2.2.2⟩
def ZZ (G : HG) (A : Nat → Prop) (U : State) (H : Heap) : Prop := va_Z "java/util/ArrayList" "DEFAULTCAPACITY_EMPTY_ELEMENTDATA" "[Ljava/lang/Object;" (.ref (G.2.2 0)) A U H ∧ va_T (.object "java/lang/Object") (G.2.2 0) 0 (fun _ => .null) A U H ∧ va_Z "java/lang/String" "COMPACT_STRINGS" "Z" (.int 1) A U H ∧ va_Zq "jdk/internal/util/Preconditions" "SIOOBE_FORMATTER" "Ljava/util/function/BiFunction;" A U H
theorem ZZ.moved {G : HG} {A : Nat → Prop} {u U : State} {H : Heap} (hvm : u.vm.Alike U.vm) (h : ZZ G A u H) : ZZ G A U H := ⟨va_Z.moved hvm h.1, va_T.moved hvm h.2.1, va_Z.moved hvm h.2.2.1, va_Zq.moved hvm h.2.2.2⟩
theorem ZZ.kept {G : HG} {A : Nat → Prop} {U : State} {H H1 : Heap} (h : ZZ G A U H) (hq : ∀ a : Nat, a < H.size → ¬ A a → H1[a]? = H[a]?) : ZZ G A U H1 := ⟨h.1.kept hq, h.2.1.kept hq, h.2.2.1.kept hq, h.2.2.2.kept hq⟩
theorem ZZ.narrow {G : HG} {A B : Nat → Prop} {U : State} {H : Heap} (h : ZZ G A U H) (hAB : ∀ q, B q → A q) : ZZ G B U H := ⟨h.1.narrow hAB, h.2.1.narrow hAB, h.2.2.1.narrow hAB, h.2.2.2.narrow hAB⟩
theorem ZZ.at {G : HG} {A : Nat → Prop} {s U : State} {H : Heap} {locs : List Loc} (h : ZZ G A s s.heap) (hS : va_S A s.heap H locs) (hvm : s.vm.Alike U.vm) (hU : U.heap = H) : ZZ G A U U.heap := by
  rw [hU]
  exact (h.kept hS.2.1).moved hvm
/-- the start of a method that only reads -/
def RP (G : HG) (hp : HP) (U : State) : Prop := TB U ∧ KK G U ∧ Hd G hp U.heap ∧ ZZ G (fun _ => False) U U.heap
/-- the start of a method that may write the cells in A -/
def WP (G : HG) (A : Nat → Prop) (sz : Nat) (hp : HP) (U : State) : Prop := U.heap.size = sz ∧ TB U ∧ KK G U ∧ Hd G hp U.heap ∧ ZZ G A U U.heap
/-- its end -/
def WB (G : HG) (A : Nat → Prop) (hp : HP) (t : State) : Prop := Hd G hp t.heap ∧ Ow A hp
theorem rp_blind {G : HG} {hp : HP} (av : List Value) : FrameBlind (va_Pc av (RP G hp)) := fun a U g mk q => ⟨q.1, tb_moved (U := U.calling g mk a) q.2.1 (State.WarmedH.refl U), KK.moved (U := U.calling g mk a) (Vm.Alike.refl U.vm) q.2.2.1, q.2.2.2.1, ZZ.moved (U := U.calling g mk a) (Vm.Alike.refl U.vm) q.2.2.2.2⟩
theorem wp_blind {G : HG} {A : Nat → Prop} {sz : Nat} {hp : HP} (av : List Value) : FrameBlind (va_Pc av (WP G A sz hp)) := fun a U g mk q => ⟨q.1, q.2.1, tb_moved (U := U.calling g mk a) q.2.2.1 (State.WarmedH.refl U), KK.moved (U := U.calling g mk a) (Vm.Alike.refl U.vm) q.2.2.2.1, q.2.2.2.2.1, ZZ.moved (U := U.calling g mk a) (Vm.Alike.refl U.vm) q.2.2.2.2.2⟩
/-! the known part as a list, for the kit's rows -/
def en (hp : HP) (n : Nat) : va_W := (List.range n).filterMap (fun q => (hp q).map (fun e => (q, e)))
theorem en_mem {hp : HP} {n : Nat} {q : Nat × va_E} : q ∈ en hp n ↔ q.1 < n ∧ hp q.1 = some q.2 := by
  unfold en
  rw [List.mem_filterMap]
  constructor
  · rintro ⟨x, hx, h⟩
    cases hv : hp x with
    | none => rw [hv] at h; cases h
    | some e =>
      rw [hv] at h
      cases h
      exact ⟨List.mem_range.mp hx, hv⟩
  · rintro ⟨h1, h2⟩
    exact ⟨q.1, List.mem_range.mpr h1, by rw [h2]; rfl⟩
theorem en_succ (hp : HP) (n : Nat) : en hp (n + 1) = en hp n ++ ((hp n).map (fun e => (n, e))).toList := by
  unfold en
  rw [List.range_succ, List.filterMap_append]
  cases hv : hp n with
  | none => simp [hv]
  | some e => simp [hv]
theorem en_inj (hp : HP) : ∀ (n i j : Nat) (x y : Nat × va_E), (en hp n)[i]? = some x → (en hp n)[j]? = some y → x.1 = y.1 → i = j := by
  intro n
  induction n with
  | zero => intro i j x y hx; simp [en] at hx
  | succ n ih =>
    intro i j x y hx hy hxy
    rw [en_succ] at hx hy
    have tl : ∀ (k : Nat) (z : Nat × va_E), ((hp n).map (fun e => (n, e))).toList[k]? = some z → k = 0 ∧ z.1 = n := by
      intro k z hz
      cases hv : hp n with
      | none => rw [hv] at hz; simp at hz
      | some e =>
        rw [hv] at hz
        cases k with
        | zero => simp at hz; rw [← hz]; exact ⟨rfl, rfl⟩
        | succ k => simp at hz
    have lt : ∀ (k : Nat) (z : Nat × va_E), (en hp n)[k]? = some z → z.1 < n := fun k z hz => (en_mem.mp (List.mem_of_getElem? hz)).1
    by_cases hi : i < (en hp n).length
    · rw [List.getElem?_append_left hi] at hx
      by_cases hj : j < (en hp n).length
      · rw [List.getElem?_append_left hj] at hy
        exact ih i j x y hx hy hxy
      · rw [List.getElem?_append_right (by omega)] at hy
        have h1 := lt i x hx
        have h2 := (tl _ _ hy).2
        omega
    · rw [List.getElem?_append_right (by omega)] at hx
      by_cases hj : j < (en hp n).length
      · rw [List.getElem?_append_left hj] at hy
        have h1 := lt j y hy
        have h2 := (tl _ _ hx).2
        omega
      · rw [List.getElem?_append_right (by omega)] at hy
        have h1 := (tl _ _ hx).1
        have h2 := (tl _ _ hy).1
        omega
theorem en_D {A : Nat → Prop} {hp : HP} (n : Nat) (hO : Ow A hp) : va_D A (en hp n) := ⟨fun i j x y hx hy h => en_inj hp n i j x y hx hy h, fun k q hk => hO q.1 q.2 (en_mem.mp (List.mem_of_getElem? hk)).2⟩
theorem en_P {G : HG} {hp : HP} {H : Heap} (n : Nat) (hH : Hd G hp H) : va_P G.1 vwCl (en hp n) H := fun k q hk => hH q.1 q.2 (en_mem.mp (List.mem_of_getElem? hk)).2
theorem Hd.lt {G : HG} {hp : HP} {H : Heap} (hH : Hd G hp H) {a : Nat} {e : va_E} (he : hp a = some e) : a < H.size := (hH a e he).lt
theorem en_get {G : HG} {hp : HP} {H : Heap} (hH : Hd G hp H) {a : Nat} {e : va_E} (he : hp a = some e) : ∃ i : Nat, (en hp H.size)[i]? = some (a, e) := List.getElem?_of_mem (en_mem.mpr ⟨hH.lt he, he⟩)
theorem en_set {G : HG} {hp : HP} {H H1 : Heap} {a i : Nat} {e e' : va_E} (hH : Hd G hp H) (hi : (en hp H.size)[i]? = some (a, e)) (hP : va_P G.1 vwCl ((en hp H.size).set i (a, e')) H1) : Hd G (va_up hp a (some e')) H1 := by
  intro b x hbx
  have hil : i < (en hp H.size).length := (List.getElem?_eq_some_iff.mp hi).1
  by_cases hb : b = a
  · subst hb
    rw [va_up_self] at hbx
    cases hbx
    exact hP i (b, e') (by rw [List.getElem?_set_self hil])
  · rw [va_up_ne _ _ hb] at hbx
    obtain ⟨j, hj⟩ := en_get hH hbx
    have hij : i ≠ j := fun h => by
      subst h
      rw [hi] at hj
      cases hj
      exact hb rfl
    exact hP j (b, x) (by rw [List.getElem?_set_ne hij]; exact hj)
theorem en_app {G : HG} {hp : HP} {H H1 : Heap} {q : Nat} {e' : va_E} (hH : Hd G hp H) (hP : va_P G.1 vwCl (en hp H.size ++ [(q, e')]) H1) : Hd G (va_up hp q (some e')) H1 := by
  intro b x hbx
  by_cases hb : b = q
  · subst hb
    rw [va_up_self] at hbx
    cases hbx
    exact hP (en hp H.size).length (b, e') (by simp)
  · rw [va_up_ne _ _ hb] at hbx
    obtain ⟨j, hj⟩ := en_get hH hbx
    have hjl : j < (en hp H.size).length := (List.getElem?_eq_some_iff.mp hj).1
    exact hP j (b, x) (by rw [List.getElem?_append_left hjl]; exact hj)
theorem en_new {A : Nat → Prop} {hp : HP} {n q : Nat} {e' : va_E} (hD : va_D A (en hp n ++ [(q, e')])) (hlt : ∀ b x, hp b = some x → b < n) : hp q = none := by
  cases hv : hp q with
  | none => rfl
  | some x =>
    obtain ⟨j, hj⟩ := List.getElem?_of_mem (en_mem.mpr (show (q, x).1 < n ∧ hp (q, x).1 = some (q, x).2 from ⟨hlt q x hv, hv⟩))
    have hjl : j < (en hp n).length := (List.getElem?_eq_some_iff.mp hj).1
    have h1 := hD.1 j (en hp n).length (q, x) (q, e') (by rw [List.getElem?_append_left hjl]; exact hj) (by simp) rfl
    omega
theorem Ow.up {A : Nat → Prop} {hp : HP} (hO : Ow A hp) {a : Nat} (ha : A a) (e : va_E) : Ow A (va_up hp a (some e)) := by
  intro b x hbx
  by_cases hb : b = a
  · rw [hb]; exact ha
  · rw [va_up_ne _ _ hb] at hbx
    exact hO b x hbx
theorem hd1 {G : HG} {hp : HP} {H : Heap} {a : Nat} {e : va_E} (hH : Hd G hp H) (he : hp a = some e) : va_P G.1 vwCl [(a, e)] H := by
  intro k q hq
  cases k with
  | zero => cases hq; exact hH _ _ he
  | succ k => simp at hq
/-- the state of a walk that writes -/
def WS (s : State) (G : HG) (A : Nat → Prop) (hp : HP) (H : Heap) (locs : List Loc) : Prop := Hd G hp H ∧ Ow A hp ∧ va_S A s.heap H locs
/-- what stays through a walk -/
def CX (p : Program) (c : Code) (cc : ByteArray) (nL : Nat) (s : State) (m : MethodId) (own : String) (G : HG) (A : Nat → Prop) : Prop := p.tables.exec = Jvm.exec ∧ c.code = cc ∧ c.maxLocals = nL ∧ s.vm.findClass own = some m.cls ∧ TB s ∧ KK G s ∧ ZZ G A s s.heap
/-- a method's own facts -/
def MF (y : MethodName) (bytes : ByteArray) (maxL : Nat) (ret : Option FieldType) (n : Nat) : Prop := Cond.code y bytes maxL ret ∈ tG ∧ Cond.initialized y.cls ∈ tG ∧ y.cls ≠ "java/lang/invoke/MethodHandle" ∧ y.cls ≠ "java/lang/invoke/VarHandle" ∧ (parseMethodDescriptor y.desc).map (fun d => d.parameters.length) = some n
theorem MF.len {y : MethodName} {bytes : ByteArray} {maxL n : Nat} {ret : Option FieldType} (h : MF y bytes maxL ret n) : ∀ sig, parseMethodDescriptor y.desc = some sig → n = sig.parameters.length := fun sig hs => by
  have h2 := h.2.2.2.2
  rw [hs] at h2
  exact (Option.some.inj h2).symm
theorem code_w {y : MethodName} {bytes : ByteArray} {maxL : Nat} {ret : Option FieldType} {s : State} (hT : TB s) (h : Cond.code y bytes maxL ret ∈ tG) : ∀ w ∈ [Cond.code y bytes maxL ret], ∀ (a' : Array Value) (U : State), s.WarmedH U.vm → w.before a' U = true := fun w hw a' U hW => by
  rw [List.mem_singleton.mp hw]
  exact tb_w (tb_ok h) hW (hT _ h)
section VA
variable {p : Program} {l : Launch} {e : Env} {R : Room} {s : State} {m : MethodId} {args : Array Value} {below : List Frame} {meth : Method} {c : Code} {H : Heap} {locs : List Loc} {cells slots : Nat} {Q : State → Prop} {cc : ByteArray} {pc nL : Nat} {ls : Array Slot} {rest : List Value} {G : HG} {A : Nat → Prop} {hp : HP} {own : String}
theorem rp_at (X : CX p c cc nL s m own G A) (hH : Hd G hp H) (hS : va_S A s.heap H locs) : ∀ U : State, U.heap = H → s.WarmedH U.vm → RP G hp U := fun U hU hW => ⟨tb_moved X.2.2.2.2.1 hW, KK.moved hW.alike X.2.2.2.2.2.1, by rw [hU]; exact hH, (ZZ.at X.2.2.2.2.2.2 hS hW.alike hU).narrow (fun _ h => h.elim)⟩
theorem wp_at (X : CX p c cc nL s m own G A) (hH : Hd G hp H) (hS : va_S A s.heap H locs) : ∀ U : State, U.heap = H → s.WarmedH U.vm → WP G A H.size hp U := fun U hU hW => ⟨by rw [hU], tb_moved X.2.2.2.2.1 hW, KK.moved hW.alike X.2.2.2.2.2.1, by rw [hU]; exact hH, ZZ.at X.2.2.2.2.2.2 hS hW.alike hU⟩
/-- a method that only reads, from its entry -/
theorem ro_ofW {y : MethodName} {maxL : Nat} {ret : Option FieldType} {rm : Room} {av : List Value} {Qc : Array Value → State → Outcome → State → Prop} (hy : plainName y.cls = true) (hlen : (lg_sl av).length ≤ maxL)
    (body : ∀ p e s m args below meth c ls, CX p c cc maxL s m y.cls G (fun _ => False) → meth.sig.returnType = ret → meth.locks = false → Hd G hp s.heap → lv_has ls maxL (lv_args 0 av) → W p l e rm s m args below meth c s.heap [] 0 0 (MQ below Qc args s 0 0 (fun _ => False)) (F0 m 0 ls [])) :
    Met l y [.code y cc maxL ret] rm (va_Pc av (RP G hp)) Qc 0 0 (fun _ => False) := by
  refine Met.ofW (cc := cc) (maxL := maxL) (ret := ret) hy rfl ?_
  intro p e s m args below meth c s₁ B hml hv
  obtain ⟨rfl, hT, hK, hH, hZ⟩ := hv
  rw [lg_entry_eq]
  exact body p e s m _ below meth c _ ⟨B.exec, B.bytes, hml, findClass_of_methodNamed B.named, hT, hK, hZ⟩ B.returns B.notSynchronized hH (lv_entry av hlen)
/-- a method that may write, from its entry -/
theorem wr_ofW {y : MethodName} {maxL mc ms sz : Nat} {ret : Option FieldType} {rm : Room} {av : List Value} {Qc : Array Value → State → Outcome → State → Prop} (hy : plainName y.cls = true) (hlen : (lg_sl av).length ≤ maxL) (hO : Ow A hp)
    (body : ∀ p e s m args below meth c ls, CX p c cc maxL s m y.cls G A → meth.sig.returnType = ret → meth.locks = false → meth.name = y.name → s.heap.size = sz → WS s G A hp s.heap [] → lv_has ls maxL (lv_args 0 av) → W p l e rm s m args below meth c s.heap [] 0 0 (MQ below Qc args s mc ms A) (F0 m 0 ls [])) :
    Met l y [.code y cc maxL ret] rm (va_Pc av (WP G A sz hp)) Qc mc ms A := by
  refine Met.ofW (cc := cc) (maxL := maxL) (ret := ret) hy rfl ?_
  intro p e s m args below meth c s₁ B hml hv
  obtain ⟨rfl, hsz, hT, hK, hH, hZ⟩ := hv
  rw [lg_entry_eq]
  exact body p e s m _ below meth c _ ⟨B.exec, B.bytes, hml, findClass_of_methodNamed B.named, hT, hK, hZ⟩ B.returns B.notSynchronized (name_of_methodNamed B.named B.method).1 hsz ⟨hH, hO, va_S.rf⟩ (lv_entry av hlen)
end VA
end
section
/-! the rows of single instructions over the known part of the heap -/
section VR
variable {p : Program} {l : Launch} {e : Env} {R : Room} {s : State} {m : MethodId} {args : Array Value} {below : List Frame} {meth : Method} {c : Code} {H : Heap} {locs : List Loc} {cells slots : Nat} {Q : State → Prop} {cc : ByteArray} {pc nL : Nat} {ls : Array Slot} {rest : List Value} {G : HG} {A : Nat → Prop} {hp : HP} {own : String}
theorem r_get (X : CX p c cc nL s m own G A) (hH : Hd G hp H) {a ci : Nat} {fs : List Value} (he : hp a = some (.inr (ci, fs))) {C : String} {T : u_T} {N : Nat} (hc : vwCl[ci]? = some (C, T, N)) (hin : ∀ w ∈ u_ws C T N, w ∈ tG) (k : Nat) (hk : k < N) {ref : String} {index : Nat} (hl : Cond.fieldLink own index ref (T k).2.1 (T k).2.2.1 ∈ tG) (hsame : ∀ x, s.fieldFound? (T k).1 (T k).2.1 (T k).2.2.1 = some x → s.fieldFound? ref (T k).2.1 (T k).2.2.1 = some x) {v : Value} (hv : fs[k]? = some v) (hdg : decode cc pc = .ok (.getfield index, 3))
    (kk : W p l e R s m args below meth c H locs cells slots Q (F0 m (pc + 3) ls (v :: rest))) : W p l e R s m args below meth c H locs cells slots Q (F0 m pc ls (.ref a :: rest)) :=
  va_get (D := G.1) (cl := vwCl) (ws := [(a, .inr (ci, fs))]) (tys := tyL G) (Ts := tG) X.1 X.2.1 (tb_all X.2.2.2.2.1) hin X.2.2.2.1 X.2.2.2.2.2.1.1 (hd1 hH he) 0 rfl hc k hk (tb_all X.2.2.2.2.1 _ hl) hsame hv hdg kk
theorem r_getN (X : CX p c cc nL s m own G A) (hH : Hd G hp H) {a ci : Nat} {fs : List Value} (he : hp a = some (.inr (ci, fs))) {C : String} {T : u_T} {N : Nat} (hc : vwCl[ci]? = some (C, T, N)) (hin : ∀ w ∈ u_ws C T N, w ∈ tG) (k : Nat) (hk : k < N) {ref host : String} {index : Nat} (hl : Cond.fieldLinkNest own index ref (T k).2.1 (T k).2.2.1 host ∈ tG) (hsame : ∀ x, s.fieldFound? (T k).1 (T k).2.1 (T k).2.2.1 = some x → s.fieldFound? ref (T k).2.1 (T k).2.2.1 = some x) {v : Value} (hv : fs[k]? = some v) (hdg : decode cc pc = .ok (.getfield index, 3))
    (kk : W p l e R s m args below meth c H locs cells slots Q (F0 m (pc + 3) ls (v :: rest))) : W p l e R s m args below meth c H locs cells slots Q (F0 m pc ls (.ref a :: rest)) :=
  va_getN (D := G.1) (cl := vwCl) (ws := [(a, .inr (ci, fs))]) (tys := tyL G) (Ts := tG) X.1 X.2.1 (tb_all X.2.2.2.2.1) hin X.2.2.2.1 X.2.2.2.2.2.1.1 (hd1 hH he) 0 rfl hc k hk (tb_all X.2.2.2.2.1 _ hl) hsame hv hdg kk
theorem ws_set {a i : Nat} {e0 e' : va_E} {H1 : Heap} {locs1 : List Loc} (hW : WS s G A hp H locs) (he : hp a = some e0) (hi : (en hp H.size)[i]? = some (a, e0)) (hP : va_P G.1 vwCl ((en hp H.size).set i (a, e')) H1) (hS : va_S A s.heap H1 locs1) : WS s G A (va_up hp a (some e')) H1 locs1 := ⟨en_set hW.1 hi hP, hW.2.1.up (hW.2.1 _ _ he) _, hS⟩
theorem r_put (X : CX p c cc nL s m own G A) (hW : WS s G A hp H locs) {a ci : Nat} {fs : List Value} (he : hp a = some (.inr (ci, fs))) {C : String} {T : u_T} {N : Nat} (hc : vwCl[ci]? = some (C, T, N)) (hin : ∀ w ∈ u_ws C T N, w ∈ tG) {ty0 : Nat → FieldType} (hty : ∀ k, k < N → parseFieldDescriptor (T k).2.2.1 = some (ty0 k)) (hnm : ∀ a, a < N → ∀ b, b < N → a ≠ b → (T a).2.1 ≠ (T b).2.1) (k : Nat) (hk : k < N) {ref : String} {index : Nat} (hl : Cond.fieldLink own index ref (T k).2.1 (T k).2.2.1 ∈ tG) (hsame : ∀ x, s.fieldFound? (T k).1 (T k).2.1 (T k).2.2.1 = some x → s.fieldFound? ref (T k).2.1 (T k).2.2.1 = some x) (hfin : (T k).2.2.2 = false) {v : Value} (hn : narrow (ty0 k) v = v) (hfit : fits (ty0 k) v = true) (hlen : k < fs.length) (hdg : decode cc pc = .ok (.putfield index, 3))
    (kk : ∀ (hp1 : HP) (H1 : Heap) (locs1 : List Loc), WS s G A hp1 H1 locs1 → hp1 = va_up hp a (some (.inr (ci, fs.set k v))) → W p l e R s m args below meth c H1 locs1 cells slots Q (F0 m (pc + 3) ls rest)) : W p l e R s m args below meth c H locs cells slots Q (F0 m pc ls (v :: .ref a :: rest)) := by
  obtain ⟨i, hi⟩ := en_get hW.1 he
  exact va_put (D := G.1) (cl := vwCl) (ws := en hp H.size) (tys := tyL G) (Ts := tG) X.1 X.2.1 (tb_all X.2.2.2.2.1) hin ty0 hty hnm X.2.2.2.1 X.2.2.2.2.2.1.1 (en_P _ hW.1) (en_D _ hW.2.1) hW.2.2 i hi hc k hk (tb_all X.2.2.2.2.1 _ hl) hsame hfin (hty k hk) hn hfit hlen hdg (fun H1 locs1 hP _ hS => kk _ H1 locs1 (ws_set hW he hi hP hS) rfl)
theorem r_putN (X : CX p c cc nL s m own G A) (hW : WS s G A hp H locs) {a ci : Nat} {fs : List Value} (he : hp a = some (.inr (ci, fs))) {C : String} {T : u_T} {N : Nat} (hc : vwCl[ci]? = some (C, T, N)) (hin : ∀ w ∈ u_ws C T N, w ∈ tG) {ty0 : Nat → FieldType} (hty : ∀ k, k < N → parseFieldDescriptor (T k).2.2.1 = some (ty0 k)) (hnm : ∀ a, a < N → ∀ b, b < N → a ≠ b → (T a).2.1 ≠ (T b).2.1) (k : Nat) (hk : k < N) {ref host : String} {index : Nat} (hl : Cond.fieldLinkNest own index ref (T k).2.1 (T k).2.2.1 host ∈ tG) (hsame : ∀ x, s.fieldFound? (T k).1 (T k).2.1 (T k).2.2.1 = some x → s.fieldFound? ref (T k).2.1 (T k).2.2.1 = some x) (hfin : (T k).2.2.2 = false) {v : Value} (hn : narrow (ty0 k) v = v) (hfit : fits (ty0 k) v = true) (hlen : k < fs.length) (hdg : decode cc pc = .ok (.putfield index, 3))
    (kk : ∀ (hp1 : HP) (H1 : Heap) (locs1 : List Loc), WS s G A hp1 H1 locs1 → hp1 = va_up hp a (some (.inr (ci, fs.set k v))) → W p l e R s m args below meth c H1 locs1 cells slots Q (F0 m (pc + 3) ls rest)) : W p l e R s m args below meth c H locs cells slots Q (F0 m pc ls (v :: .ref a :: rest)) := by
  obtain ⟨i, hi⟩ := en_get hW.1 he
  exact va_putN (D := G.1) (cl := vwCl) (ws := en hp H.size) (tys := tyL G) (Ts := tG) X.1 X.2.1 (tb_all X.2.2.2.2.1) hin ty0 hty hnm X.2.2.2.1 X.2.2.2.2.2.1.1 (en_P _ hW.1) (en_D _ hW.2.1) hW.2.2 i hi hc k hk (tb_all X.2.2.2.2.1 _ hl) hsame hfin (hty k hk) hn hfit hlen hdg (fun H1 locs1 hP _ hS => kk _ H1 locs1 (ws_set hW he hi hP hS) rfl)
theorem r_putF (X : CX p c cc nL s m own G A) (hW : WS s G A hp H locs) {a ci : Nat} {fs : List Value} (he : hp a = some (.inr (ci, fs))) {C : String} {T : u_T} {N : Nat} (hc : vwCl[ci]? = some (C, T, N)) (hin : ∀ w ∈ u_ws C T N, w ∈ tG) {ty0 : Nat → FieldType} (hty : ∀ k, k < N → parseFieldDescriptor (T k).2.2.1 = some (ty0 k)) (hnm : ∀ a, a < N → ∀ b, b < N → a ≠ b → (T a).2.1 ≠ (T b).2.1) (k : Nat) (hk : k < N) {ref : String} {index : Nat} (hl : Cond.fieldLink own index ref (T k).2.1 (T k).2.2.1 ∈ tG) (hsame : ∀ x, s.fieldFound? (T k).1 (T k).2.1 (T k).2.2.1 = some x → s.fieldFound? ref (T k).2.1 (T k).2.2.1 = some x) (hfin : (T k).2.2.2 = true) (hinit : meth.name = "<init>") (hdecl : (T k).1 = own) {v : Value} (hn : narrow (ty0 k) v = v) (hfit : fits (ty0 k) v = true) (hlen : k < fs.length) (hdg : decode cc pc = .ok (.putfield index, 3))
    (kk : ∀ (hp1 : HP) (H1 : Heap) (locs1 : List Loc), WS s G A hp1 H1 locs1 → hp1 = va_up hp a (some (.inr (ci, fs.set k v))) → W p l e R s m args below meth c H1 locs1 cells slots Q (F0 m (pc + 3) ls rest)) : W p l e R s m args below meth c H locs cells slots Q (F0 m pc ls (v :: .ref a :: rest)) := by
  obtain ⟨i, hi⟩ := en_get hW.1 he
  exact va_putF (D := G.1) (cl := vwCl) (ws := en hp H.size) (tys := tyL G) (Ts := tG) X.1 X.2.1 (tb_all X.2.2.2.2.1) hin ty0 hty hnm X.2.2.2.1 X.2.2.2.2.2.1.1 (en_P _ hW.1) (en_D _ hW.2.1) hW.2.2 i hi hc k hk (tb_all X.2.2.2.2.1 _ hl) hsame hfin hinit hdecl (hty k hk) hn hfit hlen hdg (fun H1 locs1 hP _ hS => kk _ H1 locs1 (ws_set hW he hi hP hS) rfl)
/-! arrays -/
theorem r_iald (X : CX p c cc nL s m own G A) (hH : Hd G hp H) {a n : Nat} {f : Nat → Int32} (he : hp a = some (.inl (G.2.1 1, n, .inl f))) {i : Int32} (hin : vp_in i n) (hdg : decode cc pc = .ok (.iaload, 1))
    (kk : W p l e R s m args below meth c H locs cells slots Q (F0 m (pc + 1) ls (.int (f i.toNatClampNeg) :: rest))) : W p l e R s m args below meth c H locs cells slots Q (F0 m pc ls (.int i :: .ref a :: rest)) :=
  va_iald (D := G.1) (cl := vwCl) (tys := tyL G) X.1 X.2.1 X.2.2.2.2.2.1.1 (hd1 hH he) 0 1 rfl rfl hin hdg kk
theorem r_bald (X : CX p c cc nL s m own G A) (hH : Hd G hp H) {a n : Nat} {f : Nat → Int32} (he : hp a = some (.inl (G.2.1 0, n, .inl f))) {i : Int32} (hin : vp_in i n) (hdg : decode cc pc = .ok (.baload, 1))
    (kk : W p l e R s m args below meth c H locs cells slots Q (F0 m (pc + 1) ls (.int (f i.toNatClampNeg) :: rest))) : W p l e R s m args below meth c H locs cells slots Q (F0 m pc ls (.int i :: .ref a :: rest)) :=
  va_bald (D := G.1) (cl := vwCl) (tys := tyL G) X.1 X.2.1 X.2.2.2.2.2.1.1 (hd1 hH he) 0 0 rfl rfl hin hdg kk
theorem r_lald (X : CX p c cc nL s m own G A) (hH : Hd G hp H) {a n : Nat} {f : Nat → Int64} (he : hp a = some (.inl (G.2.1 2, n, .inr (.inl f)))) {i : Int32} (hin : vp_in i n) (hdg : decode cc pc = .ok (.laload, 1))
    (kk : W p l e R s m args below meth c H locs cells slots Q (F0 m (pc + 1) ls (.long (f i.toNatClampNeg) :: rest))) : W p l e R s m args below meth c H locs cells slots Q (F0 m pc ls (.int i :: .ref a :: rest)) :=
  va_lald (D := G.1) (cl := vwCl) (tys := tyL G) X.1 X.2.1 X.2.2.2.2.2.1.1 (hd1 hH he) 0 2 rfl rfl hin hdg kk
theorem r_aald (X : CX p c cc nL s m own G A) (hH : Hd G hp H) {a n : Nat} {f : Nat → Option Nat} (he : hp a = some (.inl (G.2.1 3, n, .inr (.inr (.inr (.inr f)))))) {i : Int32} (hin : vp_in i n) {v : Value} (hv : va_rf (f i.toNatClampNeg) = v) (hdg : decode cc pc = .ok (.aaload, 1))
    (kk : W p l e R s m args below meth c H locs cells slots Q (F0 m (pc + 1) ls (v :: rest))) : W p l e R s m args below meth c H locs cells slots Q (F0 m pc ls (.int i :: .ref a :: rest)) := by
  subst hv
  exact va_aldq (D := G.1) (cl := vwCl) (tys := tyL G) X.1 X.2.1 X.2.2.2.2.2.1.1 (hd1 hH he) 0 3 rfl rfl hin hdg kk
theorem r_alen (X : CX p c cc nL s m own G A) (hH : Hd G hp H) {a : Nat} {cA : ClassId} {x : vp_A} (he : hp a = some (.inl (cA, x))) (t0 : Nat) {ty : FieldType} (ht : (tyL G)[t0]? = some (cA, ty)) {v : Int32} (hv : Int32.ofNat x.1 = v) (hdg : decode cc pc = .ok (.arraylength, 1))
    (kk : W p l e R s m args below meth c H locs cells slots Q (F0 m (pc + 1) ls (.int v :: rest))) : W p l e R s m args below meth c H locs cells slots Q (F0 m pc ls (.ref a :: rest)) :=
  va_alen (D := G.1) (cl := vwCl) (tys := tyL G) X.1 X.2.1 X.2.2.2.2.2.1.1 (hd1 hH he) 0 t0 rfl ht hv hdg kk
theorem r_iast (X : CX p c cc nL s m own G A) (hW : WS s G A hp H locs) {a n : Nat} {f : Nat → Int32} (he : hp a = some (.inl (G.2.1 1, n, .inl f))) {i x : Int32} (hin : vp_in i n) (hdg : decode cc pc = .ok (.iastore, 1))
    (kk : ∀ (hp1 : HP) (H1 : Heap) (locs1 : List Loc), WS s G A hp1 H1 locs1 → hp1 = va_up hp a (some (.inl (G.2.1 1, n, .inl (upd f i.toNatClampNeg x)))) → W p l e R s m args below meth c H1 locs1 cells slots Q (F0 m (pc + 1) ls rest)) : W p l e R s m args below meth c H locs cells slots Q (F0 m pc ls (.int x :: .int i :: .ref a :: rest)) := by
  obtain ⟨j, hj⟩ := en_get hW.1 he
  exact va_iast (D := G.1) (cl := vwCl) (ws := en hp H.size) (tys := tyL G) X.1 X.2.1 X.2.2.2.2.2.1.1 (en_P _ hW.1) (en_D _ hW.2.1) hW.2.2 j 1 hj rfl hin hdg (fun H1 locs1 hP _ hS => kk _ H1 locs1 (ws_set hW he hj hP hS) rfl)
theorem r_bast (X : CX p c cc nL s m own G A) (hW : WS s G A hp H locs) {a n : Nat} {f : Nat → Int32} (he : hp a = some (.inl (G.2.1 0, n, .inl f))) {i x : Int32} (hin : vp_in i n) (hdg : decode cc pc = .ok (.bastore, 1))
    (kk : ∀ (hp1 : HP) (H1 : Heap) (locs1 : List Loc), WS s G A hp1 H1 locs1 → hp1 = va_up hp a (some (.inl (G.2.1 0, n, .inl (upd f i.toNatClampNeg (vp_nar .byte x))))) → W p l e R s m args below meth c H1 locs1 cells slots Q (F0 m (pc + 1) ls rest)) : W p l e R s m args below meth c H locs cells slots Q (F0 m pc ls (.int x :: .int i :: .ref a :: rest)) := by
  obtain ⟨j, hj⟩ := en_get hW.1 he
  exact va_bast (D := G.1) (cl := vwCl) (ws := en hp H.size) (tys := tyL G) X.1 X.2.1 X.2.2.2.2.2.1.1 (en_P _ hW.1) (en_D _ hW.2.1) hW.2.2 j 0 hj rfl hin hdg (fun H1 locs1 hP _ hS => kk _ H1 locs1 (ws_set hW he hj hP hS) rfl)
theorem r_last (X : CX p c cc nL s m own G A) (hW : WS s G A hp H locs) {a n : Nat} {f : Nat → Int64} (he : hp a = some (.inl (G.2.1 2, n, .inr (.inl f)))) {i : Int32} {x : Int64} (hin : vp_in i n) (hdg : decode cc pc = .ok (.lastore, 1))
    (kk : ∀ (hp1 : HP) (H1 : Heap) (locs1 : List Loc), WS s G A hp1 H1 locs1 → hp1 = va_up hp a (some (.inl (G.2.1 2, n, .inr (.inl (vp_updL f i.toNatClampNeg x))))) → W p l e R s m args below meth c H1 locs1 cells slots Q (F0 m (pc + 1) ls rest)) : W p l e R s m args below meth c H locs cells slots Q (F0 m pc ls (.long x :: .int i :: .ref a :: rest)) := by
  obtain ⟨j, hj⟩ := en_get hW.1 he
  exact va_last (D := G.1) (cl := vwCl) (ws := en hp H.size) (tys := tyL G) X.1 X.2.1 X.2.2.2.2.2.1.1 (en_P _ hW.1) (en_D _ hW.2.1) hW.2.2 j 2 hj rfl hin hdg (fun H1 locs1 hP _ hS => kk _ H1 locs1 (ws_set hW he hj hP hS) rfl)
theorem r_aastN (X : CX p c cc nL s m own G A) (hW : WS s G A hp H locs) {a n : Nat} {f : Nat → Option Nat} (he : hp a = some (.inl (G.2.1 3, n, .inr (.inr (.inr (.inr f)))))) {i : Int32} (hin : vp_in i n) (hdg : decode cc pc = .ok (.aastore, 1))
    (kk : ∀ (hp1 : HP) (H1 : Heap) (locs1 : List Loc), WS s G A hp1 H1 locs1 → hp1 = va_up hp a (some (.inl (G.2.1 3, n, .inr (.inr (.inr (.inr (va_up f i.toNatClampNeg none))))))) → W p l e R s m args below meth c H1 locs1 cells slots Q (F0 m (pc + 1) ls rest)) : W p l e R s m args below meth c H locs cells slots Q (F0 m pc ls (.null :: .int i :: .ref a :: rest)) := by
  obtain ⟨j, hj⟩ := en_get hW.1 he
  exact va_astqN (D := G.1) (cl := vwCl) (ws := en hp H.size) (tys := tyL G) X.1 X.2.1 X.2.2.2.2.2.1.1 (en_P _ hW.1) (en_D _ hW.2.1) hW.2.2 j 3 hj rfl hin hdg (fun H1 locs1 hP _ hS => kk _ H1 locs1 (ws_set hW he hj hP hS) rfl)
/-- an element that a list may hold: an object of Rule or of MadeCall -/
def isEl (hp : HP) (v : Nat) : Prop := ∃ (ci : Nat) (vs : List Value), hp v = some (.inr (ci, vs)) ∧ (ci = 3 ∨ ci = 5)
theorem r_aast (X : CX p c cc nL s m own G A) (hW : WS s G A hp H locs) {a n v : Nat} {f : Nat → Option Nat} (he : hp a = some (.inl (G.2.1 3, n, .inr (.inr (.inr (.inr f)))))) (hv : isEl hp v) {i : Int32} (hin : vp_in i n) (hdg : decode cc pc = .ok (.aastore, 1))
    (kk : ∀ (hp1 : HP) (H1 : Heap) (locs1 : List Loc), WS s G A hp1 H1 locs1 → hp1 = va_up hp a (some (.inl (G.2.1 3, n, .inr (.inr (.inr (.inr (va_up f i.toNatClampNeg (some v)))))))) → W p l e R s m args below meth c H1 locs1 cells slots Q (F0 m (pc + 1) ls rest)) : W p l e R s m args below meth c H locs cells slots Q (F0 m pc ls (.ref v :: .int i :: .ref a :: rest)) := by
  obtain ⟨ci, vs, hv, hci⟩ := hv
  obtain ⟨j, hj⟩ := en_get hW.1 he
  obtain ⟨j2, hj2⟩ := en_get hW.1 hv
  rcases hci with rfl | rfl
  · exact va_astqO (D := G.1) (cl := vwCl) (ws := en hp H.size) (tys := tyL G) X.1 X.2.1 X.2.2.2.2.2.1.1 (en_P _ hW.1) (en_D _ hW.2.1) hW.2.2 j 3 j2 3 hj rfl (r := (RX2, TX2, 3)) X.2.2.2.2.2.1.2.2.2.2.2 hj2 rfl hin hdg (fun H1 locs1 hP _ hS => kk _ H1 locs1 (ws_set hW he hj hP hS) rfl)
  · exact va_astqO (D := G.1) (cl := vwCl) (ws := en hp H.size) (tys := tyL G) X.1 X.2.1 X.2.2.2.2.2.1.1 (en_P _ hW.1) (en_D _ hW.2.1) hW.2.2 j 3 j2 5 hj rfl (r := (RX4, TX4, 6)) X.2.2.2.2.2.1.2.2.2.2.1 hj2 rfl hin hdg (fun H1 locs1 hP _ hS => kk _ H1 locs1 (ws_set hW he hj hP hS) rfl)
/-! new objects and arrays -/
theorem ws_app {q : Nat} {e' : va_E} {H1 : Heap} {locs1 : List Loc} (hW : WS s G A hp H locs) (hP : va_P G.1 vwCl (en hp H.size ++ [(q, e')]) H1) (hD : va_D A (en hp H.size ++ [(q, e')])) (hS : va_S A s.heap H1 locs1) : WS s G A (va_up hp q (some e')) H1 locs1 ∧ hp q = none := by
  have h0 := hD.2 (en hp H.size).length (q, e') (by simp)
  exact ⟨⟨en_app hW.1 hP, hW.2.1.up h0 _, hS⟩, en_new hD (fun b x h => hW.1.lt h)⟩
theorem r_new (X : CX p c cc nL s m own G A) (hA : ∀ q, s.heap.size ≤ q → A q) (hW : WS s G A hp H locs) {ci : Nat} {C : String} {T : u_T} {N index : Nat} (hc : vwCl[ci]? = some (C, T, N)) (hin : ∀ w ∈ u_ws C T N, w ∈ tG) {ty0 : Nat → FieldType} (hty : ∀ k, k < N → parseFieldDescriptor (T k).2.2.1 = some (ty0 k)) (hcl : Cond.classLink own index C ∈ tG) (hins : Cond.instantiable C N ∈ tG) (hini : Cond.initialized C ∈ tG) {fs : List Value} (hfs : ∀ j, j < N → defaultValue (ty0 j) = vp_V fs j) {k n : Nat} (hk : cells + 1 ≤ k) (hn : slots + N ≤ n) (hkR : k ≤ R.cells) (hnR : n ≤ R.slots) (hdg : decode cc pc = .ok (.new index, 3))
    (kk : ∀ (q : Nat) (hp1 : HP) (H1 : Heap), WS s G A hp1 H1 locs → hp1 = va_up hp q (some (.inr (ci, fs))) → hp q = none → W p l e R s m args below meth c H1 locs k n Q (F0 m (pc + 3) ls (.ref q :: rest))) : W p l e R s m args below meth c H locs cells slots Q (F0 m pc ls rest) := by
  refine va_new (D := G.1) (cl := vwCl) (ws := en hp H.size) (tys := tyL G) (Ts := tG) X.1 X.2.1 (tb_all X.2.2.2.2.1) hin ty0 hty X.2.2.2.1 (tb_all X.2.2.2.2.1 _ hcl) (tb_all X.2.2.2.2.1 _ hins) (tb_all X.2.2.2.2.1 _ hini) X.2.2.2.2.2.1.1 (en_P _ hW.1) (en_D _ hW.2.1) hW.2.2 hA hc hfs (by omega) (by omega) hdg (fun q H1 hP hD hS => ?_)
  obtain ⟨h1, h2⟩ := ws_app hW hP hD hS
  exact W.widen hk hn (kk q _ H1 h1 rfl h2)
theorem arr_same {t : FieldType} {cA : ClassId} (X : CX p c cc nL s m own G A) {tys : List (ClassId × FieldType)} (hK : va_K G.1 vwCl (tys ++ [(cA, t)]) s) (t0 : Nat) {cB : ClassId} (ht : (tyL G)[t0]? = some (cB, t)) (hprim : ∀ C, t ≠ .object C) : cA = cB := by
  have h1 := (hK.2 tys.length (cA, t) (by simp)).2
  have h2 := (X.2.2.2.2.2.1.1.2 t0 _ ht).2
  cases t with
  | object C => exact absurd rfl (hprim C)
  | _ => exact Option.some.inj (h1.symm.trans h2)
theorem arr_sameO {C : String} {cA : ClassId} (X : CX p c cc nL s m own G A) {tys : List (ClassId × FieldType)} (hK : va_K G.1 vwCl (tys ++ [(cA, .object C)]) s) (t0 : Nat) {cB : ClassId} (ht : (tyL G)[t0]? = some (cB, .object C)) : cA = cB := by
  obtain ⟨-, -, -, -, -, h1⟩ := (hK.2 tys.length (cA, .object C) (by simp)).2
  obtain ⟨-, -, -, -, -, h2⟩ := (X.2.2.2.2.2.1.1.2 t0 _ ht).2
  exact Option.some.inj (h1.symm.trans h2)
theorem r_newI (X : CX p c cc nL s m own G A) (hA : ∀ q, s.heap.size ≤ q → A q) (hW : WS s G A hp H locs) {z : Int32} {N : Nat} (hz : ¬ z < 0) (hN : z.toNatClampNeg = N) (hb : N ≤ 1000000) {k n : Nat} (hk : cells + 1 ≤ k) (hn : slots + N ≤ n) (hkR : k ≤ R.cells) (hnR : n ≤ R.slots) (hw : Cond.arrayClass .int ∈ tG) (hdg : decode cc pc = .ok (.newarray .int, 2))
    (kk : ∀ (q : Nat) (hp1 : HP) (H1 : Heap), WS s G A hp1 H1 locs → hp1 = va_up hp q (some (.inl (G.2.1 1, N, .inl (fun _ => 0)))) → hp q = none → W p l e R s m args below meth c H1 locs k n Q (F0 m (pc + 2) ls (.ref q :: rest))) : W p l e R s m args below meth c H locs cells slots Q (F0 m pc ls (.int z :: rest)) := by
  refine va_newa (D := G.1) (cl := vwCl) (ws := en hp H.size) (tys := tyL G) (ty := .int) (a0 := (N, .inl (fun _ => 0))) (atype := .int) X.1 X.2.1 (tb_all X.2.2.2.2.1 _ hw) rfl X.2.2.2.2.2.1.1 (en_P _ hW.1) (en_D _ hW.2.1) hW.2.2 hA (fun cA => rfl) hz hN (by show N * 4 ≤ _; omega) (by omega) (by omega) hdg (fun q cA H1 hK hP hD hS => ?_)
  obtain rfl := arr_same X hK 1 rfl (fun C h => by cases h)
  obtain ⟨h1, h2⟩ := ws_app hW hP hD hS
  exact W.widen hk hn (kk q _ H1 h1 rfl h2)
theorem r_newB (X : CX p c cc nL s m own G A) (hA : ∀ q, s.heap.size ≤ q → A q) (hW : WS s G A hp H locs) {z : Int32} {N : Nat} (hz : ¬ z < 0) (hN : z.toNatClampNeg = N) (hb : N ≤ 1000000) {k n : Nat} (hk : cells + 1 ≤ k) (hn : slots + N ≤ n) (hkR : k ≤ R.cells) (hnR : n ≤ R.slots) (hw : Cond.arrayClass .byte ∈ tG) (hdg : decode cc pc = .ok (.newarray .byte, 2))
    (kk : ∀ (q : Nat) (hp1 : HP) (H1 : Heap), WS s G A hp1 H1 locs → hp1 = va_up hp q (some (.inl (G.2.1 0, N, .inl (fun _ => 0)))) → hp q = none → W p l e R s m args below meth c H1 locs k n Q (F0 m (pc + 2) ls (.ref q :: rest))) : W p l e R s m args below meth c H locs cells slots Q (F0 m pc ls (.int z :: rest)) := by
  refine va_newa (D := G.1) (cl := vwCl) (ws := en hp H.size) (tys := tyL G) (ty := .byte) (a0 := (N, .inl (fun _ => 0))) (atype := .byte) X.1 X.2.1 (tb_all X.2.2.2.2.1 _ hw) rfl X.2.2.2.2.2.1.1 (en_P _ hW.1) (en_D _ hW.2.1) hW.2.2 hA (fun cA => rfl) hz hN (by show N * 1 ≤ _; omega) (by omega) (by omega) hdg (fun q cA H1 hK hP hD hS => ?_)
  obtain rfl := arr_same X hK 0 rfl (fun C h => by cases h)
  obtain ⟨h1, h2⟩ := ws_app hW hP hD hS
  exact W.widen hk hn (kk q _ H1 h1 rfl h2)
theorem r_newJ (X : CX p c cc nL s m own G A) (hA : ∀ q, s.heap.size ≤ q → A q) (hW : WS s G A hp H locs) {z : Int32} {N : Nat} (hz : ¬ z < 0) (hN : z.toNatClampNeg = N) (hb : N ≤ 1000000) {k n : Nat} (hk : cells + 1 ≤ k) (hn : slots + N ≤ n) (hkR : k ≤ R.cells) (hnR : n ≤ R.slots) (hw : Cond.arrayClass .long ∈ tG) (hdg : decode cc pc = .ok (.newarray .long, 2))
    (kk : ∀ (q : Nat) (hp1 : HP) (H1 : Heap), WS s G A hp1 H1 locs → hp1 = va_up hp q (some (.inl (G.2.1 2, N, .inr (.inl (fun _ => 0))))) → hp q = none → W p l e R s m args below meth c H1 locs k n Q (F0 m (pc + 2) ls (.ref q :: rest))) : W p l e R s m args below meth c H locs cells slots Q (F0 m pc ls (.int z :: rest)) := by
  refine va_newa (D := G.1) (cl := vwCl) (ws := en hp H.size) (tys := tyL G) (ty := .long) (a0 := (N, .inr (.inl (fun _ => 0)))) (atype := .long) X.1 X.2.1 (tb_all X.2.2.2.2.1 _ hw) rfl X.2.2.2.2.2.1.1 (en_P _ hW.1) (en_D _ hW.2.1) hW.2.2 hA (fun cA => rfl) hz hN (by show N * 8 ≤ _; omega) (by omega) (by omega) hdg (fun q cA H1 hK hP hD hS => ?_)
  obtain rfl := arr_same X hK 2 rfl (fun C h => by cases h)
  obtain ⟨h1, h2⟩ := ws_app hW hP hD hS
  exact W.widen hk hn (kk q _ H1 h1 rfl h2)
theorem r_newQ (X : CX p c cc nL s m own G A) (hA : ∀ q, s.heap.size ≤ q → A q) (hW : WS s G A hp H locs) {z : Int32} {N index : Nat} (hz : ¬ z < 0) (hN : z.toNatClampNeg = N) (hb : N ≤ 1000000) {k n : Nat} (hk : cells + 1 ≤ k) (hn : slots + N ≤ n) (hkR : k ≤ R.cells) (hnR : n ≤ R.slots) (hcl : Cond.classLink own index "java/lang/Object" ∈ tG) (hdg : decode cc pc = .ok (.anewarray index, 3))
    (kk : ∀ (q : Nat) (hp1 : HP) (H1 : Heap), WS s G A hp1 H1 locs → hp1 = va_up hp q (some (.inl (G.2.1 3, N, .inr (.inr (.inr (.inr (fun _ => none))))))) → hp q = none → W p l e R s m args below meth c H1 locs k n Q (F0 m (pc + 3) ls (.ref q :: rest))) : W p l e R s m args below meth c H locs cells slots Q (F0 m pc ls (.int z :: rest)) := by
  refine va_newq (D := G.1) (cl := vwCl) (ws := en hp H.size) (tys := tyL G) X.1 X.2.1 X.2.2.2.1 (tb_all X.2.2.2.2.1 _ hcl) X.2.2.2.2.2.1.2.1 X.2.2.2.2.2.1.1 (en_P _ hW.1) (en_D _ hW.2.1) hW.2.2 hA hz hN (by omega) (by omega) (by omega) hdg (fun q cA H1 hK hP hD hS => ?_)
  obtain rfl := arr_sameO X hK 3 rfl
  obtain ⟨h1, h2⟩ := ws_app hW hP hD hS
  exact W.widen hk hn (kk q _ H1 h1 rfl h2)
/-! a cast to the object's own class -/
theorem r_cast (X : CX p c cc nL s m own G A) (hH : Hd G hp H) {a ci : Nat} {fs : List Value} (he : hp a = some (.inr (ci, fs))) {C : String} {T : u_T} {N index : Nat} (hc : vwCl[ci]? = some (C, T, N)) (hcl : Cond.classLink own index C ∈ tG) (hdg : decode cc pc = .ok (.checkcast index, 3))
    (kk : W p l e R s m args below meth c H locs cells slots Q (F0 m (pc + 3) ls (.ref a :: rest))) : W p l e R s m args below meth c H locs cells slots Q (F0 m pc ls (.ref a :: rest)) :=
  va_castS X.1 X.2.1 X.2.2.2.1 (tb_all X.2.2.2.2.1 _ hcl) (X.2.2.2.2.2.1.1.1 ci _ hc).2 (va_recv (q0 := 0) X.2.2.2.2.2.1.1 (hd1 hH he) hc rfl) hdg kk
theorem r_const (X : CX p c cc nL s m own G A) {index : Nat} {v : Int32} (hw : Cond.constant own index v ∈ tG) (hdg : decode cc pc = .ok (.ldc index, 2)) (kk : W p l e R s m args below meth c H locs cells slots Q (F0 m (pc + 2) ls (.int v :: rest))) : W p l e R s m args below meth c H locs cells slots Q (F0 m pc ls rest) := lv_ldc X.1 X.2.1 X.2.2.2.1 (tb_all X.2.2.2.2.1 _ hw) hdg kk
theorem r_const2 (X : CX p c cc nL s m own G A) {index : Nat} {v : Int64} (hw : Cond.constantLong own index v ∈ tG) (hdg : decode cc pc = .ok (.ldc2_w index, 3)) (kk : W p l e R s m args below meth c H locs cells slots Q (F0 m (pc + 3) ls (.long v :: rest))) : W p l e R s m args below meth c H locs cells slots Q (F0 m pc ls rest) := lv_ldc2 X.1 X.2.1 X.2.2.2.1 (tb_all X.2.2.2.2.1 _ hw) hdg kk
theorem r_constW (X : CX p c cc nL s m own G A) {index : Nat} {v : Int32} (hw : Cond.constant own index v ∈ tG) (hdg : decode cc pc = .ok (.ldc_w index, 3)) (kk : W p l e R s m args below meth c H locs cells slots Q (F0 m (pc + 3) ls (.int v :: rest))) : W p l e R s m args below meth c H locs cells slots Q (F0 m pc ls rest) := lv_ldcw X.1 X.2.1 X.2.2.2.1 (tb_all X.2.2.2.2.1 _ hw) hdg kk
end VR
end
section
/-! calls and returns -/
section VC
variable {p : Program} {l : Launch} {e : Env} {R : Room} {s : State} {m : MethodId} {args : Array Value} {below : List Frame} {meth : Method} {c : Code} {H : Heap} {locs : List Loc} {cells slots : Nat} {Q : State → Prop} {cc : ByteArray} {pc nL : Nat} {ls : Array Slot} {rest st0 : List Value} {G : HG} {A : Nat → Prop} {hp : HP} {own : String}
variable {y : MethodName} {bytes : ByteArray} {maxL n index mc ms k' n' : Nat} {ret : Option FieldType} {rm : Room} {P : State → Prop} {Qc : Array Value → State → Outcome → State → Prop} {free : Addr → Prop} {As : List Value}
/-- what a call asks of rooms: frames, locals, cells, slots -/
def RM (rm R : Room) (maxL mc ms : Nat) : Prop := rm.cells = mc ∧ rm.slots = ms ∧ rm.frames + 1 ≤ R.frames ∧ 8 + (maxL + 11) + rm.locals ≤ R.locals
theorem run_S (X : CX p c cc nL s m own G A) (hM : Met l y [.code y bytes maxL ret] rm (va_Pc As P) Qc mc ms free) (hbl : FrameBlind (va_Pc As P)) (hP : ∀ U : State, U.heap = H → s.WarmedH U.vm → P U) (mf : MF y bytes maxL ret n) (hl : Cond.methodLink own index y ∈ tG) (hst : Cond.static y ∈ tG) (hR : RM rm R maxL mc ms) (hsz : ls.size = nL) (hn : As.length = n) (hstack : st0 = As.reverse ++ rest) (hW : (rest.map fun v => v.category).sum ≤ 8) (hf : cells + mc ≤ R.cells ∧ slots + ms ≤ R.slots) (hdg : decode cc pc = .ok (.invokestatic index, 3)) :
    va_Run p l e R s m args below meth c H locs cells slots mc ms (F0 m pc ls st0) rest (Qc As.toArray) free :=
  va_runS (Ts := tG) ⟨X.1, X.2.1, X.2.2.1, X.2.2.2.1, tb_all X.2.2.2.2.1⟩ hM ⟨⟨hR.1, hR.2.1, hR.2.2.1, hR.2.2.2, code_w X.2.2.2.2.1 mf.1, List.mem_singleton.mpr rfl, tb_all X.2.2.2.2.1 _ mf.1, tb_all X.2.2.2.2.1 _ mf.2.1, ⟨mf.2.2.1, mf.2.2.2.1⟩, mf.len, tb_all X.2.2.2.2.1 _ hl⟩, tb_all X.2.2.2.2.1 _ hst⟩ ⟨hbl, fun U hU hW => ⟨rfl, hP U hU hW⟩⟩ rfl hn hsz hstack (lv_room hW) hdg hf
theorem run_V {b : Nat} {C : String} (X : CX p c cc nL s m own G A) (hM : Met l y [.code y bytes maxL ret] rm (va_Pc (.ref b :: As) P) Qc mc ms free) (hbl : FrameBlind (va_Pc (.ref b :: As) P)) (hP : ∀ U : State, U.heap = H → s.WarmedH U.vm → P U) (hr : ∃ cell : Cell, H[b]? = some cell ∧ cell.vm.isStatics = false ∧ s.vm.findClass C = some cell.cls) (mf : MF y bytes maxL ret n) (hl : Cond.methodLink own index y ∈ tG) (hi : Cond.instanceMethod y ∈ tG) (hse : Cond.selects C y y ∈ tG) (hR : RM rm R maxL mc ms) (hsz : ls.size = nL) (hn : As.length = n) (hstack : st0 = As.reverse ++ .ref b :: rest) (hW : (rest.map fun v => v.category).sum ≤ 8) (hf : cells + mc ≤ R.cells ∧ slots + ms ≤ R.slots) (hdg : decode cc pc = .ok (.invokevirtual index, 3)) :
    va_Run p l e R s m args below meth c H locs cells slots mc ms (F0 m pc ls st0) rest (Qc (.ref b :: As).toArray) free :=
  va_runV (Ts := tG) (C := C) ⟨X.1, X.2.1, X.2.2.1, X.2.2.2.1, tb_all X.2.2.2.2.1⟩ hM ⟨⟨hR.1, hR.2.1, hR.2.2.1, hR.2.2.2, code_w X.2.2.2.2.1 mf.1, List.mem_singleton.mpr rfl, tb_all X.2.2.2.2.1 _ mf.1, tb_all X.2.2.2.2.1 _ mf.2.1, ⟨mf.2.2.1, mf.2.2.2.1⟩, mf.len, tb_all X.2.2.2.2.1 _ hl⟩, tb_all X.2.2.2.2.1 _ hi, tb_all X.2.2.2.2.1 _ hse⟩ ⟨hbl, hr, fun U hU hW => ⟨rfl, hP U hU hW⟩⟩ rfl hn hsz hstack (lv_room hW) hdg hf
theorem run_I {b : Nat} (X : CX p c cc nL s m own G A) (hM : Met l y [.code y bytes maxL none] rm (va_Pc (.ref b :: As) P) Qc mc ms free) (hbl : FrameBlind (va_Pc (.ref b :: As) P)) (hP : ∀ U : State, U.heap = H → s.WarmedH U.vm → P U) (mf : MF y bytes maxL none n) (hl : Cond.methodLink own index y ∈ tG) (hi : Cond.instanceMethod y ∈ tG) (hy : y.name = "<init>") (hR : RM rm R maxL mc ms) (hsz : ls.size = nL) (hn : As.length = n) (hstack : st0 = As.reverse ++ .ref b :: rest) (hW : (rest.map fun v => v.category).sum ≤ 8) (hf : cells + mc ≤ R.cells ∧ slots + ms ≤ R.slots) (hdg : decode cc pc = .ok (.invokespecial index, 3)) :
    va_Run p l e R s m args below meth c H locs cells slots mc ms (F0 m pc ls st0) rest (Qc (.ref b :: As).toArray) free :=
  va_runI (Ts := tG) ⟨X.1, X.2.1, X.2.2.1, X.2.2.2.1, tb_all X.2.2.2.2.1⟩ hM ⟨⟨hR.1, hR.2.1, hR.2.2.1, hR.2.2.2, code_w X.2.2.2.2.1 mf.1, List.mem_singleton.mpr rfl, tb_all X.2.2.2.2.1 _ mf.1, tb_all X.2.2.2.2.1 _ mf.2.1, ⟨mf.2.2.1, mf.2.2.2.1⟩, mf.len, tb_all X.2.2.2.2.1 _ hl⟩, hy, tb_all X.2.2.2.2.1 _ hi⟩ ⟨hbl, fun U hU hW => ⟨rfl, hP U hU hW⟩⟩ rfl hn hsz hstack (lv_room hW) hdg hf
theorem run_IN {b : Nat} {host : String} (X : CX p c cc nL s m own G A) (hM : Met l y [.code y bytes maxL none] rm (va_Pc (.ref b :: As) P) Qc mc ms free) (hbl : FrameBlind (va_Pc (.ref b :: As) P)) (hP : ∀ U : State, U.heap = H → s.WarmedH U.vm → P U) (mf : MF y bytes maxL none n) (hl : Cond.methodLinkNest own index y host ∈ tG) (hi : Cond.instanceMethod y ∈ tG) (hy : y.name = "<init>") (hR : RM rm R maxL mc ms) (hsz : ls.size = nL) (hn : As.length = n) (hstack : st0 = As.reverse ++ .ref b :: rest) (hW : (rest.map fun v => v.category).sum ≤ 8) (hf : cells + mc ≤ R.cells ∧ slots + ms ≤ R.slots) (hdg : decode cc pc = .ok (.invokespecial index, 3)) :
    va_Run p l e R s m args below meth c H locs cells slots mc ms (F0 m pc ls st0) rest (Qc (.ref b :: As).toArray) free :=
  va_runIN (Ts := tG) ⟨X.1, X.2.1, X.2.2.1, X.2.2.2.1, tb_all X.2.2.2.2.1⟩ hM ⟨⟨⟨hR.1, hR.2.1, hR.2.2.1, hR.2.2.2, code_w X.2.2.2.2.1 mf.1, List.mem_singleton.mpr rfl⟩, tb_all X.2.2.2.2.1 _ mf.1, tb_all X.2.2.2.2.1 _ mf.2.1, ⟨mf.2.2.1, mf.2.2.2.1⟩, mf.len, tb_all X.2.2.2.2.1 _ hl⟩, hy, tb_all X.2.2.2.2.1 _ hi⟩ ⟨hbl, fun U hU hW => ⟨rfl, hP U hU hW⟩⟩ rfl hn hsz hstack (lv_room hW) hdg hf
theorem recv (X : CX p c cc nL s m own G A) (hH : Hd G hp H) {a ci : Nat} {fs : List Value} (he : hp a = some (.inr (ci, fs))) {C : String} {T : u_T} {N : Nat} (hc : vwCl[ci]? = some (C, T, N)) : ∃ cell : Cell, H[a]? = some cell ∧ cell.vm.isStatics = false ∧ s.vm.findClass C = some cell.cls := va_recv (q0 := 0) X.2.2.2.2.2.1.1 (hd1 hH he) hc rfl
/-! what goes on behind them: reading callees -/
theorem on_Si {post : Int32 → Prop} {a : Array Value} (hr : va_Run p l e R s m args below meth c H locs cells slots 0 0 (F0 m pc ls st0) rest (vp_Si post a) (fun _ => False)) (kk : ∀ r : Int32, post r → W p l e R s m args below meth c H locs cells slots Q (F0 m (pc + 3) ls (.int r :: rest))) : W p l e R s m args below meth c H locs cells slots Q (F0 m pc ls st0) := vp_callSi (va_Run.run hr) kk
theorem on_Sl {post : Int64 → Prop} {a : Array Value} (hr : va_Run p l e R s m args below meth c H locs cells slots 0 0 (F0 m pc ls st0) rest (vp_Sl post a) (fun _ => False)) (kk : ∀ r : Int64, post r → W p l e R s m args below meth c H locs cells slots Q (F0 m (pc + 3) ls (.long r :: rest))) : W p l e R s m args below meth c H locs cells slots Q (F0 m pc ls st0) := vp_callSl (va_Run.run hr) kk
theorem on_Sq {post : Option Nat → Prop} {a : Array Value} (hr : va_Run p l e R s m args below meth c H locs cells slots 0 0 (F0 m pc ls st0) rest (va_Sq post a) (fun _ => False)) (kk : ∀ r : Option Nat, post r → W p l e R s m args below meth c H locs cells slots Q (F0 m (pc + 3) ls (va_rf r :: rest))) : W p l e R s m args below meth c H locs cells slots Q (F0 m pc ls st0) := va_csq (va_Run.run hr) kk
/-- a void method that leaves the heap as it is -/
def vp_Sv' (post : Prop) : Array Value → State → Outcome → State → Prop := fun _ st o t => o = .returned none ∧ post ∧ t.heap = st.heap
theorem on_Sv {post : Prop} {a : Array Value} (hr : va_Run p l e R s m args below meth c H locs cells slots 0 0 (F0 m pc ls st0) rest (vp_Sv' post a) (fun _ => False)) (kk : post → W p l e R s m args below meth c H locs cells slots Q (F0 m (pc + 3) ls rest)) : W p l e R s m args below meth c H locs cells slots Q (F0 m pc ls st0) := by
  intro T hT X
  obtain ⟨v, st₀, t, T', L, h0, X', hL, e1, e2, ⟨hv, hp, hh⟩, st⟩ := hr T hT X
  cases hv
  obtain ⟨t2, a1, b1⟩ := kk hp T' (by rw [e1, hh, h0]) (Stand.forget X' (fun q h => (hL q h).elim))
  exact ⟨t2, st t2 a1, b1⟩
/-! writing callees -/
theorem on_Wi {post : Int32 → HP → Prop} {a : Array Value} (hr : va_Run p l e R s m args below meth c H locs cells slots mc ms (F0 m pc ls st0) rest (va_Qi post (WB G A) A a) A) (hW : WS s G A hp H locs) (hk : cells + mc ≤ k') (hn : slots + ms ≤ n') (kk : ∀ (r : Int32) (hp1 : HP) (H1 : Heap) (locs1 : List Loc), post r hp1 → WS s G A hp1 H1 locs1 → W p l e R s m args below meth c H1 locs1 k' n' Q (F0 m (pc + 3) ls (.int r :: rest))) : W p l e R s m args below meth c H locs cells slots Q (F0 m pc ls st0) :=
  va_calli hr hW.2.2 (fun _ _ h => h) (fun _ h => h) (fun r u t H1 locs1 ht _ hpo hB _ _ hS => W.widen hk hn (kk r u H1 locs1 hpo ⟨by rw [← ht]; exact hB.1, hB.2, hS⟩))
theorem on_Wl {post : Int64 → HP → Prop} {a : Array Value} (hr : va_Run p l e R s m args below meth c H locs cells slots mc ms (F0 m pc ls st0) rest (va_Ql post (WB G A) A a) A) (hW : WS s G A hp H locs) (hk : cells + mc ≤ k') (hn : slots + ms ≤ n') (kk : ∀ (r : Int64) (hp1 : HP) (H1 : Heap) (locs1 : List Loc), post r hp1 → WS s G A hp1 H1 locs1 → W p l e R s m args below meth c H1 locs1 k' n' Q (F0 m (pc + 3) ls (.long r :: rest))) : W p l e R s m args below meth c H locs cells slots Q (F0 m pc ls st0) :=
  va_calll hr hW.2.2 (fun _ _ h => h) (fun _ h => h) (fun r u t H1 locs1 ht _ hpo hB _ _ hS => W.widen hk hn (kk r u H1 locs1 hpo ⟨by rw [← ht]; exact hB.1, hB.2, hS⟩))
theorem on_Wv {post : HP → Prop} {a : Array Value} (hr : va_Run p l e R s m args below meth c H locs cells slots mc ms (F0 m pc ls st0) rest (va_Qv post (WB G A) A a) A) (hW : WS s G A hp H locs) (hk : cells + mc ≤ k') (hn : slots + ms ≤ n') (kk : ∀ (hp1 : HP) (H1 : Heap) (locs1 : List Loc), post hp1 → WS s G A hp1 H1 locs1 → W p l e R s m args below meth c H1 locs1 k' n' Q (F0 m (pc + 3) ls rest)) : W p l e R s m args below meth c H locs cells slots Q (F0 m pc ls st0) :=
  va_callv hr hW.2.2 (fun _ _ h => h) (fun _ h => h) (fun u t H1 locs1 ht _ hpo hB _ _ hS => W.widen hk hn (kk u H1 locs1 hpo ⟨by rw [← ht]; exact hB.1, hB.2, hS⟩))
theorem on_Wq {post : Option Nat → HP → Prop} {a : Array Value} (hr : va_Run p l e R s m args below meth c H locs cells slots mc ms (F0 m pc ls st0) rest (va_Qq post (WB G A) A a) A) (hW : WS s G A hp H locs) (hk : cells + mc ≤ k') (hn : slots + ms ≤ n') (kk : ∀ (r : Option Nat) (hp1 : HP) (H1 : Heap) (locs1 : List Loc), post r hp1 → WS s G A hp1 H1 locs1 → W p l e R s m args below meth c H1 locs1 k' n' Q (F0 m (pc + 3) ls (va_rf r :: rest))) : W p l e R s m args below meth c H locs cells slots Q (F0 m pc ls st0) :=
  va_callq hr hW.2.2 (fun _ _ h => h) (fun _ h => h) (fun r u t H1 locs1 ht _ hpo hB _ _ hS => W.widen hk hn (kk r u H1 locs1 hpo ⟨by rw [← ht]; exact hB.1, hB.2, hS⟩))
/-! returns -/
theorem ro_i {post : Int32 → Prop} {v : Int32} {a : Array Value} (X : CX p c cc nL s m own G A) (hr : meth.sig.returnType = some .int) (hlk : meth.locks = false) (hq : post v) (hdg : decode cc pc = .ok (.ireturn, 1)) : W p l e R s m args below meth c s.heap [] 0 0 (MQ below (vp_Si post) args s 0 0 (fun _ => False)) (F0 m pc ls [.int v]) := W.iret X.1 X.2.1 hr (fun t ht _ => ⟨v, rfl, hq, ht⟩) (fun q h => by cases h) hdg hlk
theorem ro_z {post : Int32 → Prop} {v : Int32} {ty : FieldType} (X : CX p c cc nL s m own G A) (hr : meth.sig.returnType = some ty) (hlk : meth.locks = false) (hn : narrow ty (.int v) = .int v) (hq : post v) (hdg : decode cc pc = .ok (.ireturn, 1)) : W p l e R s m args below meth c s.heap [] 0 0 (MQ below (vp_Si post) args s 0 0 (fun _ => False)) (F0 m pc ls [.int v]) := W.zret X.1 X.2.1 hr hn (fun t ht _ => ⟨v, rfl, hq, ht⟩) (fun q h => by cases h) hdg hlk
theorem ro_l {post : Int64 → Prop} {v : Int64} (X : CX p c cc nL s m own G A) (hr : meth.sig.returnType = some .long) (hlk : meth.locks = false) (hq : post v) (hdg : decode cc pc = .ok (.lreturn, 1)) : W p l e R s m args below meth c s.heap [] 0 0 (MQ below (vp_Sl post) args s 0 0 (fun _ => False)) (F0 m pc ls [.long v]) := W.lret X.1 X.2.1 hr (fun t ht _ => ⟨v, rfl, hq, ht⟩) (fun q h => by cases h) hdg hlk
theorem ro_q {post : Option Nat → Prop} {r : Option Nat} {rt : FieldType} (X : CX p c cc nL s m own G A) (hr : meth.sig.returnType = some rt) (hrt : (∃ n, rt = .object n) ∨ ∃ t, rt = .array t) (hlk : meth.locks = false) (hq : post r) (hdg : decode cc pc = .ok (.areturn, 1)) : W p l e R s m args below meth c s.heap [] 0 0 (MQ below (va_Sq post) args s 0 0 (fun _ => False)) (F0 m pc ls [va_rf r]) := W.aret X.1 X.2.1 hr hrt (va_rf_or r) (fun t ht _ => ⟨r, rfl, hq, ht⟩) (fun q h => by cases h) hdg hlk
theorem ro_v {post : Prop} (X : CX p c cc nL s m own G A) (hr : meth.sig.returnType = none) (hlk : meth.locks = false) (hq : post) (hdg : decode cc pc = .ok (.return_, 1)) : W p l e R s m args below meth c s.heap [] 0 0 (MQ below (vp_Sv' post) args s 0 0 (fun _ => False)) (F0 m pc ls []) := W.vret X.1 X.2.1 hr (fun t ht _ => ⟨rfl, hq, ht⟩) (fun q h => by cases h) hdg hlk
theorem wr_i {post : Int32 → HP → Prop} {v : Int32} (X : CX p c cc nL s m own G A) (hr : meth.sig.returnType = some .int) (hlk : meth.locks = false) (hW : WS s G A hp H locs) (hq : post v hp) (hc : cells ≤ mc) (hs : slots ≤ ms) (hdg : decode cc pc = .ok (.ireturn, 1)) : W p l e R s m args below meth c H locs cells slots (MQ below (va_Qi post (WB G A) A) args s mc ms A) (F0 m pc ls [.int v]) := W.widen hc hs (W.iret X.1 X.2.1 hr (fun t ht _ => ⟨⟨v, hp, rfl, hq, by rw [ht]; exact hW.1, hW.2.1⟩, hW.2.2.F ht⟩) hW.2.2.2.2 hdg hlk)
theorem wr_z {post : Int32 → HP → Prop} {v : Int32} {ty : FieldType} (X : CX p c cc nL s m own G A) (hr : meth.sig.returnType = some ty) (hlk : meth.locks = false) (hn : narrow ty (.int v) = .int v) (hW : WS s G A hp H locs) (hq : post v hp) (hc : cells ≤ mc) (hs : slots ≤ ms) (hdg : decode cc pc = .ok (.ireturn, 1)) : W p l e R s m args below meth c H locs cells slots (MQ below (va_Qi post (WB G A) A) args s mc ms A) (F0 m pc ls [.int v]) := W.widen hc hs (W.zret X.1 X.2.1 hr hn (fun t ht _ => ⟨⟨v, hp, rfl, hq, by rw [ht]; exact hW.1, hW.2.1⟩, hW.2.2.F ht⟩) hW.2.2.2.2 hdg hlk)
theorem wr_l {post : Int64 → HP → Prop} {v : Int64} (X : CX p c cc nL s m own G A) (hr : meth.sig.returnType = some .long) (hlk : meth.locks = false) (hW : WS s G A hp H locs) (hq : post v hp) (hc : cells ≤ mc) (hs : slots ≤ ms) (hdg : decode cc pc = .ok (.lreturn, 1)) : W p l e R s m args below meth c H locs cells slots (MQ below (va_Ql post (WB G A) A) args s mc ms A) (F0 m pc ls [.long v]) := W.widen hc hs (W.lret X.1 X.2.1 hr (fun t ht _ => ⟨⟨v, hp, rfl, hq, by rw [ht]; exact hW.1, hW.2.1⟩, hW.2.2.F ht⟩) hW.2.2.2.2 hdg hlk)
theorem wr_v {post : HP → Prop} (X : CX p c cc nL s m own G A) (hr : meth.sig.returnType = none) (hlk : meth.locks = false) (hW : WS s G A hp H locs) (hq : post hp) (hc : cells ≤ mc) (hs : slots ≤ ms) (hdg : decode cc pc = .ok (.return_, 1)) : W p l e R s m args below meth c H locs cells slots (MQ below (va_Qv post (WB G A) A) args s mc ms A) (F0 m pc ls []) := W.widen hc hs (W.vret X.1 X.2.1 hr (fun t ht _ => ⟨⟨hp, rfl, hq, by rw [ht]; exact hW.1, hW.2.1⟩, hW.2.2.F ht⟩) hW.2.2.2.2 hdg hlk)
theorem wr_q {post : Option Nat → HP → Prop} {r : Option Nat} {rt : FieldType} (X : CX p c cc nL s m own G A) (hr : meth.sig.returnType = some rt) (hrt : (∃ n, rt = .object n) ∨ ∃ t, rt = .array t) (hlk : meth.locks = false) (hW : WS s G A hp H locs) (hq : post r hp) (hc : cells ≤ mc) (hs : slots ≤ ms) (hdg : decode cc pc = .ok (.areturn, 1)) : W p l e R s m args below meth c H locs cells slots (MQ below (va_Qq post (WB G A) A) args s mc ms A) (F0 m pc ls [va_rf r]) := W.widen hc hs (W.aret X.1 X.2.1 hr hrt (va_rf_or r) (fun t ht _ => ⟨⟨r, hp, rfl, hq, by rw [ht]; exact hW.1, hW.2.1⟩, hW.2.2.F ht⟩) hW.2.2.2.2 hdg hlk)
end VC
/-- a switch's branch: the row's premises by the value -/
theorem sw_of {x : Int32} {k : Nat} (h : x = nI k) (hk : k < 2 ^ 31) : x.toInt = (k : Int) := by rw [h]; exact nI_toInt hk
end
section
theorem ne_look {hp : HP} {a b : Nat} {e1 e2 : va_E} (h1 : hp b = some e1) (h2 : hp a = some e2) (h : e1 ≠ e2) : b ≠ a := fun hh => h (Option.some.inj (h1.symm.trans ((congrArg hp hh).trans h2)))
theorem ne_none {hp : HP} {q b : Nat} {e1 : va_E} (h1 : hp b = some e1) (h2 : hp q = none) : b ≠ q := fun hh => by
  rw [hh, h2] at h1
  cases h1
theorem tw_objinit : Cond.code objectInit ⟨#[0xb1]⟩ 1 none ∈ tG := List.mem_filter.mpr ⟨List.mem_of_getElem? (i := 85) (by decide +kernel), by decide +kernel⟩
theorem mf_X6_init : MF yX6_init cX6_init 1 none 0 := ⟨tw_82, tw_55, by decide +kernel, by decide +kernel, by decide +kernel⟩
theorem mf_Jx4a65c_init_da8c8 : MF yJx4a65c_init_da8c8 cJx4a65c_init_da8c8 1 none 0 := ⟨tw_90, tw_58, by decide +kernel, by decide +kernel, by decide +kernel⟩
theorem mf_Jxc12de_init_da8c8 : MF yJxc12de_init_da8c8 cJxc12de_init_da8c8 1 none 0 := ⟨tw_93, tw_57, by decide +kernel, by decide +kernel, by decide +kernel⟩
theorem mf_Jxa1e45_init_da8c8 : MF yJxa1e45_init_da8c8 cJxa1e45_init_da8c8 1 none 0 := ⟨tw_96, tw_56, by decide +kernel, by decide +kernel, by decide +kernel⟩
theorem mf_X0_init : MF yX0_init cX0_init 1 none 0 := ⟨tw_116, tw_59, by decide +kernel, by decide +kernel, by decide +kernel⟩
theorem mf_X3_init : MF yX3_init cX3_init 4 none 3 := ⟨tw_124, tw_60, by decide +kernel, by decide +kernel, by decide +kernel⟩
theorem mf_J4_init_da8c8 : MF yJ4_init_da8c8 cJ4_init_da8c8 1 none 0 := ⟨tw_164, tw_62, by decide +kernel, by decide +kernel, by decide +kernel⟩
theorem mf_J5_init_d00df : MF yJ5_init_d00df cJ5_init_d00df 2 none 1 := ⟨tw_167, tw_61, by decide +kernel, by decide +kernel, by decide +kernel⟩
theorem mf_J2_newBytesFor_77867 : MF yJ2_newBytesFor_77867 cJ2_newBytesFor_77867 1 (some (.array .byte)) 1 := ⟨tw_173, tw_64, by decide +kernel, by decide +kernel, by decide +kernel⟩
theorem mf_J2_newBytesLength_0f7a4 : MF yJ2_newBytesLength_0f7a4 cJ2_newBytesLength_0f7a4 1 (some .int) 1 := ⟨tw_176, tw_64, by decide +kernel, by decide +kernel, by decide +kernel⟩
theorem mf_X6_rule : MF yX6_rule cX6_rule 5 (some .int) 4 := ⟨tw_211, tw_55, by decide +kernel, by decide +kernel, by decide +kernel⟩
theorem mf_X6_isState : MF yX6_isState cX6_isState 1 (some .boolean) 1 := ⟨tw_214, tw_55, by decide +kernel, by decide +kernel, by decide +kernel⟩
theorem mf_X6_isCall : MF yX6_isCall cX6_isCall 1 (some .boolean) 1 := ⟨tw_217, tw_55, by decide +kernel, by decide +kernel, by decide +kernel⟩
theorem mf_X6_isFlag : MF yX6_isFlag cX6_isFlag 1 (some .boolean) 1 := ⟨tw_220, tw_55, by decide +kernel, by decide +kernel, by decide +kernel⟩
theorem mf_X4_init : MF yX4_init cX4_init 5 none 4 := ⟨tw_225, tw_66, by decide +kernel, by decide +kernel, by decide +kernel⟩
theorem mf_X6_addRule : MF yX6_addRule cX6_addRule 4 (some .int) 1 := ⟨tw_259, tw_55, by decide +kernel, by decide +kernel, by decide +kernel⟩
theorem mf_Jx4a65c_size_8abf5 : MF yJx4a65c_size_8abf5 cJx4a65c_size_8abf5 1 (some .int) 0 := ⟨tw_263, tw_58, by decide +kernel, by decide +kernel, by decide +kernel⟩
theorem mf_Jx4a65c_get_915e3 : MF yJx4a65c_get_915e3 cJx4a65c_get_915e3 2 (some (.object "java/lang/Object")) 1 := ⟨tw_267, tw_58, by decide +kernel, by decide +kernel, by decide +kernel⟩
theorem mf_J15_checkIndex_7cf53 : MF yJ15_checkIndex_7cf53 cJ15_checkIndex_7cf53 2 (some .int) 2 := ⟨tw_270, tw_67, by decide +kernel, by decide +kernel, by decide +kernel⟩
theorem mf_J3_checkIndex_8e157 : MF yJ3_checkIndex_8e157 cJ3_checkIndex_8e157 3 (some .int) 3 := ⟨tw_273, tw_68, by decide +kernel, by decide +kernel, by decide +kernel⟩
theorem mf_Jx4a65c_elementData_915e3 : MF yJx4a65c_elementData_915e3 cJx4a65c_elementData_915e3 2 (some (.object "java/lang/Object")) 1 := ⟨tw_277, tw_58, by decide +kernel, by decide +kernel, by decide +kernel⟩
theorem mf_Jx4a65c_add_9ea2d : MF yJx4a65c_add_9ea2d cJx4a65c_add_9ea2d 2 (some .boolean) 1 := ⟨tw_281, tw_58, by decide +kernel, by decide +kernel, by decide +kernel⟩
theorem mf_Jx4a65c_add_72be8 : MF yJx4a65c_add_72be8 cJx4a65c_add_72be8 4 none 3 := ⟨tw_285, tw_58, by decide +kernel, by decide +kernel, by decide +kernel⟩
theorem mf_Jx4a65c_grow_d5877 : MF yJx4a65c_grow_d5877 cJx4a65c_grow_d5877 1 (some (.array (.object "java/lang/Object"))) 0 := ⟨tw_289, tw_58, by decide +kernel, by decide +kernel, by decide +kernel⟩
theorem mf_Jx4a65c_grow_92f84 : MF yJx4a65c_grow_92f84 cJx4a65c_grow_92f84 4 (some (.array (.object "java/lang/Object"))) 1 := ⟨tw_293, tw_58, by decide +kernel, by decide +kernel, by decide +kernel⟩
theorem mf_J8_newLength_cabcc : MF yJ8_newLength_cabcc cJ8_newLength_cabcc 4 (some .int) 3 := ⟨tw_296, tw_69, by decide +kernel, by decide +kernel, by decide +kernel⟩
theorem mf_J9_max_7cf53 : MF yJ9_max_7cf53 cJ9_max_7cf53 2 (some .int) 2 := ⟨tw_299, tw_70, by decide +kernel, by decide +kernel, by decide +kernel⟩
theorem mf_J8_hugeLength_7cf53 : MF yJ8_hugeLength_7cf53 cJ8_hugeLength_7cf53 3 (some .int) 2 := ⟨tw_303, tw_69, by decide +kernel, by decide +kernel, by decide +kernel⟩
theorem mf_J7_copyOf_1904c : MF yJ7_copyOf_1904c cJ7_copyOf_1904c 2 (some (.array (.object "java/lang/Object"))) 2 := ⟨tw_306, tw_71, by decide +kernel, by decide +kernel, by decide +kernel⟩
theorem mf_J7_copyOf_6403c : MF yJ7_copyOf_6403c cJ7_copyOf_6403c 4 (some (.array (.object "java/lang/Object"))) 3 := ⟨tw_322, tw_71, by decide +kernel, by decide +kernel, by decide +kernel⟩
theorem mf_J9_min_7cf53 : MF yJ9_min_7cf53 cJ9_min_7cf53 2 (some .int) 2 := ⟨tw_328, tw_70, by decide +kernel, by decide +kernel, by decide +kernel⟩
theorem mf_X0_restart : MF yX0_restart cX0_restart 1 none 0 := ⟨tw_337, tw_59, by decide +kernel, by decide +kernel, by decide +kernel⟩
theorem mf_Jx4a65c_clear_da8c8 : MF yJx4a65c_clear_da8c8 cJx4a65c_clear_da8c8 4 none 0 := ⟨tw_341, tw_58, by decide +kernel, by decide +kernel, by decide +kernel⟩
theorem mf_X6_limit : MF yX6_limit cX6_limit 6 (some .int) 4 := ⟨tw_345, tw_55, by decide +kernel, by decide +kernel, by decide +kernel⟩
theorem mf_X6_isRule : MF yX6_isRule cX6_isRule 2 (some .boolean) 1 := ⟨tw_349, tw_55, by decide +kernel, by decide +kernel, by decide +kernel⟩
theorem mf_X1_greatestMeasure : MF yX1_greatestMeasure cX1_greatestMeasure 1 (some .int) 1 := ⟨tw_352, tw_73, by decide +kernel, by decide +kernel, by decide +kernel⟩
theorem mf_X4_setRange : MF yX4_setRange cX4_setRange 5 none 3 := ⟨tw_356, tw_66, by decide +kernel, by decide +kernel, by decide +kernel⟩
theorem mf_X6_countAdmitted : MF yX6_countAdmitted cX6_countAdmitted 5 (some .int) 1 := ⟨tw_360, tw_55, by decide +kernel, by decide +kernel, by decide +kernel⟩
theorem mf_X1_profile : MF yX1_profile cX1_profile 3 (some .int) 1 := ⟨tw_363, tw_73, by decide +kernel, by decide +kernel, by decide +kernel⟩
theorem mf_X1_strength : MF yX1_strength cX1_strength 3 (some .int) 1 := ⟨tw_366, tw_73, by decide +kernel, by decide +kernel, by decide +kernel⟩
theorem mf_J6_bitCount_0f7a4 : MF yJ6_bitCount_0f7a4 cJ6_bitCount_0f7a4 1 (some .int) 1 := ⟨tw_370, tw_74, by decide +kernel, by decide +kernel, by decide +kernel⟩
theorem mf_X1_ofSuit : MF yX1_ofSuit cX1_ofSuit 2 (some .int) 2 := ⟨tw_376, tw_73, by decide +kernel, by decide +kernel, by decide +kernel⟩
theorem mf_X4_admits : MF yX4_admits cX4_admits 4 (some .boolean) 1 := ⟨tw_380, tw_66, by decide +kernel, by decide +kernel, by decide +kernel⟩
theorem mf_X1_handAfter : MF yX1_handAfter cX1_handAfter 2 (some .int) 1 := ⟨tw_384, tw_73, by decide +kernel, by decide +kernel, by decide +kernel⟩
theorem mf_J6_numberOfTrailingZeros_0f7a4 : MF yJ6_numberOfTrailingZeros_0f7a4 cJ6_numberOfTrailingZeros_0f7a4 2 (some .int) 1 := ⟨tw_387, tw_74, by decide +kernel, by decide +kernel, by decide +kernel⟩
theorem mf_X6_remove : MF yX6_remove cX6_remove 2 (some .int) 1 := ⟨tw_392, tw_55, by decide +kernel, by decide +kernel, by decide +kernel⟩
theorem mf_Jx4a65c_remove_915e3 : MF yJx4a65c_remove_915e3 cJx4a65c_remove_915e3 4 (some (.object "java/lang/Object")) 1 := ⟨tw_396, tw_58, by decide +kernel, by decide +kernel, by decide +kernel⟩
theorem mf_Jx4a65c_fastRemove_b59b0 : MF yJx4a65c_fastRemove_b59b0 cJx4a65c_fastRemove_b59b0 4 none 2 := ⟨tw_400, tw_58, by decide +kernel, by decide +kernel, by decide +kernel⟩
theorem mf_X6_move : MF yX6_move cX6_move 4 (some .int) 2 := ⟨tw_405, tw_55, by decide +kernel, by decide +kernel, by decide +kernel⟩
theorem mf_Jx4a65c_add_7a177 : MF yJx4a65c_add_7a177 cJx4a65c_add_7a177 5 none 2 := ⟨tw_409, tw_58, by decide +kernel, by decide +kernel, by decide +kernel⟩
theorem mf_Jx4a65c_rangeCheckForAdd_d00df : MF yJx4a65c_rangeCheckForAdd_d00df cJx4a65c_rangeCheckForAdd_d00df 2 none 1 := ⟨tw_413, tw_58, by decide +kernel, by decide +kernel, by decide +kernel⟩
theorem mf_X6_part : MF yX6_part cX6_part 3 (some .int) 2 := ⟨tw_417, tw_55, by decide +kernel, by decide +kernel, by decide +kernel⟩
theorem mf_X4_number : MF yX4_number cX4_number 2 (some .int) 1 := ⟨tw_421, tw_66, by decide +kernel, by decide +kernel, by decide +kernel⟩
theorem mf_X6_give : MF yX6_give cX6_give 4 (some .int) 2 := ⟨tw_425, tw_55, by decide +kernel, by decide +kernel, by decide +kernel⟩
theorem mf_X6_isPartner : MF yX6_isPartner cX6_isPartner 1 (some .boolean) 1 := ⟨tw_428, tw_55, by decide +kernel, by decide +kernel, by decide +kernel⟩
theorem mf_X1_isHand : MF yX1_isHand cX1_isHand 1 (some .boolean) 1 := ⟨tw_431, tw_73, by decide +kernel, by decide +kernel, by decide +kernel⟩
theorem mf_X1_isSet : MF yX1_isSet cX1_isSet 1 (some .boolean) 1 := ⟨tw_434, tw_73, by decide +kernel, by decide +kernel, by decide +kernel⟩
theorem mf_X6_handOf : MF yX6_handOf cX6_handOf 2 (some .int) 1 := ⟨tw_439, tw_55, by decide +kernel, by decide +kernel, by decide +kernel⟩
theorem mf_X6_draw : MF yX6_draw cX6_draw 6 (some .int) 1 := ⟨tw_443, tw_55, by decide +kernel, by decide +kernel, by decide +kernel⟩
theorem mf_X1_cardAt : MF yX1_cardAt cX1_cardAt 4 (some .int) 2 := ⟨tw_449, tw_73, by decide +kernel, by decide +kernel, by decide +kernel⟩
theorem mf_X6_hand : MF yX6_hand cX6_hand 3 (some .int) 2 := ⟨tw_453, tw_55, by decide +kernel, by decide +kernel, by decide +kernel⟩
theorem mf_X1_measure : MF yX1_measure cX1_measure 2 (some .int) 2 := ⟨tw_456, tw_73, by decide +kernel, by decide +kernel, by decide +kernel⟩
theorem mf_X6_begin : MF yX6_begin cX6_begin 2 (some .int) 0 := ⟨tw_460, tw_55, by decide +kernel, by decide +kernel, by decide +kernel⟩
theorem mf_X6_call : MF yX6_call cX6_call 3 (some .int) 0 := ⟨tw_464, tw_55, by decide +kernel, by decide +kernel, by decide +kernel⟩
theorem mf_X0_isOver : MF yX0_isOver cX0_isOver 1 (some .boolean) 0 := ⟨tw_468, tw_59, by decide +kernel, by decide +kernel, by decide +kernel⟩
theorem mf_X0_hasPass : MF yX0_hasPass cX0_hasPass 2 (some .boolean) 0 := ⟨tw_472, tw_59, by decide +kernel, by decide +kernel, by decide +kernel⟩
theorem mf_X0_turn : MF yX0_turn cX0_turn 1 (some .int) 0 := ⟨tw_479, tw_59, by decide +kernel, by decide +kernel, by decide +kernel⟩
theorem mf_X6_firstRule : MF yX6_firstRule cX6_firstRule 5 (some .int) 2 := ⟨tw_483, tw_55, by decide +kernel, by decide +kernel, by decide +kernel⟩
theorem mf_X4_isOpen : MF yX4_isOpen cX4_isOpen 2 (some .boolean) 1 := ⟨tw_487, tw_66, by decide +kernel, by decide +kernel, by decide +kernel⟩
theorem mf_X0_add : MF yX0_add cX0_add 3 none 2 := ⟨tw_491, tw_59, by decide +kernel, by decide +kernel, by decide +kernel⟩
theorem mf_X2_init : MF yX2_init cX2_init 4 none 3 := ⟨tw_495, tw_75, by decide +kernel, by decide +kernel, by decide +kernel⟩
theorem mf_X6_make : MF yX6_make cX6_make 3 (some .int) 1 := ⟨tw_515, tw_55, by decide +kernel, by decide +kernel, by decide +kernel⟩
theorem mf_X6_openRule : MF yX6_openRule cX6_openRule 4 (some .int) 1 := ⟨tw_519, tw_55, by decide +kernel, by decide +kernel, by decide +kernel⟩
theorem mf_X6_back : MF yX6_back cX6_back 1 (some .int) 0 := ⟨tw_523, tw_55, by decide +kernel, by decide +kernel, by decide +kernel⟩
theorem mf_X0_takeBack : MF yX0_takeBack cX0_takeBack 2 (some .boolean) 0 := ⟨tw_527, tw_59, by decide +kernel, by decide +kernel, by decide +kernel⟩
theorem mf_X6_made : MF yX6_made cX6_made 3 (some .int) 2 := ⟨tw_532, tw_55, by decide +kernel, by decide +kernel, by decide +kernel⟩
theorem mf_X2_number : MF yX2_number cX2_number 2 (some .int) 1 := ⟨tw_537, tw_75, by decide +kernel, by decide +kernel, by decide +kernel⟩
theorem mf_X6_state : MF yX6_state cX6_state 2 (some .int) 1 := ⟨tw_541, tw_55, by decide +kernel, by decide +kernel, by decide +kernel⟩
theorem mf_X0_ending : MF yX0_ending cX0_ending 1 (some .int) 0 := ⟨tw_545, tw_59, by decide +kernel, by decide +kernel, by decide +kernel⟩
theorem mf_J4_length_8abf5 : MF yJ4_length_8abf5 cJ4_length_8abf5 1 (some .int) 0 := ⟨tw_550, tw_62, by decide +kernel, by decide +kernel, by decide +kernel⟩
theorem mf_J5_length_8abf5 : MF yJ5_length_8abf5 cJ5_length_8abf5 1 (some .int) 0 := ⟨tw_553, tw_61, by decide +kernel, by decide +kernel, by decide +kernel⟩
theorem mf_X6_hands : MF yX6_hands cX6_hands 3 (some .int) 2 := ⟨tw_557, tw_55, by decide +kernel, by decide +kernel, by decide +kernel⟩
theorem mf_X6_countHidden : MF yX6_countHidden cX6_countHidden 6 (some .int) 2 := ⟨tw_562, tw_55, by decide +kernel, by decide +kernel, by decide +kernel⟩
theorem mf_X6_isHidden : MF yX6_isHidden cX6_isHidden 4 (some .boolean) 3 := ⟨tw_566, tw_55, by decide +kernel, by decide +kernel, by decide +kernel⟩
theorem mf_X6_fitsAuction : MF yX6_fitsAuction cX6_fitsAuction 6 (some .boolean) 2 := ⟨tw_570, tw_55, by decide +kernel, by decide +kernel, by decide +kernel⟩
theorem mf_X6_shown : MF yX6_shown cX6_shown 8 (some .int) 3 := ⟨tw_574, tw_55, by decide +kernel, by decide +kernel, by decide +kernel⟩
theorem mf_X1_shownNumber : MF yX1_shownNumber cX1_shownNumber 2 (some .int) 2 := ⟨tw_577, tw_73, by decide +kernel, by decide +kernel, by decide +kernel⟩
theorem mf_X1_joinShown : MF yX1_joinShown cX1_joinShown 3 (some .int) 3 := ⟨tw_581, tw_73, by decide +kernel, by decide +kernel, by decide +kernel⟩
theorem mf_X6_fits : MF yX6_fits cX6_fits 3 (some .int) 2 := ⟨tw_587, tw_55, by decide +kernel, by decide +kernel, by decide +kernel⟩
theorem mf_X6_ruleOf : MF yX6_ruleOf cX6_ruleOf 2 (some .int) 1 := ⟨tw_591, tw_55, by decide +kernel, by decide +kernel, by decide +kernel⟩
theorem mf_X6_reach : MF yX6_reach cX6_reach 2 (some .int) 1 := ⟨tw_595, tw_55, by decide +kernel, by decide +kernel, by decide +kernel⟩
theorem mf_X6_countWithRule : MF yX6_countWithRule cX6_countWithRule 6 (some .int) 2 := ⟨tw_601, tw_55, by decide +kernel, by decide +kernel, by decide +kernel⟩
theorem mf_X6_holes : MF yX6_holes cX6_holes 4 (some .int) 3 := ⟨tw_605, tw_55, by decide +kernel, by decide +kernel, by decide +kernel⟩
theorem mf_X6_tricks : MF yX6_tricks cX6_tricks 4 (some .int) 3 := ⟨tw_609, tw_55, by decide +kernel, by decide +kernel, by decide +kernel⟩
theorem mf_X6_isStrain : MF yX6_isStrain cX6_isStrain 1 (some .boolean) 1 := ⟨tw_612, tw_55, by decide +kernel, by decide +kernel, by decide +kernel⟩
theorem mf_X1_tricksOf : MF yX1_tricksOf cX1_tricksOf 5 (some .int) 3 := ⟨tw_615, tw_73, by decide +kernel, by decide +kernel, by decide +kernel⟩
theorem mf_X1_winners : MF yX1_winners cX1_winners 5 (some .int) 2 := ⟨tw_618, tw_73, by decide +kernel, by decide +kernel, by decide +kernel⟩
theorem mf_X1_ruffs : MF yX1_ruffs cX1_ruffs 5 (some .int) 4 := ⟨tw_621, tw_73, by decide +kernel, by decide +kernel, by decide +kernel⟩
theorem mf_X6_expected : MF yX6_expected cX6_expected 3 (some .long) 2 := ⟨tw_625, tw_55, by decide +kernel, by decide +kernel, by decide +kernel⟩
theorem mf_X6_sumOfTricks : MF yX6_sumOfTricks cX6_sumOfTricks 8 (some .long) 2 := ⟨tw_631, tw_55, by decide +kernel, by decide +kernel, by decide +kernel⟩
theorem mf_X6_contract : MF yX6_contract cX6_contract 9 (some .int) 1 := ⟨tw_635, tw_55, by decide +kernel, by decide +kernel, by decide +kernel⟩
theorem mf_X6_put : MF yX6_put cX6_put 7 (some .int) 1 := ⟨tw_639, tw_55, by decide +kernel, by decide +kernel, by decide +kernel⟩
theorem mf_X6_isCharacter : MF yX6_isCharacter cX6_isCharacter 1 (some .boolean) 1 := ⟨tw_643, tw_55, by decide +kernel, by decide +kernel, by decide +kernel⟩
theorem mf_J4_append_cf468 : MF yJ4_append_cf468 cJ4_append_cf468 2 (some (.object "java/lang/StringBuilder")) 1 := ⟨tw_647, tw_62, by decide +kernel, by decide +kernel, by decide +kernel⟩
theorem mf_J5_append_3fe6f : MF yJ5_append_3fe6f cJ5_append_3fe6f 2 (some (.object "java/lang/AbstractStringBuilder")) 1 := ⟨tw_650, tw_61, by decide +kernel, by decide +kernel, by decide +kernel⟩
theorem mf_J5_ensureCapacityInternal_d00df : MF yJ5_ensureCapacityInternal_d00df cJ5_ensureCapacityInternal_d00df 3 none 1 := ⟨tw_654, tw_61, by decide +kernel, by decide +kernel, by decide +kernel⟩
theorem mf_J5_newCapacity_0f7a4 : MF yJ5_newCapacity_0f7a4 cJ5_newCapacity_0f7a4 6 (some .int) 1 := ⟨tw_658, tw_61, by decide +kernel, by decide +kernel, by decide +kernel⟩
theorem mf_J7_copyOf_9075b : MF yJ7_copyOf_9075b cJ7_copyOf_9075b 3 (some (.array .byte)) 2 := ⟨tw_663, tw_71, by decide +kernel, by decide +kernel, by decide +kernel⟩
theorem mf_J5_isLatin1_aae02 : MF yJ5_isLatin1_aae02 cJ5_isLatin1_aae02 1 (some .boolean) 0 := ⟨tw_675, tw_61, by decide +kernel, by decide +kernel, by decide +kernel⟩
theorem mf_J1_canEncode_fc78d : MF yJ1_canEncode_fc78d cJ1_canEncode_fc78d 1 (some .boolean) 1 := ⟨tw_678, tw_76, by decide +kernel, by decide +kernel, by decide +kernel⟩
theorem mf_J5_inflate_da8c8 : MF yJ5_inflate_da8c8 cJ5_inflate_da8c8 2 none 0 := ⟨tw_682, tw_61, by decide +kernel, by decide +kernel, by decide +kernel⟩
theorem mf_J1_inflate_0e8fd : MF yJ1_inflate_0e8fd cJ1_inflate_0e8fd 5 none 5 := ⟨tw_685, tw_76, by decide +kernel, by decide +kernel, by decide +kernel⟩
theorem mf_J2_inflate_0e8fd : MF yJ2_inflate_0e8fd cJ2_inflate_0e8fd 6 none 5 := ⟨tw_688, tw_64, by decide +kernel, by decide +kernel, by decide +kernel⟩
theorem mf_J2_checkBoundsOffCount_d044e : MF yJ2_checkBoundsOffCount_d044e cJ2_checkBoundsOffCount_d044e 3 none 3 := ⟨tw_691, tw_64, by decide +kernel, by decide +kernel, by decide +kernel⟩
theorem mf_J2_length_9d52b : MF yJ2_length_9d52b cJ2_length_9d52b 1 (some .int) 1 := ⟨tw_694, tw_64, by decide +kernel, by decide +kernel, by decide +kernel⟩
theorem mf_J0_checkBoundsOffCount_cabcc : MF yJ0_checkBoundsOffCount_cabcc cJ0_checkBoundsOffCount_cabcc 3 (some .int) 3 := ⟨tw_697, tw_63, by decide +kernel, by decide +kernel, by decide +kernel⟩
theorem mf_J3_checkFromIndexSize_8c36e : MF yJ3_checkFromIndexSize_8c36e cJ3_checkFromIndexSize_8c36e 4 (some .int) 4 := ⟨tw_702, tw_68, by decide +kernel, by decide +kernel, by decide +kernel⟩
theorem mf_J2_putChar_b72d1 : MF yJ2_putChar_b72d1 cJ2_putChar_b72d1 3 none 3 := ⟨tw_705, tw_64, by decide +kernel, by decide +kernel, by decide +kernel⟩
theorem mf_J2_putCharSB_b72d1 : MF yJ2_putCharSB_b72d1 cJ2_putCharSB_b72d1 3 none 3 := ⟨tw_714, tw_64, by decide +kernel, by decide +kernel, by decide +kernel⟩
theorem mf_J2_checkIndex_2214a : MF yJ2_checkIndex_2214a cJ2_checkIndex_2214a 2 none 2 := ⟨tw_717, tw_64, by decide +kernel, by decide +kernel, by decide +kernel⟩
theorem mf_J0_checkIndex_df160 : MF yJ0_checkIndex_df160 cJ0_checkIndex_df160 2 none 2 := ⟨tw_720, tw_63, by decide +kernel, by decide +kernel, by decide +kernel⟩
theorem mf_X6_wipe : MF yX6_wipe cX6_wipe 2 (some .int) 0 := ⟨tw_725, tw_55, by decide +kernel, by decide +kernel, by decide +kernel⟩
theorem mf_J4_setLength_d00df : MF yJ4_setLength_d00df cJ4_setLength_d00df 2 none 1 := ⟨tw_729, tw_62, by decide +kernel, by decide +kernel, by decide +kernel⟩
theorem mf_J5_setLength_d00df : MF yJ5_setLength_d00df cJ5_setLength_d00df 2 none 1 := ⟨tw_732, tw_61, by decide +kernel, by decide +kernel, by decide +kernel⟩
theorem mf_J1_fillNull_b72d1 : MF yJ1_fillNull_b72d1 cJ1_fillNull_b72d1 3 none 3 := ⟨tw_735, tw_76, by decide +kernel, by decide +kernel, by decide +kernel⟩
theorem mf_J7_fill_eb02e : MF yJ7_fill_eb02e cJ7_fill_eb02e 5 none 4 := ⟨tw_738, tw_71, by decide +kernel, by decide +kernel, by decide +kernel⟩
theorem mf_J7_rangeCheck_23922 : MF yJ7_rangeCheck_23922 cJ7_rangeCheck_23922 3 none 3 := ⟨tw_741, tw_71, by decide +kernel, by decide +kernel, by decide +kernel⟩
theorem mf_J2_fillNull_b72d1 : MF yJ2_fillNull_b72d1 cJ2_fillNull_b72d1 3 none 3 := ⟨tw_744, tw_64, by decide +kernel, by decide +kernel, by decide +kernel⟩
theorem mf_X6_fault : MF yX6_fault cX6_fault 2 (some .int) 0 := ⟨tw_749, tw_55, by decide +kernel, by decide +kernel, by decide +kernel⟩
theorem mf_X5_init : MF yX5_init cX5_init 2 none 1 := ⟨tw_754, tw_77, by decide +kernel, by decide +kernel, by decide +kernel⟩
theorem mf_X5_readsWhole : MF yX5_readsWhole cX5_readsWhole 3 (some .boolean) 0 := ⟨tw_776, tw_77, by decide +kernel, by decide +kernel, by decide +kernel⟩
theorem mf_X5_readsHead : MF yX5_readsHead cX5_readsHead 1 (some .boolean) 0 := ⟨tw_780, tw_77, by decide +kernel, by decide +kernel, by decide +kernel⟩
theorem mf_X5_readDigit : MF yX5_readDigit cX5_readDigit 4 (some .int) 2 := ⟨tw_784, tw_77, by decide +kernel, by decide +kernel, by decide +kernel⟩
theorem mf_X5_sign : MF yX5_sign cX5_sign 1 (some .int) 0 := ⟨tw_788, tw_77, by decide +kernel, by decide +kernel, by decide +kernel⟩
theorem mf_J4_charAt_5068e : MF yJ4_charAt_5068e cJ4_charAt_5068e 2 (some .char) 1 := ⟨tw_793, tw_62, by decide +kernel, by decide +kernel, by decide +kernel⟩
theorem mf_J5_charAt_5068e : MF yJ5_charAt_5068e cJ5_charAt_5068e 5 (some .char) 1 := ⟨tw_796, tw_61, by decide +kernel, by decide +kernel, by decide +kernel⟩
theorem mf_J2_getChar_3b067 : MF yJ2_getChar_3b067 cJ2_getChar_3b067 2 (some .char) 2 := ⟨tw_801, tw_64, by decide +kernel, by decide +kernel, by decide +kernel⟩
theorem mf_X5_reads : MF yX5_reads cX5_reads 2 (some .boolean) 1 := ⟨tw_805, tw_77, by decide +kernel, by decide +kernel, by decide +kernel⟩
theorem mf_X5_readCall : MF yX5_readCall cX5_readCall 3 (some .int) 0 := ⟨tw_809, tw_77, by decide +kernel, by decide +kernel, by decide +kernel⟩
theorem mf_X5_suitOfSign : MF yX5_suitOfSign cX5_suitOfSign 1 (some .int) 0 := ⟨tw_813, tw_77, by decide +kernel, by decide +kernel, by decide +kernel⟩
theorem mf_X5_readKind : MF yX5_readKind cX5_readKind 2 (some .int) 0 := ⟨tw_817, tw_77, by decide +kernel, by decide +kernel, by decide +kernel⟩
theorem mf_X5_readsRange : MF yX5_readsRange cX5_readsRange 5 (some .boolean) 1 := ⟨tw_821, tw_77, by decide +kernel, by decide +kernel, by decide +kernel⟩
theorem mf_X5_readNumber : MF yX5_readNumber cX5_readNumber 4 (some .int) 1 := ⟨tw_826, tw_77, by decide +kernel, by decide +kernel, by decide +kernel⟩
theorem mf_X6_load : MF yX6_load cX6_load 3 (some .int) 0 := ⟨tw_832, tw_55, by decide +kernel, by decide +kernel, by decide +kernel⟩
theorem mf_X7_init : MF yX7_init cX7_init 3 none 0 := ⟨tw_837, tw_65, by decide +kernel, by decide +kernel, by decide +kernel⟩
theorem mf_X7_anew : MF yX7_anew cX7_anew 1 none 0 := ⟨tw_842, tw_65, by decide +kernel, by decide +kernel, by decide +kernel⟩
theorem mf_X7_rule : MF yX7_rule cX7_rule 5 (some .int) 4 := ⟨tw_906, tw_65, by decide +kernel, by decide +kernel, by decide +kernel⟩
theorem mf_X7_in : MF yX7_in cX7_in 3 (some .boolean) 3 := ⟨tw_909, tw_65, by decide +kernel, by decide +kernel, by decide +kernel⟩
theorem mf_X7_clearFresh : MF yX7_clearFresh cX7_clearFresh 2 none 0 := ⟨tw_913, tw_65, by decide +kernel, by decide +kernel, by decide +kernel⟩
theorem mf_X7_addFresh : MF yX7_addFresh cX7_addFresh 2 (some .int) 0 := ⟨tw_917, tw_65, by decide +kernel, by decide +kernel, by decide +kernel⟩
theorem mf_X7_isThere : MF yX7_isThere cX7_isThere 5 (some .boolean) 2 := ⟨tw_921, tw_65, by decide +kernel, by decide +kernel, by decide +kernel⟩
theorem mf_X7_of : MF yX7_of cX7_of 3 (some .int) 2 := ⟨tw_925, tw_65, by decide +kernel, by decide +kernel, by decide +kernel⟩
theorem mf_X7_limit : MF yX7_limit cX7_limit 7 (some .int) 4 := ⟨tw_929, tw_65, by decide +kernel, by decide +kernel, by decide +kernel⟩
theorem mf_X7_isRule : MF yX7_isRule cX7_isRule 2 (some .boolean) 1 := ⟨tw_933, tw_65, by decide +kernel, by decide +kernel, by decide +kernel⟩
theorem mf_X7_fitsRule : MF yX7_fitsRule cX7_fitsRule 5 (some .boolean) 2 := ⟨tw_938, tw_65, by decide +kernel, by decide +kernel, by decide +kernel⟩
theorem mf_X7_strength : MF yX7_strength cX7_strength 4 (some .int) 1 := ⟨tw_942, tw_65, by decide +kernel, by decide +kernel, by decide +kernel⟩
theorem mf_X7_length : MF yX7_length cX7_length 3 (some .int) 2 := ⟨tw_946, tw_65, by decide +kernel, by decide +kernel, by decide +kernel⟩
theorem mf_X7_nextHand : MF yX7_nextHand cX7_nextHand 3 (some .int) 1 := ⟨tw_949, tw_65, by decide +kernel, by decide +kernel, by decide +kernel⟩
theorem mf_X7_remove : MF yX7_remove cX7_remove 2 (some .int) 1 := ⟨tw_953, tw_65, by decide +kernel, by decide +kernel, by decide +kernel⟩
theorem mf_X7_takeOut : MF yX7_takeOut cX7_takeOut 3 none 1 := ⟨tw_957, tw_65, by decide +kernel, by decide +kernel, by decide +kernel⟩
theorem mf_X7_move : MF yX7_move cX7_move 4 (some .int) 2 := ⟨tw_961, tw_65, by decide +kernel, by decide +kernel, by decide +kernel⟩
theorem mf_X7_part : MF yX7_part cX7_part 3 (some .int) 2 := ⟨tw_965, tw_65, by decide +kernel, by decide +kernel, by decide +kernel⟩
theorem mf_X7_give : MF yX7_give cX7_give 4 (some .int) 2 := ⟨tw_969, tw_65, by decide +kernel, by decide +kernel, by decide +kernel⟩
theorem mf_X7_isPartner : MF yX7_isPartner cX7_isPartner 1 (some .boolean) 1 := ⟨tw_972, tw_65, by decide +kernel, by decide +kernel, by decide +kernel⟩
theorem mf_X7_isHand : MF yX7_isHand cX7_isHand 2 (some .boolean) 1 := ⟨tw_976, tw_65, by decide +kernel, by decide +kernel, by decide +kernel⟩
theorem mf_X7_size : MF yX7_size cX7_size 4 (some .int) 1 := ⟨tw_980, tw_65, by decide +kernel, by decide +kernel, by decide +kernel⟩
theorem mf_X7_draw : MF yX7_draw cX7_draw 6 (some .int) 1 := ⟨tw_984, tw_65, by decide +kernel, by decide +kernel, by decide +kernel⟩
theorem mf_X7_cardLeft : MF yX7_cardLeft cX7_cardLeft 4 (some .int) 2 := ⟨tw_989, tw_65, by decide +kernel, by decide +kernel, by decide +kernel⟩
theorem mf_X7_hand : MF yX7_hand cX7_hand 3 (some .int) 2 := ⟨tw_993, tw_65, by decide +kernel, by decide +kernel, by decide +kernel⟩
theorem mf_X7_begin : MF yX7_begin cX7_begin 2 (some .int) 0 := ⟨tw_997, tw_65, by decide +kernel, by decide +kernel, by decide +kernel⟩
theorem mf_X7_call : MF yX7_call cX7_call 2 (some .int) 0 := ⟨tw_1001, tw_65, by decide +kernel, by decide +kernel, by decide +kernel⟩
theorem mf_X7_isOver : MF yX7_isOver cX7_isOver 1 (some .boolean) 0 := ⟨tw_1005, tw_65, by decide +kernel, by decide +kernel, by decide +kernel⟩
theorem mf_X7_ruleFor : MF yX7_ruleFor cX7_ruleFor 6 (some .int) 4 := ⟨tw_1009, tw_65, by decide +kernel, by decide +kernel, by decide +kernel⟩
theorem mf_X7_isOpen : MF yX7_isOpen cX7_isOpen 6 (some .boolean) 4 := ⟨tw_1013, tw_65, by decide +kernel, by decide +kernel, by decide +kernel⟩
theorem mf_X7_callBy : MF yX7_callBy cX7_callBy 4 none 1 := ⟨tw_1017, tw_65, by decide +kernel, by decide +kernel, by decide +kernel⟩
theorem mf_X7_make : MF yX7_make cX7_make 4 (some .int) 1 := ⟨tw_1021, tw_65, by decide +kernel, by decide +kernel, by decide +kernel⟩
theorem mf_X7_back : MF yX7_back cX7_back 1 (some .int) 0 := ⟨tw_1025, tw_65, by decide +kernel, by decide +kernel, by decide +kernel⟩
theorem mf_X7_made : MF yX7_made cX7_made 3 (some .int) 2 := ⟨tw_1029, tw_65, by decide +kernel, by decide +kernel, by decide +kernel⟩
theorem mf_X7_state : MF yX7_state cX7_state 2 (some .int) 1 := ⟨tw_1033, tw_65, by decide +kernel, by decide +kernel, by decide +kernel⟩
theorem mf_X7_hands : MF yX7_hands cX7_hands 5 (some .int) 2 := ⟨tw_1037, tw_65, by decide +kernel, by decide +kernel, by decide +kernel⟩
theorem mf_X7_fitsAuction : MF yX7_fitsAuction cX7_fitsAuction 5 (some .boolean) 2 := ⟨tw_1041, tw_65, by decide +kernel, by decide +kernel, by decide +kernel⟩
theorem mf_X7_shown : MF yX7_shown cX7_shown 7 (some .int) 3 := ⟨tw_1045, tw_65, by decide +kernel, by decide +kernel, by decide +kernel⟩
theorem mf_X7_shownOf : MF yX7_shownOf cX7_shownOf 3 (some .int) 2 := ⟨tw_1049, tw_65, by decide +kernel, by decide +kernel, by decide +kernel⟩
theorem mf_X7_joined : MF yX7_joined cX7_joined 4 (some .int) 3 := ⟨tw_1052, tw_65, by decide +kernel, by decide +kernel, by decide +kernel⟩
theorem mf_X7_fits : MF yX7_fits cX7_fits 3 (some .int) 2 := ⟨tw_1056, tw_65, by decide +kernel, by decide +kernel, by decide +kernel⟩
theorem mf_X7_ruleOf : MF yX7_ruleOf cX7_ruleOf 2 (some .int) 1 := ⟨tw_1060, tw_65, by decide +kernel, by decide +kernel, by decide +kernel⟩
theorem mf_X7_reach : MF yX7_reach cX7_reach 2 (some .int) 1 := ⟨tw_1064, tw_65, by decide +kernel, by decide +kernel, by decide +kernel⟩
theorem mf_X7_manyWith : MF yX7_manyWith cX7_manyWith 7 (some .int) 4 := ⟨tw_1068, tw_65, by decide +kernel, by decide +kernel, by decide +kernel⟩
theorem mf_X7_holes : MF yX7_holes cX7_holes 4 (some .int) 3 := ⟨tw_1072, tw_65, by decide +kernel, by decide +kernel, by decide +kernel⟩
theorem mf_X7_tricks : MF yX7_tricks cX7_tricks 4 (some .int) 3 := ⟨tw_1076, tw_65, by decide +kernel, by decide +kernel, by decide +kernel⟩
theorem mf_X7_tricksOf : MF yX7_tricksOf cX7_tricksOf 6 (some .int) 3 := ⟨tw_1080, tw_65, by decide +kernel, by decide +kernel, by decide +kernel⟩
theorem mf_X7_winners : MF yX7_winners cX7_winners 7 (some .int) 3 := ⟨tw_1084, tw_65, by decide +kernel, by decide +kernel, by decide +kernel⟩
theorem mf_X7_ruffs : MF yX7_ruffs cX7_ruffs 5 (some .boolean) 4 := ⟨tw_1088, tw_65, by decide +kernel, by decide +kernel, by decide +kernel⟩
theorem mf_X7_expected : MF yX7_expected cX7_expected 3 (some .long) 2 := ⟨tw_1092, tw_65, by decide +kernel, by decide +kernel, by decide +kernel⟩
theorem mf_X7_laySums : MF yX7_laySums cX7_laySums 5 none 1 := ⟨tw_1098, tw_65, by decide +kernel, by decide +kernel, by decide +kernel⟩
theorem mf_X7_contract : MF yX7_contract cX7_contract 4 (some .int) 1 := ⟨tw_1102, tw_65, by decide +kernel, by decide +kernel, by decide +kernel⟩
theorem mf_X7_put : MF yX7_put cX7_put 7 (some .int) 1 := ⟨tw_1106, tw_65, by decide +kernel, by decide +kernel, by decide +kernel⟩
theorem mf_X7_wipe : MF yX7_wipe cX7_wipe 2 (some .int) 0 := ⟨tw_1111, tw_65, by decide +kernel, by decide +kernel, by decide +kernel⟩
theorem mf_X7_fault : MF yX7_fault cX7_fault 3 (some .int) 0 := ⟨tw_1115, tw_65, by decide +kernel, by decide +kernel, by decide +kernel⟩
theorem mf_X7_takeOne : MF yX7_takeOne cX7_takeOne 4 (some .int) 2 := ⟨tw_1119, tw_65, by decide +kernel, by decide +kernel, by decide +kernel⟩
theorem mf_X7_next : MF yX7_next cX7_next 1 (some .int) 0 := ⟨tw_1123, tw_65, by decide +kernel, by decide +kernel, by decide +kernel⟩
theorem mf_X7_takeCall : MF yX7_takeCall cX7_takeCall 3 none 0 := ⟨tw_1127, tw_65, by decide +kernel, by decide +kernel, by decide +kernel⟩
theorem mf_X7_suitBy : MF yX7_suitBy cX7_suitBy 1 (some .int) 1 := ⟨tw_1130, tw_65, by decide +kernel, by decide +kernel, by decide +kernel⟩
theorem mf_X7_takeCondition : MF yX7_takeCondition cX7_takeCondition 7 (some .int) 1 := ⟨tw_1134, tw_65, by decide +kernel, by decide +kernel, by decide +kernel⟩
theorem mf_X7_takeNumber : MF yX7_takeNumber cX7_takeNumber 3 (some .int) 1 := ⟨tw_1138, tw_65, by decide +kernel, by decide +kernel, by decide +kernel⟩
theorem mf_X7_load : MF yX7_load cX7_load 2 (some .int) 0 := ⟨tw_1142, tw_65, by decide +kernel, by decide +kernel, by decide +kernel⟩
end
section
/-! numbers -/
theorem n_and (a b : Nat) : nI a &&& nI b = nI (a &&& b) := by
  apply Int32.toBitVec_inj.1
  show BitVec.ofNat 32 a &&& BitVec.ofNat 32 b = BitVec.ofNat 32 (a &&& b)
  apply BitVec.eq_of_getLsbD_eq
  intro i hi
  simp [hi]
theorem n_or (a b : Nat) : nI a ||| nI b = nI (a ||| b) := by
  apply Int32.toBitVec_inj.1
  show BitVec.ofNat 32 a ||| BitVec.ofNat 32 b = BitVec.ofNat 32 (a ||| b)
  apply BitVec.eq_of_getLsbD_eq
  intro i hi
  simp [hi]
theorem n_xor (a b : Nat) : nI a ^^^ nI b = nI (a ^^^ b) := by
  apply Int32.toBitVec_inj.1
  show BitVec.ofNat 32 a ^^^ BitVec.ofNat 32 b = BitVec.ofNat 32 (a ^^^ b)
  apply BitVec.eq_of_getLsbD_eq
  intro i hi
  simp [hi]
theorem n_neg (a : Nat) (h : a ≤ 4294967296) : - nI a = nI (4294967296 - a) := by
  apply Int32.toBitVec_inj.1
  show - BitVec.ofNat 32 a = BitVec.ofNat 32 (4294967296 - a)
  apply BitVec.eq_of_toNat_eq
  rw [BitVec.toNat_neg, BitVec.toNat_ofNat, BitVec.toNat_ofNat]
  omega
theorem n_of {x : Int32} (h : 0 ≤ x.toInt) : ∃ j : Nat, j < 2 ^ 31 ∧ x = nI j := nI_of (fun q => by
  rw [Int32.lt_iff_toInt_lt] at q
  have : (0 : Int32).toInt = 0 := by decide
  omega)
theorem k_eq {a b : Nat} (ha : a < 2 ^ 31) (hb : b < 2 ^ 31) (h : nI a = nI b) : a = b := (nI_eq ha hb).mp h
theorem k_ne {a b : Nat} (ha : a < 2 ^ 31) (hb : b < 2 ^ 31) (h : ¬ nI a = nI b) : a ≠ b := fun q => h ((nI_eq ha hb).mpr q)
theorem k_lt {a b : Nat} (ha : a < 2 ^ 31) (hb : b < 2 ^ 31) (h : nI a < nI b) : a < b := (nI_ltI ha hb).mp h
theorem k_nlt {a b : Nat} (ha : a < 2 ^ 31) (hb : b < 2 ^ 31) (h : ¬ nI a < nI b) : b ≤ a := Nat.not_lt.mp (fun q => h ((nI_ltI ha hb).mpr q))
theorem k_le {a b : Nat} (ha : a < 2 ^ 31) (hb : b < 2 ^ 31) (h : nI a ≤ nI b) : a ≤ b := (nI_leI ha hb).mp h
theorem k_nle {a b : Nat} (ha : a < 2 ^ 31) (hb : b < 2 ^ 31) (h : ¬ nI a ≤ nI b) : b < a := Nat.not_le.mp (fun q => h ((nI_leI ha hb).mpr q))
/-! hands as sets of cards -/
def pc5 (x : Nat) : Nat := x % 2 + x / 2 % 2 + x / 4 % 2 + x / 8 % 2 + x / 16 % 2
def st5 (x : Nat) : Nat := x / 2 % 2 + 2 * (x / 4 % 2) + 3 * (x / 8 % 2) + 4 * (x / 16 % 2)
/-- the cards of a suit -/
def su (h s : Nat) : Nat := h / 32 ^ s % 32
def lenH (h s : Nat) : Nat := pc5 (su h s)
def strH (h : Nat) : Nat := st5 (su h 0) + st5 (su h 1) + st5 (su h 2) + st5 (su h 3)
def sizeH (h : Nat) : Nat := lenH h 0 + lenH h 1 + lenH h 2 + lenH h 3
theorem su_lt (h s : Nat) : su h s < 32 := Nat.mod_lt _ (by decide)
theorem pc5_le (x : Nat) : pc5 x ≤ 5 := by unfold pc5; omega
theorem st5_le (x : Nat) : st5 x ≤ 10 := by unfold st5; omega
theorem lenH_le (h s : Nat) : lenH h s ≤ 5 := pc5_le _
theorem strH_le (h : Nat) : strH h ≤ 40 := by
  have := st5_le (su h 0); have := st5_le (su h 1); have := st5_le (su h 2); have := st5_le (su h 3)
  unfold strH
  omega
/-! the count of bits -/
def bcN (x : Nat) : Nat :=
  let a := x - (x / 2 &&& 1431655765)
  let b := (a &&& 858993459) + (a / 4 &&& 858993459)
  let c := (b + b / 16) &&& 252645135
  let d := c + c / 256
  let e := d + d / 65536
  e &&& 63
theorem and16 (a y m M : Nat) (ha : a < 16) (hm : m < 16) : (a + 16 * y) &&& (m + 16 * M) = (a &&& m) + 16 * (y &&& M) := by
  have h1 : ((a + 16 * y) &&& (m + 16 * M)) % 16 = a &&& m := by
    have := Nat.and_mod_two_pow (a := a + 16 * y) (b := m + 16 * M) (n := 4)
    rw [show (2 : Nat) ^ 4 = 16 from rfl] at this
    rw [this, show (a + 16 * y) % 16 = a by omega, show (m + 16 * M) % 16 = m by omega]
  have h2 : ((a + 16 * y) &&& (m + 16 * M)) / 16 = y &&& M := by
    have := Nat.shiftRight_and_distrib (a := a + 16 * y) (b := m + 16 * M) (i := 4)
    rw [Nat.shiftRight_eq_div_pow, Nat.shiftRight_eq_div_pow, Nat.shiftRight_eq_div_pow, show (2 : Nat) ^ 4 = 16 from rfl] at this
    rw [this, show (a + 16 * y) / 16 = y by omega, show (m + 16 * M) / 16 = M by omega]
  omega
def s1 (x M : Nat) : Nat := x - (x / 2 &&& M)
def s2 (x M : Nat) : Nat := (x &&& M) + (x / 4 &&& M)
def q1 (a : Nat) : Nat := a - (a / 2 &&& 5)
def q2 (a : Nat) : Nat := (a &&& 3) + (a / 4 &&& 3)
theorem s1_16 (a y M : Nat) (ha : a < 16) : s1 (a + 16 * y) (5 + 16 * M) = q1 a + 16 * s1 y M := by
  have e : (a + 16 * y) / 2 = (a / 2 + 8 * (y % 2)) + 16 * (y / 2) := by omega
  have k : ∀ a, a < 16 → ∀ b, b < 2 → ((a / 2 + 8 * b) &&& 5) = (a / 2 &&& 5) ∧ (a / 2 &&& 5) ≤ a := by decide
  have k2 := k a ha (y % 2) (by omega)
  have k3 : (y / 2 &&& M) ≤ y := Nat.le_trans Nat.and_le_left (by omega)
  unfold s1 q1
  rw [e, and16 _ _ _ _ (by omega) (by decide), k2.1]
  have := k2.2
  omega
theorem s2_16 (a y M : Nat) (ha : a < 16) : s2 (a + 16 * y) (3 + 16 * M) = q2 a + 16 * s2 y M := by
  have e : (a + 16 * y) / 4 = (a / 4 + 4 * (y % 4)) + 16 * (y / 4) := by omega
  have k : ∀ a, a < 16 → ∀ b, b < 4 → ((a / 4 + 4 * b) &&& 3) = (a / 4 &&& 3) := by decide
  unfold s2 q2
  rw [e, and16 _ _ _ _ ha (by decide), and16 _ _ _ _ (by omega) (by decide), k a ha (y % 4) (by omega)]
  omega
def p4 (a : Nat) : Nat := a % 2 + a / 2 % 2 + a / 4 % 2 + a / 8 % 2
theorem q12 : ∀ a, a < 16 → q1 a < 16 ∧ q2 (q1 a) = p4 a := by decide
theorem bc_fin : ∀ a, a < 5 → ∀ b, b < 5 → ∀ c, c < 5 → ∀ d, d < 5 → ∀ e, e < 5 →
    (let v := a + 16 * (b + 16 * (c + 16 * (d + 16 * e)))
     let c := (v + v / 16) &&& 252645135
     let d := c + c / 256
     let e := d + d / 65536
     e &&& 63) = a + b + c + d + e := by decide +kernel
theorem p4_lt (a : Nat) : p4 a < 5 := by unfold p4; omega
theorem bcN_nib (a b c d e : Nat) (ha : a < 16) (hb : b < 16) (hc : c < 16) (hd : d < 16) (he : e < 16) : bcN (a + 16 * (b + 16 * (c + 16 * (d + 16 * e)))) = p4 a + p4 b + p4 c + p4 d + p4 e := by
  have h1 : s1 (a + 16 * (b + 16 * (c + 16 * (d + 16 * e)))) 1431655765 = q1 a + 16 * (q1 b + 16 * (q1 c + 16 * (q1 d + 16 * q1 e))) := by
    rw [show (1431655765 : Nat) = 5 + 16 * (5 + 16 * (5 + 16 * (5 + 16 * (5 + 16 * 1365)))) from rfl, s1_16 _ _ _ ha, s1_16 _ _ _ hb, s1_16 _ _ _ hc, s1_16 _ _ _ hd, show e = e + 16 * 0 by omega, s1_16 _ _ _ he]
    rfl
  have h2 : s2 (q1 a + 16 * (q1 b + 16 * (q1 c + 16 * (q1 d + 16 * q1 e)))) 858993459 = p4 a + 16 * (p4 b + 16 * (p4 c + 16 * (p4 d + 16 * p4 e))) := by
    have z : q1 e = q1 e + 16 * 0 := by omega
    rw [show (858993459 : Nat) = 3 + 16 * (3 + 16 * (3 + 16 * (3 + 16 * (3 + 16 * 819)))) from rfl, s2_16 _ _ _ (q12 a ha).1, s2_16 _ _ _ (q12 b hb).1, s2_16 _ _ _ (q12 c hc).1, s2_16 _ _ _ (q12 d hd).1, z, s2_16 _ _ _ (q12 e he).1, (q12 a ha).2, (q12 b hb).2, (q12 c hc).2, (q12 d hd).2, (q12 e he).2]
    rfl
  have h3 := bc_fin (p4 a) (p4_lt a) (p4 b) (p4_lt b) (p4 c) (p4_lt c) (p4 d) (p4_lt d) (p4 e) (p4_lt e)
  show (let b' := s2 (s1 (a + 16 * (b + 16 * (c + 16 * (d + 16 * e)))) 1431655765) 858993459
     let c := (b' + b' / 16) &&& 252645135
     let d := c + c / 256
     let e := d + d / 65536
     e &&& 63) = _
  rw [h1, h2]
  exact h3
theorem m32_0 (y : Nat) : y % 32 % 2 = y % 2 := by omega
theorem m32_1 (y : Nat) : y % 32 / 2 % 2 = y / 2 % 2 := by omega
theorem m32_2 (y : Nat) : y % 32 / 4 % 2 = y / 4 % 2 := by omega
theorem m32_3 (y : Nat) : y % 32 / 8 % 2 = y / 8 % 2 := by omega
theorem m32_4 (y : Nat) : y % 32 / 16 % 2 = y / 16 % 2 := by omega
theorem m16_0 (y : Nat) : y % 16 % 2 = y % 2 := by omega
theorem m16_1 (y : Nat) : y % 16 / 2 % 2 = y / 2 % 2 := by omega
theorem m16_2 (y : Nat) : y % 16 / 4 % 2 = y / 4 % 2 := by omega
theorem m16_3 (y : Nat) : y % 16 / 8 % 2 = y / 8 % 2 := by omega
theorem bc_size (x : Nat) (h : x < 1048576) : bcN x = sizeH x := by
  have e : x = x % 16 + 16 * (x / 16 % 16 + 16 * (x / 256 % 16 + 16 * (x / 4096 % 16 + 16 * (x / 65536 % 16)))) := by omega
  have k := bcN_nib (x % 16) (x / 16 % 16) (x / 256 % 16) (x / 4096 % 16) (x / 65536 % 16) (by omega) (by omega) (by omega) (by omega) (by omega)
  rw [← e] at k
  rw [k]
  clear k e h
  unfold sizeH lenH su pc5 p4
  simp only [m32_0, m32_1, m32_2, m32_3, m32_4, m16_0, m16_1, m16_2, m16_3, Nat.reducePow, Nat.div_div_eq_div_mul, Nat.reduceMul, Nat.div_one]
  omega
end
section
/-! all hands, one behind the other -/
def lowb (h : Nat) : Nat := h &&& (4294967296 - h)
def upN (h : Nat) : Nat := h + lowb h
def nhN (h : Nat) : Nat := upN h ||| ((h ^^^ upN h) / lowb h / 4)
def tzN (j : Nat) : Nat := if j = 0 then 0 else
  let a := if 65536 < j then (17, j / 65536) else (1, j)
  let b := if 256 < a.2 then (a.1 + 8, a.2 / 256) else a
  let c := if 16 < b.2 then (b.1 + 4, b.2 / 16) else b
  let d := if 4 < c.2 then (c.1 + 2, c.2 / 4) else c
  d.1 + d.2 / 2
def jN (h : Nat) : Nat := (h ^^^ 4294967295) &&& (h - 1)
def nhA (h : Nat) : Nat := upN h ||| ((h ^^^ upN h) / 2 ^ (2 + tzN (jN h)))
def ckS (h : Nat) : Bool := Nat.ble 31 h && Nat.ble h 1048575 && Nat.beq (sizeH h) 5 && Nat.ble (strH h) 20 && Nat.beq (nhA h) (nhN h) && Nat.ble (nhN h) 2097152 && Nat.ble 1 (lowb h)
noncomputable def ckC (n : Nat) : Nat → Bool := Nat.rec (motive := fun _ => Nat → Bool) (fun h => Nat.ble 1048576 h) (fun _ ih h => Nat.rec (motive := fun _ => Bool) false (fun k _ => ckS (k + 1) && ih (nhN (k + 1))) h) n
theorem ck_ok : ckC 15504 31 = true := by decide +kernel
theorem ckC_succ (n h : Nat) (hc : ckC (n + 1) h = true) : ckS h = true ∧ ckC n (nhN h) = true := by
  cases h with
  | zero => exact absurd hc (by show ¬ (false = true); simp)
  | succ k =>
    have hc : (ckS (k + 1) && ckC n (nhN (k + 1))) = true := hc
    exact Bool.and_eq_true_iff.mp hc
/-- the i-th hand -/
def HL : Nat → Nat
  | 0 => 31
  | n + 1 => nhN (HL n)
theorem ck_all : ∀ i, i ≤ 15504 → ckC (15504 - i) (HL i) = true := by
  intro i
  induction i with
  | zero => intro _; exact ck_ok
  | succ i ih =>
    intro h
    have h1 := ih (by omega)
    rw [show 15504 - i = (15504 - (i + 1)) + 1 by omega] at h1
    exact (ckC_succ _ _ h1).2
theorem HL_ck {i : Nat} (h : i < 15504) : ckS (HL i) = true := by
  have h1 := ck_all i (by omega)
  rw [show 15504 - i = (15504 - (i + 1)) + 1 by omega] at h1
  exact (ckC_succ _ _ h1).1
theorem HL_ok {i : Nat} (h : i < 15504) : 31 ≤ HL i ∧ HL i ≤ 1048575 ∧ sizeH (HL i) = 5 ∧ strH (HL i) ≤ 20 ∧ nhA (HL i) = HL (i + 1) ∧ HL (i + 1) ≤ 2097152 ∧ 1 ≤ lowb (HL i) := by
  have k := HL_ck h
  unfold ckS at k
  simp only [Bool.and_eq_true] at k
  obtain ⟨⟨⟨⟨⟨⟨k1, k2⟩, k3⟩, k4⟩, k5⟩, k6⟩, k7⟩ := k
  exact ⟨Nat.le_of_ble_eq_true k1, Nat.le_of_ble_eq_true k2, Nat.eq_of_beq_eq_true k3, Nat.le_of_ble_eq_true k4, Nat.eq_of_beq_eq_true k5, Nat.le_of_ble_eq_true k6, Nat.le_of_ble_eq_true k7⟩
theorem HL_end : 1048576 ≤ HL 15504 := by
  have h := ck_all 15504 (Nat.le_refl _)
  rw [Nat.sub_self] at h
  generalize HL 15504 = z at h ⊢
  exact Nat.le_of_ble_eq_true h
theorem HL_le {i : Nat} (h : i ≤ 15504) : HL i ≤ 2097152 := by
  cases i with
  | zero => decide
  | succ i => exact (HL_ok (by omega)).2.2.2.2.2.1
/-- how many of the first n hands have P -/
def cntF (P : Nat → Bool) : Nat → Nat
  | 0 => 0
  | n + 1 => cntF P n + (if P (HL n) = true then 1 else 0)
theorem cntF_le (P : Nat → Bool) : ∀ n, cntF P n ≤ n
  | 0 => Nat.le_refl _
  | n + 1 => by
    have := cntF_le P n
    unfold cntF
    split <;> omega
theorem cntF_cong {P P' : Nat → Bool} : ∀ n, (∀ i, i < n → P (HL i) = P' (HL i)) → cntF P n = cntF P' n
  | 0, _ => rfl
  | n + 1, h => by
    unfold cntF
    rw [cntF_cong n (fun i hi => h i (by omega)), h n (by omega)]
/-- the sum of f over those of the first n hands that have P -/
def sumF (P : Nat → Bool) (f : Nat → Nat) : Nat → Nat
  | 0 => 0
  | n + 1 => sumF P f n + (if P (HL n) = true then f (HL n) else 0)
theorem sumF_le (P : Nat → Bool) (f : Nat → Nat) (hf : ∀ h, f h ≤ 5) : ∀ n, sumF P f n ≤ 5 * cntF P n
  | 0 => Nat.le_refl _
  | n + 1 => by
    have := sumF_le P f hf n
    have := hf (HL n)
    unfold sumF cntF
    split <;> omega
theorem sumF_cong {P P' : Nat → Bool} {f f' : Nat → Nat} : ∀ n, (∀ i, i < n → P (HL i) = P' (HL i)) → (∀ i, i < n → P (HL i) = true → f (HL i) = f' (HL i)) → sumF P f n = sumF P' f' n
  | 0, _, _ => rfl
  | n + 1, h, h2 => by
    unfold sumF
    rw [sumF_cong n (fun i hi => h i (by omega)) (fun i hi => h2 i (by omega)), h n (by omega)]
    by_cases c : P' (HL n) = true
    · rw [if_pos c, if_pos c, h2 n (by omega) (by rw [h n (by omega)]; exact c)]
    · rw [if_neg c, if_neg c]
theorem lowb_le (h : Nat) : lowb h ≤ h := Nat.and_le_left
theorem jN_le (h : Nat) : jN h ≤ h - 1 := Nat.and_le_right
theorem upN_le (h : Nat) : upN h ≤ 2 * h := by
  have := lowb_le h
  unfold upN
  omega
theorem tzN_le {j : Nat} (h : j < 1048576) : tzN j ≤ 20 := by
  unfold tzN
  dsimp only
  split
  · omega
  · repeat' split
    all_goals first | omega | (simp only at *; omega)
end
