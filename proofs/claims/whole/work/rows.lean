section
-- ===== PART A: goes FIRST, ahead of the names: the tables' words, and 'selects' of the private methods out of them =====
/-- a private method of a class that the tables say can be made, by its rows of tables_1 -/
def lw_okq (q : MethodName × Nat) : Prop := (q.1.cls ≠ "java/lang/invoke/MethodHandle" ∧ q.1.cls ≠ "java/lang/invoke/VarHandle") ∧ Cond.instantiable q.1.cls q.2 ∈ tables_1 ∧ Cond.privateMethod q.1 ∈ tables_1 ∧ Cond.instanceMethod q.1 ∈ tables_1
theorem lw_p0 : lw_okq (⟨"MornMarket", "sheetAt", "(I)LMornMarket$Sheet;"⟩, 8) := ⟨⟨by decide +kernel, by decide +kernel⟩, List.mem_of_getElem? (i := 12) (by decide +kernel), List.mem_of_getElem? (i := 190) (by decide +kernel), List.mem_of_getElem? (i := 191) (by decide +kernel)⟩
theorem lw_p1 : lw_okq (⟨"MornMarket", "faulted", "(I)I"⟩, 8) := ⟨⟨by decide +kernel, by decide +kernel⟩, List.mem_of_getElem? (i := 12) (by decide +kernel), List.mem_of_getElem? (i := 205) (by decide +kernel), List.mem_of_getElem? (i := 206) (by decide +kernel)⟩
theorem lw_p2 : lw_okq (⟨"MornMarket", "refusalOfPairs", "(LMornMarket$Sheet;II)I"⟩, 8) := ⟨⟨by decide +kernel, by decide +kernel⟩, List.mem_of_getElem? (i := 12) (by decide +kernel), List.mem_of_getElem? (i := 357) (by decide +kernel), List.mem_of_getElem? (i := 358) (by decide +kernel)⟩
theorem lw_p3 : lw_okq (⟨"MornMarket", "firstWrongIn", "(LMornMarket$Sheet;II)I"⟩, 8) := ⟨⟨by decide +kernel, by decide +kernel⟩, List.mem_of_getElem? (i := 12) (by decide +kernel), List.mem_of_getElem? (i := 362) (by decide +kernel), List.mem_of_getElem? (i := 363) (by decide +kernel)⟩
theorem lw_p4 : lw_okq (⟨"MornMarket", "behindYear", "(I)I"⟩, 8) := ⟨⟨by decide +kernel, by decide +kernel⟩, List.mem_of_getElem? (i := 12) (by decide +kernel), List.mem_of_getElem? (i := 374) (by decide +kernel), List.mem_of_getElem? (i := 375) (by decide +kernel)⟩
theorem lw_p5 : lw_okq (⟨"MornMarket", "setToBuy", "(II)I"⟩, 8) := ⟨⟨by decide +kernel, by decide +kernel⟩, List.mem_of_getElem? (i := 12) (by decide +kernel), List.mem_of_getElem? (i := 429) (by decide +kernel), List.mem_of_getElem? (i := 430) (by decide +kernel)⟩
theorem lw_p6 : lw_okq (⟨"MornMarket", "setToSell", "(II)I"⟩, 8) := ⟨⟨by decide +kernel, by decide +kernel⟩, List.mem_of_getElem? (i := 12) (by decide +kernel), List.mem_of_getElem? (i := 446) (by decide +kernel), List.mem_of_getElem? (i := 447) (by decide +kernel)⟩
theorem lw_p7 : lw_okq (⟨"MornMarket", "gainOfExchange", "(II)I"⟩, 8) := ⟨⟨by decide +kernel, by decide +kernel⟩, List.mem_of_getElem? (i := 12) (by decide +kernel), List.mem_of_getElem? (i := 454) (by decide +kernel), List.mem_of_getElem? (i := 455) (by decide +kernel)⟩
theorem lw_p8 : lw_okq (⟨"MornMarket", "lostBy", "(I)J"⟩, 8) := ⟨⟨by decide +kernel, by decide +kernel⟩, List.mem_of_getElem? (i := 12) (by decide +kernel), List.mem_of_getElem? (i := 518) (by decide +kernel), List.mem_of_getElem? (i := 519) (by decide +kernel)⟩
theorem lw_p9 : lw_okq (⟨"MornMarket", "toldByFrost", "(I)I"⟩, 8) := ⟨⟨by decide +kernel, by decide +kernel⟩, List.mem_of_getElem? (i := 12) (by decide +kernel), List.mem_of_getElem? (i := 531) (by decide +kernel), List.mem_of_getElem? (i := 532) (by decide +kernel)⟩
theorem lw_p10 : lw_okq (⟨"MornMarket", "begins", "(I)V"⟩, 8) := ⟨⟨by decide +kernel, by decide +kernel⟩, List.mem_of_getElem? (i := 12) (by decide +kernel), List.mem_of_getElem? (i := 535) (by decide +kernel), List.mem_of_getElem? (i := 536) (by decide +kernel)⟩
theorem lw_p11 : lw_okq (⟨"MornMarket", "toldByClear", "(I)I"⟩, 8) := ⟨⟨by decide +kernel, by decide +kernel⟩, List.mem_of_getElem? (i := 12) (by decide +kernel), List.mem_of_getElem? (i := 539) (by decide +kernel), List.mem_of_getElem? (i := 540) (by decide +kernel)⟩
theorem lw_p12 : lw_okq (⟨"MornMarket", "toldByPainted", "(I)I"⟩, 8) := ⟨⟨by decide +kernel, by decide +kernel⟩, List.mem_of_getElem? (i := 12) (by decide +kernel), List.mem_of_getElem? (i := 543) (by decide +kernel), List.mem_of_getElem? (i := 544) (by decide +kernel)⟩
theorem lw_p13 : lw_okq (⟨"MornMarket", "crowedByPainted", "()I"⟩, 8) := ⟨⟨by decide +kernel, by decide +kernel⟩, List.mem_of_getElem? (i := 12) (by decide +kernel), List.mem_of_getElem? (i := 551) (by decide +kernel), List.mem_of_getElem? (i := 552) (by decide +kernel)⟩
theorem lw_p14 : lw_okq (⟨"MornMarket", "crowedByLent", "(I)I"⟩, 8) := ⟨⟨by decide +kernel, by decide +kernel⟩, List.mem_of_getElem? (i := 12) (by decide +kernel), List.mem_of_getElem? (i := 555) (by decide +kernel), List.mem_of_getElem? (i := 556) (by decide +kernel)⟩
theorem lw_p15 : lw_okq (⟨"MornMarketModel", "against", "(IIII)I"⟩, 37) := ⟨⟨by decide +kernel, by decide +kernel⟩, List.mem_of_getElem? (i := 575) (by decide +kernel), List.mem_of_getElem? (i := 707) (by decide +kernel), List.mem_of_getElem? (i := 708) (by decide +kernel)⟩
def lw_privs_1 : List (MethodName × Nat) := [(⟨"MornMarket", "sheetAt", "(I)LMornMarket$Sheet;"⟩, 8), (⟨"MornMarket", "faulted", "(I)I"⟩, 8), (⟨"MornMarket", "refusalOfPairs", "(LMornMarket$Sheet;II)I"⟩, 8), (⟨"MornMarket", "firstWrongIn", "(LMornMarket$Sheet;II)I"⟩, 8), (⟨"MornMarket", "behindYear", "(I)I"⟩, 8), (⟨"MornMarket", "setToBuy", "(II)I"⟩, 8), (⟨"MornMarket", "setToSell", "(II)I"⟩, 8), (⟨"MornMarket", "gainOfExchange", "(II)I"⟩, 8), (⟨"MornMarket", "lostBy", "(I)J"⟩, 8), (⟨"MornMarket", "toldByFrost", "(I)I"⟩, 8), (⟨"MornMarket", "begins", "(I)V"⟩, 8), (⟨"MornMarket", "toldByClear", "(I)I"⟩, 8), (⟨"MornMarket", "toldByPainted", "(I)I"⟩, 8), (⟨"MornMarket", "crowedByPainted", "()I"⟩, 8), (⟨"MornMarket", "crowedByLent", "(I)I"⟩, 8), (⟨"MornMarketModel", "against", "(IIII)I"⟩, 37)]
theorem lw_r1 : ∀ q ∈ lw_privs_1, lw_okq q := List.forall_mem_cons.mpr ⟨lw_p0, List.forall_mem_cons.mpr ⟨lw_p1, List.forall_mem_cons.mpr ⟨lw_p2, List.forall_mem_cons.mpr ⟨lw_p3, List.forall_mem_cons.mpr ⟨lw_p4, List.forall_mem_cons.mpr ⟨lw_p5, List.forall_mem_cons.mpr ⟨lw_p6, List.forall_mem_cons.mpr ⟨lw_p7, List.forall_mem_cons.mpr ⟨lw_p8, List.forall_mem_cons.mpr ⟨lw_p9, List.forall_mem_cons.mpr ⟨lw_p10, List.forall_mem_cons.mpr ⟨lw_p11, List.forall_mem_cons.mpr ⟨lw_p12, List.forall_mem_cons.mpr ⟨lw_p13, List.forall_mem_cons.mpr ⟨lw_p14, List.forall_mem_cons.mpr ⟨lw_p15, fun _ h => absurd h List.not_mem_nil⟩⟩⟩⟩⟩⟩⟩⟩⟩⟩⟩⟩⟩⟩⟩⟩
theorem lw_p16 : lw_okq (⟨"MornMarketModel", "fails", "(I)I"⟩, 37) := ⟨⟨by decide +kernel, by decide +kernel⟩, List.mem_of_getElem? (i := 575) (by decide +kernel), List.mem_of_getElem? (i := 711) (by decide +kernel), List.mem_of_getElem? (i := 712) (by decide +kernel)⟩
theorem lw_p17 : lw_okq (⟨"MornMarketModel", "readMarket", "(I)Z"⟩, 37) := ⟨⟨by decide +kernel, by decide +kernel⟩, List.mem_of_getElem? (i := 575) (by decide +kernel), List.mem_of_getElem? (i := 715) (by decide +kernel), List.mem_of_getElem? (i := 716) (by decide +kernel)⟩
theorem lw_p18 : lw_okq (⟨"MornMarketModel", "isSign", "(II)Z"⟩, 37) := ⟨⟨by decide +kernel, by decide +kernel⟩, List.mem_of_getElem? (i := 575) (by decide +kernel), List.mem_of_getElem? (i := 719) (by decide +kernel), List.mem_of_getElem? (i := 720) (by decide +kernel)⟩
theorem lw_p19 : lw_okq (⟨"MornMarketModel", "digit", "(III)I"⟩, 37) := ⟨⟨by decide +kernel, by decide +kernel⟩, List.mem_of_getElem? (i := 575) (by decide +kernel), List.mem_of_getElem? (i := 723) (by decide +kernel), List.mem_of_getElem? (i := 724) (by decide +kernel)⟩
theorem lw_p20 : lw_okq (⟨"MornMarketModel", "readPerson", "(I)Z"⟩, 37) := ⟨⟨by decide +kernel, by decide +kernel⟩, List.mem_of_getElem? (i := 575) (by decide +kernel), List.mem_of_getElem? (i := 727) (by decide +kernel), List.mem_of_getElem? (i := 728) (by decide +kernel)⟩
theorem lw_p21 : lw_okq (⟨"MornMarketModel", "readMorning", "(I)Z"⟩, 37) := ⟨⟨by decide +kernel, by decide +kernel⟩, List.mem_of_getElem? (i := 575) (by decide +kernel), List.mem_of_getElem? (i := 731) (by decide +kernel), List.mem_of_getElem? (i := 732) (by decide +kernel)⟩
theorem lw_p22 : lw_okq (⟨"MornMarketModel", "takeMarket", "()V"⟩, 37) := ⟨⟨by decide +kernel, by decide +kernel⟩, List.mem_of_getElem? (i := 575) (by decide +kernel), List.mem_of_getElem? (i := 735) (by decide +kernel), List.mem_of_getElem? (i := 736) (by decide +kernel)⟩
theorem lw_p23 : lw_okq (⟨"MornMarketModel", "isMorning", "(I)Z"⟩, 37) := ⟨⟨by decide +kernel, by decide +kernel⟩, List.mem_of_getElem? (i := 575) (by decide +kernel), List.mem_of_getElem? (i := 743) (by decide +kernel), List.mem_of_getElem? (i := 744) (by decide +kernel)⟩
theorem lw_p24 : lw_okq (⟨"MornMarketModel", "isPerson", "(I)Z"⟩, 37) := ⟨⟨by decide +kernel, by decide +kernel⟩, List.mem_of_getElem? (i := 575) (by decide +kernel), List.mem_of_getElem? (i := 751) (by decide +kernel), List.mem_of_getElem? (i := 752) (by decide +kernel)⟩
theorem lw_p25 : lw_okq (⟨"MornMarketModel", "ownOf", "(I)I"⟩, 37) := ⟨⟨by decide +kernel, by decide +kernel⟩, List.mem_of_getElem? (i := 575) (by decide +kernel), List.mem_of_getElem? (i := 755) (by decide +kernel), List.mem_of_getElem? (i := 756) (by decide +kernel)⟩
theorem lw_p26 : lw_okq (⟨"MornMarketModel", "freshOn", "(II)I"⟩, 37) := ⟨⟨by decide +kernel, by decide +kernel⟩, List.mem_of_getElem? (i := 575) (by decide +kernel), List.mem_of_getElem? (i := 774) (by decide +kernel), List.mem_of_getElem? (i := 775) (by decide +kernel)⟩
theorem lw_p27 : lw_okq (⟨"MornMarketModel", "priceOf", "(I)I"⟩, 37) := ⟨⟨by decide +kernel, by decide +kernel⟩, List.mem_of_getElem? (i := 575) (by decide +kernel), List.mem_of_getElem? (i := 782) (by decide +kernel), List.mem_of_getElem? (i := 783) (by decide +kernel)⟩
theorem lw_p28 : lw_okq (⟨"MornMarketModel", "maySell", "(II)Z"⟩, 37) := ⟨⟨by decide +kernel, by decide +kernel⟩, List.mem_of_getElem? (i := 575) (by decide +kernel), List.mem_of_getElem? (i := 790) (by decide +kernel), List.mem_of_getElem? (i := 791) (by decide +kernel)⟩
theorem lw_p29 : lw_okq (⟨"MornMarketModel", "doSell", "(II)V"⟩, 37) := ⟨⟨by decide +kernel, by decide +kernel⟩, List.mem_of_getElem? (i := 575) (by decide +kernel), List.mem_of_getElem? (i := 794) (by decide +kernel), List.mem_of_getElem? (i := 795) (by decide +kernel)⟩
theorem lw_p30 : lw_okq (⟨"MornMarketModel", "doOpen", "(I)I"⟩, 37) := ⟨⟨by decide +kernel, by decide +kernel⟩, List.mem_of_getElem? (i := 575) (by decide +kernel), List.mem_of_getElem? (i := 802) (by decide +kernel), List.mem_of_getElem? (i := 803) (by decide +kernel)⟩
theorem lw_p31 : lw_okq (⟨"MornMarketModel", "doSleep", "(I)V"⟩, 37) := ⟨⟨by decide +kernel, by decide +kernel⟩, List.mem_of_getElem? (i := 575) (by decide +kernel), List.mem_of_getElem? (i := 810) (by decide +kernel), List.mem_of_getElem? (i := 811) (by decide +kernel)⟩
def lw_privs_2 : List (MethodName × Nat) := [(⟨"MornMarketModel", "fails", "(I)I"⟩, 37), (⟨"MornMarketModel", "readMarket", "(I)Z"⟩, 37), (⟨"MornMarketModel", "isSign", "(II)Z"⟩, 37), (⟨"MornMarketModel", "digit", "(III)I"⟩, 37), (⟨"MornMarketModel", "readPerson", "(I)Z"⟩, 37), (⟨"MornMarketModel", "readMorning", "(I)Z"⟩, 37), (⟨"MornMarketModel", "takeMarket", "()V"⟩, 37), (⟨"MornMarketModel", "isMorning", "(I)Z"⟩, 37), (⟨"MornMarketModel", "isPerson", "(I)Z"⟩, 37), (⟨"MornMarketModel", "ownOf", "(I)I"⟩, 37), (⟨"MornMarketModel", "freshOn", "(II)I"⟩, 37), (⟨"MornMarketModel", "priceOf", "(I)I"⟩, 37), (⟨"MornMarketModel", "maySell", "(II)Z"⟩, 37), (⟨"MornMarketModel", "doSell", "(II)V"⟩, 37), (⟨"MornMarketModel", "doOpen", "(I)I"⟩, 37), (⟨"MornMarketModel", "doSleep", "(I)V"⟩, 37)]
theorem lw_r2 : ∀ q ∈ lw_privs_2, lw_okq q := List.forall_mem_cons.mpr ⟨lw_p16, List.forall_mem_cons.mpr ⟨lw_p17, List.forall_mem_cons.mpr ⟨lw_p18, List.forall_mem_cons.mpr ⟨lw_p19, List.forall_mem_cons.mpr ⟨lw_p20, List.forall_mem_cons.mpr ⟨lw_p21, List.forall_mem_cons.mpr ⟨lw_p22, List.forall_mem_cons.mpr ⟨lw_p23, List.forall_mem_cons.mpr ⟨lw_p24, List.forall_mem_cons.mpr ⟨lw_p25, List.forall_mem_cons.mpr ⟨lw_p26, List.forall_mem_cons.mpr ⟨lw_p27, List.forall_mem_cons.mpr ⟨lw_p28, List.forall_mem_cons.mpr ⟨lw_p29, List.forall_mem_cons.mpr ⟨lw_p30, List.forall_mem_cons.mpr ⟨lw_p31, fun _ h => absurd h List.not_mem_nil⟩⟩⟩⟩⟩⟩⟩⟩⟩⟩⟩⟩⟩⟩⟩⟩
theorem lw_p32 : lw_okq (⟨"MornMarketModel", "refusesPair", "(II)I"⟩, 37) := ⟨⟨by decide +kernel, by decide +kernel⟩, List.mem_of_getElem? (i := 575) (by decide +kernel), List.mem_of_getElem? (i := 818) (by decide +kernel), List.mem_of_getElem? (i := 819) (by decide +kernel)⟩
theorem lw_p33 : lw_okq (⟨"MornMarketModel", "keepAll", "()V"⟩, 37) := ⟨⟨by decide +kernel, by decide +kernel⟩, List.mem_of_getElem? (i := 575) (by decide +kernel), List.mem_of_getElem? (i := 822) (by decide +kernel), List.mem_of_getElem? (i := 823) (by decide +kernel)⟩
theorem lw_p34 : lw_okq (⟨"MornMarketModel", "goes", "(II)Z"⟩, 37) := ⟨⟨by decide +kernel, by decide +kernel⟩, List.mem_of_getElem? (i := 575) (by decide +kernel), List.mem_of_getElem? (i := 826) (by decide +kernel), List.mem_of_getElem? (i := 827) (by decide +kernel)⟩
theorem lw_p35 : lw_okq (⟨"MornMarketModel", "tellYear", "(I)I"⟩, 37) := ⟨⟨by decide +kernel, by decide +kernel⟩, List.mem_of_getElem? (i := 575) (by decide +kernel), List.mem_of_getElem? (i := 830) (by decide +kernel), List.mem_of_getElem? (i := 831) (by decide +kernel)⟩
theorem lw_p36 : lw_okq (⟨"MornMarketModel", "putBack", "()V"⟩, 37) := ⟨⟨by decide +kernel, by decide +kernel⟩, List.mem_of_getElem? (i := 575) (by decide +kernel), List.mem_of_getElem? (i := 834) (by decide +kernel), List.mem_of_getElem? (i := 835) (by decide +kernel)⟩
theorem lw_p37 : lw_okq (⟨"MornMarketModel", "feastBy", "(II)I"⟩, 37) := ⟨⟨by decide +kernel, by decide +kernel⟩, List.mem_of_getElem? (i := 575) (by decide +kernel), List.mem_of_getElem? (i := 842) (by decide +kernel), List.mem_of_getElem? (i := 843) (by decide +kernel)⟩
theorem lw_p38 : lw_okq (⟨"MornMarketModel", "joyBy", "(IIZ)I"⟩, 37) := ⟨⟨by decide +kernel, by decide +kernel⟩, List.mem_of_getElem? (i := 575) (by decide +kernel), List.mem_of_getElem? (i := 846) (by decide +kernel), List.mem_of_getElem? (i := 847) (by decide +kernel)⟩
theorem lw_p39 : lw_okq (⟨"MornMarketModel", "findKeep", "(II)I"⟩, 37) := ⟨⟨by decide +kernel, by decide +kernel⟩, List.mem_of_getElem? (i := 575) (by decide +kernel), List.mem_of_getElem? (i := 854) (by decide +kernel), List.mem_of_getElem? (i := 855) (by decide +kernel)⟩
theorem lw_p40 : lw_okq (⟨"MornMarketModel", "joyOfRow", "(III)I"⟩, 37) := ⟨⟨by decide +kernel, by decide +kernel⟩, List.mem_of_getElem? (i := 575) (by decide +kernel), List.mem_of_getElem? (i := 858) (by decide +kernel), List.mem_of_getElem? (i := 859) (by decide +kernel)⟩
theorem lw_p41 : lw_okq (⟨"MornMarketModel", "pricesOf", "(I)I"⟩, 37) := ⟨⟨by decide +kernel, by decide +kernel⟩, List.mem_of_getElem? (i := 575) (by decide +kernel), List.mem_of_getElem? (i := 866) (by decide +kernel), List.mem_of_getElem? (i := 867) (by decide +kernel)⟩
theorem lw_p42 : lw_okq (⟨"MornMarketModel", "isCheaper", "(II)Z"⟩, 37) := ⟨⟨by decide +kernel, by decide +kernel⟩, List.mem_of_getElem? (i := 575) (by decide +kernel), List.mem_of_getElem? (i := 870) (by decide +kernel), List.mem_of_getElem? (i := 871) (by decide +kernel)⟩
theorem lw_p43 : lw_okq (⟨"MornMarketModel", "findSwap", "()I"⟩, 37) := ⟨⟨by decide +kernel, by decide +kernel⟩, List.mem_of_getElem? (i := 575) (by decide +kernel), List.mem_of_getElem? (i := 882) (by decide +kernel), List.mem_of_getElem? (i := 883) (by decide +kernel)⟩
theorem lw_p44 : lw_okq (⟨"MornMarketModel", "gainBy", "(II)I"⟩, 37) := ⟨⟨by decide +kernel, by decide +kernel⟩, List.mem_of_getElem? (i := 575) (by decide +kernel), List.mem_of_getElem? (i := 886) (by decide +kernel), List.mem_of_getElem? (i := 887) (by decide +kernel)⟩
theorem lw_p45 : lw_okq (⟨"MornMarketModel", "areSo", "()Z"⟩, 37) := ⟨⟨by decide +kernel, by decide +kernel⟩, List.mem_of_getElem? (i := 575) (by decide +kernel), List.mem_of_getElem? (i := 902) (by decide +kernel), List.mem_of_getElem? (i := 903) (by decide +kernel)⟩
theorem lw_p46 : lw_okq (⟨"MornMarketModel", "lost", "(I)J"⟩, 37) := ⟨⟨by decide +kernel, by decide +kernel⟩, List.mem_of_getElem? (i := 575) (by decide +kernel), List.mem_of_getElem? (i := 938) (by decide +kernel), List.mem_of_getElem? (i := 939) (by decide +kernel)⟩
theorem lw_p47 : lw_okq (⟨"MornMarketModel", "begins", "(I)V"⟩, 37) := ⟨⟨by decide +kernel, by decide +kernel⟩, List.mem_of_getElem? (i := 575) (by decide +kernel), List.mem_of_getElem? (i := 950) (by decide +kernel), List.mem_of_getElem? (i := 951) (by decide +kernel)⟩
def lw_privs_3 : List (MethodName × Nat) := [(⟨"MornMarketModel", "refusesPair", "(II)I"⟩, 37), (⟨"MornMarketModel", "keepAll", "()V"⟩, 37), (⟨"MornMarketModel", "goes", "(II)Z"⟩, 37), (⟨"MornMarketModel", "tellYear", "(I)I"⟩, 37), (⟨"MornMarketModel", "putBack", "()V"⟩, 37), (⟨"MornMarketModel", "feastBy", "(II)I"⟩, 37), (⟨"MornMarketModel", "joyBy", "(IIZ)I"⟩, 37), (⟨"MornMarketModel", "findKeep", "(II)I"⟩, 37), (⟨"MornMarketModel", "joyOfRow", "(III)I"⟩, 37), (⟨"MornMarketModel", "pricesOf", "(I)I"⟩, 37), (⟨"MornMarketModel", "isCheaper", "(II)Z"⟩, 37), (⟨"MornMarketModel", "findSwap", "()I"⟩, 37), (⟨"MornMarketModel", "gainBy", "(II)I"⟩, 37), (⟨"MornMarketModel", "areSo", "()Z"⟩, 37), (⟨"MornMarketModel", "lost", "(I)J"⟩, 37), (⟨"MornMarketModel", "begins", "(I)V"⟩, 37)]
theorem lw_r3 : ∀ q ∈ lw_privs_3, lw_okq q := List.forall_mem_cons.mpr ⟨lw_p32, List.forall_mem_cons.mpr ⟨lw_p33, List.forall_mem_cons.mpr ⟨lw_p34, List.forall_mem_cons.mpr ⟨lw_p35, List.forall_mem_cons.mpr ⟨lw_p36, List.forall_mem_cons.mpr ⟨lw_p37, List.forall_mem_cons.mpr ⟨lw_p38, List.forall_mem_cons.mpr ⟨lw_p39, List.forall_mem_cons.mpr ⟨lw_p40, List.forall_mem_cons.mpr ⟨lw_p41, List.forall_mem_cons.mpr ⟨lw_p42, List.forall_mem_cons.mpr ⟨lw_p43, List.forall_mem_cons.mpr ⟨lw_p44, List.forall_mem_cons.mpr ⟨lw_p45, List.forall_mem_cons.mpr ⟨lw_p46, List.forall_mem_cons.mpr ⟨lw_p47, fun _ h => absurd h List.not_mem_nil⟩⟩⟩⟩⟩⟩⟩⟩⟩⟩⟩⟩⟩⟩⟩⟩
def lw_privs : List (MethodName × Nat) := lw_privs_1 ++ (lw_privs_2 ++ (lw_privs_3))
def lw_tbl : List Cond := k2_sels lw_privs ++ tables_1
theorem lw_privs_ok : ∀ q ∈ lw_privs, lw_okq q := by
  show ∀ q ∈ lw_privs_1 ++ (lw_privs_2 ++ (lw_privs_3)), lw_okq q
  exact List.forall_mem_append.mpr ⟨lw_r1, List.forall_mem_append.mpr ⟨lw_r2, lw_r3⟩⟩
end
section
def RX0 : String := "MornMarket$Keeping"
def TX0 : u_T := fun k => match k with
  | 0 => ("MornMarket$Keeping", "joyOfDayAndSet", "[I", true)
  | 1 => ("MornMarket$Keeping", "mostJoy", "I", false)
  | _ => ("MornMarket$Keeping", "bestSets", "I", false)
def tyX0 : Nat → FieldType := fun k => match k with
  | 0 => .array .int
  | 1 => .int
  | _ => .int
theorem nmX0 : ∀ a, a < 3 → ∀ b, b < 3 → a ≠ b → (TX0 a).2.1 ≠ (TX0 b).2.1 := by decide +kernel
theorem tyX0_ok : ∀ k, k < 3 → parseFieldDescriptor (TX0 k).2.2.1 = some (tyX0 k) := by decide +kernel
abbrev cX0_init : ByteArray := prog_2_method_1_code
def yX0_init : MethodName := ⟨RX0, "<init>", "()V"⟩
abbrev cX0_findBest : ByteArray := prog_2_method_2_code
def yX0_findBest : MethodName := ⟨RX0, "findBest", "(LMornMarket$Market;II)V"⟩
abbrev cX0_dayOf : ByteArray := prog_2_method_3_code
def yX0_dayOf : MethodName := ⟨RX0, "dayOf", "(I)I"⟩
abbrev cX0_weighDays : ByteArray := prog_2_method_4_code
def yX0_weighDays : MethodName := ⟨RX0, "weighDays", "(LMornMarket$Market;III)V"⟩
abbrev cX0_setsOfDays : ByteArray := prog_2_method_5_code
def yX0_setsOfDays : MethodName := ⟨RX0, "setsOfDays", "(III)I"⟩
abbrev cX0_joyOfDays : ByteArray := prog_2_method_6_code
def yX0_joyOfDays : MethodName := ⟨RX0, "joyOfDays", "(II)I"⟩
def RX1 : String := "MornMarket$Market"
def TX1 : u_T := fun k => match k with
  | 0 => ("MornMarket$Market", "purse", "[I", true)
  | 1 => ("MornMarket$Market", "joy", "[I", true)
  | 2 => ("MornMarket$Market", "openedOn", "[I", true)
  | 3 => ("MornMarket$Market", "kind", "[I", true)
  | 4 => ("MornMarket$Market", "owner", "[I", true)
  | 5 => ("MornMarket$Market", "taken", "[I", true)
  | 6 => ("MornMarket$Market", "dew", "[I", true)
  | 7 => ("MornMarket$Market", "dewCosts", "I", false)
  | 8 => ("MornMarket$Market", "day", "I", false)
  | 9 => ("MornMarket$Market", "people", "I", false)
  | 10 => ("MornMarket$Market", "mornings", "I", false)
  | _ => ("MornMarket$Market", "opened", "I", false)
def tyX1 : Nat → FieldType := fun k => match k with
  | 0 => .array .int
  | 1 => .array .int
  | 2 => .array .int
  | 3 => .array .int
  | 4 => .array .int
  | 5 => .array .int
  | 6 => .array .int
  | 7 => .int
  | 8 => .int
  | 9 => .int
  | 10 => .int
  | _ => .int
theorem nmX1 : ∀ a, a < 12 → ∀ b, b < 12 → a ≠ b → (TX1 a).2.1 ≠ (TX1 b).2.1 := by decide +kernel
theorem tyX1_ok : ∀ k, k < 12 → parseFieldDescriptor (TX1 k).2.2.1 = some (tyX1 k) := by decide +kernel
abbrev cX1_init : ByteArray := prog_3_method_1_code
def yX1_init : MethodName := ⟨RX1, "<init>", "()V"⟩
abbrev cX1_beginAnew : ByteArray := prog_3_method_2_code
def yX1_beginAnew : MethodName := ⟨RX1, "beginAnew", "()V"⟩
abbrev cX1_becomeLike : ByteArray := prog_3_method_3_code
def yX1_becomeLike : MethodName := ⟨RX1, "becomeLike", "(LMornMarket$Market;)V"⟩
abbrev cX1_forgetJoy : ByteArray := prog_3_method_4_code
def yX1_forgetJoy : MethodName := ⟨RX1, "forgetJoy", "()V"⟩
abbrev cX1_isThere : ByteArray := prog_3_method_5_code
def yX1_isThere : MethodName := ⟨RX1, "isThere", "()Z"⟩
abbrev cX1_isPerson : ByteArray := prog_3_method_6_code
def yX1_isPerson : MethodName := ⟨RX1, "isPerson", "(I)Z"⟩
abbrev cX1_isMorning : ByteArray := prog_3_method_7_code
def yX1_isMorning : MethodName := ⟨RX1, "isMorning", "(I)Z"⟩
abbrev cX1_isOpened : ByteArray := prog_3_method_8_code
def yX1_isOpened : MethodName := ⟨RX1, "isOpened", "(I)Z"⟩
abbrev cX1_openedToday : ByteArray := prog_3_method_9_code
def yX1_openedToday : MethodName := ⟨RX1, "openedToday", "(I)Z"⟩
abbrev cX1_closed : ByteArray := prog_3_method_10_code
def yX1_closed : MethodName := ⟨RX1, "closed", "()I"⟩
abbrev cX1_closedOf : ByteArray := prog_3_method_11_code
def yX1_closedOf : MethodName := ⟨RX1, "closedOf", "(I)I"⟩
abbrev cX1_freshOn : ByteArray := prog_3_method_12_code
def yX1_freshOn : MethodName := ⟨RX1, "freshOn", "(II)I"⟩
abbrev cX1_priceOf : ByteArray := prog_3_method_13_code
def yX1_priceOf : MethodName := ⟨RX1, "priceOf", "(I)I"⟩
abbrev cX1_priceOfSet : ByteArray := prog_3_method_14_code
def yX1_priceOfSet : MethodName := ⟨RX1, "priceOfSet", "(I)I"⟩
abbrev cX1_joyOfAll : ByteArray := prog_3_method_15_code
def yX1_joyOfAll : MethodName := ⟨RX1, "joyOfAll", "()I"⟩
abbrev cX1_joyOfSet : ByteArray := prog_3_method_16_code
def yX1_joyOfSet : MethodName := ⟨RX1, "joyOfSet", "(IIZ)I"⟩
abbrev cX1_feastWith : ByteArray := prog_3_method_17_code
def yX1_feastWith : MethodName := ⟨RX1, "feastWith", "(II)I"⟩
abbrev cX1_canGoBy : ByteArray := prog_3_method_18_code
def yX1_canGoBy : MethodName := ⟨RX1, "canGoBy", "(I)Z"⟩
abbrev cX1_canBeSold : ByteArray := prog_3_method_19_code
def yX1_canBeSold : MethodName := ⟨RX1, "canBeSold", "(II)Z"⟩
abbrev cX1_handOver : ByteArray := prog_3_method_20_code
def yX1_handOver : MethodName := ⟨RX1, "handOver", "(II)I"⟩
abbrev cX1_unseal : ByteArray := prog_3_method_21_code
def yX1_unseal : MethodName := ⟨RX1, "unseal", "(I)I"⟩
abbrev cX1_acts : ByteArray := prog_3_method_22_code
def yX1_acts : MethodName := ⟨RX1, "acts", "(II)Z"⟩
def RX2 : String := "MornMarket$Readings"
def TX2 : u_T := fun k => match k with
  | 0 => ("MornMarket$Readings", "morning", "[I", true)
  | 1 => ("MornMarket$Readings", "day", "[I", true)
  | 2 => ("MornMarket$Readings", "fresh", "[I", true)
  | _ => ("MornMarket$Readings", "count", "I", false)
def tyX2 : Nat → FieldType := fun k => match k with
  | 0 => .array .int
  | 1 => .array .int
  | 2 => .array .int
  | _ => .int
theorem nmX2 : ∀ a, a < 4 → ∀ b, b < 4 → a ≠ b → (TX2 a).2.1 ≠ (TX2 b).2.1 := by decide +kernel
theorem tyX2_ok : ∀ k, k < 4 → parseFieldDescriptor (TX2 k).2.2.1 = some (tyX2 k) := by decide +kernel
abbrev cX2_init : ByteArray := prog_4_method_1_code
def yX2_init : MethodName := ⟨RX2, "<init>", "()V"⟩
abbrev cX2_append : ByteArray := prog_4_method_2_code
def yX2_append : MethodName := ⟨RX2, "append", "(III)I"⟩
abbrev cX2_areSoWith : ByteArray := prog_4_method_3_code
def yX2_areSoWith : MethodName := ⟨RX2, "areSoWith", "(LMornMarket$Market;IIII)Z"⟩
def RX3 : String := "MornMarket$Sheet"
def TX3 : u_T := fun k => match k with
  | 0 => ("MornMarket$Sheet", "cells", "[I", true)
  | 1 => ("MornMarket$Sheet", "length", "I", false)
  | _ => ("MornMarket$Sheet", "lane", "I", false)
def tyX3 : Nat → FieldType := fun k => match k with
  | 0 => .array .int
  | 1 => .int
  | _ => .int
theorem nmX3 : ∀ a, a < 3 → ∀ b, b < 3 → a ≠ b → (TX3 a).2.1 ≠ (TX3 b).2.1 := by decide +kernel
theorem tyX3_ok : ∀ k, k < 3 → parseFieldDescriptor (TX3 k).2.2.1 = some (tyX3 k) := by decide +kernel
abbrev cX3_init : ByteArray := prog_5_method_1_code
def yX3_init : MethodName := ⟨RX3, "<init>", "()V"⟩
abbrev cX3_getRow : ByteArray := prog_5_method_2_code
def yX3_getRow : MethodName := ⟨RX3, "getRow", "(II)V"⟩
abbrev cX3_hasRow : ByteArray := prog_5_method_3_code
def yX3_hasRow : MethodName := ⟨RX3, "hasRow", "()Z"⟩
abbrev cX3_isOfAnotherLane : ByteArray := prog_5_method_4_code
def yX3_isOfAnotherLane : MethodName := ⟨RX3, "isOfAnotherLane", "(I)Z"⟩
abbrev cX3_hasCells : ByteArray := prog_5_method_5_code
def yX3_hasCells : MethodName := ⟨RX3, "hasCells", "(II)Z"⟩
abbrev cX3_cutToLane : ByteArray := prog_5_method_6_code
def yX3_cutToLane : MethodName := ⟨RX3, "cutToLane", "(I)I"⟩
def RX4 : String := "MornMarket$TextReader"
def TX4 : u_T := fun k => match k with
  | 0 => ("MornMarket$TextReader", "codes", "[I", true)
  | 1 => ("MornMarket$TextReader", "count", "I", false)
  | 2 => ("MornMarket$TextReader", "place", "I", false)
  | _ => ("MornMarket$TextReader", "latest", "I", false)
def tyX4 : Nat → FieldType := fun k => match k with
  | 0 => .array .int
  | 1 => .int
  | 2 => .int
  | _ => .int
theorem nmX4 : ∀ a, a < 4 → ∀ b, b < 4 → a ≠ b → (TX4 a).2.1 ≠ (TX4 b).2.1 := by decide +kernel
theorem tyX4_ok : ∀ k, k < 4 → parseFieldDescriptor (TX4 k).2.2.1 = some (tyX4 k) := by decide +kernel
abbrev cX4_init : ByteArray := prog_6_method_1_code
def yX4_init : MethodName := ⟨RX4, "<init>", "()V"⟩
abbrev cX4_firstFaultOf : ByteArray := prog_6_method_2_code
def yX4_firstFaultOf : MethodName := ⟨RX4, "firstFaultOf", "(LMornMarket$Sheet;IILMornMarket$Market;)I"⟩
abbrev cX4_takes : ByteArray := prog_6_method_3_code
def yX4_takes : MethodName := ⟨RX4, "takes", "(II)Z"⟩
abbrev cX4_takesPerson : ByteArray := prog_6_method_4_code
def yX4_takesPerson : MethodName := ⟨RX4, "takesPerson", "(LMornMarket$Market;I)Z"⟩
abbrev cX4_takesMorning : ByteArray := prog_6_method_5_code
def yX4_takesMorning : MethodName := ⟨RX4, "takesMorning", "(LMornMarket$Market;I)Z"⟩
def RX5 : String := "MornMarket"
def TX5 : u_T := fun k => match k with
  | 0 => ("MornMarket", "sheets", "[LMornMarket$Sheet;", true)
  | 1 => ("MornMarket", "now", "LMornMarket$Market;", true)
  | 2 => ("MornMarket", "draft", "LMornMarket$Market;", true)
  | 3 => ("MornMarket", "reader", "LMornMarket$TextReader;", true)
  | 4 => ("MornMarket", "keeping", "LMornMarket$Keeping;", true)
  | 5 => ("MornMarket", "readings", "LMornMarket$Readings;", true)
  | 6 => ("MornMarket", "traceSoFar", "I", false)
  | _ => ("MornMarket", "latestFault", "I", false)
def tyX5 : Nat → FieldType := fun k => match k with
  | 0 => .array (.object "MornMarket$Sheet")
  | 1 => .object "MornMarket$Market"
  | 2 => .object "MornMarket$Market"
  | 3 => .object "MornMarket$TextReader"
  | 4 => .object "MornMarket$Keeping"
  | 5 => .object "MornMarket$Readings"
  | 6 => .int
  | _ => .int
theorem nmX5 : ∀ a, a < 8 → ∀ b, b < 8 → a ≠ b → (TX5 a).2.1 ≠ (TX5 b).2.1 := by decide +kernel
theorem tyX5_ok : ∀ k, k < 8 → parseFieldDescriptor (TX5 k).2.2.1 = some (tyX5 k) := by decide +kernel
abbrev cX5_init : ByteArray := prog_1_method_1_code
def yX5_init : MethodName := ⟨RX5, "<init>", "()V"⟩
abbrev cX5_market : ByteArray := prog_1_method_2_code
def yX5_market : MethodName := ⟨RX5, "market", "(IIII)I"⟩
abbrev cX5_ofMorning : ByteArray := prog_1_method_3_code
def yX5_ofMorning : MethodName := ⟨RX5, "ofMorning", "(II)I"⟩
abbrev cX5_ofPerson : ByteArray := prog_1_method_4_code
def yX5_ofPerson : MethodName := ⟨RX5, "ofPerson", "(II)I"⟩
abbrev cX5_fill : ByteArray := prog_1_method_5_code
def yX5_fill : MethodName := ⟨RX5, "fill", "(II)I"⟩
abbrev cX5_rate : ByteArray := prog_1_method_6_code
def yX5_rate : MethodName := ⟨RX5, "rate", "(I)I"⟩
abbrev cX5_fresh : ByteArray := prog_1_method_7_code
def yX5_fresh : MethodName := ⟨RX5, "fresh", "(II)I"⟩
abbrev cX5_price : ByteArray := prog_1_method_8_code
def yX5_price : MethodName := ⟨RX5, "price", "(I)I"⟩
abbrev cX5_sell : ByteArray := prog_1_method_9_code
def yX5_sell : MethodName := ⟨RX5, "sell", "(II)I"⟩
abbrev cX5_open : ByteArray := prog_1_method_10_code
def yX5_open : MethodName := ⟨RX5, "open", "(I)I"⟩
abbrev cX5_sleep : ByteArray := prog_1_method_11_code
def yX5_sleep : MethodName := ⟨RX5, "sleep", "(I)I"⟩
abbrev cX5_year : ByteArray := prog_1_method_12_code
def yX5_year : MethodName := ⟨RX5, "year", "(IIIII)I"⟩
abbrev cX5_feast : ByteArray := prog_1_method_13_code
def yX5_feast : MethodName := ⟨RX5, "feast", "(I)I"⟩
abbrev cX5_keep : ByteArray := prog_1_method_14_code
def yX5_keep : MethodName := ⟨RX5, "keep", "(III)I"⟩
abbrev cX5_buy : ByteArray := prog_1_method_15_code
def yX5_buy : MethodName := ⟨RX5, "buy", "(III)I"⟩
abbrev cX5_debt : ByteArray := prog_1_method_16_code
def yX5_debt : MethodName := ⟨RX5, "debt", "(III)I"⟩
abbrev cX5_swap : ByteArray := prog_1_method_17_code
def yX5_swap : MethodName := ⟨RX5, "swap", "(I)I"⟩
abbrev cX5_reading : ByteArray := prog_1_method_18_code
def yX5_reading : MethodName := ⟨RX5, "reading", "(III)I"⟩
abbrev cX5_back : ByteArray := prog_1_method_19_code
def yX5_back : MethodName := ⟨RX5, "back", "(I)I"⟩
abbrev cX5_dews : ByteArray := prog_1_method_20_code
def yX5_dews : MethodName := ⟨RX5, "dews", "(I)I"⟩
abbrev cX5_kinds : ByteArray := prog_1_method_21_code
def yX5_kinds : MethodName := ⟨RX5, "kinds", "(I)I"⟩
abbrev cX5_takens : ByteArray := prog_1_method_22_code
def yX5_takens : MethodName := ⟨RX5, "takens", "(I)I"⟩
abbrev cX5_odds : ByteArray := prog_1_method_23_code
def yX5_odds : MethodName := ⟨RX5, "odds", "(III)J"⟩
abbrev cX5_sheet : ByteArray := prog_1_method_24_code
def yX5_sheet : MethodName := ⟨RX5, "sheet", "(III)I"⟩
abbrev cX5_lose : ByteArray := prog_1_method_25_code
def yX5_lose : MethodName := ⟨RX5, "lose", "(I)I"⟩
abbrev cX5_put : ByteArray := prog_1_method_26_code
def yX5_put : MethodName := ⟨RX5, "put", "(III)I"⟩
abbrev cX5_cell : ByteArray := prog_1_method_27_code
def yX5_cell : MethodName := ⟨RX5, "cell", "(III)J"⟩
abbrev cX5_copy : ByteArray := prog_1_method_28_code
def yX5_copy : MethodName := ⟨RX5, "copy", "(IIIII)I"⟩
abbrev cX5_tell : ByteArray := prog_1_method_29_code
def yX5_tell : MethodName := ⟨RX5, "tell", "(I)I"⟩
abbrev cX5_crow : ByteArray := prog_1_method_30_code
def yX5_crow : MethodName := ⟨RX5, "crow", "(I)I"⟩
abbrev cX5_as : ByteArray := prog_1_method_31_code
def yX5_as : MethodName := ⟨RX5, "as", "(II)I"⟩
abbrev cX5_trace : ByteArray := prog_1_method_32_code
def yX5_trace : MethodName := ⟨RX5, "trace", "()I"⟩
abbrev cX5_fault : ByteArray := prog_1_method_33_code
def yX5_fault : MethodName := ⟨RX5, "fault", "()I"⟩
abbrev cX5_many : ByteArray := prog_1_method_34_code
def yX5_many : MethodName := ⟨RX5, "many", "(I)I"⟩
abbrev cX5_sheetAt : ByteArray := prog_1_method_35_code
def yX5_sheetAt : MethodName := ⟨RX5, "sheetAt", "(I)LMornMarket$Sheet;"⟩
abbrev cX5_faulted : ByteArray := prog_1_method_36_code
def yX5_faulted : MethodName := ⟨RX5, "faulted", "(I)I"⟩
abbrev cX5_lostBy : ByteArray := prog_1_method_37_code
def yX5_lostBy : MethodName := ⟨RX5, "lostBy", "(I)J"⟩
abbrev cX5_isLane : ByteArray := prog_1_method_38_code
def yX5_isLane : MethodName := ⟨RX5, "isLane", "(I)Z"⟩
abbrev cX5_isIn : ByteArray := prog_1_method_39_code
def yX5_isIn : MethodName := ⟨RX5, "isIn", "(II)Z"⟩
abbrev cX5_isWithin : ByteArray := prog_1_method_40_code
def yX5_isWithin : MethodName := ⟨RX5, "isWithin", "(II)Z"⟩
abbrev cX5_freshBy : ByteArray := prog_1_method_41_code
def yX5_freshBy : MethodName := ⟨RX5, "freshBy", "(IIII)I"⟩
abbrev cX5_canBeAskedOfYear : ByteArray := prog_1_method_42_code
def yX5_canBeAskedOfYear : MethodName := ⟨RX5, "canBeAskedOfYear", "(I)Z"⟩
abbrev cX5_refusalOfPairs : ByteArray := prog_1_method_43_code
def yX5_refusalOfPairs : MethodName := ⟨RX5, "refusalOfPairs", "(LMornMarket$Sheet;II)I"⟩
abbrev cX5_firstWrongIn : ByteArray := prog_1_method_44_code
def yX5_firstWrongIn : MethodName := ⟨RX5, "firstWrongIn", "(LMornMarket$Sheet;II)I"⟩
abbrev cX5_behindYear : ByteArray := prog_1_method_45_code
def yX5_behindYear : MethodName := ⟨RX5, "behindYear", "(I)I"⟩
abbrev cX5_setToBuy : ByteArray := prog_1_method_46_code
def yX5_setToBuy : MethodName := ⟨RX5, "setToBuy", "(II)I"⟩
abbrev cX5_setToSell : ByteArray := prog_1_method_47_code
def yX5_setToSell : MethodName := ⟨RX5, "setToSell", "(II)I"⟩
abbrev cX5_gainOfExchange : ByteArray := prog_1_method_48_code
def yX5_gainOfExchange : MethodName := ⟨RX5, "gainOfExchange", "(II)I"⟩
abbrev cX5_begins : ByteArray := prog_1_method_49_code
def yX5_begins : MethodName := ⟨RX5, "begins", "(I)V"⟩
abbrev cX5_toldByClear : ByteArray := prog_1_method_50_code
def yX5_toldByClear : MethodName := ⟨RX5, "toldByClear", "(I)I"⟩
abbrev cX5_toldByFrost : ByteArray := prog_1_method_51_code
def yX5_toldByFrost : MethodName := ⟨RX5, "toldByFrost", "(I)I"⟩
abbrev cX5_toldByPainted : ByteArray := prog_1_method_52_code
def yX5_toldByPainted : MethodName := ⟨RX5, "toldByPainted", "(I)I"⟩
abbrev cX5_crowedByLent : ByteArray := prog_1_method_53_code
def yX5_crowedByLent : MethodName := ⟨RX5, "crowedByLent", "(I)I"⟩
abbrev cX5_crowedByPainted : ByteArray := prog_1_method_54_code
def yX5_crowedByPainted : MethodName := ⟨RX5, "crowedByPainted", "()I"⟩
def RX6 : String := "MornMarketModel"
def TX6 : u_T := fun k => match k with
  | 0 => ("MornMarketModel", "fault", "I", false)
  | 1 => ("MornMarketModel", "trace", "I", false)
  | 2 => ("MornMarketModel", "sorts", "[I", true)
  | 3 => ("MornMarketModel", "sheetLong", "[I", true)
  | 4 => ("MornMarketModel", "cells", "[I", true)
  | 5 => ("MornMarketModel", "people", "I", false)
  | 6 => ("MornMarketModel", "mornings", "I", false)
  | 7 => ("MornMarketModel", "rateNow", "I", false)
  | 8 => ("MornMarketModel", "today", "I", false)
  | 9 => ("MornMarketModel", "purse", "[I", true)
  | 10 => ("MornMarketModel", "joyOf", "[I", true)
  | 11 => ("MornMarketModel", "hasOpened", "[Z", true)
  | 12 => ("MornMarketModel", "kind", "[I", true)
  | 13 => ("MornMarketModel", "owner", "[I", true)
  | 14 => ("MornMarketModel", "taken", "[I", true)
  | 15 => ("MornMarketModel", "dew", "[I", true)
  | 16 => ("MornMarketModel", "opened", "[Z", true)
  | 17 => ("MornMarketModel", "at", "I", false)
  | 18 => ("MornMarketModel", "readRate", "I", false)
  | 19 => ("MornMarketModel", "readPeople", "I", false)
  | 20 => ("MornMarketModel", "readMornings", "I", false)
  | 21 => ("MornMarketModel", "readPurse", "[I", true)
  | 22 => ("MornMarketModel", "read", "[I", true)
  | 23 => ("MornMarketModel", "keptToday", "I", false)
  | 24 => ("MornMarketModel", "keptPurse", "[I", true)
  | 25 => ("MornMarketModel", "keptJoy", "[I", true)
  | 26 => ("MornMarketModel", "keptHas", "[Z", true)
  | 27 => ("MornMarketModel", "keptOwner", "[I", true)
  | 28 => ("MornMarketModel", "keptOpened", "[Z", true)
  | 29 => ("MornMarketModel", "row", "[I", true)
  | 30 => ("MornMarketModel", "found", "[I", true)
  | 31 => ("MornMarketModel", "foundLess", "I", false)
  | 32 => ("MornMarketModel", "foundMore", "I", false)
  | 33 => ("MornMarketModel", "readings", "I", false)
  | 34 => ("MornMarketModel", "readWhich", "[I", true)
  | 35 => ("MornMarketModel", "readWhen", "[I", true)
  | _ => ("MornMarketModel", "readFresh", "[I", true)
def tyX6 : Nat → FieldType := fun k => match k with
  | 0 => .int
  | 1 => .int
  | 2 => .array .int
  | 3 => .array .int
  | 4 => .array .int
  | 5 => .int
  | 6 => .int
  | 7 => .int
  | 8 => .int
  | 9 => .array .int
  | 10 => .array .int
  | 11 => .array .boolean
  | 12 => .array .int
  | 13 => .array .int
  | 14 => .array .int
  | 15 => .array .int
  | 16 => .array .boolean
  | 17 => .int
  | 18 => .int
  | 19 => .int
  | 20 => .int
  | 21 => .array .int
  | 22 => .array .int
  | 23 => .int
  | 24 => .array .int
  | 25 => .array .int
  | 26 => .array .boolean
  | 27 => .array .int
  | 28 => .array .boolean
  | 29 => .array .int
  | 30 => .array .int
  | 31 => .int
  | 32 => .int
  | 33 => .int
  | 34 => .array .int
  | 35 => .array .int
  | _ => .array .int
theorem nmX6 : ∀ a, a < 37 → ∀ b, b < 37 → a ≠ b → (TX6 a).2.1 ≠ (TX6 b).2.1 := by decide +kernel
theorem tyX6_ok : ∀ k, k < 37 → parseFieldDescriptor (TX6 k).2.2.1 = some (tyX6 k) := by decide +kernel
abbrev cX6_init : ByteArray := prog_8_method_1_code
def yX6_init : MethodName := ⟨RX6, "<init>", "()V"⟩
abbrev cX6_fails : ByteArray := prog_8_method_3_code
def yX6_fails : MethodName := ⟨RX6, "fails", "(I)I"⟩
abbrev cX6_lost : ByteArray := prog_8_method_4_code
def yX6_lost : MethodName := ⟨RX6, "lost", "(I)J"⟩
abbrev cX6_within : ByteArray := prog_8_method_5_code
def yX6_within : MethodName := ⟨RX6, "within", "(III)Z"⟩
abbrev cX6_isSheet : ByteArray := prog_8_method_6_code
def yX6_isSheet : MethodName := ⟨RX6, "isSheet", "(I)Z"⟩
abbrev cX6_isSort : ByteArray := prog_8_method_7_code
def yX6_isSort : MethodName := ⟨RX6, "isSort", "(I)Z"⟩
abbrev cX6_against : ByteArray := prog_8_method_8_code
def yX6_against : MethodName := ⟨RX6, "against", "(IIII)I"⟩
abbrev cX6_isPerson : ByteArray := prog_8_method_9_code
def yX6_isPerson : MethodName := ⟨RX6, "isPerson", "(I)Z"⟩
abbrev cX6_isMorning : ByteArray := prog_8_method_10_code
def yX6_isMorning : MethodName := ⟨RX6, "isMorning", "(I)Z"⟩
abbrev cX6_digit : ByteArray := prog_8_method_11_code
def yX6_digit : MethodName := ⟨RX6, "digit", "(III)I"⟩
abbrev cX6_isSign : ByteArray := prog_8_method_12_code
def yX6_isSign : MethodName := ⟨RX6, "isSign", "(II)Z"⟩
abbrev cX6_market : ByteArray := prog_8_method_13_code
def yX6_market : MethodName := ⟨RX6, "market", "(IIII)I"⟩
abbrev cX6_takeMarket : ByteArray := prog_8_method_14_code
def yX6_takeMarket : MethodName := ⟨RX6, "takeMarket", "()V"⟩
abbrev cX6_readMarket : ByteArray := prog_8_method_15_code
def yX6_readMarket : MethodName := ⟨RX6, "readMarket", "(I)Z"⟩
abbrev cX6_readPerson : ByteArray := prog_8_method_16_code
def yX6_readPerson : MethodName := ⟨RX6, "readPerson", "(I)Z"⟩
abbrev cX6_readMorning : ByteArray := prog_8_method_17_code
def yX6_readMorning : MethodName := ⟨RX6, "readMorning", "(I)Z"⟩
abbrev cX6_freshOn : ByteArray := prog_8_method_18_code
def yX6_freshOn : MethodName := ⟨RX6, "freshOn", "(II)I"⟩
abbrev cX6_priceOf : ByteArray := prog_8_method_19_code
def yX6_priceOf : MethodName := ⟨RX6, "priceOf", "(I)I"⟩
abbrev cX6_ofMorning : ByteArray := prog_8_method_20_code
def yX6_ofMorning : MethodName := ⟨RX6, "ofMorning", "(II)I"⟩
abbrev cX6_ownOf : ByteArray := prog_8_method_21_code
def yX6_ownOf : MethodName := ⟨RX6, "ownOf", "(I)I"⟩
abbrev cX6_size : ByteArray := prog_8_method_22_code
def yX6_size : MethodName := ⟨RX6, "size", "(I)I"⟩
abbrev cX6_ofPerson : ByteArray := prog_8_method_23_code
def yX6_ofPerson : MethodName := ⟨RX6, "ofPerson", "(II)I"⟩
abbrev cX6_fill : ByteArray := prog_8_method_24_code
def yX6_fill : MethodName := ⟨RX6, "fill", "(II)I"⟩
abbrev cX6_rate : ByteArray := prog_8_method_25_code
def yX6_rate : MethodName := ⟨RX6, "rate", "(I)I"⟩
abbrev cX6_fresh : ByteArray := prog_8_method_26_code
def yX6_fresh : MethodName := ⟨RX6, "fresh", "(II)I"⟩
abbrev cX6_price : ByteArray := prog_8_method_27_code
def yX6_price : MethodName := ⟨RX6, "price", "(I)I"⟩
abbrev cX6_maySell : ByteArray := prog_8_method_28_code
def yX6_maySell : MethodName := ⟨RX6, "maySell", "(II)Z"⟩
abbrev cX6_doSell : ByteArray := prog_8_method_29_code
def yX6_doSell : MethodName := ⟨RX6, "doSell", "(II)V"⟩
abbrev cX6_doOpen : ByteArray := prog_8_method_30_code
def yX6_doOpen : MethodName := ⟨RX6, "doOpen", "(I)I"⟩
abbrev cX6_doSleep : ByteArray := prog_8_method_31_code
def yX6_doSleep : MethodName := ⟨RX6, "doSleep", "(I)V"⟩
abbrev cX6_sell : ByteArray := prog_8_method_32_code
def yX6_sell : MethodName := ⟨RX6, "sell", "(II)I"⟩
abbrev cX6_open : ByteArray := prog_8_method_33_code
def yX6_open : MethodName := ⟨RX6, "open", "(I)I"⟩
abbrev cX6_sleep : ByteArray := prog_8_method_34_code
def yX6_sleep : MethodName := ⟨RX6, "sleep", "(I)I"⟩
abbrev cX6_keepAll : ByteArray := prog_8_method_35_code
def yX6_keepAll : MethodName := ⟨RX6, "keepAll", "()V"⟩
abbrev cX6_putBack : ByteArray := prog_8_method_36_code
def yX6_putBack : MethodName := ⟨RX6, "putBack", "()V"⟩
abbrev cX6_goes : ByteArray := prog_8_method_37_code
def yX6_goes : MethodName := ⟨RX6, "goes", "(II)Z"⟩
abbrev cX6_year : ByteArray := prog_8_method_38_code
def yX6_year : MethodName := ⟨RX6, "year", "(IIIII)I"⟩
abbrev cX6_refusesPair : ByteArray := prog_8_method_39_code
def yX6_refusesPair : MethodName := ⟨RX6, "refusesPair", "(II)I"⟩
abbrev cX6_tellYear : ByteArray := prog_8_method_40_code
def yX6_tellYear : MethodName := ⟨RX6, "tellYear", "(I)I"⟩
abbrev cX6_joyBy : ByteArray := prog_8_method_41_code
def yX6_joyBy : MethodName := ⟨RX6, "joyBy", "(IIZ)I"⟩
abbrev cX6_feastBy : ByteArray := prog_8_method_42_code
def yX6_feastBy : MethodName := ⟨RX6, "feastBy", "(II)I"⟩
abbrev cX6_feast : ByteArray := prog_8_method_43_code
def yX6_feast : MethodName := ⟨RX6, "feast", "(I)I"⟩
abbrev cX6_joyOfRow : ByteArray := prog_8_method_44_code
def yX6_joyOfRow : MethodName := ⟨RX6, "joyOfRow", "(III)I"⟩
abbrev cX6_findKeep : ByteArray := prog_8_method_45_code
def yX6_findKeep : MethodName := ⟨RX6, "findKeep", "(II)I"⟩
abbrev cX6_keep : ByteArray := prog_8_method_46_code
def yX6_keep : MethodName := ⟨RX6, "keep", "(III)I"⟩
abbrev cX6_pricesOf : ByteArray := prog_8_method_47_code
def yX6_pricesOf : MethodName := ⟨RX6, "pricesOf", "(I)I"⟩
abbrev cX6_buy : ByteArray := prog_8_method_48_code
def yX6_buy : MethodName := ⟨RX6, "buy", "(III)I"⟩
abbrev cX6_isCheaper : ByteArray := prog_8_method_49_code
def yX6_isCheaper : MethodName := ⟨RX6, "isCheaper", "(II)Z"⟩
abbrev cX6_debt : ByteArray := prog_8_method_50_code
def yX6_debt : MethodName := ⟨RX6, "debt", "(III)I"⟩
abbrev cX6_findSwap : ByteArray := prog_8_method_51_code
def yX6_findSwap : MethodName := ⟨RX6, "findSwap", "()I"⟩
abbrev cX6_gainBy : ByteArray := prog_8_method_52_code
def yX6_gainBy : MethodName := ⟨RX6, "gainBy", "(II)I"⟩
abbrev cX6_swap : ByteArray := prog_8_method_53_code
def yX6_swap : MethodName := ⟨RX6, "swap", "(I)I"⟩
abbrev cX6_reading : ByteArray := prog_8_method_54_code
def yX6_reading : MethodName := ⟨RX6, "reading", "(III)I"⟩
abbrev cX6_back : ByteArray := prog_8_method_55_code
def yX6_back : MethodName := ⟨RX6, "back", "(I)I"⟩
abbrev cX6_areSo : ByteArray := prog_8_method_56_code
def yX6_areSo : MethodName := ⟨RX6, "areSo", "()Z"⟩
abbrev cX6_dews : ByteArray := prog_8_method_57_code
def yX6_dews : MethodName := ⟨RX6, "dews", "(I)I"⟩
abbrev cX6_kinds : ByteArray := prog_8_method_58_code
def yX6_kinds : MethodName := ⟨RX6, "kinds", "(I)I"⟩
abbrev cX6_takens : ByteArray := prog_8_method_59_code
def yX6_takens : MethodName := ⟨RX6, "takens", "(I)I"⟩
abbrev cX6_inLeastTerms : ByteArray := prog_8_method_60_code
def yX6_inLeastTerms : MethodName := ⟨RX6, "inLeastTerms", "(JJI)J"⟩
abbrev cX6_odds : ByteArray := prog_8_method_61_code
def yX6_odds : MethodName := ⟨RX6, "odds", "(III)J"⟩
abbrev cX6_sheet : ByteArray := prog_8_method_62_code
def yX6_sheet : MethodName := ⟨RX6, "sheet", "(III)I"⟩
abbrev cX6_lose : ByteArray := prog_8_method_63_code
def yX6_lose : MethodName := ⟨RX6, "lose", "(I)I"⟩
abbrev cX6_put : ByteArray := prog_8_method_64_code
def yX6_put : MethodName := ⟨RX6, "put", "(III)I"⟩
abbrev cX6_cell : ByteArray := prog_8_method_65_code
def yX6_cell : MethodName := ⟨RX6, "cell", "(III)J"⟩
abbrev cX6_copy : ByteArray := prog_8_method_66_code
def yX6_copy : MethodName := ⟨RX6, "copy", "(IIIII)I"⟩
abbrev cX6_begins : ByteArray := prog_8_method_67_code
def yX6_begins : MethodName := ⟨RX6, "begins", "(I)V"⟩
abbrev cX6_tell : ByteArray := prog_8_method_68_code
def yX6_tell : MethodName := ⟨RX6, "tell", "(I)I"⟩
abbrev cX6_crow : ByteArray := prog_8_method_69_code
def yX6_crow : MethodName := ⟨RX6, "crow", "(I)I"⟩
abbrev cX6_as : ByteArray := prog_8_method_70_code
def yX6_as : MethodName := ⟨RX6, "as", "(II)I"⟩
abbrev cX6_trace : ByteArray := prog_8_method_71_code
def yX6_trace : MethodName := ⟨RX6, "trace", "()I"⟩
abbrev cX6_fault : ByteArray := prog_8_method_72_code
def yX6_fault : MethodName := ⟨RX6, "fault", "()I"⟩
abbrev cX6_many : ByteArray := prog_8_method_73_code
def yX6_many : MethodName := ⟨RX6, "many", "(I)I"⟩
def RJ6 : String := "java/lang/Integer"
def TJ6 : u_T := fun k => match k with
  | _ => ("", "", "", false)
def tyJ6 : Nat → FieldType := fun k => match k with
  | _ => .int
theorem nmJ6 : ∀ a, a < 0 → ∀ b, b < 0 → a ≠ b → (TJ6 a).2.1 ≠ (TJ6 b).2.1 := by decide +kernel
theorem tyJ6_ok : ∀ k, k < 0 → parseFieldDescriptor (TJ6 k).2.2.1 = some (tyJ6 k) := by decide +kernel
abbrev cJ6_bitCount_0f7a4 : ByteArray := prog_9_method_49_code
def yJ6_bitCount_0f7a4 : MethodName := ⟨RJ6, "bitCount", "(I)I"⟩
def RJ10 : String := "java/lang/System"
def TJ10 : u_T := fun k => match k with
  | _ => ("", "", "", false)
def tyJ10 : Nat → FieldType := fun k => match k with
  | _ => .int
theorem nmJ10 : ∀ a, a < 0 → ∀ b, b < 0 → a ≠ b → (TJ10 a).2.1 ≠ (TJ10 b).2.1 := by decide +kernel
theorem tyJ10_ok : ∀ k, k < 0 → parseFieldDescriptor (TJ10 k).2.2.1 = some (tyJ10 k) := by decide +kernel
def RJ7 : String := "java/util/Arrays"
def TJ7 : u_T := fun k => match k with
  | _ => ("", "", "", false)
def tyJ7 : Nat → FieldType := fun k => match k with
  | _ => .int
theorem nmJ7 : ∀ a, a < 0 → ∀ b, b < 0 → a ≠ b → (TJ7 a).2.1 ≠ (TJ7 b).2.1 := by decide +kernel
theorem tyJ7_ok : ∀ k, k < 0 → parseFieldDescriptor (TJ7 k).2.2.1 = some (tyJ7 k) := by decide +kernel
abbrev cJ7_fill_53178 : ByteArray := prog_11_method_103_code
def yJ7_fill_53178 : MethodName := ⟨RJ7, "fill", "([II)V"⟩
def RL : String := "MornMarketLaw"
abbrev cL_law : ByteArray := code
def yL_law : MethodName := ⟨RL, "law", "([I)Z"⟩
abbrev vwCl : List vw_C := [(RX0, TX0, 3), (RX1, TX1, 12), (RX2, TX2, 4), (RX3, TX3, 3), (RX4, TX4, 4), (RX5, TX5, 8), (RX6, TX6, 37)]
end
section
theorem dX0_init_0 : decode cX0_init 0 = .ok (.aload_n 0, 1) := by decide +kernel
theorem dX0_init_1 : decode cX0_init 1 = .ok (.invokespecial 3, 3) := by decide +kernel
theorem dX0_init_4 : decode cX0_init 4 = .ok (.aload_n 0, 1) := by decide +kernel
theorem dX0_init_5 : decode cX0_init 5 = .ok (.sipush 192, 3) := by decide +kernel
theorem dX0_init_8 : decode cX0_init 8 = .ok (.newarray .int, 2) := by decide +kernel
theorem dX0_init_10 : decode cX0_init 10 = .ok (.putfield 9, 3) := by decide +kernel
theorem dX0_init_13 : decode cX0_init 13 = .ok (.aload_n 0, 1) := by decide +kernel
theorem dX0_init_14 : decode cX0_init 14 = .ok (.iconst 0, 1) := by decide +kernel
theorem dX0_init_15 : decode cX0_init 15 = .ok (.putfield 15, 3) := by decide +kernel
theorem dX0_init_18 : decode cX0_init 18 = .ok (.aload_n 0, 1) := by decide +kernel
theorem dX0_init_19 : decode cX0_init 19 = .ok (.iconst 0, 1) := by decide +kernel
theorem dX0_init_20 : decode cX0_init 20 = .ok (.putfield 19, 3) := by decide +kernel
theorem dX0_init_23 : decode cX0_init 23 = .ok (.return_, 1) := by decide +kernel
theorem dX0_findBest_0 : decode cX0_findBest 0 = .ok (.aload_n 1, 1) := by decide +kernel
theorem dX0_findBest_1 : decode cX0_findBest 1 = .ok (.iload_n 2, 1) := by decide +kernel
theorem dX0_findBest_2 : decode cX0_findBest 2 = .ok (.invokevirtual 22, 3) := by decide +kernel
theorem dX0_findBest_5 : decode cX0_findBest 5 = .ok (.istore 4, 2) := by decide +kernel
theorem dX0_findBest_7 : decode cX0_findBest 7 = .ok (.aload_n 0, 1) := by decide +kernel
theorem dX0_findBest_8 : decode cX0_findBest 8 = .ok (.aload_n 1, 1) := by decide +kernel
theorem dX0_findBest_9 : decode cX0_findBest 9 = .ok (.iload_n 2, 1) := by decide +kernel
theorem dX0_findBest_10 : decode cX0_findBest 10 = .ok (.iload_n 3, 1) := by decide +kernel
theorem dX0_findBest_11 : decode cX0_findBest 11 = .ok (.iload 4, 2) := by decide +kernel
theorem dX0_findBest_13 : decode cX0_findBest 13 = .ok (.invokevirtual 28, 3) := by decide +kernel
theorem dX0_findBest_16 : decode cX0_findBest 16 = .ok (.iconst 1, 1) := by decide +kernel
theorem dX0_findBest_17 : decode cX0_findBest 17 = .ok (.istore 5, 2) := by decide +kernel
theorem dX0_findBest_19 : decode cX0_findBest 19 = .ok (.iconst 0, 1) := by decide +kernel
theorem dX0_findBest_20 : decode cX0_findBest 20 = .ok (.istore 6, 2) := by decide +kernel
theorem dX0_findBest_22 : decode cX0_findBest 22 = .ok (.iload 6, 2) := by decide +kernel
theorem dX0_findBest_24 : decode cX0_findBest 24 = .ok (.bipush 6, 2) := by decide +kernel
theorem dX0_findBest_26 : decode cX0_findBest 26 = .ok (.if_icmp .ge 25, 3) := by decide +kernel
theorem dX0_findBest_29 : decode cX0_findBest 29 = .ok (.iload 4, 2) := by decide +kernel
theorem dX0_findBest_31 : decode cX0_findBest 31 = .ok (.iload 6, 2) := by decide +kernel
theorem dX0_findBest_33 : decode cX0_findBest 33 = .ok (.invokestatic 32, 3) := by decide +kernel
theorem dX0_findBest_36 : decode cX0_findBest 36 = .ok (.ifCond .eq 9, 3) := by decide +kernel
theorem dX0_findBest_39 : decode cX0_findBest 39 = .ok (.iload 5, 2) := by decide +kernel
theorem dX0_findBest_41 : decode cX0_findBest 41 = .ok (.iload_n 3, 1) := by decide +kernel
theorem dX0_findBest_42 : decode cX0_findBest 42 = .ok (.imul, 1) := by decide +kernel
theorem dX0_findBest_43 : decode cX0_findBest 43 = .ok (.istore 5, 2) := by decide +kernel
theorem dX0_findBest_45 : decode cX0_findBest 45 = .ok (.iinc 6 1, 3) := by decide +kernel
theorem dX0_findBest_48 : decode cX0_findBest 48 = .ok (.goto (-26), 3) := by decide +kernel
theorem dX0_findBest_51 : decode cX0_findBest 51 = .ok (.aload_n 0, 1) := by decide +kernel
theorem dX0_findBest_52 : decode cX0_findBest 52 = .ok (.bipush (-9), 2) := by decide +kernel
theorem dX0_findBest_54 : decode cX0_findBest 54 = .ok (.putfield 15, 3) := by decide +kernel
theorem dX0_findBest_57 : decode cX0_findBest 57 = .ok (.iconst 0, 1) := by decide +kernel
theorem dX0_findBest_58 : decode cX0_findBest 58 = .ok (.istore 6, 2) := by decide +kernel
theorem dX0_findBest_60 : decode cX0_findBest 60 = .ok (.iload 6, 2) := by decide +kernel
theorem dX0_findBest_62 : decode cX0_findBest 62 = .ok (.iload 5, 2) := by decide +kernel
theorem dX0_findBest_64 : decode cX0_findBest 64 = .ok (.if_icmp .ge 50, 3) := by decide +kernel
theorem dX0_findBest_67 : decode cX0_findBest 67 = .ok (.aload_n 0, 1) := by decide +kernel
theorem dX0_findBest_68 : decode cX0_findBest 68 = .ok (.iload 6, 2) := by decide +kernel
theorem dX0_findBest_70 : decode cX0_findBest 70 = .ok (.iload_n 3, 1) := by decide +kernel
theorem dX0_findBest_71 : decode cX0_findBest 71 = .ok (.iload 4, 2) := by decide +kernel
theorem dX0_findBest_73 : decode cX0_findBest 73 = .ok (.invokevirtual 36, 3) := by decide +kernel
theorem dX0_findBest_76 : decode cX0_findBest 76 = .ok (.istore 7, 2) := by decide +kernel
theorem dX0_findBest_78 : decode cX0_findBest 78 = .ok (.aload_n 0, 1) := by decide +kernel
theorem dX0_findBest_79 : decode cX0_findBest 79 = .ok (.iload 7, 2) := by decide +kernel
theorem dX0_findBest_81 : decode cX0_findBest 81 = .ok (.iload_n 3, 1) := by decide +kernel
theorem dX0_findBest_82 : decode cX0_findBest 82 = .ok (.invokevirtual 40, 3) := by decide +kernel
theorem dX0_findBest_85 : decode cX0_findBest 85 = .ok (.istore 8, 2) := by decide +kernel
theorem dX0_findBest_87 : decode cX0_findBest 87 = .ok (.iload 8, 2) := by decide +kernel
theorem dX0_findBest_89 : decode cX0_findBest 89 = .ok (.aload_n 0, 1) := by decide +kernel
theorem dX0_findBest_90 : decode cX0_findBest 90 = .ok (.getfield 15, 3) := by decide +kernel
theorem dX0_findBest_93 : decode cX0_findBest 93 = .ok (.if_icmp .le 15, 3) := by decide +kernel
theorem dX0_findBest_96 : decode cX0_findBest 96 = .ok (.aload_n 0, 1) := by decide +kernel
theorem dX0_findBest_97 : decode cX0_findBest 97 = .ok (.iload 8, 2) := by decide +kernel
theorem dX0_findBest_99 : decode cX0_findBest 99 = .ok (.putfield 15, 3) := by decide +kernel
theorem dX0_findBest_102 : decode cX0_findBest 102 = .ok (.aload_n 0, 1) := by decide +kernel
theorem dX0_findBest_103 : decode cX0_findBest 103 = .ok (.iload 7, 2) := by decide +kernel
theorem dX0_findBest_105 : decode cX0_findBest 105 = .ok (.putfield 19, 3) := by decide +kernel
theorem dX0_findBest_108 : decode cX0_findBest 108 = .ok (.iinc 6 1, 3) := by decide +kernel
theorem dX0_findBest_111 : decode cX0_findBest 111 = .ok (.goto (-51), 3) := by decide +kernel
theorem dX0_findBest_114 : decode cX0_findBest 114 = .ok (.return_, 1) := by decide +kernel
theorem dX0_dayOf_0 : decode cX0_dayOf 0 = .ok (.iconst 0, 1) := by decide +kernel
theorem dX0_dayOf_1 : decode cX0_dayOf 1 = .ok (.istore_n 2, 1) := by decide +kernel
theorem dX0_dayOf_2 : decode cX0_dayOf 2 = .ok (.iload_n 2, 1) := by decide +kernel
theorem dX0_dayOf_3 : decode cX0_dayOf 3 = .ok (.iconst 3, 1) := by decide +kernel
theorem dX0_dayOf_4 : decode cX0_dayOf 4 = .ok (.if_icmp .ge 27, 3) := by decide +kernel
theorem dX0_dayOf_7 : decode cX0_dayOf 7 = .ok (.aload_n 0, 1) := by decide +kernel
theorem dX0_dayOf_8 : decode cX0_dayOf 8 = .ok (.getfield 19, 3) := by decide +kernel
theorem dX0_dayOf_11 : decode cX0_dayOf 11 = .ok (.iload_n 2, 1) := by decide +kernel
theorem dX0_dayOf_12 : decode cX0_dayOf 12 = .ok (.bipush 6, 2) := by decide +kernel
theorem dX0_dayOf_14 : decode cX0_dayOf 14 = .ok (.imul, 1) := by decide +kernel
theorem dX0_dayOf_15 : decode cX0_dayOf 15 = .ok (.iload_n 1, 1) := by decide +kernel
theorem dX0_dayOf_16 : decode cX0_dayOf 16 = .ok (.iadd, 1) := by decide +kernel
theorem dX0_dayOf_17 : decode cX0_dayOf 17 = .ok (.invokestatic 32, 3) := by decide +kernel
theorem dX0_dayOf_20 : decode cX0_dayOf 20 = .ok (.ifCond .eq 5, 3) := by decide +kernel
theorem dX0_dayOf_23 : decode cX0_dayOf 23 = .ok (.iload_n 2, 1) := by decide +kernel
theorem dX0_dayOf_24 : decode cX0_dayOf 24 = .ok (.ireturn, 1) := by decide +kernel
theorem dX0_dayOf_25 : decode cX0_dayOf 25 = .ok (.iinc 2 1, 3) := by decide +kernel
theorem dX0_dayOf_28 : decode cX0_dayOf 28 = .ok (.goto (-26), 3) := by decide +kernel
theorem dX0_dayOf_31 : decode cX0_dayOf 31 = .ok (.bipush (-9), 2) := by decide +kernel
theorem dX0_dayOf_33 : decode cX0_dayOf 33 = .ok (.ireturn, 1) := by decide +kernel
theorem dX0_weighDays_0 : decode cX0_weighDays 0 = .ok (.iconst 0, 1) := by decide +kernel
theorem dX0_weighDays_1 : decode cX0_weighDays 1 = .ok (.istore 5, 2) := by decide +kernel
theorem dX0_weighDays_3 : decode cX0_weighDays 3 = .ok (.iload 5, 2) := by decide +kernel
theorem dX0_weighDays_5 : decode cX0_weighDays 5 = .ok (.iload_n 3, 1) := by decide +kernel
theorem dX0_weighDays_6 : decode cX0_weighDays 6 = .ok (.if_icmp .ge 83, 3) := by decide +kernel
theorem dX0_weighDays_9 : decode cX0_weighDays 9 = .ok (.iload 5, 2) := by decide +kernel
theorem dX0_weighDays_11 : decode cX0_weighDays 11 = .ok (.ifCond .ne 15, 3) := by decide +kernel
theorem dX0_weighDays_14 : decode cX0_weighDays 14 = .ok (.aload_n 1, 1) := by decide +kernel
theorem dX0_weighDays_15 : decode cX0_weighDays 15 = .ok (.iload_n 2, 1) := by decide +kernel
theorem dX0_weighDays_16 : decode cX0_weighDays 16 = .ok (.invokevirtual 44, 3) := by decide +kernel
theorem dX0_weighDays_19 : decode cX0_weighDays 19 = .ok (.ifCond .eq 7, 3) := by decide +kernel
theorem dX0_weighDays_22 : decode cX0_weighDays 22 = .ok (.iconst 1, 1) := by decide +kernel
theorem dX0_weighDays_23 : decode cX0_weighDays 23 = .ok (.goto 4, 3) := by decide +kernel
theorem dX0_weighDays_26 : decode cX0_weighDays 26 = .ok (.iconst 0, 1) := by decide +kernel
theorem dX0_weighDays_27 : decode cX0_weighDays 27 = .ok (.istore 6, 2) := by decide +kernel
theorem dX0_weighDays_29 : decode cX0_weighDays 29 = .ok (.iconst 0, 1) := by decide +kernel
theorem dX0_weighDays_30 : decode cX0_weighDays 30 = .ok (.istore 7, 2) := by decide +kernel
theorem dX0_weighDays_32 : decode cX0_weighDays 32 = .ok (.iload 7, 2) := by decide +kernel
theorem dX0_weighDays_34 : decode cX0_weighDays 34 = .ok (.bipush 64, 2) := by decide +kernel
theorem dX0_weighDays_36 : decode cX0_weighDays 36 = .ok (.if_icmp .ge 47, 3) := by decide +kernel
theorem dX0_weighDays_39 : decode cX0_weighDays 39 = .ok (.iload 7, 2) := by decide +kernel
theorem dX0_weighDays_41 : decode cX0_weighDays 41 = .ok (.iload 4, 2) := by decide +kernel
theorem dX0_weighDays_43 : decode cX0_weighDays 43 = .ok (.invokestatic 48, 3) := by decide +kernel
theorem dX0_weighDays_46 : decode cX0_weighDays 46 = .ok (.ifCond .eq 31, 3) := by decide +kernel
theorem dX0_weighDays_49 : decode cX0_weighDays 49 = .ok (.aload_n 0, 1) := by decide +kernel
theorem dX0_weighDays_50 : decode cX0_weighDays 50 = .ok (.getfield 9, 3) := by decide +kernel
theorem dX0_weighDays_53 : decode cX0_weighDays 53 = .ok (.iload 5, 2) := by decide +kernel
theorem dX0_weighDays_55 : decode cX0_weighDays 55 = .ok (.bipush 64, 2) := by decide +kernel
theorem dX0_weighDays_57 : decode cX0_weighDays 57 = .ok (.imul, 1) := by decide +kernel
theorem dX0_weighDays_58 : decode cX0_weighDays 58 = .ok (.iload 7, 2) := by decide +kernel
theorem dX0_weighDays_60 : decode cX0_weighDays 60 = .ok (.iadd, 1) := by decide +kernel
theorem dX0_weighDays_61 : decode cX0_weighDays 61 = .ok (.aload_n 1, 1) := by decide +kernel
theorem dX0_weighDays_62 : decode cX0_weighDays 62 = .ok (.iload 7, 2) := by decide +kernel
theorem dX0_weighDays_64 : decode cX0_weighDays 64 = .ok (.aload_n 1, 1) := by decide +kernel
theorem dX0_weighDays_65 : decode cX0_weighDays 65 = .ok (.getfield 51, 3) := by decide +kernel
theorem dX0_weighDays_68 : decode cX0_weighDays 68 = .ok (.iload 5, 2) := by decide +kernel
theorem dX0_weighDays_70 : decode cX0_weighDays 70 = .ok (.iadd, 1) := by decide +kernel
theorem dX0_weighDays_71 : decode cX0_weighDays 71 = .ok (.iload 6, 2) := by decide +kernel
theorem dX0_weighDays_73 : decode cX0_weighDays 73 = .ok (.invokevirtual 54, 3) := by decide +kernel
theorem dX0_weighDays_76 : decode cX0_weighDays 76 = .ok (.iastore, 1) := by decide +kernel
theorem dX0_weighDays_77 : decode cX0_weighDays 77 = .ok (.iinc 7 1, 3) := by decide +kernel
theorem dX0_weighDays_80 : decode cX0_weighDays 80 = .ok (.goto (-48), 3) := by decide +kernel
theorem dX0_weighDays_83 : decode cX0_weighDays 83 = .ok (.iinc 5 1, 3) := by decide +kernel
theorem dX0_weighDays_86 : decode cX0_weighDays 86 = .ok (.goto (-83), 3) := by decide +kernel
theorem dX0_weighDays_89 : decode cX0_weighDays 89 = .ok (.return_, 1) := by decide +kernel
theorem dX0_setsOfDays_0 : decode cX0_setsOfDays 0 = .ok (.iconst 0, 1) := by decide +kernel
theorem dX0_setsOfDays_1 : decode cX0_setsOfDays 1 = .ok (.istore 4, 2) := by decide +kernel
theorem dX0_setsOfDays_3 : decode cX0_setsOfDays 3 = .ok (.iload_n 1, 1) := by decide +kernel
theorem dX0_setsOfDays_4 : decode cX0_setsOfDays 4 = .ok (.istore 5, 2) := by decide +kernel
theorem dX0_setsOfDays_6 : decode cX0_setsOfDays 6 = .ok (.iconst 5, 1) := by decide +kernel
theorem dX0_setsOfDays_7 : decode cX0_setsOfDays 7 = .ok (.istore 6, 2) := by decide +kernel
theorem dX0_setsOfDays_9 : decode cX0_setsOfDays 9 = .ok (.iload 6, 2) := by decide +kernel
theorem dX0_setsOfDays_11 : decode cX0_setsOfDays 11 = .ok (.ifCond .lt 41, 3) := by decide +kernel
theorem dX0_setsOfDays_14 : decode cX0_setsOfDays 14 = .ok (.iload_n 3, 1) := by decide +kernel
theorem dX0_setsOfDays_15 : decode cX0_setsOfDays 15 = .ok (.iload 6, 2) := by decide +kernel
theorem dX0_setsOfDays_17 : decode cX0_setsOfDays 17 = .ok (.invokestatic 32, 3) := by decide +kernel
theorem dX0_setsOfDays_20 : decode cX0_setsOfDays 20 = .ok (.ifCond .eq 26, 3) := by decide +kernel
theorem dX0_setsOfDays_23 : decode cX0_setsOfDays 23 = .ok (.iload 4, 2) := by decide +kernel
theorem dX0_setsOfDays_25 : decode cX0_setsOfDays 25 = .ok (.iconst 1, 1) := by decide +kernel
theorem dX0_setsOfDays_26 : decode cX0_setsOfDays 26 = .ok (.iload 5, 2) := by decide +kernel
theorem dX0_setsOfDays_28 : decode cX0_setsOfDays 28 = .ok (.iload_n 2, 1) := by decide +kernel
theorem dX0_setsOfDays_29 : decode cX0_setsOfDays 29 = .ok (.irem, 1) := by decide +kernel
theorem dX0_setsOfDays_30 : decode cX0_setsOfDays 30 = .ok (.bipush 6, 2) := by decide +kernel
theorem dX0_setsOfDays_32 : decode cX0_setsOfDays 32 = .ok (.imul, 1) := by decide +kernel
theorem dX0_setsOfDays_33 : decode cX0_setsOfDays 33 = .ok (.iload 6, 2) := by decide +kernel
theorem dX0_setsOfDays_35 : decode cX0_setsOfDays 35 = .ok (.iadd, 1) := by decide +kernel
theorem dX0_setsOfDays_36 : decode cX0_setsOfDays 36 = .ok (.ishl, 1) := by decide +kernel
theorem dX0_setsOfDays_37 : decode cX0_setsOfDays 37 = .ok (.ior, 1) := by decide +kernel
theorem dX0_setsOfDays_38 : decode cX0_setsOfDays 38 = .ok (.istore 4, 2) := by decide +kernel
theorem dX0_setsOfDays_40 : decode cX0_setsOfDays 40 = .ok (.iload 5, 2) := by decide +kernel
theorem dX0_setsOfDays_42 : decode cX0_setsOfDays 42 = .ok (.iload_n 2, 1) := by decide +kernel
theorem dX0_setsOfDays_43 : decode cX0_setsOfDays 43 = .ok (.idiv, 1) := by decide +kernel
theorem dX0_setsOfDays_44 : decode cX0_setsOfDays 44 = .ok (.istore 5, 2) := by decide +kernel
theorem dX0_setsOfDays_46 : decode cX0_setsOfDays 46 = .ok (.iinc 6 (-1), 3) := by decide +kernel
theorem dX0_setsOfDays_49 : decode cX0_setsOfDays 49 = .ok (.goto (-40), 3) := by decide +kernel
theorem dX0_setsOfDays_52 : decode cX0_setsOfDays 52 = .ok (.iload 4, 2) := by decide +kernel
theorem dX0_setsOfDays_54 : decode cX0_setsOfDays 54 = .ok (.ireturn, 1) := by decide +kernel
theorem dX0_joyOfDays_0 : decode cX0_joyOfDays 0 = .ok (.iconst 0, 1) := by decide +kernel
theorem dX0_joyOfDays_1 : decode cX0_joyOfDays 1 = .ok (.istore_n 3, 1) := by decide +kernel
theorem dX0_joyOfDays_2 : decode cX0_joyOfDays 2 = .ok (.iconst 0, 1) := by decide +kernel
theorem dX0_joyOfDays_3 : decode cX0_joyOfDays 3 = .ok (.istore 4, 2) := by decide +kernel
theorem dX0_joyOfDays_5 : decode cX0_joyOfDays 5 = .ok (.iload 4, 2) := by decide +kernel
theorem dX0_joyOfDays_7 : decode cX0_joyOfDays 7 = .ok (.iload_n 2, 1) := by decide +kernel
theorem dX0_joyOfDays_8 : decode cX0_joyOfDays 8 = .ok (.if_icmp .ge 37, 3) := by decide +kernel
theorem dX0_joyOfDays_11 : decode cX0_joyOfDays 11 = .ok (.iload_n 1, 1) := by decide +kernel
theorem dX0_joyOfDays_12 : decode cX0_joyOfDays 12 = .ok (.iload 4, 2) := by decide +kernel
theorem dX0_joyOfDays_14 : decode cX0_joyOfDays 14 = .ok (.bipush 6, 2) := by decide +kernel
theorem dX0_joyOfDays_16 : decode cX0_joyOfDays 16 = .ok (.imul, 1) := by decide +kernel
theorem dX0_joyOfDays_17 : decode cX0_joyOfDays 17 = .ok (.ishr, 1) := by decide +kernel
theorem dX0_joyOfDays_18 : decode cX0_joyOfDays 18 = .ok (.bipush 63, 2) := by decide +kernel
theorem dX0_joyOfDays_20 : decode cX0_joyOfDays 20 = .ok (.iand, 1) := by decide +kernel
theorem dX0_joyOfDays_21 : decode cX0_joyOfDays 21 = .ok (.istore 5, 2) := by decide +kernel
theorem dX0_joyOfDays_23 : decode cX0_joyOfDays 23 = .ok (.iload_n 3, 1) := by decide +kernel
theorem dX0_joyOfDays_24 : decode cX0_joyOfDays 24 = .ok (.aload_n 0, 1) := by decide +kernel
theorem dX0_joyOfDays_25 : decode cX0_joyOfDays 25 = .ok (.getfield 9, 3) := by decide +kernel
theorem dX0_joyOfDays_28 : decode cX0_joyOfDays 28 = .ok (.iload 4, 2) := by decide +kernel
theorem dX0_joyOfDays_30 : decode cX0_joyOfDays 30 = .ok (.bipush 64, 2) := by decide +kernel
theorem dX0_joyOfDays_32 : decode cX0_joyOfDays 32 = .ok (.imul, 1) := by decide +kernel
theorem dX0_joyOfDays_33 : decode cX0_joyOfDays 33 = .ok (.iload 5, 2) := by decide +kernel
theorem dX0_joyOfDays_35 : decode cX0_joyOfDays 35 = .ok (.iadd, 1) := by decide +kernel
theorem dX0_joyOfDays_36 : decode cX0_joyOfDays 36 = .ok (.iaload, 1) := by decide +kernel
theorem dX0_joyOfDays_37 : decode cX0_joyOfDays 37 = .ok (.iadd, 1) := by decide +kernel
theorem dX0_joyOfDays_38 : decode cX0_joyOfDays 38 = .ok (.istore_n 3, 1) := by decide +kernel
theorem dX0_joyOfDays_39 : decode cX0_joyOfDays 39 = .ok (.iinc 4 1, 3) := by decide +kernel
theorem dX0_joyOfDays_42 : decode cX0_joyOfDays 42 = .ok (.goto (-37), 3) := by decide +kernel
theorem dX0_joyOfDays_45 : decode cX0_joyOfDays 45 = .ok (.iload_n 3, 1) := by decide +kernel
theorem dX0_joyOfDays_46 : decode cX0_joyOfDays 46 = .ok (.ireturn, 1) := by decide +kernel
theorem dX1_init_0 : decode cX1_init 0 = .ok (.aload_n 0, 1) := by decide +kernel
theorem dX1_init_1 : decode cX1_init 1 = .ok (.invokespecial 3, 3) := by decide +kernel
theorem dX1_init_4 : decode cX1_init 4 = .ok (.aload_n 0, 1) := by decide +kernel
theorem dX1_init_5 : decode cX1_init 5 = .ok (.iconst 4, 1) := by decide +kernel
theorem dX1_init_6 : decode cX1_init 6 = .ok (.newarray .int, 2) := by decide +kernel
theorem dX1_init_8 : decode cX1_init 8 = .ok (.putfield 9, 3) := by decide +kernel
theorem dX1_init_11 : decode cX1_init 11 = .ok (.aload_n 0, 1) := by decide +kernel
theorem dX1_init_12 : decode cX1_init 12 = .ok (.iconst 4, 1) := by decide +kernel
theorem dX1_init_13 : decode cX1_init 13 = .ok (.newarray .int, 2) := by decide +kernel
theorem dX1_init_15 : decode cX1_init 15 = .ok (.putfield 15, 3) := by decide +kernel
theorem dX1_init_18 : decode cX1_init 18 = .ok (.aload_n 0, 1) := by decide +kernel
theorem dX1_init_19 : decode cX1_init 19 = .ok (.iconst 4, 1) := by decide +kernel
theorem dX1_init_20 : decode cX1_init 20 = .ok (.newarray .int, 2) := by decide +kernel
theorem dX1_init_22 : decode cX1_init 22 = .ok (.putfield 18, 3) := by decide +kernel
theorem dX1_init_25 : decode cX1_init 25 = .ok (.aload_n 0, 1) := by decide +kernel
theorem dX1_init_26 : decode cX1_init 26 = .ok (.bipush 6, 2) := by decide +kernel
theorem dX1_init_28 : decode cX1_init 28 = .ok (.newarray .int, 2) := by decide +kernel
theorem dX1_init_30 : decode cX1_init 30 = .ok (.putfield 21, 3) := by decide +kernel
theorem dX1_init_33 : decode cX1_init 33 = .ok (.aload_n 0, 1) := by decide +kernel
theorem dX1_init_34 : decode cX1_init 34 = .ok (.bipush 6, 2) := by decide +kernel
theorem dX1_init_36 : decode cX1_init 36 = .ok (.newarray .int, 2) := by decide +kernel
theorem dX1_init_38 : decode cX1_init 38 = .ok (.putfield 24, 3) := by decide +kernel
theorem dX1_init_41 : decode cX1_init 41 = .ok (.aload_n 0, 1) := by decide +kernel
theorem dX1_init_42 : decode cX1_init 42 = .ok (.bipush 6, 2) := by decide +kernel
theorem dX1_init_44 : decode cX1_init 44 = .ok (.newarray .int, 2) := by decide +kernel
theorem dX1_init_46 : decode cX1_init 46 = .ok (.putfield 27, 3) := by decide +kernel
theorem dX1_init_49 : decode cX1_init 49 = .ok (.aload_n 0, 1) := by decide +kernel
theorem dX1_init_50 : decode cX1_init 50 = .ok (.bipush 6, 2) := by decide +kernel
theorem dX1_init_52 : decode cX1_init 52 = .ok (.newarray .int, 2) := by decide +kernel
theorem dX1_init_54 : decode cX1_init 54 = .ok (.putfield 30, 3) := by decide +kernel
theorem dX1_init_57 : decode cX1_init 57 = .ok (.aload_n 0, 1) := by decide +kernel
theorem dX1_init_58 : decode cX1_init 58 = .ok (.iconst 0, 1) := by decide +kernel
theorem dX1_init_59 : decode cX1_init 59 = .ok (.putfield 33, 3) := by decide +kernel
theorem dX1_init_62 : decode cX1_init 62 = .ok (.aload_n 0, 1) := by decide +kernel
theorem dX1_init_63 : decode cX1_init 63 = .ok (.iconst 0, 1) := by decide +kernel
theorem dX1_init_64 : decode cX1_init 64 = .ok (.putfield 37, 3) := by decide +kernel
theorem dX1_init_67 : decode cX1_init 67 = .ok (.aload_n 0, 1) := by decide +kernel
theorem dX1_init_68 : decode cX1_init 68 = .ok (.iconst 0, 1) := by decide +kernel
theorem dX1_init_69 : decode cX1_init 69 = .ok (.putfield 40, 3) := by decide +kernel
theorem dX1_init_72 : decode cX1_init 72 = .ok (.aload_n 0, 1) := by decide +kernel
theorem dX1_init_73 : decode cX1_init 73 = .ok (.iconst 0, 1) := by decide +kernel
theorem dX1_init_74 : decode cX1_init 74 = .ok (.putfield 43, 3) := by decide +kernel
theorem dX1_init_77 : decode cX1_init 77 = .ok (.aload_n 0, 1) := by decide +kernel
theorem dX1_init_78 : decode cX1_init 78 = .ok (.iconst 0, 1) := by decide +kernel
theorem dX1_init_79 : decode cX1_init 79 = .ok (.putfield 46, 3) := by decide +kernel
theorem dX1_init_82 : decode cX1_init 82 = .ok (.return_, 1) := by decide +kernel
theorem dX1_beginAnew_0 : decode cX1_beginAnew 0 = .ok (.aload_n 0, 1) := by decide +kernel
theorem dX1_beginAnew_1 : decode cX1_beginAnew 1 = .ok (.invokevirtual 49, 3) := by decide +kernel
theorem dX1_beginAnew_4 : decode cX1_beginAnew 4 = .ok (.aload_n 0, 1) := by decide +kernel
theorem dX1_beginAnew_5 : decode cX1_beginAnew 5 = .ok (.getfield 18, 3) := by decide +kernel
theorem dX1_beginAnew_8 : decode cX1_beginAnew 8 = .ok (.iconst (-1), 1) := by decide +kernel
theorem dX1_beginAnew_9 : decode cX1_beginAnew 9 = .ok (.invokestatic 52, 3) := by decide +kernel
theorem dX1_beginAnew_12 : decode cX1_beginAnew 12 = .ok (.aload_n 0, 1) := by decide +kernel
theorem dX1_beginAnew_13 : decode cX1_beginAnew 13 = .ok (.iconst 0, 1) := by decide +kernel
theorem dX1_beginAnew_14 : decode cX1_beginAnew 14 = .ok (.putfield 33, 3) := by decide +kernel
theorem dX1_beginAnew_17 : decode cX1_beginAnew 17 = .ok (.aload_n 0, 1) := by decide +kernel
theorem dX1_beginAnew_18 : decode cX1_beginAnew 18 = .ok (.iconst 0, 1) := by decide +kernel
theorem dX1_beginAnew_19 : decode cX1_beginAnew 19 = .ok (.putfield 37, 3) := by decide +kernel
theorem dX1_beginAnew_22 : decode cX1_beginAnew 22 = .ok (.aload_n 0, 1) := by decide +kernel
theorem dX1_beginAnew_23 : decode cX1_beginAnew 23 = .ok (.iconst 0, 1) := by decide +kernel
theorem dX1_beginAnew_24 : decode cX1_beginAnew 24 = .ok (.putfield 40, 3) := by decide +kernel
theorem dX1_beginAnew_27 : decode cX1_beginAnew 27 = .ok (.aload_n 0, 1) := by decide +kernel
theorem dX1_beginAnew_28 : decode cX1_beginAnew 28 = .ok (.iconst 0, 1) := by decide +kernel
theorem dX1_beginAnew_29 : decode cX1_beginAnew 29 = .ok (.putfield 43, 3) := by decide +kernel
theorem dX1_beginAnew_32 : decode cX1_beginAnew 32 = .ok (.aload_n 0, 1) := by decide +kernel
theorem dX1_beginAnew_33 : decode cX1_beginAnew 33 = .ok (.iconst 0, 1) := by decide +kernel
theorem dX1_beginAnew_34 : decode cX1_beginAnew 34 = .ok (.putfield 46, 3) := by decide +kernel
theorem dX1_beginAnew_37 : decode cX1_beginAnew 37 = .ok (.return_, 1) := by decide +kernel
theorem dX1_becomeLike_0 : decode cX1_becomeLike 0 = .ok (.aload_n 1, 1) := by decide +kernel
theorem dX1_becomeLike_1 : decode cX1_becomeLike 1 = .ok (.getfield 9, 3) := by decide +kernel
theorem dX1_becomeLike_4 : decode cX1_becomeLike 4 = .ok (.iconst 0, 1) := by decide +kernel
theorem dX1_becomeLike_5 : decode cX1_becomeLike 5 = .ok (.aload_n 0, 1) := by decide +kernel
theorem dX1_becomeLike_6 : decode cX1_becomeLike 6 = .ok (.getfield 9, 3) := by decide +kernel
theorem dX1_becomeLike_9 : decode cX1_becomeLike 9 = .ok (.iconst 0, 1) := by decide +kernel
theorem dX1_becomeLike_10 : decode cX1_becomeLike 10 = .ok (.iconst 4, 1) := by decide +kernel
theorem dX1_becomeLike_11 : decode cX1_becomeLike 11 = .ok (.invokestatic 58, 3) := by decide +kernel
theorem dX1_becomeLike_14 : decode cX1_becomeLike 14 = .ok (.aload_n 1, 1) := by decide +kernel
theorem dX1_becomeLike_15 : decode cX1_becomeLike 15 = .ok (.getfield 15, 3) := by decide +kernel
theorem dX1_becomeLike_18 : decode cX1_becomeLike 18 = .ok (.iconst 0, 1) := by decide +kernel
theorem dX1_becomeLike_19 : decode cX1_becomeLike 19 = .ok (.aload_n 0, 1) := by decide +kernel
theorem dX1_becomeLike_20 : decode cX1_becomeLike 20 = .ok (.getfield 15, 3) := by decide +kernel
theorem dX1_becomeLike_23 : decode cX1_becomeLike 23 = .ok (.iconst 0, 1) := by decide +kernel
theorem dX1_becomeLike_24 : decode cX1_becomeLike 24 = .ok (.iconst 4, 1) := by decide +kernel
theorem dX1_becomeLike_25 : decode cX1_becomeLike 25 = .ok (.invokestatic 58, 3) := by decide +kernel
theorem dX1_becomeLike_28 : decode cX1_becomeLike 28 = .ok (.aload_n 1, 1) := by decide +kernel
theorem dX1_becomeLike_29 : decode cX1_becomeLike 29 = .ok (.getfield 18, 3) := by decide +kernel
theorem dX1_becomeLike_32 : decode cX1_becomeLike 32 = .ok (.iconst 0, 1) := by decide +kernel
theorem dX1_becomeLike_33 : decode cX1_becomeLike 33 = .ok (.aload_n 0, 1) := by decide +kernel
theorem dX1_becomeLike_34 : decode cX1_becomeLike 34 = .ok (.getfield 18, 3) := by decide +kernel
theorem dX1_becomeLike_37 : decode cX1_becomeLike 37 = .ok (.iconst 0, 1) := by decide +kernel
theorem dX1_becomeLike_38 : decode cX1_becomeLike 38 = .ok (.iconst 4, 1) := by decide +kernel
theorem dX1_becomeLike_39 : decode cX1_becomeLike 39 = .ok (.invokestatic 58, 3) := by decide +kernel
theorem dX1_becomeLike_42 : decode cX1_becomeLike 42 = .ok (.aload_n 1, 1) := by decide +kernel
theorem dX1_becomeLike_43 : decode cX1_becomeLike 43 = .ok (.getfield 21, 3) := by decide +kernel
theorem dX1_becomeLike_46 : decode cX1_becomeLike 46 = .ok (.iconst 0, 1) := by decide +kernel
theorem dX1_becomeLike_47 : decode cX1_becomeLike 47 = .ok (.aload_n 0, 1) := by decide +kernel
theorem dX1_becomeLike_48 : decode cX1_becomeLike 48 = .ok (.getfield 21, 3) := by decide +kernel
theorem dX1_becomeLike_51 : decode cX1_becomeLike 51 = .ok (.iconst 0, 1) := by decide +kernel
theorem dX1_becomeLike_52 : decode cX1_becomeLike 52 = .ok (.bipush 6, 2) := by decide +kernel
theorem dX1_becomeLike_54 : decode cX1_becomeLike 54 = .ok (.invokestatic 58, 3) := by decide +kernel
theorem dX1_becomeLike_57 : decode cX1_becomeLike 57 = .ok (.aload_n 1, 1) := by decide +kernel
theorem dX1_becomeLike_58 : decode cX1_becomeLike 58 = .ok (.getfield 24, 3) := by decide +kernel
theorem dX1_becomeLike_61 : decode cX1_becomeLike 61 = .ok (.iconst 0, 1) := by decide +kernel
theorem dX1_becomeLike_62 : decode cX1_becomeLike 62 = .ok (.aload_n 0, 1) := by decide +kernel
theorem dX1_becomeLike_63 : decode cX1_becomeLike 63 = .ok (.getfield 24, 3) := by decide +kernel
theorem dX1_becomeLike_66 : decode cX1_becomeLike 66 = .ok (.iconst 0, 1) := by decide +kernel
theorem dX1_becomeLike_67 : decode cX1_becomeLike 67 = .ok (.bipush 6, 2) := by decide +kernel
theorem dX1_becomeLike_69 : decode cX1_becomeLike 69 = .ok (.invokestatic 58, 3) := by decide +kernel
theorem dX1_becomeLike_72 : decode cX1_becomeLike 72 = .ok (.aload_n 1, 1) := by decide +kernel
theorem dX1_becomeLike_73 : decode cX1_becomeLike 73 = .ok (.getfield 27, 3) := by decide +kernel
theorem dX1_becomeLike_76 : decode cX1_becomeLike 76 = .ok (.iconst 0, 1) := by decide +kernel
theorem dX1_becomeLike_77 : decode cX1_becomeLike 77 = .ok (.aload_n 0, 1) := by decide +kernel
theorem dX1_becomeLike_78 : decode cX1_becomeLike 78 = .ok (.getfield 27, 3) := by decide +kernel
theorem dX1_becomeLike_81 : decode cX1_becomeLike 81 = .ok (.iconst 0, 1) := by decide +kernel
theorem dX1_becomeLike_82 : decode cX1_becomeLike 82 = .ok (.bipush 6, 2) := by decide +kernel
theorem dX1_becomeLike_84 : decode cX1_becomeLike 84 = .ok (.invokestatic 58, 3) := by decide +kernel
theorem dX1_becomeLike_87 : decode cX1_becomeLike 87 = .ok (.aload_n 1, 1) := by decide +kernel
theorem dX1_becomeLike_88 : decode cX1_becomeLike 88 = .ok (.getfield 30, 3) := by decide +kernel
theorem dX1_becomeLike_91 : decode cX1_becomeLike 91 = .ok (.iconst 0, 1) := by decide +kernel
theorem dX1_becomeLike_92 : decode cX1_becomeLike 92 = .ok (.aload_n 0, 1) := by decide +kernel
theorem dX1_becomeLike_93 : decode cX1_becomeLike 93 = .ok (.getfield 30, 3) := by decide +kernel
theorem dX1_becomeLike_96 : decode cX1_becomeLike 96 = .ok (.iconst 0, 1) := by decide +kernel
theorem dX1_becomeLike_97 : decode cX1_becomeLike 97 = .ok (.bipush 6, 2) := by decide +kernel
theorem dX1_becomeLike_99 : decode cX1_becomeLike 99 = .ok (.invokestatic 58, 3) := by decide +kernel
theorem dX1_becomeLike_102 : decode cX1_becomeLike 102 = .ok (.aload_n 0, 1) := by decide +kernel
theorem dX1_becomeLike_103 : decode cX1_becomeLike 103 = .ok (.aload_n 1, 1) := by decide +kernel
theorem dX1_becomeLike_104 : decode cX1_becomeLike 104 = .ok (.getfield 33, 3) := by decide +kernel
theorem dX1_becomeLike_107 : decode cX1_becomeLike 107 = .ok (.putfield 33, 3) := by decide +kernel
theorem dX1_becomeLike_110 : decode cX1_becomeLike 110 = .ok (.aload_n 0, 1) := by decide +kernel
theorem dX1_becomeLike_111 : decode cX1_becomeLike 111 = .ok (.aload_n 1, 1) := by decide +kernel
theorem dX1_becomeLike_112 : decode cX1_becomeLike 112 = .ok (.getfield 37, 3) := by decide +kernel
theorem dX1_becomeLike_115 : decode cX1_becomeLike 115 = .ok (.putfield 37, 3) := by decide +kernel
theorem dX1_becomeLike_118 : decode cX1_becomeLike 118 = .ok (.aload_n 0, 1) := by decide +kernel
theorem dX1_becomeLike_119 : decode cX1_becomeLike 119 = .ok (.aload_n 1, 1) := by decide +kernel
theorem dX1_becomeLike_120 : decode cX1_becomeLike 120 = .ok (.getfield 40, 3) := by decide +kernel
theorem dX1_becomeLike_123 : decode cX1_becomeLike 123 = .ok (.putfield 40, 3) := by decide +kernel
theorem dX1_becomeLike_126 : decode cX1_becomeLike 126 = .ok (.aload_n 0, 1) := by decide +kernel
theorem dX1_becomeLike_127 : decode cX1_becomeLike 127 = .ok (.aload_n 1, 1) := by decide +kernel
theorem dX1_becomeLike_128 : decode cX1_becomeLike 128 = .ok (.getfield 43, 3) := by decide +kernel
theorem dX1_becomeLike_131 : decode cX1_becomeLike 131 = .ok (.putfield 43, 3) := by decide +kernel
theorem dX1_becomeLike_134 : decode cX1_becomeLike 134 = .ok (.aload_n 0, 1) := by decide +kernel
theorem dX1_becomeLike_135 : decode cX1_becomeLike 135 = .ok (.aload_n 1, 1) := by decide +kernel
theorem dX1_becomeLike_136 : decode cX1_becomeLike 136 = .ok (.getfield 46, 3) := by decide +kernel
theorem dX1_becomeLike_139 : decode cX1_becomeLike 139 = .ok (.putfield 46, 3) := by decide +kernel
theorem dX1_becomeLike_142 : decode cX1_becomeLike 142 = .ok (.return_, 1) := by decide +kernel
theorem dX1_forgetJoy_0 : decode cX1_forgetJoy 0 = .ok (.aload_n 0, 1) := by decide +kernel
theorem dX1_forgetJoy_1 : decode cX1_forgetJoy 1 = .ok (.getfield 15, 3) := by decide +kernel
theorem dX1_forgetJoy_4 : decode cX1_forgetJoy 4 = .ok (.iconst 0, 1) := by decide +kernel
theorem dX1_forgetJoy_5 : decode cX1_forgetJoy 5 = .ok (.invokestatic 52, 3) := by decide +kernel
theorem dX1_forgetJoy_8 : decode cX1_forgetJoy 8 = .ok (.return_, 1) := by decide +kernel
theorem dX1_isThere_0 : decode cX1_isThere 0 = .ok (.aload_n 0, 1) := by decide +kernel
theorem dX1_isThere_1 : decode cX1_isThere 1 = .ok (.getfield 40, 3) := by decide +kernel
theorem dX1_isThere_4 : decode cX1_isThere 4 = .ok (.ifCond .le 7, 3) := by decide +kernel
theorem dX1_isThere_7 : decode cX1_isThere 7 = .ok (.iconst 1, 1) := by decide +kernel
theorem dX1_isThere_8 : decode cX1_isThere 8 = .ok (.goto 4, 3) := by decide +kernel
theorem dX1_isThere_11 : decode cX1_isThere 11 = .ok (.iconst 0, 1) := by decide +kernel
theorem dX1_isThere_12 : decode cX1_isThere 12 = .ok (.ireturn, 1) := by decide +kernel
theorem dX1_isPerson_0 : decode cX1_isPerson 0 = .ok (.iload_n 1, 1) := by decide +kernel
theorem dX1_isPerson_1 : decode cX1_isPerson 1 = .ok (.ifCond .lt 15, 3) := by decide +kernel
theorem dX1_isPerson_4 : decode cX1_isPerson 4 = .ok (.iload_n 1, 1) := by decide +kernel
theorem dX1_isPerson_5 : decode cX1_isPerson 5 = .ok (.aload_n 0, 1) := by decide +kernel
theorem dX1_isPerson_6 : decode cX1_isPerson 6 = .ok (.getfield 40, 3) := by decide +kernel
theorem dX1_isPerson_9 : decode cX1_isPerson 9 = .ok (.if_icmp .ge 7, 3) := by decide +kernel
theorem dX1_isPerson_12 : decode cX1_isPerson 12 = .ok (.iconst 1, 1) := by decide +kernel
theorem dX1_isPerson_13 : decode cX1_isPerson 13 = .ok (.goto 4, 3) := by decide +kernel
theorem dX1_isPerson_16 : decode cX1_isPerson 16 = .ok (.iconst 0, 1) := by decide +kernel
theorem dX1_isPerson_17 : decode cX1_isPerson 17 = .ok (.ireturn, 1) := by decide +kernel
theorem dX1_isMorning_0 : decode cX1_isMorning 0 = .ok (.iload_n 1, 1) := by decide +kernel
theorem dX1_isMorning_1 : decode cX1_isMorning 1 = .ok (.ifCond .lt 15, 3) := by decide +kernel
theorem dX1_isMorning_4 : decode cX1_isMorning 4 = .ok (.iload_n 1, 1) := by decide +kernel
theorem dX1_isMorning_5 : decode cX1_isMorning 5 = .ok (.aload_n 0, 1) := by decide +kernel
theorem dX1_isMorning_6 : decode cX1_isMorning 6 = .ok (.getfield 43, 3) := by decide +kernel
theorem dX1_isMorning_9 : decode cX1_isMorning 9 = .ok (.if_icmp .ge 7, 3) := by decide +kernel
theorem dX1_isMorning_12 : decode cX1_isMorning 12 = .ok (.iconst 1, 1) := by decide +kernel
theorem dX1_isMorning_13 : decode cX1_isMorning 13 = .ok (.goto 4, 3) := by decide +kernel
theorem dX1_isMorning_16 : decode cX1_isMorning 16 = .ok (.iconst 0, 1) := by decide +kernel
theorem dX1_isMorning_17 : decode cX1_isMorning 17 = .ok (.ireturn, 1) := by decide +kernel
theorem dX1_isOpened_0 : decode cX1_isOpened 0 = .ok (.aload_n 0, 1) := by decide +kernel
theorem dX1_isOpened_1 : decode cX1_isOpened 1 = .ok (.getfield 46, 3) := by decide +kernel
theorem dX1_isOpened_4 : decode cX1_isOpened 4 = .ok (.iload_n 1, 1) := by decide +kernel
theorem dX1_isOpened_5 : decode cX1_isOpened 5 = .ok (.invokestatic 64, 3) := by decide +kernel
theorem dX1_isOpened_8 : decode cX1_isOpened 8 = .ok (.ireturn, 1) := by decide +kernel
theorem dX1_openedToday_0 : decode cX1_openedToday 0 = .ok (.aload_n 0, 1) := by decide +kernel
theorem dX1_openedToday_1 : decode cX1_openedToday 1 = .ok (.getfield 18, 3) := by decide +kernel
theorem dX1_openedToday_4 : decode cX1_openedToday 4 = .ok (.iload_n 1, 1) := by decide +kernel
theorem dX1_openedToday_5 : decode cX1_openedToday 5 = .ok (.iaload, 1) := by decide +kernel
theorem dX1_openedToday_6 : decode cX1_openedToday 6 = .ok (.aload_n 0, 1) := by decide +kernel
theorem dX1_openedToday_7 : decode cX1_openedToday 7 = .ok (.getfield 37, 3) := by decide +kernel
theorem dX1_openedToday_10 : decode cX1_openedToday 10 = .ok (.if_icmp .ne 7, 3) := by decide +kernel
theorem dX1_openedToday_13 : decode cX1_openedToday 13 = .ok (.iconst 1, 1) := by decide +kernel
theorem dX1_openedToday_14 : decode cX1_openedToday 14 = .ok (.goto 4, 3) := by decide +kernel
theorem dX1_openedToday_17 : decode cX1_openedToday 17 = .ok (.iconst 0, 1) := by decide +kernel
theorem dX1_openedToday_18 : decode cX1_openedToday 18 = .ok (.ireturn, 1) := by decide +kernel
theorem dX1_closed_0 : decode cX1_closed 0 = .ok (.iconst 1, 1) := by decide +kernel
theorem dX1_closed_1 : decode cX1_closed 1 = .ok (.aload_n 0, 1) := by decide +kernel
theorem dX1_closed_2 : decode cX1_closed 2 = .ok (.getfield 43, 3) := by decide +kernel
theorem dX1_closed_5 : decode cX1_closed 5 = .ok (.ishl, 1) := by decide +kernel
theorem dX1_closed_6 : decode cX1_closed 6 = .ok (.iconst 1, 1) := by decide +kernel
theorem dX1_closed_7 : decode cX1_closed 7 = .ok (.isub, 1) := by decide +kernel
theorem dX1_closed_8 : decode cX1_closed 8 = .ok (.aload_n 0, 1) := by decide +kernel
theorem dX1_closed_9 : decode cX1_closed 9 = .ok (.getfield 46, 3) := by decide +kernel
theorem dX1_closed_12 : decode cX1_closed 12 = .ok (.iconst (-1), 1) := by decide +kernel
theorem dX1_closed_13 : decode cX1_closed 13 = .ok (.ixor, 1) := by decide +kernel
theorem dX1_closed_14 : decode cX1_closed 14 = .ok (.iand, 1) := by decide +kernel
theorem dX1_closed_15 : decode cX1_closed 15 = .ok (.ireturn, 1) := by decide +kernel
theorem dX1_closedOf_0 : decode cX1_closedOf 0 = .ok (.iconst 0, 1) := by decide +kernel
theorem dX1_closedOf_1 : decode cX1_closedOf 1 = .ok (.istore_n 2, 1) := by decide +kernel
theorem dX1_closedOf_2 : decode cX1_closedOf 2 = .ok (.iconst 0, 1) := by decide +kernel
theorem dX1_closedOf_3 : decode cX1_closedOf 3 = .ok (.istore_n 3, 1) := by decide +kernel
theorem dX1_closedOf_4 : decode cX1_closedOf 4 = .ok (.iload_n 3, 1) := by decide +kernel
theorem dX1_closedOf_5 : decode cX1_closedOf 5 = .ok (.aload_n 0, 1) := by decide +kernel
theorem dX1_closedOf_6 : decode cX1_closedOf 6 = .ok (.getfield 43, 3) := by decide +kernel
theorem dX1_closedOf_9 : decode cX1_closedOf 9 = .ok (.if_icmp .ge 33, 3) := by decide +kernel
theorem dX1_closedOf_12 : decode cX1_closedOf 12 = .ok (.aload_n 0, 1) := by decide +kernel
theorem dX1_closedOf_13 : decode cX1_closedOf 13 = .ok (.getfield 24, 3) := by decide +kernel
theorem dX1_closedOf_16 : decode cX1_closedOf 16 = .ok (.iload_n 3, 1) := by decide +kernel
theorem dX1_closedOf_17 : decode cX1_closedOf 17 = .ok (.iaload, 1) := by decide +kernel
theorem dX1_closedOf_18 : decode cX1_closedOf 18 = .ok (.iload_n 1, 1) := by decide +kernel
theorem dX1_closedOf_19 : decode cX1_closedOf 19 = .ok (.if_icmp .ne 17, 3) := by decide +kernel
theorem dX1_closedOf_22 : decode cX1_closedOf 22 = .ok (.aload_n 0, 1) := by decide +kernel
theorem dX1_closedOf_23 : decode cX1_closedOf 23 = .ok (.iload_n 3, 1) := by decide +kernel
theorem dX1_closedOf_24 : decode cX1_closedOf 24 = .ok (.invokevirtual 68, 3) := by decide +kernel
theorem dX1_closedOf_27 : decode cX1_closedOf 27 = .ok (.ifCond .ne 9, 3) := by decide +kernel
theorem dX1_closedOf_30 : decode cX1_closedOf 30 = .ok (.iload_n 2, 1) := by decide +kernel
theorem dX1_closedOf_31 : decode cX1_closedOf 31 = .ok (.iconst 1, 1) := by decide +kernel
theorem dX1_closedOf_32 : decode cX1_closedOf 32 = .ok (.iload_n 3, 1) := by decide +kernel
theorem dX1_closedOf_33 : decode cX1_closedOf 33 = .ok (.ishl, 1) := by decide +kernel
theorem dX1_closedOf_34 : decode cX1_closedOf 34 = .ok (.ior, 1) := by decide +kernel
theorem dX1_closedOf_35 : decode cX1_closedOf 35 = .ok (.istore_n 2, 1) := by decide +kernel
theorem dX1_closedOf_36 : decode cX1_closedOf 36 = .ok (.iinc 3 1, 3) := by decide +kernel
theorem dX1_closedOf_39 : decode cX1_closedOf 39 = .ok (.goto (-35), 3) := by decide +kernel
theorem dX1_closedOf_42 : decode cX1_closedOf 42 = .ok (.iload_n 2, 1) := by decide +kernel
theorem dX1_closedOf_43 : decode cX1_closedOf 43 = .ok (.ireturn, 1) := by decide +kernel
theorem dX1_freshOn_0 : decode cX1_freshOn 0 = .ok (.aload_n 0, 1) := by decide +kernel
theorem dX1_freshOn_1 : decode cX1_freshOn 1 = .ok (.getfield 21, 3) := by decide +kernel
theorem dX1_freshOn_4 : decode cX1_freshOn 4 = .ok (.iload_n 1, 1) := by decide +kernel
theorem dX1_freshOn_5 : decode cX1_freshOn 5 = .ok (.iaload, 1) := by decide +kernel
theorem dX1_freshOn_6 : decode cX1_freshOn 6 = .ok (.aload_n 0, 1) := by decide +kernel
theorem dX1_freshOn_7 : decode cX1_freshOn 7 = .ok (.getfield 27, 3) := by decide +kernel
theorem dX1_freshOn_10 : decode cX1_freshOn 10 = .ok (.iload_n 1, 1) := by decide +kernel
theorem dX1_freshOn_11 : decode cX1_freshOn 11 = .ok (.iaload, 1) := by decide +kernel
theorem dX1_freshOn_12 : decode cX1_freshOn 12 = .ok (.aload_n 0, 1) := by decide +kernel
theorem dX1_freshOn_13 : decode cX1_freshOn 13 = .ok (.getfield 30, 3) := by decide +kernel
theorem dX1_freshOn_16 : decode cX1_freshOn 16 = .ok (.iload_n 1, 1) := by decide +kernel
theorem dX1_freshOn_17 : decode cX1_freshOn 17 = .ok (.iaload, 1) := by decide +kernel
theorem dX1_freshOn_18 : decode cX1_freshOn 18 = .ok (.iload_n 2, 1) := by decide +kernel
theorem dX1_freshOn_19 : decode cX1_freshOn 19 = .ok (.invokestatic 72, 3) := by decide +kernel
theorem dX1_freshOn_22 : decode cX1_freshOn 22 = .ok (.ireturn, 1) := by decide +kernel
theorem dX1_priceOf_0 : decode cX1_priceOf 0 = .ok (.aload_n 0, 1) := by decide +kernel
theorem dX1_priceOf_1 : decode cX1_priceOf 1 = .ok (.getfield 33, 3) := by decide +kernel
theorem dX1_priceOf_4 : decode cX1_priceOf 4 = .ok (.aload_n 0, 1) := by decide +kernel
theorem dX1_priceOf_5 : decode cX1_priceOf 5 = .ok (.iload_n 1, 1) := by decide +kernel
theorem dX1_priceOf_6 : decode cX1_priceOf 6 = .ok (.aload_n 0, 1) := by decide +kernel
theorem dX1_priceOf_7 : decode cX1_priceOf 7 = .ok (.getfield 37, 3) := by decide +kernel
theorem dX1_priceOf_10 : decode cX1_priceOf 10 = .ok (.invokevirtual 76, 3) := by decide +kernel
theorem dX1_priceOf_13 : decode cX1_priceOf 13 = .ok (.imul, 1) := by decide +kernel
theorem dX1_priceOf_14 : decode cX1_priceOf 14 = .ok (.ireturn, 1) := by decide +kernel
theorem dX1_priceOfSet_0 : decode cX1_priceOfSet 0 = .ok (.iconst 0, 1) := by decide +kernel
theorem dX1_priceOfSet_1 : decode cX1_priceOfSet 1 = .ok (.istore_n 2, 1) := by decide +kernel
theorem dX1_priceOfSet_2 : decode cX1_priceOfSet 2 = .ok (.iconst 0, 1) := by decide +kernel
theorem dX1_priceOfSet_3 : decode cX1_priceOfSet 3 = .ok (.istore_n 3, 1) := by decide +kernel
theorem dX1_priceOfSet_4 : decode cX1_priceOfSet 4 = .ok (.iload_n 3, 1) := by decide +kernel
theorem dX1_priceOfSet_5 : decode cX1_priceOfSet 5 = .ok (.aload_n 0, 1) := by decide +kernel
theorem dX1_priceOfSet_6 : decode cX1_priceOfSet 6 = .ok (.getfield 43, 3) := by decide +kernel
theorem dX1_priceOfSet_9 : decode cX1_priceOfSet 9 = .ok (.if_icmp .ge 25, 3) := by decide +kernel
theorem dX1_priceOfSet_12 : decode cX1_priceOfSet 12 = .ok (.iload_n 1, 1) := by decide +kernel
theorem dX1_priceOfSet_13 : decode cX1_priceOfSet 13 = .ok (.iload_n 3, 1) := by decide +kernel
theorem dX1_priceOfSet_14 : decode cX1_priceOfSet 14 = .ok (.invokestatic 64, 3) := by decide +kernel
theorem dX1_priceOfSet_17 : decode cX1_priceOfSet 17 = .ok (.ifCond .eq 11, 3) := by decide +kernel
theorem dX1_priceOfSet_20 : decode cX1_priceOfSet 20 = .ok (.iload_n 2, 1) := by decide +kernel
theorem dX1_priceOfSet_21 : decode cX1_priceOfSet 21 = .ok (.aload_n 0, 1) := by decide +kernel
theorem dX1_priceOfSet_22 : decode cX1_priceOfSet 22 = .ok (.iload_n 3, 1) := by decide +kernel
theorem dX1_priceOfSet_23 : decode cX1_priceOfSet 23 = .ok (.invokevirtual 80, 3) := by decide +kernel
theorem dX1_priceOfSet_26 : decode cX1_priceOfSet 26 = .ok (.iadd, 1) := by decide +kernel
theorem dX1_priceOfSet_27 : decode cX1_priceOfSet 27 = .ok (.istore_n 2, 1) := by decide +kernel
theorem dX1_priceOfSet_28 : decode cX1_priceOfSet 28 = .ok (.iinc 3 1, 3) := by decide +kernel
theorem dX1_priceOfSet_31 : decode cX1_priceOfSet 31 = .ok (.goto (-27), 3) := by decide +kernel
theorem dX1_priceOfSet_34 : decode cX1_priceOfSet 34 = .ok (.iload_n 2, 1) := by decide +kernel
theorem dX1_priceOfSet_35 : decode cX1_priceOfSet 35 = .ok (.ireturn, 1) := by decide +kernel
theorem dX1_joyOfAll_0 : decode cX1_joyOfAll 0 = .ok (.iconst 0, 1) := by decide +kernel
theorem dX1_joyOfAll_1 : decode cX1_joyOfAll 1 = .ok (.istore_n 1, 1) := by decide +kernel
theorem dX1_joyOfAll_2 : decode cX1_joyOfAll 2 = .ok (.iconst 0, 1) := by decide +kernel
theorem dX1_joyOfAll_3 : decode cX1_joyOfAll 3 = .ok (.istore_n 2, 1) := by decide +kernel
theorem dX1_joyOfAll_4 : decode cX1_joyOfAll 4 = .ok (.iload_n 2, 1) := by decide +kernel
theorem dX1_joyOfAll_5 : decode cX1_joyOfAll 5 = .ok (.aload_n 0, 1) := by decide +kernel
theorem dX1_joyOfAll_6 : decode cX1_joyOfAll 6 = .ok (.getfield 40, 3) := by decide +kernel
theorem dX1_joyOfAll_9 : decode cX1_joyOfAll 9 = .ok (.if_icmp .ge 18, 3) := by decide +kernel
theorem dX1_joyOfAll_12 : decode cX1_joyOfAll 12 = .ok (.iload_n 1, 1) := by decide +kernel
theorem dX1_joyOfAll_13 : decode cX1_joyOfAll 13 = .ok (.aload_n 0, 1) := by decide +kernel
theorem dX1_joyOfAll_14 : decode cX1_joyOfAll 14 = .ok (.getfield 15, 3) := by decide +kernel
theorem dX1_joyOfAll_17 : decode cX1_joyOfAll 17 = .ok (.iload_n 2, 1) := by decide +kernel
theorem dX1_joyOfAll_18 : decode cX1_joyOfAll 18 = .ok (.iaload, 1) := by decide +kernel
theorem dX1_joyOfAll_19 : decode cX1_joyOfAll 19 = .ok (.iadd, 1) := by decide +kernel
theorem dX1_joyOfAll_20 : decode cX1_joyOfAll 20 = .ok (.istore_n 1, 1) := by decide +kernel
theorem dX1_joyOfAll_21 : decode cX1_joyOfAll 21 = .ok (.iinc 2 1, 3) := by decide +kernel
theorem dX1_joyOfAll_24 : decode cX1_joyOfAll 24 = .ok (.goto (-20), 3) := by decide +kernel
theorem dX1_joyOfAll_27 : decode cX1_joyOfAll 27 = .ok (.iload_n 1, 1) := by decide +kernel
theorem dX1_joyOfAll_28 : decode cX1_joyOfAll 28 = .ok (.ireturn, 1) := by decide +kernel
theorem dX1_joyOfSet_0 : decode cX1_joyOfSet 0 = .ok (.iconst 0, 1) := by decide +kernel
theorem dX1_joyOfSet_1 : decode cX1_joyOfSet 1 = .ok (.istore 4, 2) := by decide +kernel
theorem dX1_joyOfSet_3 : decode cX1_joyOfSet 3 = .ok (.iconst 0, 1) := by decide +kernel
theorem dX1_joyOfSet_4 : decode cX1_joyOfSet 4 = .ok (.istore 5, 2) := by decide +kernel
theorem dX1_joyOfSet_6 : decode cX1_joyOfSet 6 = .ok (.iconst 0, 1) := by decide +kernel
theorem dX1_joyOfSet_7 : decode cX1_joyOfSet 7 = .ok (.istore 6, 2) := by decide +kernel
theorem dX1_joyOfSet_9 : decode cX1_joyOfSet 9 = .ok (.iload 6, 2) := by decide +kernel
theorem dX1_joyOfSet_11 : decode cX1_joyOfSet 11 = .ok (.aload_n 0, 1) := by decide +kernel
theorem dX1_joyOfSet_12 : decode cX1_joyOfSet 12 = .ok (.getfield 43, 3) := by decide +kernel
theorem dX1_joyOfSet_15 : decode cX1_joyOfSet 15 = .ok (.if_icmp .ge 47, 3) := by decide +kernel
theorem dX1_joyOfSet_18 : decode cX1_joyOfSet 18 = .ok (.iload_n 1, 1) := by decide +kernel
theorem dX1_joyOfSet_19 : decode cX1_joyOfSet 19 = .ok (.iload 6, 2) := by decide +kernel
theorem dX1_joyOfSet_21 : decode cX1_joyOfSet 21 = .ok (.invokestatic 64, 3) := by decide +kernel
theorem dX1_joyOfSet_24 : decode cX1_joyOfSet 24 = .ok (.ifCond .eq 32, 3) := by decide +kernel
theorem dX1_joyOfSet_27 : decode cX1_joyOfSet 27 = .ok (.aload_n 0, 1) := by decide +kernel
theorem dX1_joyOfSet_28 : decode cX1_joyOfSet 28 = .ok (.iload 6, 2) := by decide +kernel
theorem dX1_joyOfSet_30 : decode cX1_joyOfSet 30 = .ok (.iload_n 2, 1) := by decide +kernel
theorem dX1_joyOfSet_31 : decode cX1_joyOfSet 31 = .ok (.invokevirtual 76, 3) := by decide +kernel
theorem dX1_joyOfSet_34 : decode cX1_joyOfSet 34 = .ok (.istore 7, 2) := by decide +kernel
theorem dX1_joyOfSet_36 : decode cX1_joyOfSet 36 = .ok (.iload 4, 2) := by decide +kernel
theorem dX1_joyOfSet_38 : decode cX1_joyOfSet 38 = .ok (.iload 7, 2) := by decide +kernel
theorem dX1_joyOfSet_40 : decode cX1_joyOfSet 40 = .ok (.iconst 2, 1) := by decide +kernel
theorem dX1_joyOfSet_41 : decode cX1_joyOfSet 41 = .ok (.idiv, 1) := by decide +kernel
theorem dX1_joyOfSet_42 : decode cX1_joyOfSet 42 = .ok (.iadd, 1) := by decide +kernel
theorem dX1_joyOfSet_43 : decode cX1_joyOfSet 43 = .ok (.istore 4, 2) := by decide +kernel
theorem dX1_joyOfSet_45 : decode cX1_joyOfSet 45 = .ok (.iload 7, 2) := by decide +kernel
theorem dX1_joyOfSet_47 : decode cX1_joyOfSet 47 = .ok (.iload 5, 2) := by decide +kernel
theorem dX1_joyOfSet_49 : decode cX1_joyOfSet 49 = .ok (.if_icmp .le 7, 3) := by decide +kernel
theorem dX1_joyOfSet_52 : decode cX1_joyOfSet 52 = .ok (.iload 7, 2) := by decide +kernel
theorem dX1_joyOfSet_54 : decode cX1_joyOfSet 54 = .ok (.istore 5, 2) := by decide +kernel
theorem dX1_joyOfSet_56 : decode cX1_joyOfSet 56 = .ok (.iinc 6 1, 3) := by decide +kernel
theorem dX1_joyOfSet_59 : decode cX1_joyOfSet 59 = .ok (.goto (-50), 3) := by decide +kernel
theorem dX1_joyOfSet_62 : decode cX1_joyOfSet 62 = .ok (.iload_n 3, 1) := by decide +kernel
theorem dX1_joyOfSet_63 : decode cX1_joyOfSet 63 = .ok (.ifCond .eq 8, 3) := by decide +kernel
theorem dX1_joyOfSet_66 : decode cX1_joyOfSet 66 = .ok (.iload 4, 2) := by decide +kernel
theorem dX1_joyOfSet_68 : decode cX1_joyOfSet 68 = .ok (.goto 13, 3) := by decide +kernel
theorem dX1_joyOfSet_71 : decode cX1_joyOfSet 71 = .ok (.iload 4, 2) := by decide +kernel
theorem dX1_joyOfSet_73 : decode cX1_joyOfSet 73 = .ok (.iload 5, 2) := by decide +kernel
theorem dX1_joyOfSet_75 : decode cX1_joyOfSet 75 = .ok (.iconst 2, 1) := by decide +kernel
theorem dX1_joyOfSet_76 : decode cX1_joyOfSet 76 = .ok (.idiv, 1) := by decide +kernel
theorem dX1_joyOfSet_77 : decode cX1_joyOfSet 77 = .ok (.isub, 1) := by decide +kernel
theorem dX1_joyOfSet_78 : decode cX1_joyOfSet 78 = .ok (.iload 5, 2) := by decide +kernel
theorem dX1_joyOfSet_80 : decode cX1_joyOfSet 80 = .ok (.iadd, 1) := by decide +kernel
theorem dX1_joyOfSet_81 : decode cX1_joyOfSet 81 = .ok (.ireturn, 1) := by decide +kernel
theorem dX1_feastWith_0 : decode cX1_feastWith 0 = .ok (.aload_n 0, 1) := by decide +kernel
theorem dX1_feastWith_1 : decode cX1_feastWith 1 = .ok (.iload_n 2, 1) := by decide +kernel
theorem dX1_feastWith_2 : decode cX1_feastWith 2 = .ok (.aload_n 0, 1) := by decide +kernel
theorem dX1_feastWith_3 : decode cX1_feastWith 3 = .ok (.getfield 37, 3) := by decide +kernel
theorem dX1_feastWith_6 : decode cX1_feastWith 6 = .ok (.aload_n 0, 1) := by decide +kernel
theorem dX1_feastWith_7 : decode cX1_feastWith 7 = .ok (.iload_n 1, 1) := by decide +kernel
theorem dX1_feastWith_8 : decode cX1_feastWith 8 = .ok (.invokevirtual 84, 3) := by decide +kernel
theorem dX1_feastWith_11 : decode cX1_feastWith 11 = .ok (.invokevirtual 87, 3) := by decide +kernel
theorem dX1_feastWith_14 : decode cX1_feastWith 14 = .ok (.ireturn, 1) := by decide +kernel
theorem dX1_canGoBy_0 : decode cX1_canGoBy 0 = .ok (.aload_n 0, 1) := by decide +kernel
theorem dX1_canGoBy_1 : decode cX1_canGoBy 1 = .ok (.getfield 37, 3) := by decide +kernel
theorem dX1_canGoBy_4 : decode cX1_canGoBy 4 = .ok (.iload_n 1, 1) := by decide +kernel
theorem dX1_canGoBy_5 : decode cX1_canGoBy 5 = .ok (.iadd, 1) := by decide +kernel
theorem dX1_canGoBy_6 : decode cX1_canGoBy 6 = .ok (.bipush 99, 2) := by decide +kernel
theorem dX1_canGoBy_8 : decode cX1_canGoBy 8 = .ok (.if_icmp .gt 7, 3) := by decide +kernel
theorem dX1_canGoBy_11 : decode cX1_canGoBy 11 = .ok (.iconst 1, 1) := by decide +kernel
theorem dX1_canGoBy_12 : decode cX1_canGoBy 12 = .ok (.goto 4, 3) := by decide +kernel
theorem dX1_canGoBy_15 : decode cX1_canGoBy 15 = .ok (.iconst 0, 1) := by decide +kernel
theorem dX1_canGoBy_16 : decode cX1_canGoBy 16 = .ok (.ireturn, 1) := by decide +kernel
theorem dX1_canBeSold_0 : decode cX1_canBeSold 0 = .ok (.aload_n 0, 1) := by decide +kernel
theorem dX1_canBeSold_1 : decode cX1_canBeSold 1 = .ok (.iload_n 2, 1) := by decide +kernel
theorem dX1_canBeSold_2 : decode cX1_canBeSold 2 = .ok (.invokevirtual 91, 3) := by decide +kernel
theorem dX1_canBeSold_5 : decode cX1_canBeSold 5 = .ok (.ifCond .eq 39, 3) := by decide +kernel
theorem dX1_canBeSold_8 : decode cX1_canBeSold 8 = .ok (.aload_n 0, 1) := by decide +kernel
theorem dX1_canBeSold_9 : decode cX1_canBeSold 9 = .ok (.iload_n 1, 1) := by decide +kernel
theorem dX1_canBeSold_10 : decode cX1_canBeSold 10 = .ok (.invokevirtual 68, 3) := by decide +kernel
theorem dX1_canBeSold_13 : decode cX1_canBeSold 13 = .ok (.ifCond .ne 31, 3) := by decide +kernel
theorem dX1_canBeSold_16 : decode cX1_canBeSold 16 = .ok (.aload_n 0, 1) := by decide +kernel
theorem dX1_canBeSold_17 : decode cX1_canBeSold 17 = .ok (.getfield 24, 3) := by decide +kernel
theorem dX1_canBeSold_20 : decode cX1_canBeSold 20 = .ok (.iload_n 1, 1) := by decide +kernel
theorem dX1_canBeSold_21 : decode cX1_canBeSold 21 = .ok (.iaload, 1) := by decide +kernel
theorem dX1_canBeSold_22 : decode cX1_canBeSold 22 = .ok (.iload_n 2, 1) := by decide +kernel
theorem dX1_canBeSold_23 : decode cX1_canBeSold 23 = .ok (.if_icmp .eq 21, 3) := by decide +kernel
theorem dX1_canBeSold_26 : decode cX1_canBeSold 26 = .ok (.aload_n 0, 1) := by decide +kernel
theorem dX1_canBeSold_27 : decode cX1_canBeSold 27 = .ok (.iload_n 1, 1) := by decide +kernel
theorem dX1_canBeSold_28 : decode cX1_canBeSold 28 = .ok (.invokevirtual 80, 3) := by decide +kernel
theorem dX1_canBeSold_31 : decode cX1_canBeSold 31 = .ok (.aload_n 0, 1) := by decide +kernel
theorem dX1_canBeSold_32 : decode cX1_canBeSold 32 = .ok (.getfield 9, 3) := by decide +kernel
theorem dX1_canBeSold_35 : decode cX1_canBeSold 35 = .ok (.iload_n 2, 1) := by decide +kernel
theorem dX1_canBeSold_36 : decode cX1_canBeSold 36 = .ok (.iaload, 1) := by decide +kernel
theorem dX1_canBeSold_37 : decode cX1_canBeSold 37 = .ok (.if_icmp .gt 7, 3) := by decide +kernel
theorem dX1_canBeSold_40 : decode cX1_canBeSold 40 = .ok (.iconst 1, 1) := by decide +kernel
theorem dX1_canBeSold_41 : decode cX1_canBeSold 41 = .ok (.goto 4, 3) := by decide +kernel
theorem dX1_canBeSold_44 : decode cX1_canBeSold 44 = .ok (.iconst 0, 1) := by decide +kernel
theorem dX1_canBeSold_45 : decode cX1_canBeSold 45 = .ok (.ireturn, 1) := by decide +kernel
theorem dX1_handOver_0 : decode cX1_handOver 0 = .ok (.aload_n 0, 1) := by decide +kernel
theorem dX1_handOver_1 : decode cX1_handOver 1 = .ok (.iload_n 1, 1) := by decide +kernel
theorem dX1_handOver_2 : decode cX1_handOver 2 = .ok (.invokevirtual 80, 3) := by decide +kernel
theorem dX1_handOver_5 : decode cX1_handOver 5 = .ok (.istore_n 3, 1) := by decide +kernel
theorem dX1_handOver_6 : decode cX1_handOver 6 = .ok (.aload_n 0, 1) := by decide +kernel
theorem dX1_handOver_7 : decode cX1_handOver 7 = .ok (.getfield 9, 3) := by decide +kernel
theorem dX1_handOver_10 : decode cX1_handOver 10 = .ok (.iload_n 2, 1) := by decide +kernel
theorem dX1_handOver_11 : decode cX1_handOver 11 = .ok (.dup2, 1) := by decide +kernel
theorem dX1_handOver_12 : decode cX1_handOver 12 = .ok (.iaload, 1) := by decide +kernel
theorem dX1_handOver_13 : decode cX1_handOver 13 = .ok (.iload_n 3, 1) := by decide +kernel
theorem dX1_handOver_14 : decode cX1_handOver 14 = .ok (.isub, 1) := by decide +kernel
theorem dX1_handOver_15 : decode cX1_handOver 15 = .ok (.iastore, 1) := by decide +kernel
theorem dX1_handOver_16 : decode cX1_handOver 16 = .ok (.aload_n 0, 1) := by decide +kernel
theorem dX1_handOver_17 : decode cX1_handOver 17 = .ok (.getfield 9, 3) := by decide +kernel
theorem dX1_handOver_20 : decode cX1_handOver 20 = .ok (.aload_n 0, 1) := by decide +kernel
theorem dX1_handOver_21 : decode cX1_handOver 21 = .ok (.getfield 24, 3) := by decide +kernel
theorem dX1_handOver_24 : decode cX1_handOver 24 = .ok (.iload_n 1, 1) := by decide +kernel
theorem dX1_handOver_25 : decode cX1_handOver 25 = .ok (.iaload, 1) := by decide +kernel
theorem dX1_handOver_26 : decode cX1_handOver 26 = .ok (.dup2, 1) := by decide +kernel
theorem dX1_handOver_27 : decode cX1_handOver 27 = .ok (.iaload, 1) := by decide +kernel
theorem dX1_handOver_28 : decode cX1_handOver 28 = .ok (.iload_n 3, 1) := by decide +kernel
theorem dX1_handOver_29 : decode cX1_handOver 29 = .ok (.iadd, 1) := by decide +kernel
theorem dX1_handOver_30 : decode cX1_handOver 30 = .ok (.iastore, 1) := by decide +kernel
theorem dX1_handOver_31 : decode cX1_handOver 31 = .ok (.aload_n 0, 1) := by decide +kernel
theorem dX1_handOver_32 : decode cX1_handOver 32 = .ok (.getfield 24, 3) := by decide +kernel
theorem dX1_handOver_35 : decode cX1_handOver 35 = .ok (.iload_n 1, 1) := by decide +kernel
theorem dX1_handOver_36 : decode cX1_handOver 36 = .ok (.iload_n 2, 1) := by decide +kernel
theorem dX1_handOver_37 : decode cX1_handOver 37 = .ok (.iastore, 1) := by decide +kernel
theorem dX1_handOver_38 : decode cX1_handOver 38 = .ok (.iload_n 3, 1) := by decide +kernel
theorem dX1_handOver_39 : decode cX1_handOver 39 = .ok (.ireturn, 1) := by decide +kernel
theorem dX1_unseal_0 : decode cX1_unseal 0 = .ok (.aload_n 0, 1) := by decide +kernel
theorem dX1_unseal_1 : decode cX1_unseal 1 = .ok (.getfield 24, 3) := by decide +kernel
theorem dX1_unseal_4 : decode cX1_unseal 4 = .ok (.iload_n 1, 1) := by decide +kernel
theorem dX1_unseal_5 : decode cX1_unseal 5 = .ok (.iaload, 1) := by decide +kernel
theorem dX1_unseal_6 : decode cX1_unseal 6 = .ok (.istore_n 2, 1) := by decide +kernel
theorem dX1_unseal_7 : decode cX1_unseal 7 = .ok (.aload_n 0, 1) := by decide +kernel
theorem dX1_unseal_8 : decode cX1_unseal 8 = .ok (.iload_n 1, 1) := by decide +kernel
theorem dX1_unseal_9 : decode cX1_unseal 9 = .ok (.aload_n 0, 1) := by decide +kernel
theorem dX1_unseal_10 : decode cX1_unseal 10 = .ok (.getfield 37, 3) := by decide +kernel
theorem dX1_unseal_13 : decode cX1_unseal 13 = .ok (.invokevirtual 76, 3) := by decide +kernel
theorem dX1_unseal_16 : decode cX1_unseal 16 = .ok (.istore_n 3, 1) := by decide +kernel
theorem dX1_unseal_17 : decode cX1_unseal 17 = .ok (.aload_n 0, 1) := by decide +kernel
theorem dX1_unseal_18 : decode cX1_unseal 18 = .ok (.iload_n 2, 1) := by decide +kernel
theorem dX1_unseal_19 : decode cX1_unseal 19 = .ok (.invokevirtual 84, 3) := by decide +kernel
theorem dX1_unseal_22 : decode cX1_unseal 22 = .ok (.ifCond .eq 9, 3) := by decide +kernel
theorem dX1_unseal_25 : decode cX1_unseal 25 = .ok (.iload_n 3, 1) := by decide +kernel
theorem dX1_unseal_26 : decode cX1_unseal 26 = .ok (.iconst 2, 1) := by decide +kernel
theorem dX1_unseal_27 : decode cX1_unseal 27 = .ok (.idiv, 1) := by decide +kernel
theorem dX1_unseal_28 : decode cX1_unseal 28 = .ok (.goto 4, 3) := by decide +kernel
theorem dX1_unseal_31 : decode cX1_unseal 31 = .ok (.iload_n 3, 1) := by decide +kernel
theorem dX1_unseal_32 : decode cX1_unseal 32 = .ok (.istore 4, 2) := by decide +kernel
theorem dX1_unseal_34 : decode cX1_unseal 34 = .ok (.aload_n 0, 1) := by decide +kernel
theorem dX1_unseal_35 : decode cX1_unseal 35 = .ok (.getfield 15, 3) := by decide +kernel
theorem dX1_unseal_38 : decode cX1_unseal 38 = .ok (.iload_n 2, 1) := by decide +kernel
theorem dX1_unseal_39 : decode cX1_unseal 39 = .ok (.dup2, 1) := by decide +kernel
theorem dX1_unseal_40 : decode cX1_unseal 40 = .ok (.iaload, 1) := by decide +kernel
theorem dX1_unseal_41 : decode cX1_unseal 41 = .ok (.iload 4, 2) := by decide +kernel
theorem dX1_unseal_43 : decode cX1_unseal 43 = .ok (.iadd, 1) := by decide +kernel
theorem dX1_unseal_44 : decode cX1_unseal 44 = .ok (.iastore, 1) := by decide +kernel
theorem dX1_unseal_45 : decode cX1_unseal 45 = .ok (.aload_n 0, 1) := by decide +kernel
theorem dX1_unseal_46 : decode cX1_unseal 46 = .ok (.getfield 18, 3) := by decide +kernel
theorem dX1_unseal_49 : decode cX1_unseal 49 = .ok (.iload_n 2, 1) := by decide +kernel
theorem dX1_unseal_50 : decode cX1_unseal 50 = .ok (.aload_n 0, 1) := by decide +kernel
theorem dX1_unseal_51 : decode cX1_unseal 51 = .ok (.getfield 37, 3) := by decide +kernel
theorem dX1_unseal_54 : decode cX1_unseal 54 = .ok (.iastore, 1) := by decide +kernel
theorem dX1_unseal_55 : decode cX1_unseal 55 = .ok (.aload_n 0, 1) := by decide +kernel
theorem dX1_unseal_56 : decode cX1_unseal 56 = .ok (.dup, 1) := by decide +kernel
theorem dX1_unseal_57 : decode cX1_unseal 57 = .ok (.getfield 46, 3) := by decide +kernel
theorem dX1_unseal_60 : decode cX1_unseal 60 = .ok (.iconst 1, 1) := by decide +kernel
theorem dX1_unseal_61 : decode cX1_unseal 61 = .ok (.iload_n 1, 1) := by decide +kernel
theorem dX1_unseal_62 : decode cX1_unseal 62 = .ok (.ishl, 1) := by decide +kernel
theorem dX1_unseal_63 : decode cX1_unseal 63 = .ok (.ior, 1) := by decide +kernel
theorem dX1_unseal_64 : decode cX1_unseal 64 = .ok (.putfield 46, 3) := by decide +kernel
theorem dX1_unseal_67 : decode cX1_unseal 67 = .ok (.iload 4, 2) := by decide +kernel
theorem dX1_unseal_69 : decode cX1_unseal 69 = .ok (.ireturn, 1) := by decide +kernel
theorem dX1_acts_0 : decode cX1_acts 0 = .ok (.iload_n 2, 1) := by decide +kernel
theorem dX1_acts_1 : decode cX1_acts 1 = .ok (.bipush 9, 2) := by decide +kernel
theorem dX1_acts_3 : decode cX1_acts 3 = .ok (.if_icmp .ne 26, 3) := by decide +kernel
theorem dX1_acts_6 : decode cX1_acts 6 = .ok (.aload_n 0, 1) := by decide +kernel
theorem dX1_acts_7 : decode cX1_acts 7 = .ok (.iload_n 1, 1) := by decide +kernel
theorem dX1_acts_8 : decode cX1_acts 8 = .ok (.invokevirtual 94, 3) := by decide +kernel
theorem dX1_acts_11 : decode cX1_acts 11 = .ok (.ifCond .ne 5, 3) := by decide +kernel
theorem dX1_acts_14 : decode cX1_acts 14 = .ok (.iconst 0, 1) := by decide +kernel
theorem dX1_acts_15 : decode cX1_acts 15 = .ok (.ireturn, 1) := by decide +kernel
theorem dX1_acts_16 : decode cX1_acts 16 = .ok (.aload_n 0, 1) := by decide +kernel
theorem dX1_acts_17 : decode cX1_acts 17 = .ok (.dup, 1) := by decide +kernel
theorem dX1_acts_18 : decode cX1_acts 18 = .ok (.getfield 37, 3) := by decide +kernel
theorem dX1_acts_21 : decode cX1_acts 21 = .ok (.iload_n 1, 1) := by decide +kernel
theorem dX1_acts_22 : decode cX1_acts 22 = .ok (.iadd, 1) := by decide +kernel
theorem dX1_acts_23 : decode cX1_acts 23 = .ok (.putfield 37, 3) := by decide +kernel
theorem dX1_acts_26 : decode cX1_acts 26 = .ok (.goto 46, 3) := by decide +kernel
theorem dX1_acts_29 : decode cX1_acts 29 = .ok (.iload_n 2, 1) := by decide +kernel
theorem dX1_acts_30 : decode cX1_acts 30 = .ok (.bipush 8, 2) := by decide +kernel
theorem dX1_acts_32 : decode cX1_acts 32 = .ok (.if_icmp .ne 22, 3) := by decide +kernel
theorem dX1_acts_35 : decode cX1_acts 35 = .ok (.aload_n 0, 1) := by decide +kernel
theorem dX1_acts_36 : decode cX1_acts 36 = .ok (.iload_n 1, 1) := by decide +kernel
theorem dX1_acts_37 : decode cX1_acts 37 = .ok (.invokevirtual 68, 3) := by decide +kernel
theorem dX1_acts_40 : decode cX1_acts 40 = .ok (.ifCond .eq 5, 3) := by decide +kernel
theorem dX1_acts_43 : decode cX1_acts 43 = .ok (.iconst 0, 1) := by decide +kernel
theorem dX1_acts_44 : decode cX1_acts 44 = .ok (.ireturn, 1) := by decide +kernel
theorem dX1_acts_45 : decode cX1_acts 45 = .ok (.aload_n 0, 1) := by decide +kernel
theorem dX1_acts_46 : decode cX1_acts 46 = .ok (.iload_n 1, 1) := by decide +kernel
theorem dX1_acts_47 : decode cX1_acts 47 = .ok (.invokevirtual 97, 3) := by decide +kernel
theorem dX1_acts_50 : decode cX1_acts 50 = .ok (.pop, 1) := by decide +kernel
theorem dX1_acts_51 : decode cX1_acts 51 = .ok (.goto 21, 3) := by decide +kernel
theorem dX1_acts_54 : decode cX1_acts 54 = .ok (.aload_n 0, 1) := by decide +kernel
theorem dX1_acts_55 : decode cX1_acts 55 = .ok (.iload_n 1, 1) := by decide +kernel
theorem dX1_acts_56 : decode cX1_acts 56 = .ok (.iload_n 2, 1) := by decide +kernel
theorem dX1_acts_57 : decode cX1_acts 57 = .ok (.invokevirtual 100, 3) := by decide +kernel
theorem dX1_acts_60 : decode cX1_acts 60 = .ok (.ifCond .ne 5, 3) := by decide +kernel
theorem dX1_acts_63 : decode cX1_acts 63 = .ok (.iconst 0, 1) := by decide +kernel
theorem dX1_acts_64 : decode cX1_acts 64 = .ok (.ireturn, 1) := by decide +kernel
theorem dX1_acts_65 : decode cX1_acts 65 = .ok (.aload_n 0, 1) := by decide +kernel
theorem dX1_acts_66 : decode cX1_acts 66 = .ok (.iload_n 1, 1) := by decide +kernel
theorem dX1_acts_67 : decode cX1_acts 67 = .ok (.iload_n 2, 1) := by decide +kernel
theorem dX1_acts_68 : decode cX1_acts 68 = .ok (.invokevirtual 103, 3) := by decide +kernel
theorem dX1_acts_71 : decode cX1_acts 71 = .ok (.pop, 1) := by decide +kernel
theorem dX1_acts_72 : decode cX1_acts 72 = .ok (.iconst 1, 1) := by decide +kernel
theorem dX1_acts_73 : decode cX1_acts 73 = .ok (.ireturn, 1) := by decide +kernel
theorem dX2_init_0 : decode cX2_init 0 = .ok (.aload_n 0, 1) := by decide +kernel
theorem dX2_init_1 : decode cX2_init 1 = .ok (.invokespecial 3, 3) := by decide +kernel
theorem dX2_init_4 : decode cX2_init 4 = .ok (.aload_n 0, 1) := by decide +kernel
theorem dX2_init_5 : decode cX2_init 5 = .ok (.bipush 8, 2) := by decide +kernel
theorem dX2_init_7 : decode cX2_init 7 = .ok (.newarray .int, 2) := by decide +kernel
theorem dX2_init_9 : decode cX2_init 9 = .ok (.putfield 9, 3) := by decide +kernel
theorem dX2_init_12 : decode cX2_init 12 = .ok (.aload_n 0, 1) := by decide +kernel
theorem dX2_init_13 : decode cX2_init 13 = .ok (.bipush 8, 2) := by decide +kernel
theorem dX2_init_15 : decode cX2_init 15 = .ok (.newarray .int, 2) := by decide +kernel
theorem dX2_init_17 : decode cX2_init 17 = .ok (.putfield 15, 3) := by decide +kernel
theorem dX2_init_20 : decode cX2_init 20 = .ok (.aload_n 0, 1) := by decide +kernel
theorem dX2_init_21 : decode cX2_init 21 = .ok (.bipush 8, 2) := by decide +kernel
theorem dX2_init_23 : decode cX2_init 23 = .ok (.newarray .int, 2) := by decide +kernel
theorem dX2_init_25 : decode cX2_init 25 = .ok (.putfield 18, 3) := by decide +kernel
theorem dX2_init_28 : decode cX2_init 28 = .ok (.aload_n 0, 1) := by decide +kernel
theorem dX2_init_29 : decode cX2_init 29 = .ok (.iconst 0, 1) := by decide +kernel
theorem dX2_init_30 : decode cX2_init 30 = .ok (.putfield 21, 3) := by decide +kernel
theorem dX2_init_33 : decode cX2_init 33 = .ok (.return_, 1) := by decide +kernel
theorem dX2_append_0 : decode cX2_append 0 = .ok (.aload_n 0, 1) := by decide +kernel
theorem dX2_append_1 : decode cX2_append 1 = .ok (.getfield 21, 3) := by decide +kernel
theorem dX2_append_4 : decode cX2_append 4 = .ok (.istore 4, 2) := by decide +kernel
theorem dX2_append_6 : decode cX2_append 6 = .ok (.aload_n 0, 1) := by decide +kernel
theorem dX2_append_7 : decode cX2_append 7 = .ok (.getfield 9, 3) := by decide +kernel
theorem dX2_append_10 : decode cX2_append 10 = .ok (.iload 4, 2) := by decide +kernel
theorem dX2_append_12 : decode cX2_append 12 = .ok (.iload_n 1, 1) := by decide +kernel
theorem dX2_append_13 : decode cX2_append 13 = .ok (.iastore, 1) := by decide +kernel
theorem dX2_append_14 : decode cX2_append 14 = .ok (.aload_n 0, 1) := by decide +kernel
theorem dX2_append_15 : decode cX2_append 15 = .ok (.getfield 15, 3) := by decide +kernel
theorem dX2_append_18 : decode cX2_append 18 = .ok (.iload 4, 2) := by decide +kernel
theorem dX2_append_20 : decode cX2_append 20 = .ok (.iload_n 2, 1) := by decide +kernel
theorem dX2_append_21 : decode cX2_append 21 = .ok (.iastore, 1) := by decide +kernel
theorem dX2_append_22 : decode cX2_append 22 = .ok (.aload_n 0, 1) := by decide +kernel
theorem dX2_append_23 : decode cX2_append 23 = .ok (.getfield 18, 3) := by decide +kernel
theorem dX2_append_26 : decode cX2_append 26 = .ok (.iload 4, 2) := by decide +kernel
theorem dX2_append_28 : decode cX2_append 28 = .ok (.iload_n 3, 1) := by decide +kernel
theorem dX2_append_29 : decode cX2_append 29 = .ok (.iastore, 1) := by decide +kernel
theorem dX2_append_30 : decode cX2_append 30 = .ok (.aload_n 0, 1) := by decide +kernel
theorem dX2_append_31 : decode cX2_append 31 = .ok (.dup, 1) := by decide +kernel
theorem dX2_append_32 : decode cX2_append 32 = .ok (.getfield 21, 3) := by decide +kernel
theorem dX2_append_35 : decode cX2_append 35 = .ok (.iconst 1, 1) := by decide +kernel
theorem dX2_append_36 : decode cX2_append 36 = .ok (.iadd, 1) := by decide +kernel
theorem dX2_append_37 : decode cX2_append 37 = .ok (.putfield 21, 3) := by decide +kernel
theorem dX2_append_40 : decode cX2_append 40 = .ok (.iload 4, 2) := by decide +kernel
theorem dX2_append_42 : decode cX2_append 42 = .ok (.ireturn, 1) := by decide +kernel
theorem dX2_areSoWith_0 : decode cX2_areSoWith 0 = .ok (.iconst 0, 1) := by decide +kernel
theorem dX2_areSoWith_1 : decode cX2_areSoWith 1 = .ok (.istore 6, 2) := by decide +kernel
theorem dX2_areSoWith_3 : decode cX2_areSoWith 3 = .ok (.iload 6, 2) := by decide +kernel
theorem dX2_areSoWith_5 : decode cX2_areSoWith 5 = .ok (.aload_n 0, 1) := by decide +kernel
theorem dX2_areSoWith_6 : decode cX2_areSoWith 6 = .ok (.getfield 21, 3) := by decide +kernel
theorem dX2_areSoWith_9 : decode cX2_areSoWith 9 = .ok (.if_icmp .ge 72, 3) := by decide +kernel
theorem dX2_areSoWith_12 : decode cX2_areSoWith 12 = .ok (.aload_n 0, 1) := by decide +kernel
theorem dX2_areSoWith_13 : decode cX2_areSoWith 13 = .ok (.getfield 9, 3) := by decide +kernel
theorem dX2_areSoWith_16 : decode cX2_areSoWith 16 = .ok (.iload 6, 2) := by decide +kernel
theorem dX2_areSoWith_18 : decode cX2_areSoWith 18 = .ok (.iaload, 1) := by decide +kernel
theorem dX2_areSoWith_19 : decode cX2_areSoWith 19 = .ok (.iload_n 2, 1) := by decide +kernel
theorem dX2_areSoWith_20 : decode cX2_areSoWith 20 = .ok (.if_icmp .ne 21, 3) := by decide +kernel
theorem dX2_areSoWith_23 : decode cX2_areSoWith 23 = .ok (.iload_n 3, 1) := by decide +kernel
theorem dX2_areSoWith_24 : decode cX2_areSoWith 24 = .ok (.iload 4, 2) := by decide +kernel
theorem dX2_areSoWith_26 : decode cX2_areSoWith 26 = .ok (.iload 5, 2) := by decide +kernel
theorem dX2_areSoWith_28 : decode cX2_areSoWith 28 = .ok (.aload_n 0, 1) := by decide +kernel
theorem dX2_areSoWith_29 : decode cX2_areSoWith 29 = .ok (.getfield 15, 3) := by decide +kernel
theorem dX2_areSoWith_32 : decode cX2_areSoWith 32 = .ok (.iload 6, 2) := by decide +kernel
theorem dX2_areSoWith_34 : decode cX2_areSoWith 34 = .ok (.iaload, 1) := by decide +kernel
theorem dX2_areSoWith_35 : decode cX2_areSoWith 35 = .ok (.invokestatic 25, 3) := by decide +kernel
theorem dX2_areSoWith_38 : decode cX2_areSoWith 38 = .ok (.goto 21, 3) := by decide +kernel
theorem dX2_areSoWith_41 : decode cX2_areSoWith 41 = .ok (.aload_n 1, 1) := by decide +kernel
theorem dX2_areSoWith_42 : decode cX2_areSoWith 42 = .ok (.aload_n 0, 1) := by decide +kernel
theorem dX2_areSoWith_43 : decode cX2_areSoWith 43 = .ok (.getfield 9, 3) := by decide +kernel
theorem dX2_areSoWith_46 : decode cX2_areSoWith 46 = .ok (.iload 6, 2) := by decide +kernel
theorem dX2_areSoWith_48 : decode cX2_areSoWith 48 = .ok (.iaload, 1) := by decide +kernel
theorem dX2_areSoWith_49 : decode cX2_areSoWith 49 = .ok (.aload_n 0, 1) := by decide +kernel
theorem dX2_areSoWith_50 : decode cX2_areSoWith 50 = .ok (.getfield 15, 3) := by decide +kernel
theorem dX2_areSoWith_53 : decode cX2_areSoWith 53 = .ok (.iload 6, 2) := by decide +kernel
theorem dX2_areSoWith_55 : decode cX2_areSoWith 55 = .ok (.iaload, 1) := by decide +kernel
theorem dX2_areSoWith_56 : decode cX2_areSoWith 56 = .ok (.invokevirtual 29, 3) := by decide +kernel
theorem dX2_areSoWith_59 : decode cX2_areSoWith 59 = .ok (.istore 7, 2) := by decide +kernel
theorem dX2_areSoWith_61 : decode cX2_areSoWith 61 = .ok (.iload 7, 2) := by decide +kernel
theorem dX2_areSoWith_63 : decode cX2_areSoWith 63 = .ok (.aload_n 0, 1) := by decide +kernel
theorem dX2_areSoWith_64 : decode cX2_areSoWith 64 = .ok (.getfield 18, 3) := by decide +kernel
theorem dX2_areSoWith_67 : decode cX2_areSoWith 67 = .ok (.iload 6, 2) := by decide +kernel
theorem dX2_areSoWith_69 : decode cX2_areSoWith 69 = .ok (.iaload, 1) := by decide +kernel
theorem dX2_areSoWith_70 : decode cX2_areSoWith 70 = .ok (.if_icmp .eq 5, 3) := by decide +kernel
theorem dX2_areSoWith_73 : decode cX2_areSoWith 73 = .ok (.iconst 0, 1) := by decide +kernel
theorem dX2_areSoWith_74 : decode cX2_areSoWith 74 = .ok (.ireturn, 1) := by decide +kernel
theorem dX2_areSoWith_75 : decode cX2_areSoWith 75 = .ok (.iinc 6 1, 3) := by decide +kernel
theorem dX2_areSoWith_78 : decode cX2_areSoWith 78 = .ok (.goto (-75), 3) := by decide +kernel
theorem dX2_areSoWith_81 : decode cX2_areSoWith 81 = .ok (.iconst 1, 1) := by decide +kernel
theorem dX2_areSoWith_82 : decode cX2_areSoWith 82 = .ok (.ireturn, 1) := by decide +kernel
theorem dX3_init_0 : decode cX3_init 0 = .ok (.aload_n 0, 1) := by decide +kernel
theorem dX3_init_1 : decode cX3_init 1 = .ok (.invokespecial 3, 3) := by decide +kernel
theorem dX3_init_4 : decode cX3_init 4 = .ok (.aload_n 0, 1) := by decide +kernel
theorem dX3_init_5 : decode cX3_init 5 = .ok (.bipush 60, 2) := by decide +kernel
theorem dX3_init_7 : decode cX3_init 7 = .ok (.newarray .int, 2) := by decide +kernel
theorem dX3_init_9 : decode cX3_init 9 = .ok (.putfield 9, 3) := by decide +kernel
theorem dX3_init_12 : decode cX3_init 12 = .ok (.aload_n 0, 1) := by decide +kernel
theorem dX3_init_13 : decode cX3_init 13 = .ok (.iconst (-1), 1) := by decide +kernel
theorem dX3_init_14 : decode cX3_init 14 = .ok (.putfield 15, 3) := by decide +kernel
theorem dX3_init_17 : decode cX3_init 17 = .ok (.aload_n 0, 1) := by decide +kernel
theorem dX3_init_18 : decode cX3_init 18 = .ok (.iconst 0, 1) := by decide +kernel
theorem dX3_init_19 : decode cX3_init 19 = .ok (.putfield 19, 3) := by decide +kernel
theorem dX3_init_22 : decode cX3_init 22 = .ok (.return_, 1) := by decide +kernel
theorem dX3_getRow_0 : decode cX3_getRow 0 = .ok (.aload_n 0, 1) := by decide +kernel
theorem dX3_getRow_1 : decode cX3_getRow 1 = .ok (.iload_n 1, 1) := by decide +kernel
theorem dX3_getRow_2 : decode cX3_getRow 2 = .ok (.putfield 19, 3) := by decide +kernel
theorem dX3_getRow_5 : decode cX3_getRow 5 = .ok (.aload_n 0, 1) := by decide +kernel
theorem dX3_getRow_6 : decode cX3_getRow 6 = .ok (.iload_n 2, 1) := by decide +kernel
theorem dX3_getRow_7 : decode cX3_getRow 7 = .ok (.putfield 15, 3) := by decide +kernel
theorem dX3_getRow_10 : decode cX3_getRow 10 = .ok (.aload_n 0, 1) := by decide +kernel
theorem dX3_getRow_11 : decode cX3_getRow 11 = .ok (.getfield 9, 3) := by decide +kernel
theorem dX3_getRow_14 : decode cX3_getRow 14 = .ok (.iconst 0, 1) := by decide +kernel
theorem dX3_getRow_15 : decode cX3_getRow 15 = .ok (.invokestatic 22, 3) := by decide +kernel
theorem dX3_getRow_18 : decode cX3_getRow 18 = .ok (.return_, 1) := by decide +kernel
theorem dX3_hasRow_0 : decode cX3_hasRow 0 = .ok (.aload_n 0, 1) := by decide +kernel
theorem dX3_hasRow_1 : decode cX3_hasRow 1 = .ok (.getfield 15, 3) := by decide +kernel
theorem dX3_hasRow_4 : decode cX3_hasRow 4 = .ok (.iconst (-1), 1) := by decide +kernel
theorem dX3_hasRow_5 : decode cX3_hasRow 5 = .ok (.if_icmp .eq 7, 3) := by decide +kernel
theorem dX3_hasRow_8 : decode cX3_hasRow 8 = .ok (.iconst 1, 1) := by decide +kernel
theorem dX3_hasRow_9 : decode cX3_hasRow 9 = .ok (.goto 4, 3) := by decide +kernel
theorem dX3_hasRow_12 : decode cX3_hasRow 12 = .ok (.iconst 0, 1) := by decide +kernel
theorem dX3_hasRow_13 : decode cX3_hasRow 13 = .ok (.ireturn, 1) := by decide +kernel
theorem dX3_isOfAnotherLane_0 : decode cX3_isOfAnotherLane 0 = .ok (.aload_n 0, 1) := by decide +kernel
theorem dX3_isOfAnotherLane_1 : decode cX3_isOfAnotherLane 1 = .ok (.invokevirtual 28, 3) := by decide +kernel
theorem dX3_isOfAnotherLane_4 : decode cX3_isOfAnotherLane 4 = .ok (.ifCond .eq 15, 3) := by decide +kernel
theorem dX3_isOfAnotherLane_7 : decode cX3_isOfAnotherLane 7 = .ok (.aload_n 0, 1) := by decide +kernel
theorem dX3_isOfAnotherLane_8 : decode cX3_isOfAnotherLane 8 = .ok (.getfield 19, 3) := by decide +kernel
theorem dX3_isOfAnotherLane_11 : decode cX3_isOfAnotherLane 11 = .ok (.iload_n 1, 1) := by decide +kernel
theorem dX3_isOfAnotherLane_12 : decode cX3_isOfAnotherLane 12 = .ok (.if_icmp .eq 7, 3) := by decide +kernel
theorem dX3_isOfAnotherLane_15 : decode cX3_isOfAnotherLane 15 = .ok (.iconst 1, 1) := by decide +kernel
theorem dX3_isOfAnotherLane_16 : decode cX3_isOfAnotherLane 16 = .ok (.goto 4, 3) := by decide +kernel
theorem dX3_isOfAnotherLane_19 : decode cX3_isOfAnotherLane 19 = .ok (.iconst 0, 1) := by decide +kernel
theorem dX3_isOfAnotherLane_20 : decode cX3_isOfAnotherLane 20 = .ok (.ireturn, 1) := by decide +kernel
theorem dX3_hasCells_0 : decode cX3_hasCells 0 = .ok (.iload_n 1, 1) := by decide +kernel
theorem dX3_hasCells_1 : decode cX3_hasCells 1 = .ok (.ifCond .lt 29, 3) := by decide +kernel
theorem dX3_hasCells_4 : decode cX3_hasCells 4 = .ok (.iload_n 1, 1) := by decide +kernel
theorem dX3_hasCells_5 : decode cX3_hasCells 5 = .ok (.aload_n 0, 1) := by decide +kernel
theorem dX3_hasCells_6 : decode cX3_hasCells 6 = .ok (.getfield 15, 3) := by decide +kernel
theorem dX3_hasCells_9 : decode cX3_hasCells 9 = .ok (.if_icmp .gt 21, 3) := by decide +kernel
theorem dX3_hasCells_12 : decode cX3_hasCells 12 = .ok (.iload_n 2, 1) := by decide +kernel
theorem dX3_hasCells_13 : decode cX3_hasCells 13 = .ok (.ifCond .lt 17, 3) := by decide +kernel
theorem dX3_hasCells_16 : decode cX3_hasCells 16 = .ok (.iload_n 2, 1) := by decide +kernel
theorem dX3_hasCells_17 : decode cX3_hasCells 17 = .ok (.aload_n 0, 1) := by decide +kernel
theorem dX3_hasCells_18 : decode cX3_hasCells 18 = .ok (.getfield 15, 3) := by decide +kernel
theorem dX3_hasCells_21 : decode cX3_hasCells 21 = .ok (.iload_n 1, 1) := by decide +kernel
theorem dX3_hasCells_22 : decode cX3_hasCells 22 = .ok (.isub, 1) := by decide +kernel
theorem dX3_hasCells_23 : decode cX3_hasCells 23 = .ok (.if_icmp .gt 7, 3) := by decide +kernel
theorem dX3_hasCells_26 : decode cX3_hasCells 26 = .ok (.iconst 1, 1) := by decide +kernel
theorem dX3_hasCells_27 : decode cX3_hasCells 27 = .ok (.goto 4, 3) := by decide +kernel
theorem dX3_hasCells_30 : decode cX3_hasCells 30 = .ok (.iconst 0, 1) := by decide +kernel
theorem dX3_hasCells_31 : decode cX3_hasCells 31 = .ok (.ireturn, 1) := by decide +kernel
theorem dX3_cutToLane_0 : decode cX3_cutToLane 0 = .ok (.aload_n 0, 1) := by decide +kernel
theorem dX3_cutToLane_1 : decode cX3_cutToLane 1 = .ok (.getfield 19, 3) := by decide +kernel
theorem dX3_cutToLane_4 : decode cX3_cutToLane 4 = .ok (.ifCond .ne 6, 3) := by decide +kernel
theorem dX3_cutToLane_7 : decode cX3_cutToLane 7 = .ok (.iload_n 1, 1) := by decide +kernel
theorem dX3_cutToLane_8 : decode cX3_cutToLane 8 = .ok (.i2b, 1) := by decide +kernel
theorem dX3_cutToLane_9 : decode cX3_cutToLane 9 = .ok (.ireturn, 1) := by decide +kernel
theorem dX3_cutToLane_10 : decode cX3_cutToLane 10 = .ok (.aload_n 0, 1) := by decide +kernel
theorem dX3_cutToLane_11 : decode cX3_cutToLane 11 = .ok (.getfield 19, 3) := by decide +kernel
theorem dX3_cutToLane_14 : decode cX3_cutToLane 14 = .ok (.iconst 1, 1) := by decide +kernel
theorem dX3_cutToLane_15 : decode cX3_cutToLane 15 = .ok (.if_icmp .ne 6, 3) := by decide +kernel
theorem dX3_cutToLane_18 : decode cX3_cutToLane 18 = .ok (.iload_n 1, 1) := by decide +kernel
theorem dX3_cutToLane_19 : decode cX3_cutToLane 19 = .ok (.i2s, 1) := by decide +kernel
theorem dX3_cutToLane_20 : decode cX3_cutToLane 20 = .ok (.ireturn, 1) := by decide +kernel
theorem dX3_cutToLane_21 : decode cX3_cutToLane 21 = .ok (.iload_n 1, 1) := by decide +kernel
theorem dX3_cutToLane_22 : decode cX3_cutToLane 22 = .ok (.ireturn, 1) := by decide +kernel
theorem dX4_init_0 : decode cX4_init 0 = .ok (.aload_n 0, 1) := by decide +kernel
theorem dX4_init_1 : decode cX4_init 1 = .ok (.invokespecial 3, 3) := by decide +kernel
theorem dX4_init_4 : decode cX4_init 4 = .ok (.aload_n 0, 1) := by decide +kernel
theorem dX4_init_5 : decode cX4_init 5 = .ok (.bipush 60, 2) := by decide +kernel
theorem dX4_init_7 : decode cX4_init 7 = .ok (.newarray .int, 2) := by decide +kernel
theorem dX4_init_9 : decode cX4_init 9 = .ok (.putfield 9, 3) := by decide +kernel
theorem dX4_init_12 : decode cX4_init 12 = .ok (.aload_n 0, 1) := by decide +kernel
theorem dX4_init_13 : decode cX4_init 13 = .ok (.iconst 0, 1) := by decide +kernel
theorem dX4_init_14 : decode cX4_init 14 = .ok (.putfield 15, 3) := by decide +kernel
theorem dX4_init_17 : decode cX4_init 17 = .ok (.aload_n 0, 1) := by decide +kernel
theorem dX4_init_18 : decode cX4_init 18 = .ok (.iconst 0, 1) := by decide +kernel
theorem dX4_init_19 : decode cX4_init 19 = .ok (.putfield 19, 3) := by decide +kernel
theorem dX4_init_22 : decode cX4_init 22 = .ok (.aload_n 0, 1) := by decide +kernel
theorem dX4_init_23 : decode cX4_init 23 = .ok (.iconst 0, 1) := by decide +kernel
theorem dX4_init_24 : decode cX4_init 24 = .ok (.putfield 22, 3) := by decide +kernel
theorem dX4_init_27 : decode cX4_init 27 = .ok (.return_, 1) := by decide +kernel
theorem dX4_firstFaultOf_0 : decode cX4_firstFaultOf 0 = .ok (.aload_n 1, 1) := by decide +kernel
theorem dX4_firstFaultOf_1 : decode cX4_firstFaultOf 1 = .ok (.getfield 25, 3) := by decide +kernel
theorem dX4_firstFaultOf_4 : decode cX4_firstFaultOf 4 = .ok (.iload_n 2, 1) := by decide +kernel
theorem dX4_firstFaultOf_5 : decode cX4_firstFaultOf 5 = .ok (.aload_n 0, 1) := by decide +kernel
theorem dX4_firstFaultOf_6 : decode cX4_firstFaultOf 6 = .ok (.getfield 9, 3) := by decide +kernel
theorem dX4_firstFaultOf_9 : decode cX4_firstFaultOf 9 = .ok (.iconst 0, 1) := by decide +kernel
theorem dX4_firstFaultOf_10 : decode cX4_firstFaultOf 10 = .ok (.iload_n 3, 1) := by decide +kernel
theorem dX4_firstFaultOf_11 : decode cX4_firstFaultOf 11 = .ok (.invokestatic 30, 3) := by decide +kernel
theorem dX4_firstFaultOf_14 : decode cX4_firstFaultOf 14 = .ok (.aload_n 0, 1) := by decide +kernel
theorem dX4_firstFaultOf_15 : decode cX4_firstFaultOf 15 = .ok (.iload_n 3, 1) := by decide +kernel
theorem dX4_firstFaultOf_16 : decode cX4_firstFaultOf 16 = .ok (.putfield 15, 3) := by decide +kernel
theorem dX4_firstFaultOf_19 : decode cX4_firstFaultOf 19 = .ok (.aload_n 0, 1) := by decide +kernel
theorem dX4_firstFaultOf_20 : decode cX4_firstFaultOf 20 = .ok (.iconst 0, 1) := by decide +kernel
theorem dX4_firstFaultOf_21 : decode cX4_firstFaultOf 21 = .ok (.putfield 19, 3) := by decide +kernel
theorem dX4_firstFaultOf_24 : decode cX4_firstFaultOf 24 = .ok (.aload 4, 2) := by decide +kernel
theorem dX4_firstFaultOf_26 : decode cX4_firstFaultOf 26 = .ok (.invokevirtual 36, 3) := by decide +kernel
theorem dX4_firstFaultOf_29 : decode cX4_firstFaultOf 29 = .ok (.aload_n 0, 1) := by decide +kernel
theorem dX4_firstFaultOf_30 : decode cX4_firstFaultOf 30 = .ok (.bipush 109, 2) := by decide +kernel
theorem dX4_firstFaultOf_32 : decode cX4_firstFaultOf 32 = .ok (.bipush 109, 2) := by decide +kernel
theorem dX4_firstFaultOf_34 : decode cX4_firstFaultOf 34 = .ok (.invokevirtual 41, 3) := by decide +kernel
theorem dX4_firstFaultOf_37 : decode cX4_firstFaultOf 37 = .ok (.ifCond .eq 14, 3) := by decide +kernel
theorem dX4_firstFaultOf_40 : decode cX4_firstFaultOf 40 = .ok (.aload_n 0, 1) := by decide +kernel
theorem dX4_firstFaultOf_41 : decode cX4_firstFaultOf 41 = .ok (.bipush 49, 2) := by decide +kernel
theorem dX4_firstFaultOf_43 : decode cX4_firstFaultOf 43 = .ok (.bipush 57, 2) := by decide +kernel
theorem dX4_firstFaultOf_45 : decode cX4_firstFaultOf 45 = .ok (.invokevirtual 41, 3) := by decide +kernel
theorem dX4_firstFaultOf_48 : decode cX4_firstFaultOf 48 = .ok (.ifCond .ne 8, 3) := by decide +kernel
theorem dX4_firstFaultOf_51 : decode cX4_firstFaultOf 51 = .ok (.aload_n 0, 1) := by decide +kernel
theorem dX4_firstFaultOf_52 : decode cX4_firstFaultOf 52 = .ok (.getfield 19, 3) := by decide +kernel
theorem dX4_firstFaultOf_55 : decode cX4_firstFaultOf 55 = .ok (.ireturn, 1) := by decide +kernel
theorem dX4_firstFaultOf_56 : decode cX4_firstFaultOf 56 = .ok (.aload 4, 2) := by decide +kernel
theorem dX4_firstFaultOf_58 : decode cX4_firstFaultOf 58 = .ok (.aload_n 0, 1) := by decide +kernel
theorem dX4_firstFaultOf_59 : decode cX4_firstFaultOf 59 = .ok (.getfield 22, 3) := by decide +kernel
theorem dX4_firstFaultOf_62 : decode cX4_firstFaultOf 62 = .ok (.bipush 48, 2) := by decide +kernel
theorem dX4_firstFaultOf_64 : decode cX4_firstFaultOf 64 = .ok (.isub, 1) := by decide +kernel
theorem dX4_firstFaultOf_65 : decode cX4_firstFaultOf 65 = .ok (.putfield 45, 3) := by decide +kernel
theorem dX4_firstFaultOf_68 : decode cX4_firstFaultOf 68 = .ok (.iconst 0, 1) := by decide +kernel
theorem dX4_firstFaultOf_69 : decode cX4_firstFaultOf 69 = .ok (.istore 5, 2) := by decide +kernel
theorem dX4_firstFaultOf_71 : decode cX4_firstFaultOf 71 = .ok (.iload 5, 2) := by decide +kernel
theorem dX4_firstFaultOf_73 : decode cX4_firstFaultOf 73 = .ok (.iconst 4, 1) := by decide +kernel
theorem dX4_firstFaultOf_74 : decode cX4_firstFaultOf 74 = .ok (.if_icmp .ge 36, 3) := by decide +kernel
theorem dX4_firstFaultOf_77 : decode cX4_firstFaultOf 77 = .ok (.aload_n 0, 1) := by decide +kernel
theorem dX4_firstFaultOf_78 : decode cX4_firstFaultOf 78 = .ok (.bipush 44, 2) := by decide +kernel
theorem dX4_firstFaultOf_80 : decode cX4_firstFaultOf 80 = .ok (.bipush 44, 2) := by decide +kernel
theorem dX4_firstFaultOf_82 : decode cX4_firstFaultOf 82 = .ok (.invokevirtual 41, 3) := by decide +kernel
theorem dX4_firstFaultOf_85 : decode cX4_firstFaultOf 85 = .ok (.ifCond .eq 25, 3) := by decide +kernel
theorem dX4_firstFaultOf_88 : decode cX4_firstFaultOf 88 = .ok (.aload_n 0, 1) := by decide +kernel
theorem dX4_firstFaultOf_89 : decode cX4_firstFaultOf 89 = .ok (.aload 4, 2) := by decide +kernel
theorem dX4_firstFaultOf_91 : decode cX4_firstFaultOf 91 = .ok (.iload 5, 2) := by decide +kernel
theorem dX4_firstFaultOf_93 : decode cX4_firstFaultOf 93 = .ok (.invokevirtual 48, 3) := by decide +kernel
theorem dX4_firstFaultOf_96 : decode cX4_firstFaultOf 96 = .ok (.ifCond .ne 8, 3) := by decide +kernel
theorem dX4_firstFaultOf_99 : decode cX4_firstFaultOf 99 = .ok (.aload_n 0, 1) := by decide +kernel
theorem dX4_firstFaultOf_100 : decode cX4_firstFaultOf 100 = .ok (.getfield 19, 3) := by decide +kernel
theorem dX4_firstFaultOf_103 : decode cX4_firstFaultOf 103 = .ok (.ireturn, 1) := by decide +kernel
theorem dX4_firstFaultOf_104 : decode cX4_firstFaultOf 104 = .ok (.iinc 5 1, 3) := by decide +kernel
theorem dX4_firstFaultOf_107 : decode cX4_firstFaultOf 107 = .ok (.goto (-36), 3) := by decide +kernel
theorem dX4_firstFaultOf_110 : decode cX4_firstFaultOf 110 = .ok (.aload 4, 2) := by decide +kernel
theorem dX4_firstFaultOf_112 : decode cX4_firstFaultOf 112 = .ok (.getfield 52, 3) := by decide +kernel
theorem dX4_firstFaultOf_115 : decode cX4_firstFaultOf 115 = .ok (.ifCond .ne 8, 3) := by decide +kernel
theorem dX4_firstFaultOf_118 : decode cX4_firstFaultOf 118 = .ok (.aload_n 0, 1) := by decide +kernel
theorem dX4_firstFaultOf_119 : decode cX4_firstFaultOf 119 = .ok (.getfield 19, 3) := by decide +kernel
theorem dX4_firstFaultOf_122 : decode cX4_firstFaultOf 122 = .ok (.ireturn, 1) := by decide +kernel
theorem dX4_firstFaultOf_123 : decode cX4_firstFaultOf 123 = .ok (.iconst 0, 1) := by decide +kernel
theorem dX4_firstFaultOf_124 : decode cX4_firstFaultOf 124 = .ok (.istore 5, 2) := by decide +kernel
theorem dX4_firstFaultOf_126 : decode cX4_firstFaultOf 126 = .ok (.iload 5, 2) := by decide +kernel
theorem dX4_firstFaultOf_128 : decode cX4_firstFaultOf 128 = .ok (.bipush 6, 2) := by decide +kernel
theorem dX4_firstFaultOf_130 : decode cX4_firstFaultOf 130 = .ok (.if_icmp .ge 36, 3) := by decide +kernel
theorem dX4_firstFaultOf_133 : decode cX4_firstFaultOf 133 = .ok (.aload_n 0, 1) := by decide +kernel
theorem dX4_firstFaultOf_134 : decode cX4_firstFaultOf 134 = .ok (.bipush 59, 2) := by decide +kernel
theorem dX4_firstFaultOf_136 : decode cX4_firstFaultOf 136 = .ok (.bipush 59, 2) := by decide +kernel
theorem dX4_firstFaultOf_138 : decode cX4_firstFaultOf 138 = .ok (.invokevirtual 41, 3) := by decide +kernel
theorem dX4_firstFaultOf_141 : decode cX4_firstFaultOf 141 = .ok (.ifCond .eq 25, 3) := by decide +kernel
theorem dX4_firstFaultOf_144 : decode cX4_firstFaultOf 144 = .ok (.aload_n 0, 1) := by decide +kernel
theorem dX4_firstFaultOf_145 : decode cX4_firstFaultOf 145 = .ok (.aload 4, 2) := by decide +kernel
theorem dX4_firstFaultOf_147 : decode cX4_firstFaultOf 147 = .ok (.iload 5, 2) := by decide +kernel
theorem dX4_firstFaultOf_149 : decode cX4_firstFaultOf 149 = .ok (.invokevirtual 55, 3) := by decide +kernel
theorem dX4_firstFaultOf_152 : decode cX4_firstFaultOf 152 = .ok (.ifCond .ne 8, 3) := by decide +kernel
theorem dX4_firstFaultOf_155 : decode cX4_firstFaultOf 155 = .ok (.aload_n 0, 1) := by decide +kernel
theorem dX4_firstFaultOf_156 : decode cX4_firstFaultOf 156 = .ok (.getfield 19, 3) := by decide +kernel
theorem dX4_firstFaultOf_159 : decode cX4_firstFaultOf 159 = .ok (.ireturn, 1) := by decide +kernel
theorem dX4_firstFaultOf_160 : decode cX4_firstFaultOf 160 = .ok (.iinc 5 1, 3) := by decide +kernel
theorem dX4_firstFaultOf_163 : decode cX4_firstFaultOf 163 = .ok (.goto (-37), 3) := by decide +kernel
theorem dX4_firstFaultOf_166 : decode cX4_firstFaultOf 166 = .ok (.aload 4, 2) := by decide +kernel
theorem dX4_firstFaultOf_168 : decode cX4_firstFaultOf 168 = .ok (.getfield 58, 3) := by decide +kernel
theorem dX4_firstFaultOf_171 : decode cX4_firstFaultOf 171 = .ok (.ifCond .le 19, 3) := by decide +kernel
theorem dX4_firstFaultOf_174 : decode cX4_firstFaultOf 174 = .ok (.aload_n 0, 1) := by decide +kernel
theorem dX4_firstFaultOf_175 : decode cX4_firstFaultOf 175 = .ok (.getfield 19, 3) := by decide +kernel
theorem dX4_firstFaultOf_178 : decode cX4_firstFaultOf 178 = .ok (.aload_n 0, 1) := by decide +kernel
theorem dX4_firstFaultOf_179 : decode cX4_firstFaultOf 179 = .ok (.getfield 15, 3) := by decide +kernel
theorem dX4_firstFaultOf_182 : decode cX4_firstFaultOf 182 = .ok (.if_icmp .ne 8, 3) := by decide +kernel
theorem dX4_firstFaultOf_185 : decode cX4_firstFaultOf 185 = .ok (.bipush (-9), 2) := by decide +kernel
theorem dX4_firstFaultOf_187 : decode cX4_firstFaultOf 187 = .ok (.goto 7, 3) := by decide +kernel
theorem dX4_firstFaultOf_190 : decode cX4_firstFaultOf 190 = .ok (.aload_n 0, 1) := by decide +kernel
theorem dX4_firstFaultOf_191 : decode cX4_firstFaultOf 191 = .ok (.getfield 19, 3) := by decide +kernel
theorem dX4_firstFaultOf_194 : decode cX4_firstFaultOf 194 = .ok (.ireturn, 1) := by decide +kernel
theorem dX4_takes_0 : decode cX4_takes 0 = .ok (.aload_n 0, 1) := by decide +kernel
theorem dX4_takes_1 : decode cX4_takes 1 = .ok (.getfield 19, 3) := by decide +kernel
theorem dX4_takes_4 : decode cX4_takes 4 = .ok (.aload_n 0, 1) := by decide +kernel
theorem dX4_takes_5 : decode cX4_takes 5 = .ok (.getfield 15, 3) := by decide +kernel
theorem dX4_takes_8 : decode cX4_takes 8 = .ok (.if_icmp .ge 29, 3) := by decide +kernel
theorem dX4_takes_11 : decode cX4_takes 11 = .ok (.aload_n 0, 1) := by decide +kernel
theorem dX4_takes_12 : decode cX4_takes 12 = .ok (.getfield 9, 3) := by decide +kernel
theorem dX4_takes_15 : decode cX4_takes 15 = .ok (.aload_n 0, 1) := by decide +kernel
theorem dX4_takes_16 : decode cX4_takes 16 = .ok (.getfield 19, 3) := by decide +kernel
theorem dX4_takes_19 : decode cX4_takes 19 = .ok (.iaload, 1) := by decide +kernel
theorem dX4_takes_20 : decode cX4_takes 20 = .ok (.iload_n 1, 1) := by decide +kernel
theorem dX4_takes_21 : decode cX4_takes 21 = .ok (.if_icmp .lt 16, 3) := by decide +kernel
theorem dX4_takes_24 : decode cX4_takes 24 = .ok (.aload_n 0, 1) := by decide +kernel
theorem dX4_takes_25 : decode cX4_takes 25 = .ok (.getfield 9, 3) := by decide +kernel
theorem dX4_takes_28 : decode cX4_takes 28 = .ok (.aload_n 0, 1) := by decide +kernel
theorem dX4_takes_29 : decode cX4_takes 29 = .ok (.getfield 19, 3) := by decide +kernel
theorem dX4_takes_32 : decode cX4_takes 32 = .ok (.iaload, 1) := by decide +kernel
theorem dX4_takes_33 : decode cX4_takes 33 = .ok (.iload_n 2, 1) := by decide +kernel
theorem dX4_takes_34 : decode cX4_takes 34 = .ok (.if_icmp .le 5, 3) := by decide +kernel
theorem dX4_takes_37 : decode cX4_takes 37 = .ok (.iconst 0, 1) := by decide +kernel
theorem dX4_takes_38 : decode cX4_takes 38 = .ok (.ireturn, 1) := by decide +kernel
theorem dX4_takes_39 : decode cX4_takes 39 = .ok (.aload_n 0, 1) := by decide +kernel
theorem dX4_takes_40 : decode cX4_takes 40 = .ok (.aload_n 0, 1) := by decide +kernel
theorem dX4_takes_41 : decode cX4_takes 41 = .ok (.getfield 9, 3) := by decide +kernel
theorem dX4_takes_44 : decode cX4_takes 44 = .ok (.aload_n 0, 1) := by decide +kernel
theorem dX4_takes_45 : decode cX4_takes 45 = .ok (.getfield 19, 3) := by decide +kernel
theorem dX4_takes_48 : decode cX4_takes 48 = .ok (.iaload, 1) := by decide +kernel
theorem dX4_takes_49 : decode cX4_takes 49 = .ok (.putfield 22, 3) := by decide +kernel
theorem dX4_takes_52 : decode cX4_takes 52 = .ok (.aload_n 0, 1) := by decide +kernel
theorem dX4_takes_53 : decode cX4_takes 53 = .ok (.dup, 1) := by decide +kernel
theorem dX4_takes_54 : decode cX4_takes 54 = .ok (.getfield 19, 3) := by decide +kernel
theorem dX4_takes_57 : decode cX4_takes 57 = .ok (.iconst 1, 1) := by decide +kernel
theorem dX4_takes_58 : decode cX4_takes 58 = .ok (.iadd, 1) := by decide +kernel
theorem dX4_takes_59 : decode cX4_takes 59 = .ok (.putfield 19, 3) := by decide +kernel
theorem dX4_takes_62 : decode cX4_takes 62 = .ok (.iconst 1, 1) := by decide +kernel
theorem dX4_takes_63 : decode cX4_takes 63 = .ok (.ireturn, 1) := by decide +kernel
theorem dX4_takesPerson_0 : decode cX4_takesPerson 0 = .ok (.aload_n 0, 1) := by decide +kernel
theorem dX4_takesPerson_1 : decode cX4_takesPerson 1 = .ok (.bipush 48, 2) := by decide +kernel
theorem dX4_takesPerson_3 : decode cX4_takesPerson 3 = .ok (.bipush 57, 2) := by decide +kernel
theorem dX4_takesPerson_5 : decode cX4_takesPerson 5 = .ok (.invokevirtual 41, 3) := by decide +kernel
theorem dX4_takesPerson_8 : decode cX4_takesPerson 8 = .ok (.ifCond .ne 5, 3) := by decide +kernel
theorem dX4_takesPerson_11 : decode cX4_takesPerson 11 = .ok (.iconst 0, 1) := by decide +kernel
theorem dX4_takesPerson_12 : decode cX4_takesPerson 12 = .ok (.ireturn, 1) := by decide +kernel
theorem dX4_takesPerson_13 : decode cX4_takesPerson 13 = .ok (.aload_n 0, 1) := by decide +kernel
theorem dX4_takesPerson_14 : decode cX4_takesPerson 14 = .ok (.getfield 22, 3) := by decide +kernel
theorem dX4_takesPerson_17 : decode cX4_takesPerson 17 = .ok (.bipush 48, 2) := by decide +kernel
theorem dX4_takesPerson_19 : decode cX4_takesPerson 19 = .ok (.isub, 1) := by decide +kernel
theorem dX4_takesPerson_20 : decode cX4_takesPerson 20 = .ok (.istore_n 3, 1) := by decide +kernel
theorem dX4_takesPerson_21 : decode cX4_takesPerson 21 = .ok (.aload_n 0, 1) := by decide +kernel
theorem dX4_takesPerson_22 : decode cX4_takesPerson 22 = .ok (.bipush 48, 2) := by decide +kernel
theorem dX4_takesPerson_24 : decode cX4_takesPerson 24 = .ok (.bipush 57, 2) := by decide +kernel
theorem dX4_takesPerson_26 : decode cX4_takesPerson 26 = .ok (.invokevirtual 41, 3) := by decide +kernel
theorem dX4_takesPerson_29 : decode cX4_takesPerson 29 = .ok (.ifCond .ne 5, 3) := by decide +kernel
theorem dX4_takesPerson_32 : decode cX4_takesPerson 32 = .ok (.iconst 0, 1) := by decide +kernel
theorem dX4_takesPerson_33 : decode cX4_takesPerson 33 = .ok (.ireturn, 1) := by decide +kernel
theorem dX4_takesPerson_34 : decode cX4_takesPerson 34 = .ok (.aload_n 1, 1) := by decide +kernel
theorem dX4_takesPerson_35 : decode cX4_takesPerson 35 = .ok (.getfield 61, 3) := by decide +kernel
theorem dX4_takesPerson_38 : decode cX4_takesPerson 38 = .ok (.iload_n 2, 1) := by decide +kernel
theorem dX4_takesPerson_39 : decode cX4_takesPerson 39 = .ok (.bipush 10, 2) := by decide +kernel
theorem dX4_takesPerson_41 : decode cX4_takesPerson 41 = .ok (.iload_n 3, 1) := by decide +kernel
theorem dX4_takesPerson_42 : decode cX4_takesPerson 42 = .ok (.imul, 1) := by decide +kernel
theorem dX4_takesPerson_43 : decode cX4_takesPerson 43 = .ok (.aload_n 0, 1) := by decide +kernel
theorem dX4_takesPerson_44 : decode cX4_takesPerson 44 = .ok (.getfield 22, 3) := by decide +kernel
theorem dX4_takesPerson_47 : decode cX4_takesPerson 47 = .ok (.iadd, 1) := by decide +kernel
theorem dX4_takesPerson_48 : decode cX4_takesPerson 48 = .ok (.bipush 48, 2) := by decide +kernel
theorem dX4_takesPerson_50 : decode cX4_takesPerson 50 = .ok (.isub, 1) := by decide +kernel
theorem dX4_takesPerson_51 : decode cX4_takesPerson 51 = .ok (.iastore, 1) := by decide +kernel
theorem dX4_takesPerson_52 : decode cX4_takesPerson 52 = .ok (.aload_n 1, 1) := by decide +kernel
theorem dX4_takesPerson_53 : decode cX4_takesPerson 53 = .ok (.iload_n 2, 1) := by decide +kernel
theorem dX4_takesPerson_54 : decode cX4_takesPerson 54 = .ok (.iconst 1, 1) := by decide +kernel
theorem dX4_takesPerson_55 : decode cX4_takesPerson 55 = .ok (.iadd, 1) := by decide +kernel
theorem dX4_takesPerson_56 : decode cX4_takesPerson 56 = .ok (.putfield 52, 3) := by decide +kernel
theorem dX4_takesPerson_59 : decode cX4_takesPerson 59 = .ok (.iconst 1, 1) := by decide +kernel
theorem dX4_takesPerson_60 : decode cX4_takesPerson 60 = .ok (.ireturn, 1) := by decide +kernel
theorem dX4_takesMorning_0 : decode cX4_takesMorning 0 = .ok (.aload_n 0, 1) := by decide +kernel
theorem dX4_takesMorning_1 : decode cX4_takesMorning 1 = .ok (.bipush 99, 2) := by decide +kernel
theorem dX4_takesMorning_3 : decode cX4_takesMorning 3 = .ok (.bipush 99, 2) := by decide +kernel
theorem dX4_takesMorning_5 : decode cX4_takesMorning 5 = .ok (.invokevirtual 41, 3) := by decide +kernel
theorem dX4_takesMorning_8 : decode cX4_takesMorning 8 = .ok (.ifCond .ne 27, 3) := by decide +kernel
theorem dX4_takesMorning_11 : decode cX4_takesMorning 11 = .ok (.aload_n 0, 1) := by decide +kernel
theorem dX4_takesMorning_12 : decode cX4_takesMorning 12 = .ok (.bipush 102, 2) := by decide +kernel
theorem dX4_takesMorning_14 : decode cX4_takesMorning 14 = .ok (.bipush 102, 2) := by decide +kernel
theorem dX4_takesMorning_16 : decode cX4_takesMorning 16 = .ok (.invokevirtual 41, 3) := by decide +kernel
theorem dX4_takesMorning_19 : decode cX4_takesMorning 19 = .ok (.ifCond .ne 16, 3) := by decide +kernel
theorem dX4_takesMorning_22 : decode cX4_takesMorning 22 = .ok (.aload_n 0, 1) := by decide +kernel
theorem dX4_takesMorning_23 : decode cX4_takesMorning 23 = .ok (.bipush 112, 2) := by decide +kernel
theorem dX4_takesMorning_25 : decode cX4_takesMorning 25 = .ok (.bipush 112, 2) := by decide +kernel
theorem dX4_takesMorning_27 : decode cX4_takesMorning 27 = .ok (.invokevirtual 41, 3) := by decide +kernel
theorem dX4_takesMorning_30 : decode cX4_takesMorning 30 = .ok (.ifCond .ne 5, 3) := by decide +kernel
theorem dX4_takesMorning_33 : decode cX4_takesMorning 33 = .ok (.iconst 0, 1) := by decide +kernel
theorem dX4_takesMorning_34 : decode cX4_takesMorning 34 = .ok (.ireturn, 1) := by decide +kernel
theorem dX4_takesMorning_35 : decode cX4_takesMorning 35 = .ok (.aload_n 1, 1) := by decide +kernel
theorem dX4_takesMorning_36 : decode cX4_takesMorning 36 = .ok (.getfield 64, 3) := by decide +kernel
theorem dX4_takesMorning_39 : decode cX4_takesMorning 39 = .ok (.iload_n 2, 1) := by decide +kernel
theorem dX4_takesMorning_40 : decode cX4_takesMorning 40 = .ok (.aload_n 0, 1) := by decide +kernel
theorem dX4_takesMorning_41 : decode cX4_takesMorning 41 = .ok (.getfield 22, 3) := by decide +kernel
theorem dX4_takesMorning_44 : decode cX4_takesMorning 44 = .ok (.bipush 99, 2) := by decide +kernel
theorem dX4_takesMorning_46 : decode cX4_takesMorning 46 = .ok (.if_icmp .ne 7, 3) := by decide +kernel
theorem dX4_takesMorning_49 : decode cX4_takesMorning 49 = .ok (.iconst 0, 1) := by decide +kernel
theorem dX4_takesMorning_50 : decode cX4_takesMorning 50 = .ok (.goto 17, 3) := by decide +kernel
theorem dX4_takesMorning_53 : decode cX4_takesMorning 53 = .ok (.aload_n 0, 1) := by decide +kernel
theorem dX4_takesMorning_54 : decode cX4_takesMorning 54 = .ok (.getfield 22, 3) := by decide +kernel
theorem dX4_takesMorning_57 : decode cX4_takesMorning 57 = .ok (.bipush 102, 2) := by decide +kernel
theorem dX4_takesMorning_59 : decode cX4_takesMorning 59 = .ok (.if_icmp .ne 7, 3) := by decide +kernel
theorem dX4_takesMorning_62 : decode cX4_takesMorning 62 = .ok (.iconst 1, 1) := by decide +kernel
theorem dX4_takesMorning_63 : decode cX4_takesMorning 63 = .ok (.goto 4, 3) := by decide +kernel
theorem dX4_takesMorning_66 : decode cX4_takesMorning 66 = .ok (.iconst 2, 1) := by decide +kernel
theorem dX4_takesMorning_67 : decode cX4_takesMorning 67 = .ok (.iastore, 1) := by decide +kernel
theorem dX4_takesMorning_68 : decode cX4_takesMorning 68 = .ok (.aload_n 0, 1) := by decide +kernel
theorem dX4_takesMorning_69 : decode cX4_takesMorning 69 = .ok (.bipush 48, 2) := by decide +kernel
theorem dX4_takesMorning_71 : decode cX4_takesMorning 71 = .ok (.bipush 48, 2) := by decide +kernel
theorem dX4_takesMorning_73 : decode cX4_takesMorning 73 = .ok (.aload_n 1, 1) := by decide +kernel
theorem dX4_takesMorning_74 : decode cX4_takesMorning 74 = .ok (.getfield 52, 3) := by decide +kernel
theorem dX4_takesMorning_77 : decode cX4_takesMorning 77 = .ok (.iadd, 1) := by decide +kernel
theorem dX4_takesMorning_78 : decode cX4_takesMorning 78 = .ok (.iconst 1, 1) := by decide +kernel
theorem dX4_takesMorning_79 : decode cX4_takesMorning 79 = .ok (.isub, 1) := by decide +kernel
theorem dX4_takesMorning_80 : decode cX4_takesMorning 80 = .ok (.invokevirtual 41, 3) := by decide +kernel
theorem dX4_takesMorning_83 : decode cX4_takesMorning 83 = .ok (.ifCond .ne 5, 3) := by decide +kernel
theorem dX4_takesMorning_86 : decode cX4_takesMorning 86 = .ok (.iconst 0, 1) := by decide +kernel
theorem dX4_takesMorning_87 : decode cX4_takesMorning 87 = .ok (.ireturn, 1) := by decide +kernel
theorem dX4_takesMorning_88 : decode cX4_takesMorning 88 = .ok (.aload_n 1, 1) := by decide +kernel
theorem dX4_takesMorning_89 : decode cX4_takesMorning 89 = .ok (.getfield 67, 3) := by decide +kernel
theorem dX4_takesMorning_92 : decode cX4_takesMorning 92 = .ok (.iload_n 2, 1) := by decide +kernel
theorem dX4_takesMorning_93 : decode cX4_takesMorning 93 = .ok (.aload_n 0, 1) := by decide +kernel
theorem dX4_takesMorning_94 : decode cX4_takesMorning 94 = .ok (.getfield 22, 3) := by decide +kernel
theorem dX4_takesMorning_97 : decode cX4_takesMorning 97 = .ok (.bipush 48, 2) := by decide +kernel
theorem dX4_takesMorning_99 : decode cX4_takesMorning 99 = .ok (.isub, 1) := by decide +kernel
theorem dX4_takesMorning_100 : decode cX4_takesMorning 100 = .ok (.iastore, 1) := by decide +kernel
theorem dX4_takesMorning_101 : decode cX4_takesMorning 101 = .ok (.aload_n 0, 1) := by decide +kernel
theorem dX4_takesMorning_102 : decode cX4_takesMorning 102 = .ok (.bipush 48, 2) := by decide +kernel
theorem dX4_takesMorning_104 : decode cX4_takesMorning 104 = .ok (.bipush 57, 2) := by decide +kernel
theorem dX4_takesMorning_106 : decode cX4_takesMorning 106 = .ok (.invokevirtual 41, 3) := by decide +kernel
theorem dX4_takesMorning_109 : decode cX4_takesMorning 109 = .ok (.ifCond .ne 5, 3) := by decide +kernel
theorem dX4_takesMorning_112 : decode cX4_takesMorning 112 = .ok (.iconst 0, 1) := by decide +kernel
theorem dX4_takesMorning_113 : decode cX4_takesMorning 113 = .ok (.ireturn, 1) := by decide +kernel
theorem dX4_takesMorning_114 : decode cX4_takesMorning 114 = .ok (.aload_n 1, 1) := by decide +kernel
theorem dX4_takesMorning_115 : decode cX4_takesMorning 115 = .ok (.getfield 70, 3) := by decide +kernel
theorem dX4_takesMorning_118 : decode cX4_takesMorning 118 = .ok (.iload_n 2, 1) := by decide +kernel
theorem dX4_takesMorning_119 : decode cX4_takesMorning 119 = .ok (.aload_n 0, 1) := by decide +kernel
theorem dX4_takesMorning_120 : decode cX4_takesMorning 120 = .ok (.getfield 22, 3) := by decide +kernel
theorem dX4_takesMorning_123 : decode cX4_takesMorning 123 = .ok (.bipush 48, 2) := by decide +kernel
theorem dX4_takesMorning_125 : decode cX4_takesMorning 125 = .ok (.isub, 1) := by decide +kernel
theorem dX4_takesMorning_126 : decode cX4_takesMorning 126 = .ok (.iastore, 1) := by decide +kernel
theorem dX4_takesMorning_127 : decode cX4_takesMorning 127 = .ok (.aload_n 0, 1) := by decide +kernel
theorem dX4_takesMorning_128 : decode cX4_takesMorning 128 = .ok (.bipush 48, 2) := by decide +kernel
theorem dX4_takesMorning_130 : decode cX4_takesMorning 130 = .ok (.bipush 57, 2) := by decide +kernel
theorem dX4_takesMorning_132 : decode cX4_takesMorning 132 = .ok (.invokevirtual 41, 3) := by decide +kernel
theorem dX4_takesMorning_135 : decode cX4_takesMorning 135 = .ok (.ifCond .ne 5, 3) := by decide +kernel
theorem dX4_takesMorning_138 : decode cX4_takesMorning 138 = .ok (.iconst 0, 1) := by decide +kernel
theorem dX4_takesMorning_139 : decode cX4_takesMorning 139 = .ok (.ireturn, 1) := by decide +kernel
theorem dX4_takesMorning_140 : decode cX4_takesMorning 140 = .ok (.aload_n 1, 1) := by decide +kernel
theorem dX4_takesMorning_141 : decode cX4_takesMorning 141 = .ok (.getfield 73, 3) := by decide +kernel
theorem dX4_takesMorning_144 : decode cX4_takesMorning 144 = .ok (.iload_n 2, 1) := by decide +kernel
theorem dX4_takesMorning_145 : decode cX4_takesMorning 145 = .ok (.aload_n 0, 1) := by decide +kernel
theorem dX4_takesMorning_146 : decode cX4_takesMorning 146 = .ok (.getfield 22, 3) := by decide +kernel
theorem dX4_takesMorning_149 : decode cX4_takesMorning 149 = .ok (.bipush 48, 2) := by decide +kernel
theorem dX4_takesMorning_151 : decode cX4_takesMorning 151 = .ok (.isub, 1) := by decide +kernel
theorem dX4_takesMorning_152 : decode cX4_takesMorning 152 = .ok (.iastore, 1) := by decide +kernel
theorem dX4_takesMorning_153 : decode cX4_takesMorning 153 = .ok (.aload_n 1, 1) := by decide +kernel
theorem dX4_takesMorning_154 : decode cX4_takesMorning 154 = .ok (.iload_n 2, 1) := by decide +kernel
theorem dX4_takesMorning_155 : decode cX4_takesMorning 155 = .ok (.iconst 1, 1) := by decide +kernel
theorem dX4_takesMorning_156 : decode cX4_takesMorning 156 = .ok (.iadd, 1) := by decide +kernel
theorem dX4_takesMorning_157 : decode cX4_takesMorning 157 = .ok (.putfield 58, 3) := by decide +kernel
theorem dX4_takesMorning_160 : decode cX4_takesMorning 160 = .ok (.iconst 1, 1) := by decide +kernel
theorem dX4_takesMorning_161 : decode cX4_takesMorning 161 = .ok (.ireturn, 1) := by decide +kernel
theorem dJ6_bitCount_0f7a4_0 : decode cJ6_bitCount_0f7a4 0 = .ok (.iload_n 0, 1) := by decide +kernel
theorem dJ6_bitCount_0f7a4_1 : decode cJ6_bitCount_0f7a4 1 = .ok (.iload_n 0, 1) := by decide +kernel
theorem dJ6_bitCount_0f7a4_2 : decode cJ6_bitCount_0f7a4 2 = .ok (.iconst 1, 1) := by decide +kernel
theorem dJ6_bitCount_0f7a4_3 : decode cJ6_bitCount_0f7a4 3 = .ok (.iushr, 1) := by decide +kernel
theorem dJ6_bitCount_0f7a4_4 : decode cJ6_bitCount_0f7a4 4 = .ok (.ldc_w 265, 3) := by decide +kernel
theorem dJ6_bitCount_0f7a4_7 : decode cJ6_bitCount_0f7a4 7 = .ok (.iand, 1) := by decide +kernel
theorem dJ6_bitCount_0f7a4_8 : decode cJ6_bitCount_0f7a4 8 = .ok (.isub, 1) := by decide +kernel
theorem dJ6_bitCount_0f7a4_9 : decode cJ6_bitCount_0f7a4 9 = .ok (.istore_n 0, 1) := by decide +kernel
theorem dJ6_bitCount_0f7a4_10 : decode cJ6_bitCount_0f7a4 10 = .ok (.iload_n 0, 1) := by decide +kernel
theorem dJ6_bitCount_0f7a4_11 : decode cJ6_bitCount_0f7a4 11 = .ok (.ldc_w 266, 3) := by decide +kernel
theorem dJ6_bitCount_0f7a4_14 : decode cJ6_bitCount_0f7a4 14 = .ok (.iand, 1) := by decide +kernel
theorem dJ6_bitCount_0f7a4_15 : decode cJ6_bitCount_0f7a4 15 = .ok (.iload_n 0, 1) := by decide +kernel
theorem dJ6_bitCount_0f7a4_16 : decode cJ6_bitCount_0f7a4 16 = .ok (.iconst 2, 1) := by decide +kernel
theorem dJ6_bitCount_0f7a4_17 : decode cJ6_bitCount_0f7a4 17 = .ok (.iushr, 1) := by decide +kernel
theorem dJ6_bitCount_0f7a4_18 : decode cJ6_bitCount_0f7a4 18 = .ok (.ldc_w 266, 3) := by decide +kernel
theorem dJ6_bitCount_0f7a4_21 : decode cJ6_bitCount_0f7a4 21 = .ok (.iand, 1) := by decide +kernel
theorem dJ6_bitCount_0f7a4_22 : decode cJ6_bitCount_0f7a4 22 = .ok (.iadd, 1) := by decide +kernel
theorem dJ6_bitCount_0f7a4_23 : decode cJ6_bitCount_0f7a4 23 = .ok (.istore_n 0, 1) := by decide +kernel
theorem dJ6_bitCount_0f7a4_24 : decode cJ6_bitCount_0f7a4 24 = .ok (.iload_n 0, 1) := by decide +kernel
theorem dJ6_bitCount_0f7a4_25 : decode cJ6_bitCount_0f7a4 25 = .ok (.iload_n 0, 1) := by decide +kernel
theorem dJ6_bitCount_0f7a4_26 : decode cJ6_bitCount_0f7a4 26 = .ok (.iconst 4, 1) := by decide +kernel
theorem dJ6_bitCount_0f7a4_27 : decode cJ6_bitCount_0f7a4 27 = .ok (.iushr, 1) := by decide +kernel
theorem dJ6_bitCount_0f7a4_28 : decode cJ6_bitCount_0f7a4 28 = .ok (.iadd, 1) := by decide +kernel
theorem dJ6_bitCount_0f7a4_29 : decode cJ6_bitCount_0f7a4 29 = .ok (.ldc_w 267, 3) := by decide +kernel
theorem dJ6_bitCount_0f7a4_32 : decode cJ6_bitCount_0f7a4 32 = .ok (.iand, 1) := by decide +kernel
theorem dJ6_bitCount_0f7a4_33 : decode cJ6_bitCount_0f7a4 33 = .ok (.istore_n 0, 1) := by decide +kernel
theorem dJ6_bitCount_0f7a4_34 : decode cJ6_bitCount_0f7a4 34 = .ok (.iload_n 0, 1) := by decide +kernel
theorem dJ6_bitCount_0f7a4_35 : decode cJ6_bitCount_0f7a4 35 = .ok (.iload_n 0, 1) := by decide +kernel
theorem dJ6_bitCount_0f7a4_36 : decode cJ6_bitCount_0f7a4 36 = .ok (.bipush 8, 2) := by decide +kernel
theorem dJ6_bitCount_0f7a4_38 : decode cJ6_bitCount_0f7a4 38 = .ok (.iushr, 1) := by decide +kernel
theorem dJ6_bitCount_0f7a4_39 : decode cJ6_bitCount_0f7a4 39 = .ok (.iadd, 1) := by decide +kernel
theorem dJ6_bitCount_0f7a4_40 : decode cJ6_bitCount_0f7a4 40 = .ok (.istore_n 0, 1) := by decide +kernel
theorem dJ6_bitCount_0f7a4_41 : decode cJ6_bitCount_0f7a4 41 = .ok (.iload_n 0, 1) := by decide +kernel
theorem dJ6_bitCount_0f7a4_42 : decode cJ6_bitCount_0f7a4 42 = .ok (.iload_n 0, 1) := by decide +kernel
theorem dJ6_bitCount_0f7a4_43 : decode cJ6_bitCount_0f7a4 43 = .ok (.bipush 16, 2) := by decide +kernel
theorem dJ6_bitCount_0f7a4_45 : decode cJ6_bitCount_0f7a4 45 = .ok (.iushr, 1) := by decide +kernel
theorem dJ6_bitCount_0f7a4_46 : decode cJ6_bitCount_0f7a4 46 = .ok (.iadd, 1) := by decide +kernel
theorem dJ6_bitCount_0f7a4_47 : decode cJ6_bitCount_0f7a4 47 = .ok (.istore_n 0, 1) := by decide +kernel
theorem dJ6_bitCount_0f7a4_48 : decode cJ6_bitCount_0f7a4 48 = .ok (.iload_n 0, 1) := by decide +kernel
theorem dJ6_bitCount_0f7a4_49 : decode cJ6_bitCount_0f7a4 49 = .ok (.bipush 63, 2) := by decide +kernel
theorem dJ6_bitCount_0f7a4_51 : decode cJ6_bitCount_0f7a4 51 = .ok (.iand, 1) := by decide +kernel
theorem dJ6_bitCount_0f7a4_52 : decode cJ6_bitCount_0f7a4 52 = .ok (.ireturn, 1) := by decide +kernel
theorem dJ7_fill_53178_0 : decode cJ7_fill_53178 0 = .ok (.iconst 0, 1) := by decide +kernel
theorem dJ7_fill_53178_1 : decode cJ7_fill_53178 1 = .ok (.istore_n 2, 1) := by decide +kernel
theorem dJ7_fill_53178_2 : decode cJ7_fill_53178 2 = .ok (.aload_n 0, 1) := by decide +kernel
theorem dJ7_fill_53178_3 : decode cJ7_fill_53178 3 = .ok (.arraylength, 1) := by decide +kernel
theorem dJ7_fill_53178_4 : decode cJ7_fill_53178 4 = .ok (.istore_n 3, 1) := by decide +kernel
theorem dJ7_fill_53178_5 : decode cJ7_fill_53178 5 = .ok (.iload_n 2, 1) := by decide +kernel
theorem dJ7_fill_53178_6 : decode cJ7_fill_53178 6 = .ok (.iload_n 3, 1) := by decide +kernel
theorem dJ7_fill_53178_7 : decode cJ7_fill_53178 7 = .ok (.if_icmp .ge 13, 3) := by decide +kernel
theorem dJ7_fill_53178_10 : decode cJ7_fill_53178 10 = .ok (.aload_n 0, 1) := by decide +kernel
theorem dJ7_fill_53178_11 : decode cJ7_fill_53178 11 = .ok (.iload_n 2, 1) := by decide +kernel
theorem dJ7_fill_53178_12 : decode cJ7_fill_53178 12 = .ok (.iload_n 1, 1) := by decide +kernel
theorem dJ7_fill_53178_13 : decode cJ7_fill_53178 13 = .ok (.iastore, 1) := by decide +kernel
theorem dJ7_fill_53178_14 : decode cJ7_fill_53178 14 = .ok (.iinc 2 1, 3) := by decide +kernel
theorem dJ7_fill_53178_17 : decode cJ7_fill_53178 17 = .ok (.goto (-12), 3) := by decide +kernel
theorem dJ7_fill_53178_20 : decode cJ7_fill_53178 20 = .ok (.return_, 1) := by decide +kernel
end
section
theorem dX5_init_0 : decode cX5_init 0 = .ok (.aload_n 0, 1) := by decide +kernel
theorem dX5_init_1 : decode cX5_init 1 = .ok (.invokespecial 3, 3) := by decide +kernel
theorem dX5_init_4 : decode cX5_init 4 = .ok (.aload_n 0, 1) := by decide +kernel
theorem dX5_init_5 : decode cX5_init 5 = .ok (.iconst 4, 1) := by decide +kernel
theorem dX5_init_6 : decode cX5_init 6 = .ok (.anewarray 11, 3) := by decide +kernel
theorem dX5_init_9 : decode cX5_init 9 = .ok (.putfield 13, 3) := by decide +kernel
theorem dX5_init_12 : decode cX5_init 12 = .ok (.aload_n 0, 1) := by decide +kernel
theorem dX5_init_13 : decode cX5_init 13 = .ok (.new 17, 3) := by decide +kernel
theorem dX5_init_16 : decode cX5_init 16 = .ok (.dup, 1) := by decide +kernel
theorem dX5_init_17 : decode cX5_init 17 = .ok (.invokespecial 19, 3) := by decide +kernel
theorem dX5_init_20 : decode cX5_init 20 = .ok (.putfield 20, 3) := by decide +kernel
theorem dX5_init_23 : decode cX5_init 23 = .ok (.aload_n 0, 1) := by decide +kernel
theorem dX5_init_24 : decode cX5_init 24 = .ok (.new 17, 3) := by decide +kernel
theorem dX5_init_27 : decode cX5_init 27 = .ok (.dup, 1) := by decide +kernel
theorem dX5_init_28 : decode cX5_init 28 = .ok (.invokespecial 19, 3) := by decide +kernel
theorem dX5_init_31 : decode cX5_init 31 = .ok (.putfield 24, 3) := by decide +kernel
theorem dX5_init_34 : decode cX5_init 34 = .ok (.aload_n 0, 1) := by decide +kernel
theorem dX5_init_35 : decode cX5_init 35 = .ok (.new 27, 3) := by decide +kernel
theorem dX5_init_38 : decode cX5_init 38 = .ok (.dup, 1) := by decide +kernel
theorem dX5_init_39 : decode cX5_init 39 = .ok (.invokespecial 29, 3) := by decide +kernel
theorem dX5_init_42 : decode cX5_init 42 = .ok (.putfield 30, 3) := by decide +kernel
theorem dX5_init_45 : decode cX5_init 45 = .ok (.aload_n 0, 1) := by decide +kernel
theorem dX5_init_46 : decode cX5_init 46 = .ok (.new 34, 3) := by decide +kernel
theorem dX5_init_49 : decode cX5_init 49 = .ok (.dup, 1) := by decide +kernel
theorem dX5_init_50 : decode cX5_init 50 = .ok (.invokespecial 36, 3) := by decide +kernel
theorem dX5_init_53 : decode cX5_init 53 = .ok (.putfield 37, 3) := by decide +kernel
theorem dX5_init_56 : decode cX5_init 56 = .ok (.aload_n 0, 1) := by decide +kernel
theorem dX5_init_57 : decode cX5_init 57 = .ok (.new 41, 3) := by decide +kernel
theorem dX5_init_60 : decode cX5_init 60 = .ok (.dup, 1) := by decide +kernel
theorem dX5_init_61 : decode cX5_init 61 = .ok (.invokespecial 43, 3) := by decide +kernel
theorem dX5_init_64 : decode cX5_init 64 = .ok (.putfield 44, 3) := by decide +kernel
theorem dX5_init_67 : decode cX5_init 67 = .ok (.aload_n 0, 1) := by decide +kernel
theorem dX5_init_68 : decode cX5_init 68 = .ok (.iconst 0, 1) := by decide +kernel
theorem dX5_init_69 : decode cX5_init 69 = .ok (.putfield 48, 3) := by decide +kernel
theorem dX5_init_72 : decode cX5_init 72 = .ok (.aload_n 0, 1) := by decide +kernel
theorem dX5_init_73 : decode cX5_init 73 = .ok (.iconst 0, 1) := by decide +kernel
theorem dX5_init_74 : decode cX5_init 74 = .ok (.putfield 52, 3) := by decide +kernel
theorem dX5_init_77 : decode cX5_init 77 = .ok (.iconst 0, 1) := by decide +kernel
theorem dX5_init_78 : decode cX5_init 78 = .ok (.istore_n 1, 1) := by decide +kernel
theorem dX5_init_79 : decode cX5_init 79 = .ok (.iload_n 1, 1) := by decide +kernel
theorem dX5_init_80 : decode cX5_init 80 = .ok (.aload_n 0, 1) := by decide +kernel
theorem dX5_init_81 : decode cX5_init 81 = .ok (.getfield 13, 3) := by decide +kernel
theorem dX5_init_84 : decode cX5_init 84 = .ok (.arraylength, 1) := by decide +kernel
theorem dX5_init_85 : decode cX5_init 85 = .ok (.if_icmp .ge 22, 3) := by decide +kernel
theorem dX5_init_88 : decode cX5_init 88 = .ok (.aload_n 0, 1) := by decide +kernel
theorem dX5_init_89 : decode cX5_init 89 = .ok (.getfield 13, 3) := by decide +kernel
theorem dX5_init_92 : decode cX5_init 92 = .ok (.iload_n 1, 1) := by decide +kernel
theorem dX5_init_93 : decode cX5_init 93 = .ok (.new 11, 3) := by decide +kernel
theorem dX5_init_96 : decode cX5_init 96 = .ok (.dup, 1) := by decide +kernel
theorem dX5_init_97 : decode cX5_init 97 = .ok (.invokespecial 55, 3) := by decide +kernel
theorem dX5_init_100 : decode cX5_init 100 = .ok (.aastore, 1) := by decide +kernel
theorem dX5_init_101 : decode cX5_init 101 = .ok (.iinc 1 1, 3) := by decide +kernel
theorem dX5_init_104 : decode cX5_init 104 = .ok (.goto (-25), 3) := by decide +kernel
theorem dX5_init_107 : decode cX5_init 107 = .ok (.return_, 1) := by decide +kernel
theorem dX5_market_0 : decode cX5_market 0 = .ok (.aload_n 0, 1) := by decide +kernel
theorem dX5_market_1 : decode cX5_market 1 = .ok (.iconst 0, 1) := by decide +kernel
theorem dX5_market_2 : decode cX5_market 2 = .ok (.putfield 52, 3) := by decide +kernel
theorem dX5_market_5 : decode cX5_market 5 = .ok (.aload_n 0, 1) := by decide +kernel
theorem dX5_market_6 : decode cX5_market 6 = .ok (.iload_n 1, 1) := by decide +kernel
theorem dX5_market_7 : decode cX5_market 7 = .ok (.invokevirtual 56, 3) := by decide +kernel
theorem dX5_market_10 : decode cX5_market 10 = .ok (.astore 5, 2) := by decide +kernel
theorem dX5_market_12 : decode cX5_market 12 = .ok (.aload 5, 2) := by decide +kernel
theorem dX5_market_14 : decode cX5_market 14 = .ok (.ifnonnull 5, 3) := by decide +kernel
theorem dX5_market_17 : decode cX5_market 17 = .ok (.iconst (-1), 1) := by decide +kernel
theorem dX5_market_18 : decode cX5_market 18 = .ok (.ireturn, 1) := by decide +kernel
theorem dX5_market_19 : decode cX5_market 19 = .ok (.iload_n 2, 1) := by decide +kernel
theorem dX5_market_20 : decode cX5_market 20 = .ok (.invokestatic 60, 3) := by decide +kernel
theorem dX5_market_23 : decode cX5_market 23 = .ok (.ifCond .ne 6, 3) := by decide +kernel
theorem dX5_market_26 : decode cX5_market 26 = .ok (.bipush (-2), 2) := by decide +kernel
theorem dX5_market_28 : decode cX5_market 28 = .ok (.ireturn, 1) := by decide +kernel
theorem dX5_market_29 : decode cX5_market 29 = .ok (.aload 5, 2) := by decide +kernel
theorem dX5_market_31 : decode cX5_market 31 = .ok (.iload_n 2, 1) := by decide +kernel
theorem dX5_market_32 : decode cX5_market 32 = .ok (.invokevirtual 64, 3) := by decide +kernel
theorem dX5_market_35 : decode cX5_market 35 = .ok (.ifCond .eq 9, 3) := by decide +kernel
theorem dX5_market_38 : decode cX5_market 38 = .ok (.aload_n 0, 1) := by decide +kernel
theorem dX5_market_39 : decode cX5_market 39 = .ok (.iconst 2, 1) := by decide +kernel
theorem dX5_market_40 : decode cX5_market 40 = .ok (.invokevirtual 67, 3) := by decide +kernel
theorem dX5_market_43 : decode cX5_market 43 = .ok (.ireturn, 1) := by decide +kernel
theorem dX5_market_44 : decode cX5_market 44 = .ok (.aload 5, 2) := by decide +kernel
theorem dX5_market_46 : decode cX5_market 46 = .ok (.invokevirtual 71, 3) := by decide +kernel
theorem dX5_market_49 : decode cX5_market 49 = .ok (.ifCond .ne 9, 3) := by decide +kernel
theorem dX5_market_52 : decode cX5_market 52 = .ok (.aload_n 0, 1) := by decide +kernel
theorem dX5_market_53 : decode cX5_market 53 = .ok (.iconst 1, 1) := by decide +kernel
theorem dX5_market_54 : decode cX5_market 54 = .ok (.invokevirtual 67, 3) := by decide +kernel
theorem dX5_market_57 : decode cX5_market 57 = .ok (.ireturn, 1) := by decide +kernel
theorem dX5_market_58 : decode cX5_market 58 = .ok (.iload 4, 2) := by decide +kernel
theorem dX5_market_60 : decode cX5_market 60 = .ok (.ifCond .ge 9, 3) := by decide +kernel
theorem dX5_market_63 : decode cX5_market 63 = .ok (.aload_n 0, 1) := by decide +kernel
theorem dX5_market_64 : decode cX5_market 64 = .ok (.iconst 4, 1) := by decide +kernel
theorem dX5_market_65 : decode cX5_market 65 = .ok (.invokevirtual 67, 3) := by decide +kernel
theorem dX5_market_68 : decode cX5_market 68 = .ok (.ireturn, 1) := by decide +kernel
theorem dX5_market_69 : decode cX5_market 69 = .ok (.aload 5, 2) := by decide +kernel
theorem dX5_market_71 : decode cX5_market 71 = .ok (.iload_n 3, 1) := by decide +kernel
theorem dX5_market_72 : decode cX5_market 72 = .ok (.iload 4, 2) := by decide +kernel
theorem dX5_market_74 : decode cX5_market 74 = .ok (.invokevirtual 75, 3) := by decide +kernel
theorem dX5_market_77 : decode cX5_market 77 = .ok (.ifCond .ne 9, 3) := by decide +kernel
theorem dX5_market_80 : decode cX5_market 80 = .ok (.aload_n 0, 1) := by decide +kernel
theorem dX5_market_81 : decode cX5_market 81 = .ok (.iconst 3, 1) := by decide +kernel
theorem dX5_market_82 : decode cX5_market 82 = .ok (.invokevirtual 67, 3) := by decide +kernel
theorem dX5_market_85 : decode cX5_market 85 = .ok (.ireturn, 1) := by decide +kernel
theorem dX5_market_86 : decode cX5_market 86 = .ok (.aload_n 0, 1) := by decide +kernel
theorem dX5_market_87 : decode cX5_market 87 = .ok (.getfield 30, 3) := by decide +kernel
theorem dX5_market_90 : decode cX5_market 90 = .ok (.aload 5, 2) := by decide +kernel
theorem dX5_market_92 : decode cX5_market 92 = .ok (.iload_n 3, 1) := by decide +kernel
theorem dX5_market_93 : decode cX5_market 93 = .ok (.iload 4, 2) := by decide +kernel
theorem dX5_market_95 : decode cX5_market 95 = .ok (.aload_n 0, 1) := by decide +kernel
theorem dX5_market_96 : decode cX5_market 96 = .ok (.getfield 24, 3) := by decide +kernel
theorem dX5_market_99 : decode cX5_market 99 = .ok (.invokevirtual 79, 3) := by decide +kernel
theorem dX5_market_102 : decode cX5_market 102 = .ok (.istore 6, 2) := by decide +kernel
theorem dX5_market_104 : decode cX5_market 104 = .ok (.iload 6, 2) := by decide +kernel
theorem dX5_market_106 : decode cX5_market 106 = .ok (.bipush (-9), 2) := by decide +kernel
theorem dX5_market_108 : decode cX5_market 108 = .ok (.if_icmp .eq 9, 3) := by decide +kernel
theorem dX5_market_111 : decode cX5_market 111 = .ok (.bipush (-100), 2) := by decide +kernel
theorem dX5_market_113 : decode cX5_market 113 = .ok (.iload 6, 2) := by decide +kernel
theorem dX5_market_115 : decode cX5_market 115 = .ok (.isub, 1) := by decide +kernel
theorem dX5_market_116 : decode cX5_market 116 = .ok (.ireturn, 1) := by decide +kernel
theorem dX5_market_117 : decode cX5_market 117 = .ok (.aload_n 0, 1) := by decide +kernel
theorem dX5_market_118 : decode cX5_market 118 = .ok (.getfield 20, 3) := by decide +kernel
theorem dX5_market_121 : decode cX5_market 121 = .ok (.aload_n 0, 1) := by decide +kernel
theorem dX5_market_122 : decode cX5_market 122 = .ok (.getfield 24, 3) := by decide +kernel
theorem dX5_market_125 : decode cX5_market 125 = .ok (.invokevirtual 83, 3) := by decide +kernel
theorem dX5_market_128 : decode cX5_market 128 = .ok (.aload_n 0, 1) := by decide +kernel
theorem dX5_market_129 : decode cX5_market 129 = .ok (.getfield 44, 3) := by decide +kernel
theorem dX5_market_132 : decode cX5_market 132 = .ok (.iconst 0, 1) := by decide +kernel
theorem dX5_market_133 : decode cX5_market 133 = .ok (.putfield 87, 3) := by decide +kernel
theorem dX5_market_136 : decode cX5_market 136 = .ok (.aload_n 0, 1) := by decide +kernel
theorem dX5_market_137 : decode cX5_market 137 = .ok (.getfield 20, 3) := by decide +kernel
theorem dX5_market_140 : decode cX5_market 140 = .ok (.getfield 90, 3) := by decide +kernel
theorem dX5_market_143 : decode cX5_market 143 = .ok (.ireturn, 1) := by decide +kernel
theorem dX5_ofMorning_0 : decode cX5_ofMorning 0 = .ok (.aload_n 0, 1) := by decide +kernel
theorem dX5_ofMorning_1 : decode cX5_ofMorning 1 = .ok (.getfield 20, 3) := by decide +kernel
theorem dX5_ofMorning_4 : decode cX5_ofMorning 4 = .ok (.iload_n 1, 1) := by decide +kernel
theorem dX5_ofMorning_5 : decode cX5_ofMorning 5 = .ok (.invokevirtual 93, 3) := by decide +kernel
theorem dX5_ofMorning_8 : decode cX5_ofMorning 8 = .ok (.ifCond .ne 5, 3) := by decide +kernel
theorem dX5_ofMorning_11 : decode cX5_ofMorning 11 = .ok (.iconst (-1), 1) := by decide +kernel
theorem dX5_ofMorning_12 : decode cX5_ofMorning 12 = .ok (.ireturn, 1) := by decide +kernel
theorem dX5_ofMorning_13 : decode cX5_ofMorning 13 = .ok (.iload_n 2, 1) := by decide +kernel
theorem dX5_ofMorning_14 : decode cX5_ofMorning 14 = .ok (.tableswitch 91 0 4 #[34, 44, 54, 64, 74], 34) := by decide +kernel
theorem dX5_ofMorning_48 : decode cX5_ofMorning 48 = .ok (.aload_n 0, 1) := by decide +kernel
theorem dX5_ofMorning_49 : decode cX5_ofMorning 49 = .ok (.getfield 20, 3) := by decide +kernel
theorem dX5_ofMorning_52 : decode cX5_ofMorning 52 = .ok (.getfield 96, 3) := by decide +kernel
theorem dX5_ofMorning_55 : decode cX5_ofMorning 55 = .ok (.iload_n 1, 1) := by decide +kernel
theorem dX5_ofMorning_56 : decode cX5_ofMorning 56 = .ok (.iaload, 1) := by decide +kernel
theorem dX5_ofMorning_57 : decode cX5_ofMorning 57 = .ok (.ireturn, 1) := by decide +kernel
theorem dX5_ofMorning_58 : decode cX5_ofMorning 58 = .ok (.aload_n 0, 1) := by decide +kernel
theorem dX5_ofMorning_59 : decode cX5_ofMorning 59 = .ok (.getfield 20, 3) := by decide +kernel
theorem dX5_ofMorning_62 : decode cX5_ofMorning 62 = .ok (.getfield 100, 3) := by decide +kernel
theorem dX5_ofMorning_65 : decode cX5_ofMorning 65 = .ok (.iload_n 1, 1) := by decide +kernel
theorem dX5_ofMorning_66 : decode cX5_ofMorning 66 = .ok (.iaload, 1) := by decide +kernel
theorem dX5_ofMorning_67 : decode cX5_ofMorning 67 = .ok (.ireturn, 1) := by decide +kernel
theorem dX5_ofMorning_68 : decode cX5_ofMorning 68 = .ok (.aload_n 0, 1) := by decide +kernel
theorem dX5_ofMorning_69 : decode cX5_ofMorning 69 = .ok (.getfield 20, 3) := by decide +kernel
theorem dX5_ofMorning_72 : decode cX5_ofMorning 72 = .ok (.getfield 103, 3) := by decide +kernel
theorem dX5_ofMorning_75 : decode cX5_ofMorning 75 = .ok (.iload_n 1, 1) := by decide +kernel
theorem dX5_ofMorning_76 : decode cX5_ofMorning 76 = .ok (.iaload, 1) := by decide +kernel
theorem dX5_ofMorning_77 : decode cX5_ofMorning 77 = .ok (.ireturn, 1) := by decide +kernel
theorem dX5_ofMorning_78 : decode cX5_ofMorning 78 = .ok (.aload_n 0, 1) := by decide +kernel
theorem dX5_ofMorning_79 : decode cX5_ofMorning 79 = .ok (.getfield 20, 3) := by decide +kernel
theorem dX5_ofMorning_82 : decode cX5_ofMorning 82 = .ok (.getfield 106, 3) := by decide +kernel
theorem dX5_ofMorning_85 : decode cX5_ofMorning 85 = .ok (.iload_n 1, 1) := by decide +kernel
theorem dX5_ofMorning_86 : decode cX5_ofMorning 86 = .ok (.iaload, 1) := by decide +kernel
theorem dX5_ofMorning_87 : decode cX5_ofMorning 87 = .ok (.ireturn, 1) := by decide +kernel
theorem dX5_ofMorning_88 : decode cX5_ofMorning 88 = .ok (.aload_n 0, 1) := by decide +kernel
theorem dX5_ofMorning_89 : decode cX5_ofMorning 89 = .ok (.getfield 20, 3) := by decide +kernel
theorem dX5_ofMorning_92 : decode cX5_ofMorning 92 = .ok (.iload_n 1, 1) := by decide +kernel
theorem dX5_ofMorning_93 : decode cX5_ofMorning 93 = .ok (.invokevirtual 109, 3) := by decide +kernel
theorem dX5_ofMorning_96 : decode cX5_ofMorning 96 = .ok (.ifCond .eq 7, 3) := by decide +kernel
theorem dX5_ofMorning_99 : decode cX5_ofMorning 99 = .ok (.iconst 1, 1) := by decide +kernel
theorem dX5_ofMorning_100 : decode cX5_ofMorning 100 = .ok (.goto 4, 3) := by decide +kernel
theorem dX5_ofMorning_103 : decode cX5_ofMorning 103 = .ok (.iconst 0, 1) := by decide +kernel
theorem dX5_ofMorning_104 : decode cX5_ofMorning 104 = .ok (.ireturn, 1) := by decide +kernel
theorem dX5_ofMorning_105 : decode cX5_ofMorning 105 = .ok (.bipush (-2), 2) := by decide +kernel
theorem dX5_ofMorning_107 : decode cX5_ofMorning 107 = .ok (.ireturn, 1) := by decide +kernel
theorem dX5_ofPerson_0 : decode cX5_ofPerson 0 = .ok (.aload_n 0, 1) := by decide +kernel
theorem dX5_ofPerson_1 : decode cX5_ofPerson 1 = .ok (.getfield 20, 3) := by decide +kernel
theorem dX5_ofPerson_4 : decode cX5_ofPerson 4 = .ok (.iload_n 1, 1) := by decide +kernel
theorem dX5_ofPerson_5 : decode cX5_ofPerson 5 = .ok (.invokevirtual 112, 3) := by decide +kernel
theorem dX5_ofPerson_8 : decode cX5_ofPerson 8 = .ok (.ifCond .ne 5, 3) := by decide +kernel
theorem dX5_ofPerson_11 : decode cX5_ofPerson 11 = .ok (.iconst (-1), 1) := by decide +kernel
theorem dX5_ofPerson_12 : decode cX5_ofPerson 12 = .ok (.ireturn, 1) := by decide +kernel
theorem dX5_ofPerson_13 : decode cX5_ofPerson 13 = .ok (.iload_n 2, 1) := by decide +kernel
theorem dX5_ofPerson_14 : decode cX5_ofPerson 14 = .ok (.tableswitch 79 0 3 #[30, 40, 50, 62], 30) := by decide +kernel
theorem dX5_ofPerson_44 : decode cX5_ofPerson 44 = .ok (.aload_n 0, 1) := by decide +kernel
theorem dX5_ofPerson_45 : decode cX5_ofPerson 45 = .ok (.getfield 20, 3) := by decide +kernel
theorem dX5_ofPerson_48 : decode cX5_ofPerson 48 = .ok (.getfield 115, 3) := by decide +kernel
theorem dX5_ofPerson_51 : decode cX5_ofPerson 51 = .ok (.iload_n 1, 1) := by decide +kernel
theorem dX5_ofPerson_52 : decode cX5_ofPerson 52 = .ok (.iaload, 1) := by decide +kernel
theorem dX5_ofPerson_53 : decode cX5_ofPerson 53 = .ok (.ireturn, 1) := by decide +kernel
theorem dX5_ofPerson_54 : decode cX5_ofPerson 54 = .ok (.aload_n 0, 1) := by decide +kernel
theorem dX5_ofPerson_55 : decode cX5_ofPerson 55 = .ok (.getfield 20, 3) := by decide +kernel
theorem dX5_ofPerson_58 : decode cX5_ofPerson 58 = .ok (.getfield 118, 3) := by decide +kernel
theorem dX5_ofPerson_61 : decode cX5_ofPerson 61 = .ok (.iload_n 1, 1) := by decide +kernel
theorem dX5_ofPerson_62 : decode cX5_ofPerson 62 = .ok (.iaload, 1) := by decide +kernel
theorem dX5_ofPerson_63 : decode cX5_ofPerson 63 = .ok (.ireturn, 1) := by decide +kernel
theorem dX5_ofPerson_64 : decode cX5_ofPerson 64 = .ok (.aload_n 0, 1) := by decide +kernel
theorem dX5_ofPerson_65 : decode cX5_ofPerson 65 = .ok (.getfield 20, 3) := by decide +kernel
theorem dX5_ofPerson_68 : decode cX5_ofPerson 68 = .ok (.iload_n 1, 1) := by decide +kernel
theorem dX5_ofPerson_69 : decode cX5_ofPerson 69 = .ok (.invokevirtual 121, 3) := by decide +kernel
theorem dX5_ofPerson_72 : decode cX5_ofPerson 72 = .ok (.invokestatic 124, 3) := by decide +kernel
theorem dX5_ofPerson_75 : decode cX5_ofPerson 75 = .ok (.ireturn, 1) := by decide +kernel
theorem dX5_ofPerson_76 : decode cX5_ofPerson 76 = .ok (.aload_n 0, 1) := by decide +kernel
theorem dX5_ofPerson_77 : decode cX5_ofPerson 77 = .ok (.getfield 20, 3) := by decide +kernel
theorem dX5_ofPerson_80 : decode cX5_ofPerson 80 = .ok (.iload_n 1, 1) := by decide +kernel
theorem dX5_ofPerson_81 : decode cX5_ofPerson 81 = .ok (.invokevirtual 129, 3) := by decide +kernel
theorem dX5_ofPerson_84 : decode cX5_ofPerson 84 = .ok (.ifCond .eq 7, 3) := by decide +kernel
theorem dX5_ofPerson_87 : decode cX5_ofPerson 87 = .ok (.iconst 1, 1) := by decide +kernel
theorem dX5_ofPerson_88 : decode cX5_ofPerson 88 = .ok (.goto 4, 3) := by decide +kernel
theorem dX5_ofPerson_91 : decode cX5_ofPerson 91 = .ok (.iconst 0, 1) := by decide +kernel
theorem dX5_ofPerson_92 : decode cX5_ofPerson 92 = .ok (.ireturn, 1) := by decide +kernel
theorem dX5_ofPerson_93 : decode cX5_ofPerson 93 = .ok (.bipush (-2), 2) := by decide +kernel
theorem dX5_ofPerson_95 : decode cX5_ofPerson 95 = .ok (.ireturn, 1) := by decide +kernel
theorem dX5_fill_0 : decode cX5_fill 0 = .ok (.aload_n 0, 1) := by decide +kernel
theorem dX5_fill_1 : decode cX5_fill 1 = .ok (.getfield 20, 3) := by decide +kernel
theorem dX5_fill_4 : decode cX5_fill 4 = .ok (.iload_n 1, 1) := by decide +kernel
theorem dX5_fill_5 : decode cX5_fill 5 = .ok (.invokevirtual 112, 3) := by decide +kernel
theorem dX5_fill_8 : decode cX5_fill 8 = .ok (.ifCond .ne 5, 3) := by decide +kernel
theorem dX5_fill_11 : decode cX5_fill 11 = .ok (.iconst (-1), 1) := by decide +kernel
theorem dX5_fill_12 : decode cX5_fill 12 = .ok (.ireturn, 1) := by decide +kernel
theorem dX5_fill_13 : decode cX5_fill 13 = .ok (.iload_n 2, 1) := by decide +kernel
theorem dX5_fill_14 : decode cX5_fill 14 = .ok (.ifCond .lt 9, 3) := by decide +kernel
theorem dX5_fill_17 : decode cX5_fill 17 = .ok (.iload_n 2, 1) := by decide +kernel
theorem dX5_fill_18 : decode cX5_fill 18 = .ok (.bipush 99, 2) := by decide +kernel
theorem dX5_fill_20 : decode cX5_fill 20 = .ok (.if_icmp .le 6, 3) := by decide +kernel
theorem dX5_fill_23 : decode cX5_fill 23 = .ok (.bipush (-2), 2) := by decide +kernel
theorem dX5_fill_25 : decode cX5_fill 25 = .ok (.ireturn, 1) := by decide +kernel
theorem dX5_fill_26 : decode cX5_fill 26 = .ok (.aload_n 0, 1) := by decide +kernel
theorem dX5_fill_27 : decode cX5_fill 27 = .ok (.getfield 20, 3) := by decide +kernel
theorem dX5_fill_30 : decode cX5_fill 30 = .ok (.getfield 115, 3) := by decide +kernel
theorem dX5_fill_33 : decode cX5_fill 33 = .ok (.iload_n 1, 1) := by decide +kernel
theorem dX5_fill_34 : decode cX5_fill 34 = .ok (.iaload, 1) := by decide +kernel
theorem dX5_fill_35 : decode cX5_fill 35 = .ok (.istore_n 3, 1) := by decide +kernel
theorem dX5_fill_36 : decode cX5_fill 36 = .ok (.aload_n 0, 1) := by decide +kernel
theorem dX5_fill_37 : decode cX5_fill 37 = .ok (.getfield 20, 3) := by decide +kernel
theorem dX5_fill_40 : decode cX5_fill 40 = .ok (.getfield 115, 3) := by decide +kernel
theorem dX5_fill_43 : decode cX5_fill 43 = .ok (.iload_n 1, 1) := by decide +kernel
theorem dX5_fill_44 : decode cX5_fill 44 = .ok (.iload_n 2, 1) := by decide +kernel
theorem dX5_fill_45 : decode cX5_fill 45 = .ok (.iastore, 1) := by decide +kernel
theorem dX5_fill_46 : decode cX5_fill 46 = .ok (.iload_n 3, 1) := by decide +kernel
theorem dX5_fill_47 : decode cX5_fill 47 = .ok (.ireturn, 1) := by decide +kernel
theorem dX5_rate_0 : decode cX5_rate 0 = .ok (.iload_n 1, 1) := by decide +kernel
theorem dX5_rate_1 : decode cX5_rate 1 = .ok (.iconst 1, 1) := by decide +kernel
theorem dX5_rate_2 : decode cX5_rate 2 = .ok (.if_icmp .lt 9, 3) := by decide +kernel
theorem dX5_rate_5 : decode cX5_rate 5 = .ok (.iload_n 1, 1) := by decide +kernel
theorem dX5_rate_6 : decode cX5_rate 6 = .ok (.bipush 9, 2) := by decide +kernel
theorem dX5_rate_8 : decode cX5_rate 8 = .ok (.if_icmp .le 6, 3) := by decide +kernel
theorem dX5_rate_11 : decode cX5_rate 11 = .ok (.bipush (-2), 2) := by decide +kernel
theorem dX5_rate_13 : decode cX5_rate 13 = .ok (.ireturn, 1) := by decide +kernel
theorem dX5_rate_14 : decode cX5_rate 14 = .ok (.aload_n 0, 1) := by decide +kernel
theorem dX5_rate_15 : decode cX5_rate 15 = .ok (.getfield 20, 3) := by decide +kernel
theorem dX5_rate_18 : decode cX5_rate 18 = .ok (.invokevirtual 132, 3) := by decide +kernel
theorem dX5_rate_21 : decode cX5_rate 21 = .ok (.ifCond .ne 6, 3) := by decide +kernel
theorem dX5_rate_24 : decode cX5_rate 24 = .ok (.bipush (-3), 2) := by decide +kernel
theorem dX5_rate_26 : decode cX5_rate 26 = .ok (.ireturn, 1) := by decide +kernel
theorem dX5_rate_27 : decode cX5_rate 27 = .ok (.aload_n 0, 1) := by decide +kernel
theorem dX5_rate_28 : decode cX5_rate 28 = .ok (.getfield 20, 3) := by decide +kernel
theorem dX5_rate_31 : decode cX5_rate 31 = .ok (.getfield 135, 3) := by decide +kernel
theorem dX5_rate_34 : decode cX5_rate 34 = .ok (.istore_n 2, 1) := by decide +kernel
theorem dX5_rate_35 : decode cX5_rate 35 = .ok (.aload_n 0, 1) := by decide +kernel
theorem dX5_rate_36 : decode cX5_rate 36 = .ok (.getfield 20, 3) := by decide +kernel
theorem dX5_rate_39 : decode cX5_rate 39 = .ok (.iload_n 1, 1) := by decide +kernel
theorem dX5_rate_40 : decode cX5_rate 40 = .ok (.putfield 135, 3) := by decide +kernel
theorem dX5_rate_43 : decode cX5_rate 43 = .ok (.iload_n 2, 1) := by decide +kernel
theorem dX5_rate_44 : decode cX5_rate 44 = .ok (.ireturn, 1) := by decide +kernel
theorem dX5_fresh_0 : decode cX5_fresh 0 = .ok (.aload_n 0, 1) := by decide +kernel
theorem dX5_fresh_1 : decode cX5_fresh 1 = .ok (.getfield 20, 3) := by decide +kernel
theorem dX5_fresh_4 : decode cX5_fresh 4 = .ok (.iload_n 1, 1) := by decide +kernel
theorem dX5_fresh_5 : decode cX5_fresh 5 = .ok (.invokevirtual 93, 3) := by decide +kernel
theorem dX5_fresh_8 : decode cX5_fresh 8 = .ok (.ifCond .ne 5, 3) := by decide +kernel
theorem dX5_fresh_11 : decode cX5_fresh 11 = .ok (.iconst (-1), 1) := by decide +kernel
theorem dX5_fresh_12 : decode cX5_fresh 12 = .ok (.ireturn, 1) := by decide +kernel
theorem dX5_fresh_13 : decode cX5_fresh 13 = .ok (.iload_n 2, 1) := by decide +kernel
theorem dX5_fresh_14 : decode cX5_fresh 14 = .ok (.ifCond .lt 9, 3) := by decide +kernel
theorem dX5_fresh_17 : decode cX5_fresh 17 = .ok (.iload_n 2, 1) := by decide +kernel
theorem dX5_fresh_18 : decode cX5_fresh 18 = .ok (.bipush 99, 2) := by decide +kernel
theorem dX5_fresh_20 : decode cX5_fresh 20 = .ok (.if_icmp .le 6, 3) := by decide +kernel
theorem dX5_fresh_23 : decode cX5_fresh 23 = .ok (.bipush (-2), 2) := by decide +kernel
theorem dX5_fresh_25 : decode cX5_fresh 25 = .ok (.ireturn, 1) := by decide +kernel
theorem dX5_fresh_26 : decode cX5_fresh 26 = .ok (.aload_n 0, 1) := by decide +kernel
theorem dX5_fresh_27 : decode cX5_fresh 27 = .ok (.getfield 20, 3) := by decide +kernel
theorem dX5_fresh_30 : decode cX5_fresh 30 = .ok (.iload_n 1, 1) := by decide +kernel
theorem dX5_fresh_31 : decode cX5_fresh 31 = .ok (.iload_n 2, 1) := by decide +kernel
theorem dX5_fresh_32 : decode cX5_fresh 32 = .ok (.invokevirtual 138, 3) := by decide +kernel
theorem dX5_fresh_35 : decode cX5_fresh 35 = .ok (.ireturn, 1) := by decide +kernel
theorem dX5_price_0 : decode cX5_price 0 = .ok (.aload_n 0, 1) := by decide +kernel
theorem dX5_price_1 : decode cX5_price 1 = .ok (.getfield 20, 3) := by decide +kernel
theorem dX5_price_4 : decode cX5_price 4 = .ok (.iload_n 1, 1) := by decide +kernel
theorem dX5_price_5 : decode cX5_price 5 = .ok (.invokevirtual 93, 3) := by decide +kernel
theorem dX5_price_8 : decode cX5_price 8 = .ok (.ifCond .ne 5, 3) := by decide +kernel
theorem dX5_price_11 : decode cX5_price 11 = .ok (.iconst (-1), 1) := by decide +kernel
theorem dX5_price_12 : decode cX5_price 12 = .ok (.ireturn, 1) := by decide +kernel
theorem dX5_price_13 : decode cX5_price 13 = .ok (.aload_n 0, 1) := by decide +kernel
theorem dX5_price_14 : decode cX5_price 14 = .ok (.getfield 20, 3) := by decide +kernel
theorem dX5_price_17 : decode cX5_price 17 = .ok (.iload_n 1, 1) := by decide +kernel
theorem dX5_price_18 : decode cX5_price 18 = .ok (.invokevirtual 142, 3) := by decide +kernel
theorem dX5_price_21 : decode cX5_price 21 = .ok (.ireturn, 1) := by decide +kernel
theorem dX5_sell_0 : decode cX5_sell 0 = .ok (.aload_n 0, 1) := by decide +kernel
theorem dX5_sell_1 : decode cX5_sell 1 = .ok (.getfield 20, 3) := by decide +kernel
theorem dX5_sell_4 : decode cX5_sell 4 = .ok (.iload_n 1, 1) := by decide +kernel
theorem dX5_sell_5 : decode cX5_sell 5 = .ok (.invokevirtual 93, 3) := by decide +kernel
theorem dX5_sell_8 : decode cX5_sell 8 = .ok (.ifCond .eq 14, 3) := by decide +kernel
theorem dX5_sell_11 : decode cX5_sell 11 = .ok (.aload_n 0, 1) := by decide +kernel
theorem dX5_sell_12 : decode cX5_sell 12 = .ok (.getfield 20, 3) := by decide +kernel
theorem dX5_sell_15 : decode cX5_sell 15 = .ok (.iload_n 2, 1) := by decide +kernel
theorem dX5_sell_16 : decode cX5_sell 16 = .ok (.invokevirtual 112, 3) := by decide +kernel
theorem dX5_sell_19 : decode cX5_sell 19 = .ok (.ifCond .ne 5, 3) := by decide +kernel
theorem dX5_sell_22 : decode cX5_sell 22 = .ok (.iconst (-1), 1) := by decide +kernel
theorem dX5_sell_23 : decode cX5_sell 23 = .ok (.ireturn, 1) := by decide +kernel
theorem dX5_sell_24 : decode cX5_sell 24 = .ok (.aload_n 0, 1) := by decide +kernel
theorem dX5_sell_25 : decode cX5_sell 25 = .ok (.getfield 20, 3) := by decide +kernel
theorem dX5_sell_28 : decode cX5_sell 28 = .ok (.iload_n 1, 1) := by decide +kernel
theorem dX5_sell_29 : decode cX5_sell 29 = .ok (.iload_n 2, 1) := by decide +kernel
theorem dX5_sell_30 : decode cX5_sell 30 = .ok (.invokevirtual 145, 3) := by decide +kernel
theorem dX5_sell_33 : decode cX5_sell 33 = .ok (.ifCond .ne 6, 3) := by decide +kernel
theorem dX5_sell_36 : decode cX5_sell 36 = .ok (.bipush (-3), 2) := by decide +kernel
theorem dX5_sell_38 : decode cX5_sell 38 = .ok (.ireturn, 1) := by decide +kernel
theorem dX5_sell_39 : decode cX5_sell 39 = .ok (.aload_n 0, 1) := by decide +kernel
theorem dX5_sell_40 : decode cX5_sell 40 = .ok (.getfield 20, 3) := by decide +kernel
theorem dX5_sell_43 : decode cX5_sell 43 = .ok (.iload_n 1, 1) := by decide +kernel
theorem dX5_sell_44 : decode cX5_sell 44 = .ok (.iload_n 2, 1) := by decide +kernel
theorem dX5_sell_45 : decode cX5_sell 45 = .ok (.invokevirtual 148, 3) := by decide +kernel
theorem dX5_sell_48 : decode cX5_sell 48 = .ok (.ireturn, 1) := by decide +kernel
theorem dX5_open_0 : decode cX5_open 0 = .ok (.aload_n 0, 1) := by decide +kernel
theorem dX5_open_1 : decode cX5_open 1 = .ok (.getfield 20, 3) := by decide +kernel
theorem dX5_open_4 : decode cX5_open 4 = .ok (.iload_n 1, 1) := by decide +kernel
theorem dX5_open_5 : decode cX5_open 5 = .ok (.invokevirtual 93, 3) := by decide +kernel
theorem dX5_open_8 : decode cX5_open 8 = .ok (.ifCond .ne 5, 3) := by decide +kernel
theorem dX5_open_11 : decode cX5_open 11 = .ok (.iconst (-1), 1) := by decide +kernel
theorem dX5_open_12 : decode cX5_open 12 = .ok (.ireturn, 1) := by decide +kernel
theorem dX5_open_13 : decode cX5_open 13 = .ok (.aload_n 0, 1) := by decide +kernel
theorem dX5_open_14 : decode cX5_open 14 = .ok (.getfield 20, 3) := by decide +kernel
theorem dX5_open_17 : decode cX5_open 17 = .ok (.iload_n 1, 1) := by decide +kernel
theorem dX5_open_18 : decode cX5_open 18 = .ok (.invokevirtual 109, 3) := by decide +kernel
theorem dX5_open_21 : decode cX5_open 21 = .ok (.ifCond .eq 6, 3) := by decide +kernel
theorem dX5_open_24 : decode cX5_open 24 = .ok (.bipush (-3), 2) := by decide +kernel
theorem dX5_open_26 : decode cX5_open 26 = .ok (.ireturn, 1) := by decide +kernel
theorem dX5_open_27 : decode cX5_open 27 = .ok (.aload_n 0, 1) := by decide +kernel
theorem dX5_open_28 : decode cX5_open 28 = .ok (.getfield 20, 3) := by decide +kernel
theorem dX5_open_31 : decode cX5_open 31 = .ok (.iload_n 1, 1) := by decide +kernel
theorem dX5_open_32 : decode cX5_open 32 = .ok (.invokevirtual 151, 3) := by decide +kernel
theorem dX5_open_35 : decode cX5_open 35 = .ok (.ireturn, 1) := by decide +kernel
theorem dX5_sleep_0 : decode cX5_sleep 0 = .ok (.iload_n 1, 1) := by decide +kernel
theorem dX5_sleep_1 : decode cX5_sleep 1 = .ok (.ifCond .lt 9, 3) := by decide +kernel
theorem dX5_sleep_4 : decode cX5_sleep 4 = .ok (.iload_n 1, 1) := by decide +kernel
theorem dX5_sleep_5 : decode cX5_sleep 5 = .ok (.bipush 9, 2) := by decide +kernel
theorem dX5_sleep_7 : decode cX5_sleep 7 = .ok (.if_icmp .le 6, 3) := by decide +kernel
theorem dX5_sleep_10 : decode cX5_sleep 10 = .ok (.bipush (-2), 2) := by decide +kernel
theorem dX5_sleep_12 : decode cX5_sleep 12 = .ok (.ireturn, 1) := by decide +kernel
theorem dX5_sleep_13 : decode cX5_sleep 13 = .ok (.aload_n 0, 1) := by decide +kernel
theorem dX5_sleep_14 : decode cX5_sleep 14 = .ok (.getfield 20, 3) := by decide +kernel
theorem dX5_sleep_17 : decode cX5_sleep 17 = .ok (.invokevirtual 132, 3) := by decide +kernel
theorem dX5_sleep_20 : decode cX5_sleep 20 = .ok (.ifCond .eq 14, 3) := by decide +kernel
theorem dX5_sleep_23 : decode cX5_sleep 23 = .ok (.aload_n 0, 1) := by decide +kernel
theorem dX5_sleep_24 : decode cX5_sleep 24 = .ok (.getfield 20, 3) := by decide +kernel
theorem dX5_sleep_27 : decode cX5_sleep 27 = .ok (.iload_n 1, 1) := by decide +kernel
theorem dX5_sleep_28 : decode cX5_sleep 28 = .ok (.invokevirtual 154, 3) := by decide +kernel
theorem dX5_sleep_31 : decode cX5_sleep 31 = .ok (.ifCond .ne 6, 3) := by decide +kernel
theorem dX5_sleep_34 : decode cX5_sleep 34 = .ok (.bipush (-3), 2) := by decide +kernel
theorem dX5_sleep_36 : decode cX5_sleep 36 = .ok (.ireturn, 1) := by decide +kernel
theorem dX5_sleep_37 : decode cX5_sleep 37 = .ok (.aload_n 0, 1) := by decide +kernel
theorem dX5_sleep_38 : decode cX5_sleep 38 = .ok (.getfield 20, 3) := by decide +kernel
theorem dX5_sleep_41 : decode cX5_sleep 41 = .ok (.dup, 1) := by decide +kernel
theorem dX5_sleep_42 : decode cX5_sleep 42 = .ok (.getfield 157, 3) := by decide +kernel
theorem dX5_sleep_45 : decode cX5_sleep 45 = .ok (.iload_n 1, 1) := by decide +kernel
theorem dX5_sleep_46 : decode cX5_sleep 46 = .ok (.iadd, 1) := by decide +kernel
theorem dX5_sleep_47 : decode cX5_sleep 47 = .ok (.putfield 157, 3) := by decide +kernel
theorem dX5_sleep_50 : decode cX5_sleep 50 = .ok (.aload_n 0, 1) := by decide +kernel
theorem dX5_sleep_51 : decode cX5_sleep 51 = .ok (.getfield 20, 3) := by decide +kernel
theorem dX5_sleep_54 : decode cX5_sleep 54 = .ok (.getfield 157, 3) := by decide +kernel
theorem dX5_sleep_57 : decode cX5_sleep 57 = .ok (.ireturn, 1) := by decide +kernel
theorem dX5_year_0 : decode cX5_year 0 = .ok (.aload_n 0, 1) := by decide +kernel
theorem dX5_year_1 : decode cX5_year 1 = .ok (.iconst 0, 1) := by decide +kernel
theorem dX5_year_2 : decode cX5_year 2 = .ok (.putfield 52, 3) := by decide +kernel
theorem dX5_year_5 : decode cX5_year 5 = .ok (.aload_n 0, 1) := by decide +kernel
theorem dX5_year_6 : decode cX5_year 6 = .ok (.iload_n 1, 1) := by decide +kernel
theorem dX5_year_7 : decode cX5_year 7 = .ok (.invokevirtual 56, 3) := by decide +kernel
theorem dX5_year_10 : decode cX5_year 10 = .ok (.astore 6, 2) := by decide +kernel
theorem dX5_year_12 : decode cX5_year 12 = .ok (.aload 6, 2) := by decide +kernel
theorem dX5_year_14 : decode cX5_year 14 = .ok (.ifnonnull 5, 3) := by decide +kernel
theorem dX5_year_17 : decode cX5_year 17 = .ok (.iconst (-1), 1) := by decide +kernel
theorem dX5_year_18 : decode cX5_year 18 = .ok (.ireturn, 1) := by decide +kernel
theorem dX5_year_19 : decode cX5_year 19 = .ok (.iload_n 2, 1) := by decide +kernel
theorem dX5_year_20 : decode cX5_year 20 = .ok (.invokestatic 60, 3) := by decide +kernel
theorem dX5_year_23 : decode cX5_year 23 = .ok (.ifCond .eq 23, 3) := by decide +kernel
theorem dX5_year_26 : decode cX5_year 26 = .ok (.iload 4, 2) := by decide +kernel
theorem dX5_year_28 : decode cX5_year 28 = .ok (.ifCond .lt 18, 3) := by decide +kernel
theorem dX5_year_31 : decode cX5_year 31 = .ok (.iload 4, 2) := by decide +kernel
theorem dX5_year_33 : decode cX5_year 33 = .ok (.bipush 20, 2) := by decide +kernel
theorem dX5_year_35 : decode cX5_year 35 = .ok (.if_icmp .gt 11, 3) := by decide +kernel
theorem dX5_year_38 : decode cX5_year 38 = .ok (.iload 5, 2) := by decide +kernel
theorem dX5_year_40 : decode cX5_year 40 = .ok (.invokestatic 160, 3) := by decide +kernel
theorem dX5_year_43 : decode cX5_year 43 = .ok (.ifCond .ne 6, 3) := by decide +kernel
theorem dX5_year_46 : decode cX5_year 46 = .ok (.bipush (-2), 2) := by decide +kernel
theorem dX5_year_48 : decode cX5_year 48 = .ok (.ireturn, 1) := by decide +kernel
theorem dX5_year_49 : decode cX5_year 49 = .ok (.aload 6, 2) := by decide +kernel
theorem dX5_year_51 : decode cX5_year 51 = .ok (.iload_n 2, 1) := by decide +kernel
theorem dX5_year_52 : decode cX5_year 52 = .ok (.invokevirtual 64, 3) := by decide +kernel
theorem dX5_year_55 : decode cX5_year 55 = .ok (.ifCond .eq 9, 3) := by decide +kernel
theorem dX5_year_58 : decode cX5_year 58 = .ok (.aload_n 0, 1) := by decide +kernel
theorem dX5_year_59 : decode cX5_year 59 = .ok (.iconst 2, 1) := by decide +kernel
theorem dX5_year_60 : decode cX5_year 60 = .ok (.invokevirtual 67, 3) := by decide +kernel
theorem dX5_year_63 : decode cX5_year 63 = .ok (.ireturn, 1) := by decide +kernel
theorem dX5_year_64 : decode cX5_year 64 = .ok (.aload 6, 2) := by decide +kernel
theorem dX5_year_66 : decode cX5_year 66 = .ok (.invokevirtual 71, 3) := by decide +kernel
theorem dX5_year_69 : decode cX5_year 69 = .ok (.ifCond .ne 9, 3) := by decide +kernel
theorem dX5_year_72 : decode cX5_year 72 = .ok (.aload_n 0, 1) := by decide +kernel
theorem dX5_year_73 : decode cX5_year 73 = .ok (.iconst 1, 1) := by decide +kernel
theorem dX5_year_74 : decode cX5_year 74 = .ok (.invokevirtual 67, 3) := by decide +kernel
theorem dX5_year_77 : decode cX5_year 77 = .ok (.ireturn, 1) := by decide +kernel
theorem dX5_year_78 : decode cX5_year 78 = .ok (.aload 6, 2) := by decide +kernel
theorem dX5_year_80 : decode cX5_year 80 = .ok (.iload_n 3, 1) := by decide +kernel
theorem dX5_year_81 : decode cX5_year 81 = .ok (.iconst 2, 1) := by decide +kernel
theorem dX5_year_82 : decode cX5_year 82 = .ok (.iload 4, 2) := by decide +kernel
theorem dX5_year_84 : decode cX5_year 84 = .ok (.imul, 1) := by decide +kernel
theorem dX5_year_85 : decode cX5_year 85 = .ok (.invokevirtual 75, 3) := by decide +kernel
theorem dX5_year_88 : decode cX5_year 88 = .ok (.ifCond .ne 9, 3) := by decide +kernel
theorem dX5_year_91 : decode cX5_year 91 = .ok (.aload_n 0, 1) := by decide +kernel
theorem dX5_year_92 : decode cX5_year 92 = .ok (.iconst 3, 1) := by decide +kernel
theorem dX5_year_93 : decode cX5_year 93 = .ok (.invokevirtual 67, 3) := by decide +kernel
theorem dX5_year_96 : decode cX5_year 96 = .ok (.ireturn, 1) := by decide +kernel
theorem dX5_year_97 : decode cX5_year 97 = .ok (.aload_n 0, 1) := by decide +kernel
theorem dX5_year_98 : decode cX5_year 98 = .ok (.getfield 20, 3) := by decide +kernel
theorem dX5_year_101 : decode cX5_year 101 = .ok (.invokevirtual 132, 3) := by decide +kernel
theorem dX5_year_104 : decode cX5_year 104 = .ok (.ifCond .ne 6, 3) := by decide +kernel
theorem dX5_year_107 : decode cX5_year 107 = .ok (.bipush (-3), 2) := by decide +kernel
theorem dX5_year_109 : decode cX5_year 109 = .ok (.ireturn, 1) := by decide +kernel
theorem dX5_year_110 : decode cX5_year 110 = .ok (.aload_n 0, 1) := by decide +kernel
theorem dX5_year_111 : decode cX5_year 111 = .ok (.aload 6, 2) := by decide +kernel
theorem dX5_year_113 : decode cX5_year 113 = .ok (.iload_n 3, 1) := by decide +kernel
theorem dX5_year_114 : decode cX5_year 114 = .ok (.iload 4, 2) := by decide +kernel
theorem dX5_year_116 : decode cX5_year 116 = .ok (.invokevirtual 163, 3) := by decide +kernel
theorem dX5_year_119 : decode cX5_year 119 = .ok (.istore 7, 2) := by decide +kernel
theorem dX5_year_121 : decode cX5_year 121 = .ok (.iload 7, 2) := by decide +kernel
theorem dX5_year_123 : decode cX5_year 123 = .ok (.ifCond .eq 6, 3) := by decide +kernel
theorem dX5_year_126 : decode cX5_year 126 = .ok (.iload 7, 2) := by decide +kernel
theorem dX5_year_128 : decode cX5_year 128 = .ok (.ireturn, 1) := by decide +kernel
theorem dX5_year_129 : decode cX5_year 129 = .ok (.aload_n 0, 1) := by decide +kernel
theorem dX5_year_130 : decode cX5_year 130 = .ok (.getfield 24, 3) := by decide +kernel
theorem dX5_year_133 : decode cX5_year 133 = .ok (.aload_n 0, 1) := by decide +kernel
theorem dX5_year_134 : decode cX5_year 134 = .ok (.getfield 20, 3) := by decide +kernel
theorem dX5_year_137 : decode cX5_year 137 = .ok (.invokevirtual 83, 3) := by decide +kernel
theorem dX5_year_140 : decode cX5_year 140 = .ok (.aload_n 0, 1) := by decide +kernel
theorem dX5_year_141 : decode cX5_year 141 = .ok (.getfield 24, 3) := by decide +kernel
theorem dX5_year_144 : decode cX5_year 144 = .ok (.invokevirtual 167, 3) := by decide +kernel
theorem dX5_year_147 : decode cX5_year 147 = .ok (.aload_n 0, 1) := by decide +kernel
theorem dX5_year_148 : decode cX5_year 148 = .ok (.aload 6, 2) := by decide +kernel
theorem dX5_year_150 : decode cX5_year 150 = .ok (.iload_n 3, 1) := by decide +kernel
theorem dX5_year_151 : decode cX5_year 151 = .ok (.iload 4, 2) := by decide +kernel
theorem dX5_year_153 : decode cX5_year 153 = .ok (.invokevirtual 170, 3) := by decide +kernel
theorem dX5_year_156 : decode cX5_year 156 = .ok (.istore 8, 2) := by decide +kernel
theorem dX5_year_158 : decode cX5_year 158 = .ok (.iload 5, 2) := by decide +kernel
theorem dX5_year_160 : decode cX5_year 160 = .ok (.iconst 1, 1) := by decide +kernel
theorem dX5_year_161 : decode cX5_year 161 = .ok (.if_icmp .ne 6, 3) := by decide +kernel
theorem dX5_year_164 : decode cX5_year 164 = .ok (.iload 8, 2) := by decide +kernel
theorem dX5_year_166 : decode cX5_year 166 = .ok (.ireturn, 1) := by decide +kernel
theorem dX5_year_167 : decode cX5_year 167 = .ok (.iload 8, 2) := by decide +kernel
theorem dX5_year_169 : decode cX5_year 169 = .ok (.bipush (-9), 2) := by decide +kernel
theorem dX5_year_171 : decode cX5_year 171 = .ok (.if_icmp .eq 9, 3) := by decide +kernel
theorem dX5_year_174 : decode cX5_year 174 = .ok (.bipush (-100), 2) := by decide +kernel
theorem dX5_year_176 : decode cX5_year 176 = .ok (.iload 8, 2) := by decide +kernel
theorem dX5_year_178 : decode cX5_year 178 = .ok (.isub, 1) := by decide +kernel
theorem dX5_year_179 : decode cX5_year 179 = .ok (.ireturn, 1) := by decide +kernel
theorem dX5_year_180 : decode cX5_year 180 = .ok (.aload_n 0, 1) := by decide +kernel
theorem dX5_year_181 : decode cX5_year 181 = .ok (.iload 5, 2) := by decide +kernel
theorem dX5_year_183 : decode cX5_year 183 = .ok (.invokevirtual 173, 3) := by decide +kernel
theorem dX5_year_186 : decode cX5_year 186 = .ok (.ireturn, 1) := by decide +kernel
theorem dX5_feast_0 : decode cX5_feast 0 = .ok (.aload_n 0, 1) := by decide +kernel
theorem dX5_feast_1 : decode cX5_feast 1 = .ok (.getfield 20, 3) := by decide +kernel
theorem dX5_feast_4 : decode cX5_feast 4 = .ok (.iload_n 1, 1) := by decide +kernel
theorem dX5_feast_5 : decode cX5_feast 5 = .ok (.invokevirtual 112, 3) := by decide +kernel
theorem dX5_feast_8 : decode cX5_feast 8 = .ok (.ifCond .ne 5, 3) := by decide +kernel
theorem dX5_feast_11 : decode cX5_feast 11 = .ok (.iconst (-1), 1) := by decide +kernel
theorem dX5_feast_12 : decode cX5_feast 12 = .ok (.ireturn, 1) := by decide +kernel
theorem dX5_feast_13 : decode cX5_feast 13 = .ok (.aload_n 0, 1) := by decide +kernel
theorem dX5_feast_14 : decode cX5_feast 14 = .ok (.getfield 20, 3) := by decide +kernel
theorem dX5_feast_17 : decode cX5_feast 17 = .ok (.iload_n 1, 1) := by decide +kernel
theorem dX5_feast_18 : decode cX5_feast 18 = .ok (.aload_n 0, 1) := by decide +kernel
theorem dX5_feast_19 : decode cX5_feast 19 = .ok (.getfield 20, 3) := by decide +kernel
theorem dX5_feast_22 : decode cX5_feast 22 = .ok (.iload_n 1, 1) := by decide +kernel
theorem dX5_feast_23 : decode cX5_feast 23 = .ok (.invokevirtual 121, 3) := by decide +kernel
theorem dX5_feast_26 : decode cX5_feast 26 = .ok (.invokevirtual 176, 3) := by decide +kernel
theorem dX5_feast_29 : decode cX5_feast 29 = .ok (.ireturn, 1) := by decide +kernel
theorem dX5_keep_0 : decode cX5_keep 0 = .ok (.aload_n 0, 1) := by decide +kernel
theorem dX5_keep_1 : decode cX5_keep 1 = .ok (.getfield 20, 3) := by decide +kernel
theorem dX5_keep_4 : decode cX5_keep 4 = .ok (.iload_n 1, 1) := by decide +kernel
theorem dX5_keep_5 : decode cX5_keep 5 = .ok (.invokevirtual 112, 3) := by decide +kernel
theorem dX5_keep_8 : decode cX5_keep 8 = .ok (.ifCond .ne 5, 3) := by decide +kernel
theorem dX5_keep_11 : decode cX5_keep 11 = .ok (.iconst (-1), 1) := by decide +kernel
theorem dX5_keep_12 : decode cX5_keep 12 = .ok (.ireturn, 1) := by decide +kernel
theorem dX5_keep_13 : decode cX5_keep 13 = .ok (.iload_n 2, 1) := by decide +kernel
theorem dX5_keep_14 : decode cX5_keep 14 = .ok (.iconst 1, 1) := by decide +kernel
theorem dX5_keep_15 : decode cX5_keep 15 = .ok (.if_icmp .lt 19, 3) := by decide +kernel
theorem dX5_keep_18 : decode cX5_keep 18 = .ok (.iload_n 2, 1) := by decide +kernel
theorem dX5_keep_19 : decode cX5_keep 19 = .ok (.iconst 3, 1) := by decide +kernel
theorem dX5_keep_20 : decode cX5_keep 20 = .ok (.if_icmp .gt 14, 3) := by decide +kernel
theorem dX5_keep_23 : decode cX5_keep 23 = .ok (.iload_n 3, 1) := by decide +kernel
theorem dX5_keep_24 : decode cX5_keep 24 = .ok (.iconst (-1), 1) := by decide +kernel
theorem dX5_keep_25 : decode cX5_keep 25 = .ok (.if_icmp .lt 9, 3) := by decide +kernel
theorem dX5_keep_28 : decode cX5_keep 28 = .ok (.iload_n 3, 1) := by decide +kernel
theorem dX5_keep_29 : decode cX5_keep 29 = .ok (.bipush 6, 2) := by decide +kernel
theorem dX5_keep_31 : decode cX5_keep 31 = .ok (.if_icmp .lt 6, 3) := by decide +kernel
theorem dX5_keep_34 : decode cX5_keep 34 = .ok (.bipush (-2), 2) := by decide +kernel
theorem dX5_keep_36 : decode cX5_keep 36 = .ok (.ireturn, 1) := by decide +kernel
theorem dX5_keep_37 : decode cX5_keep 37 = .ok (.aload_n 0, 1) := by decide +kernel
theorem dX5_keep_38 : decode cX5_keep 38 = .ok (.getfield 37, 3) := by decide +kernel
theorem dX5_keep_41 : decode cX5_keep 41 = .ok (.aload_n 0, 1) := by decide +kernel
theorem dX5_keep_42 : decode cX5_keep 42 = .ok (.getfield 20, 3) := by decide +kernel
theorem dX5_keep_45 : decode cX5_keep 45 = .ok (.iload_n 1, 1) := by decide +kernel
theorem dX5_keep_46 : decode cX5_keep 46 = .ok (.iload_n 2, 1) := by decide +kernel
theorem dX5_keep_47 : decode cX5_keep 47 = .ok (.invokevirtual 179, 3) := by decide +kernel
theorem dX5_keep_50 : decode cX5_keep 50 = .ok (.iload_n 3, 1) := by decide +kernel
theorem dX5_keep_51 : decode cX5_keep 51 = .ok (.iconst (-1), 1) := by decide +kernel
theorem dX5_keep_52 : decode cX5_keep 52 = .ok (.if_icmp .ne 13, 3) := by decide +kernel
theorem dX5_keep_55 : decode cX5_keep 55 = .ok (.aload_n 0, 1) := by decide +kernel
theorem dX5_keep_56 : decode cX5_keep 56 = .ok (.getfield 37, 3) := by decide +kernel
theorem dX5_keep_59 : decode cX5_keep 59 = .ok (.getfield 183, 3) := by decide +kernel
theorem dX5_keep_62 : decode cX5_keep 62 = .ok (.goto 11, 3) := by decide +kernel
theorem dX5_keep_65 : decode cX5_keep 65 = .ok (.aload_n 0, 1) := by decide +kernel
theorem dX5_keep_66 : decode cX5_keep 66 = .ok (.getfield 37, 3) := by decide +kernel
theorem dX5_keep_69 : decode cX5_keep 69 = .ok (.iload_n 3, 1) := by decide +kernel
theorem dX5_keep_70 : decode cX5_keep 70 = .ok (.invokevirtual 186, 3) := by decide +kernel
theorem dX5_keep_73 : decode cX5_keep 73 = .ok (.ireturn, 1) := by decide +kernel
theorem dX5_buy_0 : decode cX5_buy 0 = .ok (.aload_n 0, 1) := by decide +kernel
theorem dX5_buy_1 : decode cX5_buy 1 = .ok (.getfield 20, 3) := by decide +kernel
theorem dX5_buy_4 : decode cX5_buy 4 = .ok (.iload_n 1, 1) := by decide +kernel
theorem dX5_buy_5 : decode cX5_buy 5 = .ok (.invokevirtual 112, 3) := by decide +kernel
theorem dX5_buy_8 : decode cX5_buy 8 = .ok (.ifCond .ne 5, 3) := by decide +kernel
theorem dX5_buy_11 : decode cX5_buy 11 = .ok (.iconst (-1), 1) := by decide +kernel
theorem dX5_buy_12 : decode cX5_buy 12 = .ok (.ireturn, 1) := by decide +kernel
theorem dX5_buy_13 : decode cX5_buy 13 = .ok (.iload_n 2, 1) := by decide +kernel
theorem dX5_buy_14 : decode cX5_buy 14 = .ok (.ifCond .lt 18, 3) := by decide +kernel
theorem dX5_buy_17 : decode cX5_buy 17 = .ok (.iload_n 2, 1) := by decide +kernel
theorem dX5_buy_18 : decode cX5_buy 18 = .ok (.bipush 99, 2) := by decide +kernel
theorem dX5_buy_20 : decode cX5_buy 20 = .ok (.if_icmp .gt 12, 3) := by decide +kernel
theorem dX5_buy_23 : decode cX5_buy 23 = .ok (.iload_n 3, 1) := by decide +kernel
theorem dX5_buy_24 : decode cX5_buy 24 = .ok (.ifCond .lt 8, 3) := by decide +kernel
theorem dX5_buy_27 : decode cX5_buy 27 = .ok (.iload_n 3, 1) := by decide +kernel
theorem dX5_buy_28 : decode cX5_buy 28 = .ok (.iconst 1, 1) := by decide +kernel
theorem dX5_buy_29 : decode cX5_buy 29 = .ok (.if_icmp .le 6, 3) := by decide +kernel
theorem dX5_buy_32 : decode cX5_buy 32 = .ok (.bipush (-2), 2) := by decide +kernel
theorem dX5_buy_34 : decode cX5_buy 34 = .ok (.ireturn, 1) := by decide +kernel
theorem dX5_buy_35 : decode cX5_buy 35 = .ok (.aload_n 0, 1) := by decide +kernel
theorem dX5_buy_36 : decode cX5_buy 36 = .ok (.iload_n 1, 1) := by decide +kernel
theorem dX5_buy_37 : decode cX5_buy 37 = .ok (.iload_n 2, 1) := by decide +kernel
theorem dX5_buy_38 : decode cX5_buy 38 = .ok (.invokevirtual 189, 3) := by decide +kernel
theorem dX5_buy_41 : decode cX5_buy 41 = .ok (.istore 4, 2) := by decide +kernel
theorem dX5_buy_43 : decode cX5_buy 43 = .ok (.iload 4, 2) := by decide +kernel
theorem dX5_buy_45 : decode cX5_buy 45 = .ok (.bipush (-9), 2) := by decide +kernel
theorem dX5_buy_47 : decode cX5_buy 47 = .ok (.if_icmp .eq 8, 3) := by decide +kernel
theorem dX5_buy_50 : decode cX5_buy 50 = .ok (.iload_n 3, 1) := by decide +kernel
theorem dX5_buy_51 : decode cX5_buy 51 = .ok (.iconst 1, 1) := by decide +kernel
theorem dX5_buy_52 : decode cX5_buy 52 = .ok (.if_icmp .ne 8, 3) := by decide +kernel
theorem dX5_buy_55 : decode cX5_buy 55 = .ok (.iload 4, 2) := by decide +kernel
theorem dX5_buy_57 : decode cX5_buy 57 = .ok (.goto 12, 3) := by decide +kernel
theorem dX5_buy_60 : decode cX5_buy 60 = .ok (.aload_n 0, 1) := by decide +kernel
theorem dX5_buy_61 : decode cX5_buy 61 = .ok (.getfield 20, 3) := by decide +kernel
theorem dX5_buy_64 : decode cX5_buy 64 = .ok (.iload 4, 2) := by decide +kernel
theorem dX5_buy_66 : decode cX5_buy 66 = .ok (.invokevirtual 192, 3) := by decide +kernel
theorem dX5_buy_69 : decode cX5_buy 69 = .ok (.ireturn, 1) := by decide +kernel
theorem dX5_debt_0 : decode cX5_debt 0 = .ok (.aload_n 0, 1) := by decide +kernel
theorem dX5_debt_1 : decode cX5_debt 1 = .ok (.getfield 20, 3) := by decide +kernel
theorem dX5_debt_4 : decode cX5_debt 4 = .ok (.iload_n 1, 1) := by decide +kernel
theorem dX5_debt_5 : decode cX5_debt 5 = .ok (.invokevirtual 112, 3) := by decide +kernel
theorem dX5_debt_8 : decode cX5_debt 8 = .ok (.ifCond .ne 5, 3) := by decide +kernel
theorem dX5_debt_11 : decode cX5_debt 11 = .ok (.iconst (-1), 1) := by decide +kernel
theorem dX5_debt_12 : decode cX5_debt 12 = .ok (.ireturn, 1) := by decide +kernel
theorem dX5_debt_13 : decode cX5_debt 13 = .ok (.iload_n 2, 1) := by decide +kernel
theorem dX5_debt_14 : decode cX5_debt 14 = .ok (.ifCond .lt 19, 3) := by decide +kernel
theorem dX5_debt_17 : decode cX5_debt 17 = .ok (.iload_n 2, 1) := by decide +kernel
theorem dX5_debt_18 : decode cX5_debt 18 = .ok (.sipush 999, 3) := by decide +kernel
theorem dX5_debt_21 : decode cX5_debt 21 = .ok (.if_icmp .gt 12, 3) := by decide +kernel
theorem dX5_debt_24 : decode cX5_debt 24 = .ok (.iload_n 3, 1) := by decide +kernel
theorem dX5_debt_25 : decode cX5_debt 25 = .ok (.ifCond .lt 8, 3) := by decide +kernel
theorem dX5_debt_28 : decode cX5_debt 28 = .ok (.iload_n 3, 1) := by decide +kernel
theorem dX5_debt_29 : decode cX5_debt 29 = .ok (.iconst 1, 1) := by decide +kernel
theorem dX5_debt_30 : decode cX5_debt 30 = .ok (.if_icmp .le 6, 3) := by decide +kernel
theorem dX5_debt_33 : decode cX5_debt 33 = .ok (.bipush (-2), 2) := by decide +kernel
theorem dX5_debt_35 : decode cX5_debt 35 = .ok (.ireturn, 1) := by decide +kernel
theorem dX5_debt_36 : decode cX5_debt 36 = .ok (.aload_n 0, 1) := by decide +kernel
theorem dX5_debt_37 : decode cX5_debt 37 = .ok (.iload_n 1, 1) := by decide +kernel
theorem dX5_debt_38 : decode cX5_debt 38 = .ok (.iload_n 2, 1) := by decide +kernel
theorem dX5_debt_39 : decode cX5_debt 39 = .ok (.invokevirtual 195, 3) := by decide +kernel
theorem dX5_debt_42 : decode cX5_debt 42 = .ok (.istore 4, 2) := by decide +kernel
theorem dX5_debt_44 : decode cX5_debt 44 = .ok (.iload 4, 2) := by decide +kernel
theorem dX5_debt_46 : decode cX5_debt 46 = .ok (.bipush (-9), 2) := by decide +kernel
theorem dX5_debt_48 : decode cX5_debt 48 = .ok (.if_icmp .eq 8, 3) := by decide +kernel
theorem dX5_debt_51 : decode cX5_debt 51 = .ok (.iload_n 3, 1) := by decide +kernel
theorem dX5_debt_52 : decode cX5_debt 52 = .ok (.iconst 1, 1) := by decide +kernel
theorem dX5_debt_53 : decode cX5_debt 53 = .ok (.if_icmp .ne 8, 3) := by decide +kernel
theorem dX5_debt_56 : decode cX5_debt 56 = .ok (.iload 4, 2) := by decide +kernel
theorem dX5_debt_58 : decode cX5_debt 58 = .ok (.goto 24, 3) := by decide +kernel
theorem dX5_debt_61 : decode cX5_debt 61 = .ok (.aload_n 0, 1) := by decide +kernel
theorem dX5_debt_62 : decode cX5_debt 62 = .ok (.getfield 20, 3) := by decide +kernel
theorem dX5_debt_65 : decode cX5_debt 65 = .ok (.iload_n 1, 1) := by decide +kernel
theorem dX5_debt_66 : decode cX5_debt 66 = .ok (.aload_n 0, 1) := by decide +kernel
theorem dX5_debt_67 : decode cX5_debt 67 = .ok (.getfield 20, 3) := by decide +kernel
theorem dX5_debt_70 : decode cX5_debt 70 = .ok (.iload_n 1, 1) := by decide +kernel
theorem dX5_debt_71 : decode cX5_debt 71 = .ok (.invokevirtual 121, 3) := by decide +kernel
theorem dX5_debt_74 : decode cX5_debt 74 = .ok (.iload 4, 2) := by decide +kernel
theorem dX5_debt_76 : decode cX5_debt 76 = .ok (.iconst (-1), 1) := by decide +kernel
theorem dX5_debt_77 : decode cX5_debt 77 = .ok (.ixor, 1) := by decide +kernel
theorem dX5_debt_78 : decode cX5_debt 78 = .ok (.iand, 1) := by decide +kernel
theorem dX5_debt_79 : decode cX5_debt 79 = .ok (.invokevirtual 176, 3) := by decide +kernel
theorem dX5_debt_82 : decode cX5_debt 82 = .ok (.ireturn, 1) := by decide +kernel
theorem dX5_swap_0 : decode cX5_swap 0 = .ok (.iload_n 1, 1) := by decide +kernel
theorem dX5_swap_1 : decode cX5_swap 1 = .ok (.ifCond .lt 8, 3) := by decide +kernel
theorem dX5_swap_4 : decode cX5_swap 4 = .ok (.iload_n 1, 1) := by decide +kernel
theorem dX5_swap_5 : decode cX5_swap 5 = .ok (.iconst 2, 1) := by decide +kernel
theorem dX5_swap_6 : decode cX5_swap 6 = .ok (.if_icmp .le 6, 3) := by decide +kernel
theorem dX5_swap_9 : decode cX5_swap 9 = .ok (.bipush (-2), 2) := by decide +kernel
theorem dX5_swap_11 : decode cX5_swap 11 = .ok (.ireturn, 1) := by decide +kernel
theorem dX5_swap_12 : decode cX5_swap 12 = .ok (.aload_n 0, 1) := by decide +kernel
theorem dX5_swap_13 : decode cX5_swap 13 = .ok (.getfield 20, 3) := by decide +kernel
theorem dX5_swap_16 : decode cX5_swap 16 = .ok (.invokevirtual 132, 3) := by decide +kernel
theorem dX5_swap_19 : decode cX5_swap 19 = .ok (.ifCond .ne 6, 3) := by decide +kernel
theorem dX5_swap_22 : decode cX5_swap 22 = .ok (.bipush (-3), 2) := by decide +kernel
theorem dX5_swap_24 : decode cX5_swap 24 = .ok (.ireturn, 1) := by decide +kernel
theorem dX5_swap_25 : decode cX5_swap 25 = .ok (.iconst 0, 1) := by decide +kernel
theorem dX5_swap_26 : decode cX5_swap 26 = .ok (.istore_n 2, 1) := by decide +kernel
theorem dX5_swap_27 : decode cX5_swap 27 = .ok (.bipush (-9), 2) := by decide +kernel
theorem dX5_swap_29 : decode cX5_swap 29 = .ok (.istore_n 3, 1) := by decide +kernel
theorem dX5_swap_30 : decode cX5_swap 30 = .ok (.bipush (-9), 2) := by decide +kernel
theorem dX5_swap_32 : decode cX5_swap 32 = .ok (.istore 4, 2) := by decide +kernel
theorem dX5_swap_34 : decode cX5_swap 34 = .ok (.iconst 0, 1) := by decide +kernel
theorem dX5_swap_35 : decode cX5_swap 35 = .ok (.istore 5, 2) := by decide +kernel
theorem dX5_swap_37 : decode cX5_swap 37 = .ok (.iload 5, 2) := by decide +kernel
theorem dX5_swap_39 : decode cX5_swap 39 = .ok (.aload_n 0, 1) := by decide +kernel
theorem dX5_swap_40 : decode cX5_swap 40 = .ok (.getfield 20, 3) := by decide +kernel
theorem dX5_swap_43 : decode cX5_swap 43 = .ok (.getfield 90, 3) := by decide +kernel
theorem dX5_swap_46 : decode cX5_swap 46 = .ok (.if_icmp .ge 59, 3) := by decide +kernel
theorem dX5_swap_49 : decode cX5_swap 49 = .ok (.iload 5, 2) := by decide +kernel
theorem dX5_swap_51 : decode cX5_swap 51 = .ok (.iconst 1, 1) := by decide +kernel
theorem dX5_swap_52 : decode cX5_swap 52 = .ok (.iadd, 1) := by decide +kernel
theorem dX5_swap_53 : decode cX5_swap 53 = .ok (.istore 6, 2) := by decide +kernel
theorem dX5_swap_55 : decode cX5_swap 55 = .ok (.iload 6, 2) := by decide +kernel
theorem dX5_swap_57 : decode cX5_swap 57 = .ok (.aload_n 0, 1) := by decide +kernel
theorem dX5_swap_58 : decode cX5_swap 58 = .ok (.getfield 20, 3) := by decide +kernel
theorem dX5_swap_61 : decode cX5_swap 61 = .ok (.getfield 90, 3) := by decide +kernel
theorem dX5_swap_64 : decode cX5_swap 64 = .ok (.if_icmp .ge 35, 3) := by decide +kernel
theorem dX5_swap_67 : decode cX5_swap 67 = .ok (.aload_n 0, 1) := by decide +kernel
theorem dX5_swap_68 : decode cX5_swap 68 = .ok (.iload 5, 2) := by decide +kernel
theorem dX5_swap_70 : decode cX5_swap 70 = .ok (.iload 6, 2) := by decide +kernel
theorem dX5_swap_72 : decode cX5_swap 72 = .ok (.invokevirtual 198, 3) := by decide +kernel
theorem dX5_swap_75 : decode cX5_swap 75 = .ok (.istore 7, 2) := by decide +kernel
theorem dX5_swap_77 : decode cX5_swap 77 = .ok (.iload 7, 2) := by decide +kernel
theorem dX5_swap_79 : decode cX5_swap 79 = .ok (.iload_n 2, 1) := by decide +kernel
theorem dX5_swap_80 : decode cX5_swap 80 = .ok (.if_icmp .le 13, 3) := by decide +kernel
theorem dX5_swap_83 : decode cX5_swap 83 = .ok (.iload 7, 2) := by decide +kernel
theorem dX5_swap_85 : decode cX5_swap 85 = .ok (.istore_n 2, 1) := by decide +kernel
theorem dX5_swap_86 : decode cX5_swap 86 = .ok (.iload 5, 2) := by decide +kernel
theorem dX5_swap_88 : decode cX5_swap 88 = .ok (.istore_n 3, 1) := by decide +kernel
theorem dX5_swap_89 : decode cX5_swap 89 = .ok (.iload 6, 2) := by decide +kernel
theorem dX5_swap_91 : decode cX5_swap 91 = .ok (.istore 4, 2) := by decide +kernel
theorem dX5_swap_93 : decode cX5_swap 93 = .ok (.iinc 6 1, 3) := by decide +kernel
theorem dX5_swap_96 : decode cX5_swap 96 = .ok (.goto (-41), 3) := by decide +kernel
theorem dX5_swap_99 : decode cX5_swap 99 = .ok (.iinc 5 1, 3) := by decide +kernel
theorem dX5_swap_102 : decode cX5_swap 102 = .ok (.goto (-65), 3) := by decide +kernel
theorem dX5_swap_105 : decode cX5_swap 105 = .ok (.iload_n 2, 1) := by decide +kernel
theorem dX5_swap_106 : decode cX5_swap 106 = .ok (.ifCond .ne 6, 3) := by decide +kernel
theorem dX5_swap_109 : decode cX5_swap 109 = .ok (.bipush (-9), 2) := by decide +kernel
theorem dX5_swap_111 : decode cX5_swap 111 = .ok (.ireturn, 1) := by decide +kernel
theorem dX5_swap_112 : decode cX5_swap 112 = .ok (.iload_n 1, 1) := by decide +kernel
theorem dX5_swap_113 : decode cX5_swap 113 = .ok (.ifCond .ne 7, 3) := by decide +kernel
theorem dX5_swap_116 : decode cX5_swap 116 = .ok (.iload_n 2, 1) := by decide +kernel
theorem dX5_swap_117 : decode cX5_swap 117 = .ok (.goto 14, 3) := by decide +kernel
theorem dX5_swap_120 : decode cX5_swap 120 = .ok (.iload_n 1, 1) := by decide +kernel
theorem dX5_swap_121 : decode cX5_swap 121 = .ok (.iconst 1, 1) := by decide +kernel
theorem dX5_swap_122 : decode cX5_swap 122 = .ok (.if_icmp .ne 7, 3) := by decide +kernel
theorem dX5_swap_125 : decode cX5_swap 125 = .ok (.iload_n 3, 1) := by decide +kernel
theorem dX5_swap_126 : decode cX5_swap 126 = .ok (.goto 5, 3) := by decide +kernel
theorem dX5_swap_129 : decode cX5_swap 129 = .ok (.iload 4, 2) := by decide +kernel
theorem dX5_swap_131 : decode cX5_swap 131 = .ok (.ireturn, 1) := by decide +kernel
theorem dX5_reading_0 : decode cX5_reading 0 = .ok (.aload_n 0, 1) := by decide +kernel
theorem dX5_reading_1 : decode cX5_reading 1 = .ok (.getfield 20, 3) := by decide +kernel
theorem dX5_reading_4 : decode cX5_reading 4 = .ok (.iload_n 1, 1) := by decide +kernel
theorem dX5_reading_5 : decode cX5_reading 5 = .ok (.invokevirtual 93, 3) := by decide +kernel
theorem dX5_reading_8 : decode cX5_reading 8 = .ok (.ifCond .ne 5, 3) := by decide +kernel
theorem dX5_reading_11 : decode cX5_reading 11 = .ok (.iconst (-1), 1) := by decide +kernel
theorem dX5_reading_12 : decode cX5_reading 12 = .ok (.ireturn, 1) := by decide +kernel
theorem dX5_reading_13 : decode cX5_reading 13 = .ok (.iload_n 2, 1) := by decide +kernel
theorem dX5_reading_14 : decode cX5_reading 14 = .ok (.ifCond .lt 19, 3) := by decide +kernel
theorem dX5_reading_17 : decode cX5_reading 17 = .ok (.iload_n 2, 1) := by decide +kernel
theorem dX5_reading_18 : decode cX5_reading 18 = .ok (.bipush 99, 2) := by decide +kernel
theorem dX5_reading_20 : decode cX5_reading 20 = .ok (.if_icmp .gt 13, 3) := by decide +kernel
theorem dX5_reading_23 : decode cX5_reading 23 = .ok (.iload_n 3, 1) := by decide +kernel
theorem dX5_reading_24 : decode cX5_reading 24 = .ok (.ifCond .lt 9, 3) := by decide +kernel
theorem dX5_reading_27 : decode cX5_reading 27 = .ok (.iload_n 3, 1) := by decide +kernel
theorem dX5_reading_28 : decode cX5_reading 28 = .ok (.bipush 9, 2) := by decide +kernel
theorem dX5_reading_30 : decode cX5_reading 30 = .ok (.if_icmp .le 6, 3) := by decide +kernel
theorem dX5_reading_33 : decode cX5_reading 33 = .ok (.bipush (-2), 2) := by decide +kernel
theorem dX5_reading_35 : decode cX5_reading 35 = .ok (.ireturn, 1) := by decide +kernel
theorem dX5_reading_36 : decode cX5_reading 36 = .ok (.aload_n 0, 1) := by decide +kernel
theorem dX5_reading_37 : decode cX5_reading 37 = .ok (.getfield 44, 3) := by decide +kernel
theorem dX5_reading_40 : decode cX5_reading 40 = .ok (.getfield 87, 3) := by decide +kernel
theorem dX5_reading_43 : decode cX5_reading 43 = .ok (.bipush 8, 2) := by decide +kernel
theorem dX5_reading_45 : decode cX5_reading 45 = .ok (.if_icmp .lt 6, 3) := by decide +kernel
theorem dX5_reading_48 : decode cX5_reading 48 = .ok (.bipush (-4), 2) := by decide +kernel
theorem dX5_reading_50 : decode cX5_reading 50 = .ok (.ireturn, 1) := by decide +kernel
theorem dX5_reading_51 : decode cX5_reading 51 = .ok (.aload_n 0, 1) := by decide +kernel
theorem dX5_reading_52 : decode cX5_reading 52 = .ok (.getfield 44, 3) := by decide +kernel
theorem dX5_reading_55 : decode cX5_reading 55 = .ok (.iload_n 1, 1) := by decide +kernel
theorem dX5_reading_56 : decode cX5_reading 56 = .ok (.iload_n 2, 1) := by decide +kernel
theorem dX5_reading_57 : decode cX5_reading 57 = .ok (.iload_n 3, 1) := by decide +kernel
theorem dX5_reading_58 : decode cX5_reading 58 = .ok (.invokevirtual 201, 3) := by decide +kernel
theorem dX5_reading_61 : decode cX5_reading 61 = .ok (.ireturn, 1) := by decide +kernel
theorem dX5_back_0 : decode cX5_back 0 = .ok (.iload_n 1, 1) := by decide +kernel
theorem dX5_back_1 : decode cX5_back 1 = .ok (.ifCond .lt 14, 3) := by decide +kernel
theorem dX5_back_4 : decode cX5_back 4 = .ok (.iload_n 1, 1) := by decide +kernel
theorem dX5_back_5 : decode cX5_back 5 = .ok (.aload_n 0, 1) := by decide +kernel
theorem dX5_back_6 : decode cX5_back 6 = .ok (.getfield 44, 3) := by decide +kernel
theorem dX5_back_9 : decode cX5_back 9 = .ok (.getfield 87, 3) := by decide +kernel
theorem dX5_back_12 : decode cX5_back 12 = .ok (.if_icmp .le 6, 3) := by decide +kernel
theorem dX5_back_15 : decode cX5_back 15 = .ok (.bipush (-2), 2) := by decide +kernel
theorem dX5_back_17 : decode cX5_back 17 = .ok (.ireturn, 1) := by decide +kernel
theorem dX5_back_18 : decode cX5_back 18 = .ok (.aload_n 0, 1) := by decide +kernel
theorem dX5_back_19 : decode cX5_back 19 = .ok (.getfield 44, 3) := by decide +kernel
theorem dX5_back_22 : decode cX5_back 22 = .ok (.dup, 1) := by decide +kernel
theorem dX5_back_23 : decode cX5_back 23 = .ok (.getfield 87, 3) := by decide +kernel
theorem dX5_back_26 : decode cX5_back 26 = .ok (.iload_n 1, 1) := by decide +kernel
theorem dX5_back_27 : decode cX5_back 27 = .ok (.isub, 1) := by decide +kernel
theorem dX5_back_28 : decode cX5_back 28 = .ok (.putfield 87, 3) := by decide +kernel
theorem dX5_back_31 : decode cX5_back 31 = .ok (.aload_n 0, 1) := by decide +kernel
theorem dX5_back_32 : decode cX5_back 32 = .ok (.getfield 44, 3) := by decide +kernel
theorem dX5_back_35 : decode cX5_back 35 = .ok (.getfield 87, 3) := by decide +kernel
theorem dX5_back_38 : decode cX5_back 38 = .ok (.ireturn, 1) := by decide +kernel
theorem dX5_dews_0 : decode cX5_dews 0 = .ok (.aload_n 0, 1) := by decide +kernel
theorem dX5_dews_1 : decode cX5_dews 1 = .ok (.getfield 20, 3) := by decide +kernel
theorem dX5_dews_4 : decode cX5_dews 4 = .ok (.iload_n 1, 1) := by decide +kernel
theorem dX5_dews_5 : decode cX5_dews 5 = .ok (.invokevirtual 93, 3) := by decide +kernel
theorem dX5_dews_8 : decode cX5_dews 8 = .ok (.ifCond .ne 5, 3) := by decide +kernel
theorem dX5_dews_11 : decode cX5_dews 11 = .ok (.iconst (-1), 1) := by decide +kernel
theorem dX5_dews_12 : decode cX5_dews 12 = .ok (.ireturn, 1) := by decide +kernel
theorem dX5_dews_13 : decode cX5_dews 13 = .ok (.iconst 0, 1) := by decide +kernel
theorem dX5_dews_14 : decode cX5_dews 14 = .ok (.istore_n 2, 1) := by decide +kernel
theorem dX5_dews_15 : decode cX5_dews 15 = .ok (.iconst 0, 1) := by decide +kernel
theorem dX5_dews_16 : decode cX5_dews 16 = .ok (.istore_n 3, 1) := by decide +kernel
theorem dX5_dews_17 : decode cX5_dews 17 = .ok (.iload_n 3, 1) := by decide +kernel
theorem dX5_dews_18 : decode cX5_dews 18 = .ok (.bipush 9, 2) := by decide +kernel
theorem dX5_dews_20 : decode cX5_dews 20 = .ok (.if_icmp .gt 49, 3) := by decide +kernel
theorem dX5_dews_23 : decode cX5_dews 23 = .ok (.aload_n 0, 1) := by decide +kernel
theorem dX5_dews_24 : decode cX5_dews 24 = .ok (.getfield 44, 3) := by decide +kernel
theorem dX5_dews_27 : decode cX5_dews 27 = .ok (.aload_n 0, 1) := by decide +kernel
theorem dX5_dews_28 : decode cX5_dews 28 = .ok (.getfield 20, 3) := by decide +kernel
theorem dX5_dews_31 : decode cX5_dews 31 = .ok (.iload_n 1, 1) := by decide +kernel
theorem dX5_dews_32 : decode cX5_dews 32 = .ok (.aload_n 0, 1) := by decide +kernel
theorem dX5_dews_33 : decode cX5_dews 33 = .ok (.getfield 20, 3) := by decide +kernel
theorem dX5_dews_36 : decode cX5_dews 36 = .ok (.getfield 96, 3) := by decide +kernel
theorem dX5_dews_39 : decode cX5_dews 39 = .ok (.iload_n 1, 1) := by decide +kernel
theorem dX5_dews_40 : decode cX5_dews 40 = .ok (.iaload, 1) := by decide +kernel
theorem dX5_dews_41 : decode cX5_dews 41 = .ok (.aload_n 0, 1) := by decide +kernel
theorem dX5_dews_42 : decode cX5_dews 42 = .ok (.getfield 20, 3) := by decide +kernel
theorem dX5_dews_45 : decode cX5_dews 45 = .ok (.getfield 103, 3) := by decide +kernel
theorem dX5_dews_48 : decode cX5_dews 48 = .ok (.iload_n 1, 1) := by decide +kernel
theorem dX5_dews_49 : decode cX5_dews 49 = .ok (.iaload, 1) := by decide +kernel
theorem dX5_dews_50 : decode cX5_dews 50 = .ok (.iload_n 3, 1) := by decide +kernel
theorem dX5_dews_51 : decode cX5_dews 51 = .ok (.invokevirtual 205, 3) := by decide +kernel
theorem dX5_dews_54 : decode cX5_dews 54 = .ok (.ifCond .eq 9, 3) := by decide +kernel
theorem dX5_dews_57 : decode cX5_dews 57 = .ok (.iload_n 2, 1) := by decide +kernel
theorem dX5_dews_58 : decode cX5_dews 58 = .ok (.iconst 1, 1) := by decide +kernel
theorem dX5_dews_59 : decode cX5_dews 59 = .ok (.iload_n 3, 1) := by decide +kernel
theorem dX5_dews_60 : decode cX5_dews 60 = .ok (.ishl, 1) := by decide +kernel
theorem dX5_dews_61 : decode cX5_dews 61 = .ok (.ior, 1) := by decide +kernel
theorem dX5_dews_62 : decode cX5_dews 62 = .ok (.istore_n 2, 1) := by decide +kernel
theorem dX5_dews_63 : decode cX5_dews 63 = .ok (.iinc 3 1, 3) := by decide +kernel
theorem dX5_dews_66 : decode cX5_dews 66 = .ok (.goto (-49), 3) := by decide +kernel
theorem dX5_dews_69 : decode cX5_dews 69 = .ok (.iload_n 2, 1) := by decide +kernel
theorem dX5_dews_70 : decode cX5_dews 70 = .ok (.ireturn, 1) := by decide +kernel
theorem dX5_kinds_0 : decode cX5_kinds 0 = .ok (.aload_n 0, 1) := by decide +kernel
theorem dX5_kinds_1 : decode cX5_kinds 1 = .ok (.getfield 20, 3) := by decide +kernel
theorem dX5_kinds_4 : decode cX5_kinds 4 = .ok (.iload_n 1, 1) := by decide +kernel
theorem dX5_kinds_5 : decode cX5_kinds 5 = .ok (.invokevirtual 93, 3) := by decide +kernel
theorem dX5_kinds_8 : decode cX5_kinds 8 = .ok (.ifCond .ne 5, 3) := by decide +kernel
theorem dX5_kinds_11 : decode cX5_kinds 11 = .ok (.iconst (-1), 1) := by decide +kernel
theorem dX5_kinds_12 : decode cX5_kinds 12 = .ok (.ireturn, 1) := by decide +kernel
theorem dX5_kinds_13 : decode cX5_kinds 13 = .ok (.iconst 0, 1) := by decide +kernel
theorem dX5_kinds_14 : decode cX5_kinds 14 = .ok (.istore_n 2, 1) := by decide +kernel
theorem dX5_kinds_15 : decode cX5_kinds 15 = .ok (.iconst 0, 1) := by decide +kernel
theorem dX5_kinds_16 : decode cX5_kinds 16 = .ok (.istore_n 3, 1) := by decide +kernel
theorem dX5_kinds_17 : decode cX5_kinds 17 = .ok (.iload_n 3, 1) := by decide +kernel
theorem dX5_kinds_18 : decode cX5_kinds 18 = .ok (.iconst 2, 1) := by decide +kernel
theorem dX5_kinds_19 : decode cX5_kinds 19 = .ok (.if_icmp .gt 49, 3) := by decide +kernel
theorem dX5_kinds_22 : decode cX5_kinds 22 = .ok (.aload_n 0, 1) := by decide +kernel
theorem dX5_kinds_23 : decode cX5_kinds 23 = .ok (.getfield 44, 3) := by decide +kernel
theorem dX5_kinds_26 : decode cX5_kinds 26 = .ok (.aload_n 0, 1) := by decide +kernel
theorem dX5_kinds_27 : decode cX5_kinds 27 = .ok (.getfield 20, 3) := by decide +kernel
theorem dX5_kinds_30 : decode cX5_kinds 30 = .ok (.iload_n 1, 1) := by decide +kernel
theorem dX5_kinds_31 : decode cX5_kinds 31 = .ok (.iload_n 3, 1) := by decide +kernel
theorem dX5_kinds_32 : decode cX5_kinds 32 = .ok (.aload_n 0, 1) := by decide +kernel
theorem dX5_kinds_33 : decode cX5_kinds 33 = .ok (.getfield 20, 3) := by decide +kernel
theorem dX5_kinds_36 : decode cX5_kinds 36 = .ok (.getfield 103, 3) := by decide +kernel
theorem dX5_kinds_39 : decode cX5_kinds 39 = .ok (.iload_n 1, 1) := by decide +kernel
theorem dX5_kinds_40 : decode cX5_kinds 40 = .ok (.iaload, 1) := by decide +kernel
theorem dX5_kinds_41 : decode cX5_kinds 41 = .ok (.aload_n 0, 1) := by decide +kernel
theorem dX5_kinds_42 : decode cX5_kinds 42 = .ok (.getfield 20, 3) := by decide +kernel
theorem dX5_kinds_45 : decode cX5_kinds 45 = .ok (.getfield 106, 3) := by decide +kernel
theorem dX5_kinds_48 : decode cX5_kinds 48 = .ok (.iload_n 1, 1) := by decide +kernel
theorem dX5_kinds_49 : decode cX5_kinds 49 = .ok (.iaload, 1) := by decide +kernel
theorem dX5_kinds_50 : decode cX5_kinds 50 = .ok (.invokevirtual 205, 3) := by decide +kernel
theorem dX5_kinds_53 : decode cX5_kinds 53 = .ok (.ifCond .eq 9, 3) := by decide +kernel
theorem dX5_kinds_56 : decode cX5_kinds 56 = .ok (.iload_n 2, 1) := by decide +kernel
theorem dX5_kinds_57 : decode cX5_kinds 57 = .ok (.iconst 1, 1) := by decide +kernel
theorem dX5_kinds_58 : decode cX5_kinds 58 = .ok (.iload_n 3, 1) := by decide +kernel
theorem dX5_kinds_59 : decode cX5_kinds 59 = .ok (.ishl, 1) := by decide +kernel
theorem dX5_kinds_60 : decode cX5_kinds 60 = .ok (.ior, 1) := by decide +kernel
theorem dX5_kinds_61 : decode cX5_kinds 61 = .ok (.istore_n 2, 1) := by decide +kernel
theorem dX5_kinds_62 : decode cX5_kinds 62 = .ok (.iinc 3 1, 3) := by decide +kernel
theorem dX5_kinds_65 : decode cX5_kinds 65 = .ok (.goto (-48), 3) := by decide +kernel
theorem dX5_kinds_68 : decode cX5_kinds 68 = .ok (.iload_n 2, 1) := by decide +kernel
theorem dX5_kinds_69 : decode cX5_kinds 69 = .ok (.ireturn, 1) := by decide +kernel
theorem dX5_takens_0 : decode cX5_takens 0 = .ok (.aload_n 0, 1) := by decide +kernel
theorem dX5_takens_1 : decode cX5_takens 1 = .ok (.getfield 20, 3) := by decide +kernel
theorem dX5_takens_4 : decode cX5_takens 4 = .ok (.iload_n 1, 1) := by decide +kernel
theorem dX5_takens_5 : decode cX5_takens 5 = .ok (.invokevirtual 93, 3) := by decide +kernel
theorem dX5_takens_8 : decode cX5_takens 8 = .ok (.ifCond .ne 5, 3) := by decide +kernel
theorem dX5_takens_11 : decode cX5_takens 11 = .ok (.iconst (-1), 1) := by decide +kernel
theorem dX5_takens_12 : decode cX5_takens 12 = .ok (.ireturn, 1) := by decide +kernel
theorem dX5_takens_13 : decode cX5_takens 13 = .ok (.iconst 0, 1) := by decide +kernel
theorem dX5_takens_14 : decode cX5_takens 14 = .ok (.istore_n 2, 1) := by decide +kernel
theorem dX5_takens_15 : decode cX5_takens 15 = .ok (.iconst 0, 1) := by decide +kernel
theorem dX5_takens_16 : decode cX5_takens 16 = .ok (.istore_n 3, 1) := by decide +kernel
theorem dX5_takens_17 : decode cX5_takens 17 = .ok (.iload_n 3, 1) := by decide +kernel
theorem dX5_takens_18 : decode cX5_takens 18 = .ok (.bipush 9, 2) := by decide +kernel
theorem dX5_takens_20 : decode cX5_takens 20 = .ok (.if_icmp .gt 49, 3) := by decide +kernel
theorem dX5_takens_23 : decode cX5_takens 23 = .ok (.aload_n 0, 1) := by decide +kernel
theorem dX5_takens_24 : decode cX5_takens 24 = .ok (.getfield 44, 3) := by decide +kernel
theorem dX5_takens_27 : decode cX5_takens 27 = .ok (.aload_n 0, 1) := by decide +kernel
theorem dX5_takens_28 : decode cX5_takens 28 = .ok (.getfield 20, 3) := by decide +kernel
theorem dX5_takens_31 : decode cX5_takens 31 = .ok (.iload_n 1, 1) := by decide +kernel
theorem dX5_takens_32 : decode cX5_takens 32 = .ok (.aload_n 0, 1) := by decide +kernel
theorem dX5_takens_33 : decode cX5_takens 33 = .ok (.getfield 20, 3) := by decide +kernel
theorem dX5_takens_36 : decode cX5_takens 36 = .ok (.getfield 96, 3) := by decide +kernel
theorem dX5_takens_39 : decode cX5_takens 39 = .ok (.iload_n 1, 1) := by decide +kernel
theorem dX5_takens_40 : decode cX5_takens 40 = .ok (.iaload, 1) := by decide +kernel
theorem dX5_takens_41 : decode cX5_takens 41 = .ok (.iload_n 3, 1) := by decide +kernel
theorem dX5_takens_42 : decode cX5_takens 42 = .ok (.aload_n 0, 1) := by decide +kernel
theorem dX5_takens_43 : decode cX5_takens 43 = .ok (.getfield 20, 3) := by decide +kernel
theorem dX5_takens_46 : decode cX5_takens 46 = .ok (.getfield 106, 3) := by decide +kernel
theorem dX5_takens_49 : decode cX5_takens 49 = .ok (.iload_n 1, 1) := by decide +kernel
theorem dX5_takens_50 : decode cX5_takens 50 = .ok (.iaload, 1) := by decide +kernel
theorem dX5_takens_51 : decode cX5_takens 51 = .ok (.invokevirtual 205, 3) := by decide +kernel
theorem dX5_takens_54 : decode cX5_takens 54 = .ok (.ifCond .eq 9, 3) := by decide +kernel
theorem dX5_takens_57 : decode cX5_takens 57 = .ok (.iload_n 2, 1) := by decide +kernel
theorem dX5_takens_58 : decode cX5_takens 58 = .ok (.iconst 1, 1) := by decide +kernel
theorem dX5_takens_59 : decode cX5_takens 59 = .ok (.iload_n 3, 1) := by decide +kernel
theorem dX5_takens_60 : decode cX5_takens 60 = .ok (.ishl, 1) := by decide +kernel
theorem dX5_takens_61 : decode cX5_takens 61 = .ok (.ior, 1) := by decide +kernel
theorem dX5_takens_62 : decode cX5_takens 62 = .ok (.istore_n 2, 1) := by decide +kernel
theorem dX5_takens_63 : decode cX5_takens 63 = .ok (.iinc 3 1, 3) := by decide +kernel
theorem dX5_takens_66 : decode cX5_takens 66 = .ok (.goto (-49), 3) := by decide +kernel
theorem dX5_takens_69 : decode cX5_takens 69 = .ok (.iload_n 2, 1) := by decide +kernel
theorem dX5_takens_70 : decode cX5_takens 70 = .ok (.ireturn, 1) := by decide +kernel
theorem dX5_odds_0 : decode cX5_odds 0 = .ok (.aload_n 0, 1) := by decide +kernel
theorem dX5_odds_1 : decode cX5_odds 1 = .ok (.getfield 20, 3) := by decide +kernel
theorem dX5_odds_4 : decode cX5_odds 4 = .ok (.iload_n 1, 1) := by decide +kernel
theorem dX5_odds_5 : decode cX5_odds 5 = .ok (.invokevirtual 112, 3) := by decide +kernel
theorem dX5_odds_8 : decode cX5_odds 8 = .ok (.ifCond .ne 7, 3) := by decide +kernel
theorem dX5_odds_11 : decode cX5_odds 11 = .ok (.ldc2_w 209, 3) := by decide +kernel
theorem dX5_odds_14 : decode cX5_odds 14 = .ok (.lreturn, 1) := by decide +kernel
theorem dX5_odds_15 : decode cX5_odds 15 = .ok (.iload_n 2, 1) := by decide +kernel
theorem dX5_odds_16 : decode cX5_odds 16 = .ok (.ifCond .lt 18, 3) := by decide +kernel
theorem dX5_odds_19 : decode cX5_odds 19 = .ok (.iload_n 2, 1) := by decide +kernel
theorem dX5_odds_20 : decode cX5_odds 20 = .ok (.bipush 99, 2) := by decide +kernel
theorem dX5_odds_22 : decode cX5_odds 22 = .ok (.if_icmp .gt 12, 3) := by decide +kernel
theorem dX5_odds_25 : decode cX5_odds 25 = .ok (.iload_n 3, 1) := by decide +kernel
theorem dX5_odds_26 : decode cX5_odds 26 = .ok (.ifCond .lt 8, 3) := by decide +kernel
theorem dX5_odds_29 : decode cX5_odds 29 = .ok (.iload_n 3, 1) := by decide +kernel
theorem dX5_odds_30 : decode cX5_odds 30 = .ok (.iconst 1, 1) := by decide +kernel
theorem dX5_odds_31 : decode cX5_odds 31 = .ok (.if_icmp .le 7, 3) := by decide +kernel
theorem dX5_odds_34 : decode cX5_odds 34 = .ok (.ldc2_w 209, 3) := by decide +kernel
theorem dX5_odds_37 : decode cX5_odds 37 = .ok (.lreturn, 1) := by decide +kernel
theorem dX5_odds_38 : decode cX5_odds 38 = .ok (.aload_n 0, 1) := by decide +kernel
theorem dX5_odds_39 : decode cX5_odds 39 = .ok (.getfield 20, 3) := by decide +kernel
theorem dX5_odds_42 : decode cX5_odds 42 = .ok (.iload_n 1, 1) := by decide +kernel
theorem dX5_odds_43 : decode cX5_odds 43 = .ok (.invokevirtual 121, 3) := by decide +kernel
theorem dX5_odds_46 : decode cX5_odds 46 = .ok (.istore 4, 2) := by decide +kernel
theorem dX5_odds_48 : decode cX5_odds 48 = .ok (.iconst 0, 1) := by decide +kernel
theorem dX5_odds_49 : decode cX5_odds 49 = .ok (.istore 5, 2) := by decide +kernel
theorem dX5_odds_51 : decode cX5_odds 51 = .ok (.iconst 0, 1) := by decide +kernel
theorem dX5_odds_52 : decode cX5_odds 52 = .ok (.istore 6, 2) := by decide +kernel
theorem dX5_odds_54 : decode cX5_odds 54 = .ok (.iconst 0, 1) := by decide +kernel
theorem dX5_odds_55 : decode cX5_odds 55 = .ok (.istore 7, 2) := by decide +kernel
theorem dX5_odds_57 : decode cX5_odds 57 = .ok (.iload 7, 2) := by decide +kernel
theorem dX5_odds_59 : decode cX5_odds 59 = .ok (.bipush 64, 2) := by decide +kernel
theorem dX5_odds_61 : decode cX5_odds 61 = .ok (.if_icmp .ge 39, 3) := by decide +kernel
theorem dX5_odds_64 : decode cX5_odds 64 = .ok (.iload 7, 2) := by decide +kernel
theorem dX5_odds_66 : decode cX5_odds 66 = .ok (.iload 4, 2) := by decide +kernel
theorem dX5_odds_68 : decode cX5_odds 68 = .ok (.invokestatic 211, 3) := by decide +kernel
theorem dX5_odds_71 : decode cX5_odds 71 = .ok (.ifCond .eq 23, 3) := by decide +kernel
theorem dX5_odds_74 : decode cX5_odds 74 = .ok (.iinc 6 1, 3) := by decide +kernel
theorem dX5_odds_77 : decode cX5_odds 77 = .ok (.aload_n 0, 1) := by decide +kernel
theorem dX5_odds_78 : decode cX5_odds 78 = .ok (.getfield 20, 3) := by decide +kernel
theorem dX5_odds_81 : decode cX5_odds 81 = .ok (.iload_n 1, 1) := by decide +kernel
theorem dX5_odds_82 : decode cX5_odds 82 = .ok (.iload 7, 2) := by decide +kernel
theorem dX5_odds_84 : decode cX5_odds 84 = .ok (.invokevirtual 176, 3) := by decide +kernel
theorem dX5_odds_87 : decode cX5_odds 87 = .ok (.iload_n 2, 1) := by decide +kernel
theorem dX5_odds_88 : decode cX5_odds 88 = .ok (.if_icmp .lt 6, 3) := by decide +kernel
theorem dX5_odds_91 : decode cX5_odds 91 = .ok (.iinc 5 1, 3) := by decide +kernel
theorem dX5_odds_94 : decode cX5_odds 94 = .ok (.iinc 7 1, 3) := by decide +kernel
theorem dX5_odds_97 : decode cX5_odds 97 = .ok (.goto (-40), 3) := by decide +kernel
theorem dX5_odds_100 : decode cX5_odds 100 = .ok (.iload 6, 2) := by decide +kernel
theorem dX5_odds_102 : decode cX5_odds 102 = .ok (.iconst 1, 1) := by decide +kernel
theorem dX5_odds_103 : decode cX5_odds 103 = .ok (.if_icmp .le 25, 3) := by decide +kernel
theorem dX5_odds_106 : decode cX5_odds 106 = .ok (.iload 5, 2) := by decide +kernel
theorem dX5_odds_108 : decode cX5_odds 108 = .ok (.iconst 2, 1) := by decide +kernel
theorem dX5_odds_109 : decode cX5_odds 109 = .ok (.irem, 1) := by decide +kernel
theorem dX5_odds_110 : decode cX5_odds 110 = .ok (.ifCond .ne 18, 3) := by decide +kernel
theorem dX5_odds_113 : decode cX5_odds 113 = .ok (.iload 5, 2) := by decide +kernel
theorem dX5_odds_115 : decode cX5_odds 115 = .ok (.iconst 2, 1) := by decide +kernel
theorem dX5_odds_116 : decode cX5_odds 116 = .ok (.idiv, 1) := by decide +kernel
theorem dX5_odds_117 : decode cX5_odds 117 = .ok (.istore 5, 2) := by decide +kernel
theorem dX5_odds_119 : decode cX5_odds 119 = .ok (.iload 6, 2) := by decide +kernel
theorem dX5_odds_121 : decode cX5_odds 121 = .ok (.iconst 2, 1) := by decide +kernel
theorem dX5_odds_122 : decode cX5_odds 122 = .ok (.idiv, 1) := by decide +kernel
theorem dX5_odds_123 : decode cX5_odds 123 = .ok (.istore 6, 2) := by decide +kernel
theorem dX5_odds_125 : decode cX5_odds 125 = .ok (.goto (-25), 3) := by decide +kernel
theorem dX5_odds_128 : decode cX5_odds 128 = .ok (.iload_n 3, 1) := by decide +kernel
theorem dX5_odds_129 : decode cX5_odds 129 = .ok (.ifCond .ne 9, 3) := by decide +kernel
theorem dX5_odds_132 : decode cX5_odds 132 = .ok (.iload 5, 2) := by decide +kernel
theorem dX5_odds_134 : decode cX5_odds 134 = .ok (.i2l, 1) := by decide +kernel
theorem dX5_odds_135 : decode cX5_odds 135 = .ok (.goto 6, 3) := by decide +kernel
theorem dX5_odds_138 : decode cX5_odds 138 = .ok (.iload 6, 2) := by decide +kernel
theorem dX5_odds_140 : decode cX5_odds 140 = .ok (.i2l, 1) := by decide +kernel
theorem dX5_odds_141 : decode cX5_odds 141 = .ok (.lreturn, 1) := by decide +kernel
theorem dX5_sheet_0 : decode cX5_sheet 0 = .ok (.aload_n 0, 1) := by decide +kernel
theorem dX5_sheet_1 : decode cX5_sheet 1 = .ok (.iconst 0, 1) := by decide +kernel
theorem dX5_sheet_2 : decode cX5_sheet 2 = .ok (.putfield 52, 3) := by decide +kernel
theorem dX5_sheet_5 : decode cX5_sheet 5 = .ok (.aload_n 0, 1) := by decide +kernel
theorem dX5_sheet_6 : decode cX5_sheet 6 = .ok (.iload_n 1, 1) := by decide +kernel
theorem dX5_sheet_7 : decode cX5_sheet 7 = .ok (.invokevirtual 56, 3) := by decide +kernel
theorem dX5_sheet_10 : decode cX5_sheet 10 = .ok (.astore 4, 2) := by decide +kernel
theorem dX5_sheet_12 : decode cX5_sheet 12 = .ok (.aload 4, 2) := by decide +kernel
theorem dX5_sheet_14 : decode cX5_sheet 14 = .ok (.ifnonnull 5, 3) := by decide +kernel
theorem dX5_sheet_17 : decode cX5_sheet 17 = .ok (.iconst (-1), 1) := by decide +kernel
theorem dX5_sheet_18 : decode cX5_sheet 18 = .ok (.ireturn, 1) := by decide +kernel
theorem dX5_sheet_19 : decode cX5_sheet 19 = .ok (.iload_n 2, 1) := by decide +kernel
theorem dX5_sheet_20 : decode cX5_sheet 20 = .ok (.invokestatic 60, 3) := by decide +kernel
theorem dX5_sheet_23 : decode cX5_sheet 23 = .ok (.ifCond .eq 9, 3) := by decide +kernel
theorem dX5_sheet_26 : decode cX5_sheet 26 = .ok (.iload_n 3, 1) := by decide +kernel
theorem dX5_sheet_27 : decode cX5_sheet 27 = .ok (.bipush 60, 2) := by decide +kernel
theorem dX5_sheet_29 : decode cX5_sheet 29 = .ok (.if_icmp .le 6, 3) := by decide +kernel
theorem dX5_sheet_32 : decode cX5_sheet 32 = .ok (.bipush (-2), 2) := by decide +kernel
theorem dX5_sheet_34 : decode cX5_sheet 34 = .ok (.ireturn, 1) := by decide +kernel
theorem dX5_sheet_35 : decode cX5_sheet 35 = .ok (.iload_n 3, 1) := by decide +kernel
theorem dX5_sheet_36 : decode cX5_sheet 36 = .ok (.ifCond .ge 9, 3) := by decide +kernel
theorem dX5_sheet_39 : decode cX5_sheet 39 = .ok (.aload_n 0, 1) := by decide +kernel
theorem dX5_sheet_40 : decode cX5_sheet 40 = .ok (.iconst 4, 1) := by decide +kernel
theorem dX5_sheet_41 : decode cX5_sheet 41 = .ok (.invokevirtual 67, 3) := by decide +kernel
theorem dX5_sheet_44 : decode cX5_sheet 44 = .ok (.ireturn, 1) := by decide +kernel
theorem dX5_sheet_45 : decode cX5_sheet 45 = .ok (.aload 4, 2) := by decide +kernel
theorem dX5_sheet_47 : decode cX5_sheet 47 = .ok (.iload_n 2, 1) := by decide +kernel
theorem dX5_sheet_48 : decode cX5_sheet 48 = .ok (.iload_n 3, 1) := by decide +kernel
theorem dX5_sheet_49 : decode cX5_sheet 49 = .ok (.invokevirtual 214, 3) := by decide +kernel
theorem dX5_sheet_52 : decode cX5_sheet 52 = .ok (.iconst 1, 1) := by decide +kernel
theorem dX5_sheet_53 : decode cX5_sheet 53 = .ok (.ireturn, 1) := by decide +kernel
theorem dX5_lose_0 : decode cX5_lose 0 = .ok (.aload_n 0, 1) := by decide +kernel
theorem dX5_lose_1 : decode cX5_lose 1 = .ok (.iload_n 1, 1) := by decide +kernel
theorem dX5_lose_2 : decode cX5_lose 2 = .ok (.invokevirtual 56, 3) := by decide +kernel
theorem dX5_lose_5 : decode cX5_lose 5 = .ok (.astore_n 2, 1) := by decide +kernel
theorem dX5_lose_6 : decode cX5_lose 6 = .ok (.aload_n 2, 1) := by decide +kernel
theorem dX5_lose_7 : decode cX5_lose 7 = .ok (.ifnonnull 5, 3) := by decide +kernel
theorem dX5_lose_10 : decode cX5_lose 10 = .ok (.iconst (-1), 1) := by decide +kernel
theorem dX5_lose_11 : decode cX5_lose 11 = .ok (.ireturn, 1) := by decide +kernel
theorem dX5_lose_12 : decode cX5_lose 12 = .ok (.aload_n 2, 1) := by decide +kernel
theorem dX5_lose_13 : decode cX5_lose 13 = .ok (.invokevirtual 71, 3) := by decide +kernel
theorem dX5_lose_16 : decode cX5_lose 16 = .ok (.ifCond .eq 7, 3) := by decide +kernel
theorem dX5_lose_19 : decode cX5_lose 19 = .ok (.iconst 1, 1) := by decide +kernel
theorem dX5_lose_20 : decode cX5_lose 20 = .ok (.goto 4, 3) := by decide +kernel
theorem dX5_lose_23 : decode cX5_lose 23 = .ok (.iconst 0, 1) := by decide +kernel
theorem dX5_lose_24 : decode cX5_lose 24 = .ok (.istore_n 3, 1) := by decide +kernel
theorem dX5_lose_25 : decode cX5_lose 25 = .ok (.aload_n 2, 1) := by decide +kernel
theorem dX5_lose_26 : decode cX5_lose 26 = .ok (.iconst (-1), 1) := by decide +kernel
theorem dX5_lose_27 : decode cX5_lose 27 = .ok (.putfield 218, 3) := by decide +kernel
theorem dX5_lose_30 : decode cX5_lose 30 = .ok (.iload_n 3, 1) := by decide +kernel
theorem dX5_lose_31 : decode cX5_lose 31 = .ok (.ireturn, 1) := by decide +kernel
theorem dX5_put_0 : decode cX5_put 0 = .ok (.aload_n 0, 1) := by decide +kernel
theorem dX5_put_1 : decode cX5_put 1 = .ok (.iconst 0, 1) := by decide +kernel
theorem dX5_put_2 : decode cX5_put 2 = .ok (.putfield 52, 3) := by decide +kernel
theorem dX5_put_5 : decode cX5_put 5 = .ok (.aload_n 0, 1) := by decide +kernel
theorem dX5_put_6 : decode cX5_put 6 = .ok (.iload_n 1, 1) := by decide +kernel
theorem dX5_put_7 : decode cX5_put 7 = .ok (.invokevirtual 56, 3) := by decide +kernel
theorem dX5_put_10 : decode cX5_put 10 = .ok (.astore 4, 2) := by decide +kernel
theorem dX5_put_12 : decode cX5_put 12 = .ok (.aload 4, 2) := by decide +kernel
theorem dX5_put_14 : decode cX5_put 14 = .ok (.ifnonnull 5, 3) := by decide +kernel
theorem dX5_put_17 : decode cX5_put 17 = .ok (.iconst (-1), 1) := by decide +kernel
theorem dX5_put_18 : decode cX5_put 18 = .ok (.ireturn, 1) := by decide +kernel
theorem dX5_put_19 : decode cX5_put 19 = .ok (.aload 4, 2) := by decide +kernel
theorem dX5_put_21 : decode cX5_put 21 = .ok (.invokevirtual 71, 3) := by decide +kernel
theorem dX5_put_24 : decode cX5_put 24 = .ok (.ifCond .ne 9, 3) := by decide +kernel
theorem dX5_put_27 : decode cX5_put 27 = .ok (.aload_n 0, 1) := by decide +kernel
theorem dX5_put_28 : decode cX5_put 28 = .ok (.iconst 1, 1) := by decide +kernel
theorem dX5_put_29 : decode cX5_put 29 = .ok (.invokevirtual 67, 3) := by decide +kernel
theorem dX5_put_32 : decode cX5_put 32 = .ok (.ireturn, 1) := by decide +kernel
theorem dX5_put_33 : decode cX5_put 33 = .ok (.aload 4, 2) := by decide +kernel
theorem dX5_put_35 : decode cX5_put 35 = .ok (.iload_n 2, 1) := by decide +kernel
theorem dX5_put_36 : decode cX5_put 36 = .ok (.iconst 1, 1) := by decide +kernel
theorem dX5_put_37 : decode cX5_put 37 = .ok (.invokevirtual 75, 3) := by decide +kernel
theorem dX5_put_40 : decode cX5_put 40 = .ok (.ifCond .ne 9, 3) := by decide +kernel
theorem dX5_put_43 : decode cX5_put 43 = .ok (.aload_n 0, 1) := by decide +kernel
theorem dX5_put_44 : decode cX5_put 44 = .ok (.iconst 3, 1) := by decide +kernel
theorem dX5_put_45 : decode cX5_put 45 = .ok (.invokevirtual 67, 3) := by decide +kernel
theorem dX5_put_48 : decode cX5_put 48 = .ok (.ireturn, 1) := by decide +kernel
theorem dX5_put_49 : decode cX5_put 49 = .ok (.aload 4, 2) := by decide +kernel
theorem dX5_put_51 : decode cX5_put 51 = .ok (.getfield 221, 3) := by decide +kernel
theorem dX5_put_54 : decode cX5_put 54 = .ok (.iload_n 2, 1) := by decide +kernel
theorem dX5_put_55 : decode cX5_put 55 = .ok (.aload 4, 2) := by decide +kernel
theorem dX5_put_57 : decode cX5_put 57 = .ok (.iload_n 3, 1) := by decide +kernel
theorem dX5_put_58 : decode cX5_put 58 = .ok (.invokevirtual 224, 3) := by decide +kernel
theorem dX5_put_61 : decode cX5_put 61 = .ok (.iastore, 1) := by decide +kernel
theorem dX5_put_62 : decode cX5_put 62 = .ok (.iconst 1, 1) := by decide +kernel
theorem dX5_put_63 : decode cX5_put 63 = .ok (.ireturn, 1) := by decide +kernel
theorem dX5_cell_0 : decode cX5_cell 0 = .ok (.aload_n 0, 1) := by decide +kernel
theorem dX5_cell_1 : decode cX5_cell 1 = .ok (.iconst 0, 1) := by decide +kernel
theorem dX5_cell_2 : decode cX5_cell 2 = .ok (.putfield 52, 3) := by decide +kernel
theorem dX5_cell_5 : decode cX5_cell 5 = .ok (.aload_n 0, 1) := by decide +kernel
theorem dX5_cell_6 : decode cX5_cell 6 = .ok (.iload_n 1, 1) := by decide +kernel
theorem dX5_cell_7 : decode cX5_cell 7 = .ok (.invokevirtual 56, 3) := by decide +kernel
theorem dX5_cell_10 : decode cX5_cell 10 = .ok (.astore 4, 2) := by decide +kernel
theorem dX5_cell_12 : decode cX5_cell 12 = .ok (.aload 4, 2) := by decide +kernel
theorem dX5_cell_14 : decode cX5_cell 14 = .ok (.ifnull 10, 3) := by decide +kernel
theorem dX5_cell_17 : decode cX5_cell 17 = .ok (.iload_n 3, 1) := by decide +kernel
theorem dX5_cell_18 : decode cX5_cell 18 = .ok (.invokestatic 60, 3) := by decide +kernel
theorem dX5_cell_21 : decode cX5_cell 21 = .ok (.ifCond .ne 7, 3) := by decide +kernel
theorem dX5_cell_24 : decode cX5_cell 24 = .ok (.ldc2_w 209, 3) := by decide +kernel
theorem dX5_cell_27 : decode cX5_cell 27 = .ok (.lreturn, 1) := by decide +kernel
theorem dX5_cell_28 : decode cX5_cell 28 = .ok (.aload 4, 2) := by decide +kernel
theorem dX5_cell_30 : decode cX5_cell 30 = .ok (.iload_n 3, 1) := by decide +kernel
theorem dX5_cell_31 : decode cX5_cell 31 = .ok (.invokevirtual 64, 3) := by decide +kernel
theorem dX5_cell_34 : decode cX5_cell 34 = .ok (.ifCond .eq 9, 3) := by decide +kernel
theorem dX5_cell_37 : decode cX5_cell 37 = .ok (.aload_n 0, 1) := by decide +kernel
theorem dX5_cell_38 : decode cX5_cell 38 = .ok (.iconst 2, 1) := by decide +kernel
theorem dX5_cell_39 : decode cX5_cell 39 = .ok (.invokevirtual 227, 3) := by decide +kernel
theorem dX5_cell_42 : decode cX5_cell 42 = .ok (.lreturn, 1) := by decide +kernel
theorem dX5_cell_43 : decode cX5_cell 43 = .ok (.aload 4, 2) := by decide +kernel
theorem dX5_cell_45 : decode cX5_cell 45 = .ok (.invokevirtual 71, 3) := by decide +kernel
theorem dX5_cell_48 : decode cX5_cell 48 = .ok (.ifCond .ne 9, 3) := by decide +kernel
theorem dX5_cell_51 : decode cX5_cell 51 = .ok (.aload_n 0, 1) := by decide +kernel
theorem dX5_cell_52 : decode cX5_cell 52 = .ok (.iconst 1, 1) := by decide +kernel
theorem dX5_cell_53 : decode cX5_cell 53 = .ok (.invokevirtual 227, 3) := by decide +kernel
theorem dX5_cell_56 : decode cX5_cell 56 = .ok (.lreturn, 1) := by decide +kernel
theorem dX5_cell_57 : decode cX5_cell 57 = .ok (.aload 4, 2) := by decide +kernel
theorem dX5_cell_59 : decode cX5_cell 59 = .ok (.iload_n 2, 1) := by decide +kernel
theorem dX5_cell_60 : decode cX5_cell 60 = .ok (.iconst 1, 1) := by decide +kernel
theorem dX5_cell_61 : decode cX5_cell 61 = .ok (.invokevirtual 75, 3) := by decide +kernel
theorem dX5_cell_64 : decode cX5_cell 64 = .ok (.ifCond .ne 9, 3) := by decide +kernel
theorem dX5_cell_67 : decode cX5_cell 67 = .ok (.aload_n 0, 1) := by decide +kernel
theorem dX5_cell_68 : decode cX5_cell 68 = .ok (.iconst 3, 1) := by decide +kernel
theorem dX5_cell_69 : decode cX5_cell 69 = .ok (.invokevirtual 227, 3) := by decide +kernel
theorem dX5_cell_72 : decode cX5_cell 72 = .ok (.lreturn, 1) := by decide +kernel
theorem dX5_cell_73 : decode cX5_cell 73 = .ok (.aload 4, 2) := by decide +kernel
theorem dX5_cell_75 : decode cX5_cell 75 = .ok (.getfield 221, 3) := by decide +kernel
theorem dX5_cell_78 : decode cX5_cell 78 = .ok (.iload_n 2, 1) := by decide +kernel
theorem dX5_cell_79 : decode cX5_cell 79 = .ok (.iaload, 1) := by decide +kernel
theorem dX5_cell_80 : decode cX5_cell 80 = .ok (.i2l, 1) := by decide +kernel
theorem dX5_cell_81 : decode cX5_cell 81 = .ok (.lreturn, 1) := by decide +kernel
theorem dX5_copy_0 : decode cX5_copy 0 = .ok (.aload_n 0, 1) := by decide +kernel
theorem dX5_copy_1 : decode cX5_copy 1 = .ok (.iconst 0, 1) := by decide +kernel
theorem dX5_copy_2 : decode cX5_copy 2 = .ok (.putfield 52, 3) := by decide +kernel
theorem dX5_copy_5 : decode cX5_copy 5 = .ok (.aload_n 0, 1) := by decide +kernel
theorem dX5_copy_6 : decode cX5_copy 6 = .ok (.iload_n 1, 1) := by decide +kernel
theorem dX5_copy_7 : decode cX5_copy 7 = .ok (.invokevirtual 56, 3) := by decide +kernel
theorem dX5_copy_10 : decode cX5_copy 10 = .ok (.astore 6, 2) := by decide +kernel
theorem dX5_copy_12 : decode cX5_copy 12 = .ok (.aload_n 0, 1) := by decide +kernel
theorem dX5_copy_13 : decode cX5_copy 13 = .ok (.iload_n 3, 1) := by decide +kernel
theorem dX5_copy_14 : decode cX5_copy 14 = .ok (.invokevirtual 56, 3) := by decide +kernel
theorem dX5_copy_17 : decode cX5_copy 17 = .ok (.astore 7, 2) := by decide +kernel
theorem dX5_copy_19 : decode cX5_copy 19 = .ok (.aload 6, 2) := by decide +kernel
theorem dX5_copy_21 : decode cX5_copy 21 = .ok (.ifnull 8, 3) := by decide +kernel
theorem dX5_copy_24 : decode cX5_copy 24 = .ok (.aload 7, 2) := by decide +kernel
theorem dX5_copy_26 : decode cX5_copy 26 = .ok (.ifnonnull 5, 3) := by decide +kernel
theorem dX5_copy_29 : decode cX5_copy 29 = .ok (.iconst (-1), 1) := by decide +kernel
theorem dX5_copy_30 : decode cX5_copy 30 = .ok (.ireturn, 1) := by decide +kernel
theorem dX5_copy_31 : decode cX5_copy 31 = .ok (.aload 6, 2) := by decide +kernel
theorem dX5_copy_33 : decode cX5_copy 33 = .ok (.invokevirtual 71, 3) := by decide +kernel
theorem dX5_copy_36 : decode cX5_copy 36 = .ok (.ifCond .eq 11, 3) := by decide +kernel
theorem dX5_copy_39 : decode cX5_copy 39 = .ok (.aload 7, 2) := by decide +kernel
theorem dX5_copy_41 : decode cX5_copy 41 = .ok (.invokevirtual 71, 3) := by decide +kernel
theorem dX5_copy_44 : decode cX5_copy 44 = .ok (.ifCond .ne 9, 3) := by decide +kernel
theorem dX5_copy_47 : decode cX5_copy 47 = .ok (.aload_n 0, 1) := by decide +kernel
theorem dX5_copy_48 : decode cX5_copy 48 = .ok (.iconst 1, 1) := by decide +kernel
theorem dX5_copy_49 : decode cX5_copy 49 = .ok (.invokevirtual 67, 3) := by decide +kernel
theorem dX5_copy_52 : decode cX5_copy 52 = .ok (.ireturn, 1) := by decide +kernel
theorem dX5_copy_53 : decode cX5_copy 53 = .ok (.aload 6, 2) := by decide +kernel
theorem dX5_copy_55 : decode cX5_copy 55 = .ok (.getfield 231, 3) := by decide +kernel
theorem dX5_copy_58 : decode cX5_copy 58 = .ok (.aload 7, 2) := by decide +kernel
theorem dX5_copy_60 : decode cX5_copy 60 = .ok (.getfield 231, 3) := by decide +kernel
theorem dX5_copy_63 : decode cX5_copy 63 = .ok (.if_icmp .eq 9, 3) := by decide +kernel
theorem dX5_copy_66 : decode cX5_copy 66 = .ok (.aload_n 0, 1) := by decide +kernel
theorem dX5_copy_67 : decode cX5_copy 67 = .ok (.iconst 2, 1) := by decide +kernel
theorem dX5_copy_68 : decode cX5_copy 68 = .ok (.invokevirtual 67, 3) := by decide +kernel
theorem dX5_copy_71 : decode cX5_copy 71 = .ok (.ireturn, 1) := by decide +kernel
theorem dX5_copy_72 : decode cX5_copy 72 = .ok (.aload 6, 2) := by decide +kernel
theorem dX5_copy_74 : decode cX5_copy 74 = .ok (.iload_n 2, 1) := by decide +kernel
theorem dX5_copy_75 : decode cX5_copy 75 = .ok (.iload 5, 2) := by decide +kernel
theorem dX5_copy_77 : decode cX5_copy 77 = .ok (.invokevirtual 75, 3) := by decide +kernel
theorem dX5_copy_80 : decode cX5_copy 80 = .ok (.ifCond .eq 15, 3) := by decide +kernel
theorem dX5_copy_83 : decode cX5_copy 83 = .ok (.aload 7, 2) := by decide +kernel
theorem dX5_copy_85 : decode cX5_copy 85 = .ok (.iload 4, 2) := by decide +kernel
theorem dX5_copy_87 : decode cX5_copy 87 = .ok (.iload 5, 2) := by decide +kernel
theorem dX5_copy_89 : decode cX5_copy 89 = .ok (.invokevirtual 75, 3) := by decide +kernel
theorem dX5_copy_92 : decode cX5_copy 92 = .ok (.ifCond .ne 9, 3) := by decide +kernel
theorem dX5_copy_95 : decode cX5_copy 95 = .ok (.aload_n 0, 1) := by decide +kernel
theorem dX5_copy_96 : decode cX5_copy 96 = .ok (.iconst 3, 1) := by decide +kernel
theorem dX5_copy_97 : decode cX5_copy 97 = .ok (.invokevirtual 67, 3) := by decide +kernel
theorem dX5_copy_100 : decode cX5_copy 100 = .ok (.ireturn, 1) := by decide +kernel
theorem dX5_copy_101 : decode cX5_copy 101 = .ok (.aload 6, 2) := by decide +kernel
theorem dX5_copy_103 : decode cX5_copy 103 = .ok (.getfield 221, 3) := by decide +kernel
theorem dX5_copy_106 : decode cX5_copy 106 = .ok (.iload_n 2, 1) := by decide +kernel
theorem dX5_copy_107 : decode cX5_copy 107 = .ok (.aload 7, 2) := by decide +kernel
theorem dX5_copy_109 : decode cX5_copy 109 = .ok (.getfield 221, 3) := by decide +kernel
theorem dX5_copy_112 : decode cX5_copy 112 = .ok (.iload 4, 2) := by decide +kernel
theorem dX5_copy_114 : decode cX5_copy 114 = .ok (.iload 5, 2) := by decide +kernel
theorem dX5_copy_116 : decode cX5_copy 116 = .ok (.invokestatic 234, 3) := by decide +kernel
theorem dX5_copy_119 : decode cX5_copy 119 = .ok (.iload 5, 2) := by decide +kernel
theorem dX5_copy_121 : decode cX5_copy 121 = .ok (.ireturn, 1) := by decide +kernel
theorem dX5_tell_0 : decode cX5_tell 0 = .ok (.aload_n 0, 1) := by decide +kernel
theorem dX5_tell_1 : decode cX5_tell 1 = .ok (.getfield 20, 3) := by decide +kernel
theorem dX5_tell_4 : decode cX5_tell 4 = .ok (.iload_n 1, 1) := by decide +kernel
theorem dX5_tell_5 : decode cX5_tell 5 = .ok (.invokevirtual 93, 3) := by decide +kernel
theorem dX5_tell_8 : decode cX5_tell 8 = .ok (.ifCond .ne 5, 3) := by decide +kernel
theorem dX5_tell_11 : decode cX5_tell 11 = .ok (.iconst (-1), 1) := by decide +kernel
theorem dX5_tell_12 : decode cX5_tell 12 = .ok (.ireturn, 1) := by decide +kernel
theorem dX5_tell_13 : decode cX5_tell 13 = .ok (.aload_n 0, 1) := by decide +kernel
theorem dX5_tell_14 : decode cX5_tell 14 = .ok (.getfield 20, 3) := by decide +kernel
theorem dX5_tell_17 : decode cX5_tell 17 = .ok (.getfield 96, 3) := by decide +kernel
theorem dX5_tell_20 : decode cX5_tell 20 = .ok (.iload_n 1, 1) := by decide +kernel
theorem dX5_tell_21 : decode cX5_tell 21 = .ok (.iaload, 1) := by decide +kernel
theorem dX5_tell_22 : decode cX5_tell 22 = .ok (.lookupswitch 38 #[(1, 26), (2, 32)], 26) := by decide +kernel
theorem dX5_tell_48 : decode cX5_tell 48 = .ok (.aload_n 0, 1) := by decide +kernel
theorem dX5_tell_49 : decode cX5_tell 49 = .ok (.iload_n 1, 1) := by decide +kernel
theorem dX5_tell_50 : decode cX5_tell 50 = .ok (.invokevirtual 240, 3) := by decide +kernel
theorem dX5_tell_53 : decode cX5_tell 53 = .ok (.ireturn, 1) := by decide +kernel
theorem dX5_tell_54 : decode cX5_tell 54 = .ok (.aload_n 0, 1) := by decide +kernel
theorem dX5_tell_55 : decode cX5_tell 55 = .ok (.iload_n 1, 1) := by decide +kernel
theorem dX5_tell_56 : decode cX5_tell 56 = .ok (.invokevirtual 243, 3) := by decide +kernel
theorem dX5_tell_59 : decode cX5_tell 59 = .ok (.ireturn, 1) := by decide +kernel
theorem dX5_tell_60 : decode cX5_tell 60 = .ok (.aload_n 0, 1) := by decide +kernel
theorem dX5_tell_61 : decode cX5_tell 61 = .ok (.iload_n 1, 1) := by decide +kernel
theorem dX5_tell_62 : decode cX5_tell 62 = .ok (.invokevirtual 246, 3) := by decide +kernel
theorem dX5_tell_65 : decode cX5_tell 65 = .ok (.ireturn, 1) := by decide +kernel
theorem dX5_crow_0 : decode cX5_crow 0 = .ok (.aload_n 0, 1) := by decide +kernel
theorem dX5_crow_1 : decode cX5_crow 1 = .ok (.getfield 20, 3) := by decide +kernel
theorem dX5_crow_4 : decode cX5_crow 4 = .ok (.iload_n 1, 1) := by decide +kernel
theorem dX5_crow_5 : decode cX5_crow 5 = .ok (.invokevirtual 93, 3) := by decide +kernel
theorem dX5_crow_8 : decode cX5_crow 8 = .ok (.ifCond .ne 5, 3) := by decide +kernel
theorem dX5_crow_11 : decode cX5_crow 11 = .ok (.iconst (-1), 1) := by decide +kernel
theorem dX5_crow_12 : decode cX5_crow 12 = .ok (.ireturn, 1) := by decide +kernel
theorem dX5_crow_13 : decode cX5_crow 13 = .ok (.aload_n 0, 1) := by decide +kernel
theorem dX5_crow_14 : decode cX5_crow 14 = .ok (.getfield 20, 3) := by decide +kernel
theorem dX5_crow_17 : decode cX5_crow 17 = .ok (.getfield 96, 3) := by decide +kernel
theorem dX5_crow_20 : decode cX5_crow 20 = .ok (.iload_n 1, 1) := by decide +kernel
theorem dX5_crow_21 : decode cX5_crow 21 = .ok (.iaload, 1) := by decide +kernel
theorem dX5_crow_22 : decode cX5_crow 22 = .ok (.iconst 2, 1) := by decide +kernel
theorem dX5_crow_23 : decode cX5_crow 23 = .ok (.if_icmp .ne 10, 3) := by decide +kernel
theorem dX5_crow_26 : decode cX5_crow 26 = .ok (.aload_n 0, 1) := by decide +kernel
theorem dX5_crow_27 : decode cX5_crow 27 = .ok (.invokevirtual 249, 3) := by decide +kernel
theorem dX5_crow_30 : decode cX5_crow 30 = .ok (.goto 8, 3) := by decide +kernel
theorem dX5_crow_33 : decode cX5_crow 33 = .ok (.aload_n 0, 1) := by decide +kernel
theorem dX5_crow_34 : decode cX5_crow 34 = .ok (.iload_n 1, 1) := by decide +kernel
theorem dX5_crow_35 : decode cX5_crow 35 = .ok (.invokevirtual 253, 3) := by decide +kernel
theorem dX5_crow_38 : decode cX5_crow 38 = .ok (.ireturn, 1) := by decide +kernel
theorem dX5_as_0 : decode cX5_as 0 = .ok (.aload_n 0, 1) := by decide +kernel
theorem dX5_as_1 : decode cX5_as 1 = .ok (.iconst 0, 1) := by decide +kernel
theorem dX5_as_2 : decode cX5_as 2 = .ok (.putfield 52, 3) := by decide +kernel
theorem dX5_as_5 : decode cX5_as 5 = .ok (.aload_n 0, 1) := by decide +kernel
theorem dX5_as_6 : decode cX5_as 6 = .ok (.getfield 20, 3) := by decide +kernel
theorem dX5_as_9 : decode cX5_as 9 = .ok (.iload_n 1, 1) := by decide +kernel
theorem dX5_as_10 : decode cX5_as 10 = .ok (.invokevirtual 93, 3) := by decide +kernel
theorem dX5_as_13 : decode cX5_as 13 = .ok (.ifCond .ne 5, 3) := by decide +kernel
theorem dX5_as_16 : decode cX5_as 16 = .ok (.iconst (-1), 1) := by decide +kernel
theorem dX5_as_17 : decode cX5_as 17 = .ok (.ireturn, 1) := by decide +kernel
theorem dX5_as_18 : decode cX5_as 18 = .ok (.iload_n 2, 1) := by decide +kernel
theorem dX5_as_19 : decode cX5_as 19 = .ok (.ifCond .lt 8, 3) := by decide +kernel
theorem dX5_as_22 : decode cX5_as 22 = .ok (.iload_n 2, 1) := by decide +kernel
theorem dX5_as_23 : decode cX5_as 23 = .ok (.iconst 2, 1) := by decide +kernel
theorem dX5_as_24 : decode cX5_as 24 = .ok (.if_icmp .le 6, 3) := by decide +kernel
theorem dX5_as_27 : decode cX5_as 27 = .ok (.bipush (-2), 2) := by decide +kernel
theorem dX5_as_29 : decode cX5_as 29 = .ok (.ireturn, 1) := by decide +kernel
theorem dX5_as_30 : decode cX5_as 30 = .ok (.aload_n 0, 1) := by decide +kernel
theorem dX5_as_31 : decode cX5_as 31 = .ok (.getfield 20, 3) := by decide +kernel
theorem dX5_as_34 : decode cX5_as 34 = .ok (.getfield 96, 3) := by decide +kernel
theorem dX5_as_37 : decode cX5_as 37 = .ok (.iload_n 1, 1) := by decide +kernel
theorem dX5_as_38 : decode cX5_as 38 = .ok (.iaload, 1) := by decide +kernel
theorem dX5_as_39 : decode cX5_as 39 = .ok (.iload_n 2, 1) := by decide +kernel
theorem dX5_as_40 : decode cX5_as 40 = .ok (.if_icmp .lt 7, 3) := by decide +kernel
theorem dX5_as_43 : decode cX5_as 43 = .ok (.iconst 1, 1) := by decide +kernel
theorem dX5_as_44 : decode cX5_as 44 = .ok (.goto 8, 3) := by decide +kernel
theorem dX5_as_47 : decode cX5_as 47 = .ok (.aload_n 0, 1) := by decide +kernel
theorem dX5_as_48 : decode cX5_as 48 = .ok (.iconst 2, 1) := by decide +kernel
theorem dX5_as_49 : decode cX5_as 49 = .ok (.invokevirtual 67, 3) := by decide +kernel
theorem dX5_as_52 : decode cX5_as 52 = .ok (.ireturn, 1) := by decide +kernel
theorem dX5_trace_0 : decode cX5_trace 0 = .ok (.aload_n 0, 1) := by decide +kernel
theorem dX5_trace_1 : decode cX5_trace 1 = .ok (.getfield 48, 3) := by decide +kernel
theorem dX5_trace_4 : decode cX5_trace 4 = .ok (.ireturn, 1) := by decide +kernel
theorem dX5_fault_0 : decode cX5_fault 0 = .ok (.aload_n 0, 1) := by decide +kernel
theorem dX5_fault_1 : decode cX5_fault 1 = .ok (.getfield 52, 3) := by decide +kernel
theorem dX5_fault_4 : decode cX5_fault 4 = .ok (.ireturn, 1) := by decide +kernel
theorem dX5_many_0 : decode cX5_many 0 = .ok (.iload_n 1, 1) := by decide +kernel
theorem dX5_many_1 : decode cX5_many 1 = .ok (.tableswitch 75 0 4 #[35, 43, 51, 59, 67], 35) := by decide +kernel
theorem dX5_many_36 : decode cX5_many 36 = .ok (.aload_n 0, 1) := by decide +kernel
theorem dX5_many_37 : decode cX5_many 37 = .ok (.getfield 20, 3) := by decide +kernel
theorem dX5_many_40 : decode cX5_many 40 = .ok (.getfield 90, 3) := by decide +kernel
theorem dX5_many_43 : decode cX5_many 43 = .ok (.ireturn, 1) := by decide +kernel
theorem dX5_many_44 : decode cX5_many 44 = .ok (.aload_n 0, 1) := by decide +kernel
theorem dX5_many_45 : decode cX5_many 45 = .ok (.getfield 20, 3) := by decide +kernel
theorem dX5_many_48 : decode cX5_many 48 = .ok (.getfield 256, 3) := by decide +kernel
theorem dX5_many_51 : decode cX5_many 51 = .ok (.ireturn, 1) := by decide +kernel
theorem dX5_many_52 : decode cX5_many 52 = .ok (.aload_n 0, 1) := by decide +kernel
theorem dX5_many_53 : decode cX5_many 53 = .ok (.getfield 20, 3) := by decide +kernel
theorem dX5_many_56 : decode cX5_many 56 = .ok (.getfield 157, 3) := by decide +kernel
theorem dX5_many_59 : decode cX5_many 59 = .ok (.ireturn, 1) := by decide +kernel
theorem dX5_many_60 : decode cX5_many 60 = .ok (.aload_n 0, 1) := by decide +kernel
theorem dX5_many_61 : decode cX5_many 61 = .ok (.getfield 20, 3) := by decide +kernel
theorem dX5_many_64 : decode cX5_many 64 = .ok (.getfield 135, 3) := by decide +kernel
theorem dX5_many_67 : decode cX5_many 67 = .ok (.ireturn, 1) := by decide +kernel
theorem dX5_many_68 : decode cX5_many 68 = .ok (.aload_n 0, 1) := by decide +kernel
theorem dX5_many_69 : decode cX5_many 69 = .ok (.getfield 44, 3) := by decide +kernel
theorem dX5_many_72 : decode cX5_many 72 = .ok (.getfield 87, 3) := by decide +kernel
theorem dX5_many_75 : decode cX5_many 75 = .ok (.ireturn, 1) := by decide +kernel
theorem dX5_many_76 : decode cX5_many 76 = .ok (.bipush (-2), 2) := by decide +kernel
theorem dX5_many_78 : decode cX5_many 78 = .ok (.ireturn, 1) := by decide +kernel
theorem dX5_sheetAt_0 : decode cX5_sheetAt 0 = .ok (.iload_n 1, 1) := by decide +kernel
theorem dX5_sheetAt_1 : decode cX5_sheetAt 1 = .ok (.ifCond .lt 21, 3) := by decide +kernel
theorem dX5_sheetAt_4 : decode cX5_sheetAt 4 = .ok (.iload_n 1, 1) := by decide +kernel
theorem dX5_sheetAt_5 : decode cX5_sheetAt 5 = .ok (.aload_n 0, 1) := by decide +kernel
theorem dX5_sheetAt_6 : decode cX5_sheetAt 6 = .ok (.getfield 13, 3) := by decide +kernel
theorem dX5_sheetAt_9 : decode cX5_sheetAt 9 = .ok (.arraylength, 1) := by decide +kernel
theorem dX5_sheetAt_10 : decode cX5_sheetAt 10 = .ok (.if_icmp .ge 12, 3) := by decide +kernel
theorem dX5_sheetAt_13 : decode cX5_sheetAt 13 = .ok (.aload_n 0, 1) := by decide +kernel
theorem dX5_sheetAt_14 : decode cX5_sheetAt 14 = .ok (.getfield 13, 3) := by decide +kernel
theorem dX5_sheetAt_17 : decode cX5_sheetAt 17 = .ok (.iload_n 1, 1) := by decide +kernel
theorem dX5_sheetAt_18 : decode cX5_sheetAt 18 = .ok (.aaload, 1) := by decide +kernel
theorem dX5_sheetAt_19 : decode cX5_sheetAt 19 = .ok (.goto 4, 3) := by decide +kernel
theorem dX5_sheetAt_22 : decode cX5_sheetAt 22 = .ok (.aconst_null, 1) := by decide +kernel
theorem dX5_sheetAt_23 : decode cX5_sheetAt 23 = .ok (.areturn, 1) := by decide +kernel
theorem dX5_faulted_0 : decode cX5_faulted 0 = .ok (.aload_n 0, 1) := by decide +kernel
theorem dX5_faulted_1 : decode cX5_faulted 1 = .ok (.iload_n 1, 1) := by decide +kernel
theorem dX5_faulted_2 : decode cX5_faulted 2 = .ok (.putfield 52, 3) := by decide +kernel
theorem dX5_faulted_5 : decode cX5_faulted 5 = .ok (.bipush (-10), 2) := by decide +kernel
theorem dX5_faulted_7 : decode cX5_faulted 7 = .ok (.iload_n 1, 1) := by decide +kernel
theorem dX5_faulted_8 : decode cX5_faulted 8 = .ok (.isub, 1) := by decide +kernel
theorem dX5_faulted_9 : decode cX5_faulted 9 = .ok (.ireturn, 1) := by decide +kernel
theorem dX5_lostBy_0 : decode cX5_lostBy 0 = .ok (.aload_n 0, 1) := by decide +kernel
theorem dX5_lostBy_1 : decode cX5_lostBy 1 = .ok (.iload_n 1, 1) := by decide +kernel
theorem dX5_lostBy_2 : decode cX5_lostBy 2 = .ok (.putfield 52, 3) := by decide +kernel
theorem dX5_lostBy_5 : decode cX5_lostBy 5 = .ok (.ldc2_w 209, 3) := by decide +kernel
theorem dX5_lostBy_8 : decode cX5_lostBy 8 = .ok (.lreturn, 1) := by decide +kernel
theorem dX5_isLane_0 : decode cX5_isLane 0 = .ok (.iload_n 0, 1) := by decide +kernel
theorem dX5_isLane_1 : decode cX5_isLane 1 = .ok (.ifCond .lt 12, 3) := by decide +kernel
theorem dX5_isLane_4 : decode cX5_isLane 4 = .ok (.iload_n 0, 1) := by decide +kernel
theorem dX5_isLane_5 : decode cX5_isLane 5 = .ok (.iconst 2, 1) := by decide +kernel
theorem dX5_isLane_6 : decode cX5_isLane 6 = .ok (.if_icmp .gt 7, 3) := by decide +kernel
theorem dX5_isLane_9 : decode cX5_isLane 9 = .ok (.iconst 1, 1) := by decide +kernel
theorem dX5_isLane_10 : decode cX5_isLane 10 = .ok (.goto 4, 3) := by decide +kernel
theorem dX5_isLane_13 : decode cX5_isLane 13 = .ok (.iconst 0, 1) := by decide +kernel
theorem dX5_isLane_14 : decode cX5_isLane 14 = .ok (.ireturn, 1) := by decide +kernel
theorem dX5_isIn_0 : decode cX5_isIn 0 = .ok (.iload_n 0, 1) := by decide +kernel
theorem dX5_isIn_1 : decode cX5_isIn 1 = .ok (.iload_n 1, 1) := by decide +kernel
theorem dX5_isIn_2 : decode cX5_isIn 2 = .ok (.ishr, 1) := by decide +kernel
theorem dX5_isIn_3 : decode cX5_isIn 3 = .ok (.iconst 1, 1) := by decide +kernel
theorem dX5_isIn_4 : decode cX5_isIn 4 = .ok (.iand, 1) := by decide +kernel
theorem dX5_isIn_5 : decode cX5_isIn 5 = .ok (.iconst 1, 1) := by decide +kernel
theorem dX5_isIn_6 : decode cX5_isIn 6 = .ok (.if_icmp .ne 7, 3) := by decide +kernel
theorem dX5_isIn_9 : decode cX5_isIn 9 = .ok (.iconst 1, 1) := by decide +kernel
theorem dX5_isIn_10 : decode cX5_isIn 10 = .ok (.goto 4, 3) := by decide +kernel
theorem dX5_isIn_13 : decode cX5_isIn 13 = .ok (.iconst 0, 1) := by decide +kernel
theorem dX5_isIn_14 : decode cX5_isIn 14 = .ok (.ireturn, 1) := by decide +kernel
theorem dX5_isWithin_0 : decode cX5_isWithin 0 = .ok (.iload_n 0, 1) := by decide +kernel
theorem dX5_isWithin_1 : decode cX5_isWithin 1 = .ok (.iload_n 1, 1) := by decide +kernel
theorem dX5_isWithin_2 : decode cX5_isWithin 2 = .ok (.iconst (-1), 1) := by decide +kernel
theorem dX5_isWithin_3 : decode cX5_isWithin 3 = .ok (.ixor, 1) := by decide +kernel
theorem dX5_isWithin_4 : decode cX5_isWithin 4 = .ok (.iand, 1) := by decide +kernel
theorem dX5_isWithin_5 : decode cX5_isWithin 5 = .ok (.ifCond .ne 7, 3) := by decide +kernel
theorem dX5_isWithin_8 : decode cX5_isWithin 8 = .ok (.iconst 1, 1) := by decide +kernel
theorem dX5_isWithin_9 : decode cX5_isWithin 9 = .ok (.goto 4, 3) := by decide +kernel
theorem dX5_isWithin_12 : decode cX5_isWithin 12 = .ok (.iconst 0, 1) := by decide +kernel
theorem dX5_isWithin_13 : decode cX5_isWithin 13 = .ok (.ireturn, 1) := by decide +kernel
theorem dX5_freshBy_0 : decode cX5_freshBy 0 = .ok (.iload_n 3, 1) := by decide +kernel
theorem dX5_freshBy_1 : decode cX5_freshBy 1 = .ok (.iload_n 1, 1) := by decide +kernel
theorem dX5_freshBy_2 : decode cX5_freshBy 2 = .ok (.if_icmp .ge 5, 3) := by decide +kernel
theorem dX5_freshBy_5 : decode cX5_freshBy 5 = .ok (.iconst 0, 1) := by decide +kernel
theorem dX5_freshBy_6 : decode cX5_freshBy 6 = .ok (.ireturn, 1) := by decide +kernel
theorem dX5_freshBy_7 : decode cX5_freshBy 7 = .ok (.iload_n 3, 1) := by decide +kernel
theorem dX5_freshBy_8 : decode cX5_freshBy 8 = .ok (.iload_n 1, 1) := by decide +kernel
theorem dX5_freshBy_9 : decode cX5_freshBy 9 = .ok (.isub, 1) := by decide +kernel
theorem dX5_freshBy_10 : decode cX5_freshBy 10 = .ok (.istore 4, 2) := by decide +kernel
theorem dX5_freshBy_12 : decode cX5_freshBy 12 = .ok (.iload_n 2, 1) := by decide +kernel
theorem dX5_freshBy_13 : decode cX5_freshBy 13 = .ok (.iload_n 0, 1) := by decide +kernel
theorem dX5_freshBy_14 : decode cX5_freshBy 14 = .ok (.iconst 1, 1) := by decide +kernel
theorem dX5_freshBy_15 : decode cX5_freshBy 15 = .ok (.if_icmp .ne 10, 3) := by decide +kernel
theorem dX5_freshBy_18 : decode cX5_freshBy 18 = .ok (.iload 4, 2) := by decide +kernel
theorem dX5_freshBy_20 : decode cX5_freshBy 20 = .ok (.iconst 3, 1) := by decide +kernel
theorem dX5_freshBy_21 : decode cX5_freshBy 21 = .ok (.idiv, 1) := by decide +kernel
theorem dX5_freshBy_22 : decode cX5_freshBy 22 = .ok (.goto 5, 3) := by decide +kernel
theorem dX5_freshBy_25 : decode cX5_freshBy 25 = .ok (.iload 4, 2) := by decide +kernel
theorem dX5_freshBy_27 : decode cX5_freshBy 27 = .ok (.isub, 1) := by decide +kernel
theorem dX5_freshBy_28 : decode cX5_freshBy 28 = .ok (.istore 5, 2) := by decide +kernel
theorem dX5_freshBy_30 : decode cX5_freshBy 30 = .ok (.iload 5, 2) := by decide +kernel
theorem dX5_freshBy_32 : decode cX5_freshBy 32 = .ok (.ifCond .ge 5, 3) := by decide +kernel
theorem dX5_freshBy_35 : decode cX5_freshBy 35 = .ok (.iconst 0, 1) := by decide +kernel
theorem dX5_freshBy_36 : decode cX5_freshBy 36 = .ok (.ireturn, 1) := by decide +kernel
theorem dX5_freshBy_37 : decode cX5_freshBy 37 = .ok (.iload_n 0, 1) := by decide +kernel
theorem dX5_freshBy_38 : decode cX5_freshBy 38 = .ok (.iconst 2, 1) := by decide +kernel
theorem dX5_freshBy_39 : decode cX5_freshBy 39 = .ok (.if_icmp .ne 10, 3) := by decide +kernel
theorem dX5_freshBy_42 : decode cX5_freshBy 42 = .ok (.iload 5, 2) := by decide +kernel
theorem dX5_freshBy_44 : decode cX5_freshBy 44 = .ok (.iconst 2, 1) := by decide +kernel
theorem dX5_freshBy_45 : decode cX5_freshBy 45 = .ok (.idiv, 1) := by decide +kernel
theorem dX5_freshBy_46 : decode cX5_freshBy 46 = .ok (.goto 5, 3) := by decide +kernel
theorem dX5_freshBy_49 : decode cX5_freshBy 49 = .ok (.iload 5, 2) := by decide +kernel
theorem dX5_freshBy_51 : decode cX5_freshBy 51 = .ok (.ireturn, 1) := by decide +kernel
theorem dX5_canBeAskedOfYear_0 : decode cX5_canBeAskedOfYear 0 = .ok (.iload_n 0, 1) := by decide +kernel
theorem dX5_canBeAskedOfYear_1 : decode cX5_canBeAskedOfYear 1 = .ok (.ifCond .lt 8, 3) := by decide +kernel
theorem dX5_canBeAskedOfYear_4 : decode cX5_canBeAskedOfYear 4 = .ok (.iload_n 0, 1) := by decide +kernel
theorem dX5_canBeAskedOfYear_5 : decode cX5_canBeAskedOfYear 5 = .ok (.iconst 3, 1) := by decide +kernel
theorem dX5_canBeAskedOfYear_6 : decode cX5_canBeAskedOfYear 6 = .ok (.if_icmp .le 39, 3) := by decide +kernel
theorem dX5_canBeAskedOfYear_9 : decode cX5_canBeAskedOfYear 9 = .ok (.iload_n 0, 1) := by decide +kernel
theorem dX5_canBeAskedOfYear_10 : decode cX5_canBeAskedOfYear 10 = .ok (.bipush 10, 2) := by decide +kernel
theorem dX5_canBeAskedOfYear_12 : decode cX5_canBeAskedOfYear 12 = .ok (.if_icmp .lt 9, 3) := by decide +kernel
theorem dX5_canBeAskedOfYear_15 : decode cX5_canBeAskedOfYear 15 = .ok (.iload_n 0, 1) := by decide +kernel
theorem dX5_canBeAskedOfYear_16 : decode cX5_canBeAskedOfYear 16 = .ok (.bipush 14, 2) := by decide +kernel
theorem dX5_canBeAskedOfYear_18 : decode cX5_canBeAskedOfYear 18 = .ok (.if_icmp .lt 27, 3) := by decide +kernel
theorem dX5_canBeAskedOfYear_21 : decode cX5_canBeAskedOfYear 21 = .ok (.iload_n 0, 1) := by decide +kernel
theorem dX5_canBeAskedOfYear_22 : decode cX5_canBeAskedOfYear 22 = .ok (.bipush 20, 2) := by decide +kernel
theorem dX5_canBeAskedOfYear_24 : decode cX5_canBeAskedOfYear 24 = .ok (.if_icmp .lt 9, 3) := by decide +kernel
theorem dX5_canBeAskedOfYear_27 : decode cX5_canBeAskedOfYear 27 = .ok (.iload_n 0, 1) := by decide +kernel
theorem dX5_canBeAskedOfYear_28 : decode cX5_canBeAskedOfYear 28 = .ok (.bipush 24, 2) := by decide +kernel
theorem dX5_canBeAskedOfYear_30 : decode cX5_canBeAskedOfYear 30 = .ok (.if_icmp .lt 15, 3) := by decide +kernel
theorem dX5_canBeAskedOfYear_33 : decode cX5_canBeAskedOfYear 33 = .ok (.iload_n 0, 1) := by decide +kernel
theorem dX5_canBeAskedOfYear_34 : decode cX5_canBeAskedOfYear 34 = .ok (.bipush 30, 2) := by decide +kernel
theorem dX5_canBeAskedOfYear_36 : decode cX5_canBeAskedOfYear 36 = .ok (.if_icmp .lt 13, 3) := by decide +kernel
theorem dX5_canBeAskedOfYear_39 : decode cX5_canBeAskedOfYear 39 = .ok (.iload_n 0, 1) := by decide +kernel
theorem dX5_canBeAskedOfYear_40 : decode cX5_canBeAskedOfYear 40 = .ok (.bipush 36, 2) := by decide +kernel
theorem dX5_canBeAskedOfYear_42 : decode cX5_canBeAskedOfYear 42 = .ok (.if_icmp .ge 7, 3) := by decide +kernel
theorem dX5_canBeAskedOfYear_45 : decode cX5_canBeAskedOfYear 45 = .ok (.iconst 1, 1) := by decide +kernel
theorem dX5_canBeAskedOfYear_46 : decode cX5_canBeAskedOfYear 46 = .ok (.goto 4, 3) := by decide +kernel
theorem dX5_canBeAskedOfYear_49 : decode cX5_canBeAskedOfYear 49 = .ok (.iconst 0, 1) := by decide +kernel
theorem dX5_canBeAskedOfYear_50 : decode cX5_canBeAskedOfYear 50 = .ok (.ireturn, 1) := by decide +kernel
theorem dX5_refusalOfPairs_0 : decode cX5_refusalOfPairs 0 = .ok (.iconst 0, 1) := by decide +kernel
theorem dX5_refusalOfPairs_1 : decode cX5_refusalOfPairs 1 = .ok (.istore 4, 2) := by decide +kernel
theorem dX5_refusalOfPairs_3 : decode cX5_refusalOfPairs 3 = .ok (.iload 4, 2) := by decide +kernel
theorem dX5_refusalOfPairs_5 : decode cX5_refusalOfPairs 5 = .ok (.iload_n 3, 1) := by decide +kernel
theorem dX5_refusalOfPairs_6 : decode cX5_refusalOfPairs 6 = .ok (.if_icmp .ge 94, 3) := by decide +kernel
theorem dX5_refusalOfPairs_9 : decode cX5_refusalOfPairs 9 = .ok (.aload_n 1, 1) := by decide +kernel
theorem dX5_refusalOfPairs_10 : decode cX5_refusalOfPairs 10 = .ok (.getfield 221, 3) := by decide +kernel
theorem dX5_refusalOfPairs_13 : decode cX5_refusalOfPairs 13 = .ok (.iload_n 2, 1) := by decide +kernel
theorem dX5_refusalOfPairs_14 : decode cX5_refusalOfPairs 14 = .ok (.iconst 2, 1) := by decide +kernel
theorem dX5_refusalOfPairs_15 : decode cX5_refusalOfPairs 15 = .ok (.iload 4, 2) := by decide +kernel
theorem dX5_refusalOfPairs_17 : decode cX5_refusalOfPairs 17 = .ok (.imul, 1) := by decide +kernel
theorem dX5_refusalOfPairs_18 : decode cX5_refusalOfPairs 18 = .ok (.iadd, 1) := by decide +kernel
theorem dX5_refusalOfPairs_19 : decode cX5_refusalOfPairs 19 = .ok (.iaload, 1) := by decide +kernel
theorem dX5_refusalOfPairs_20 : decode cX5_refusalOfPairs 20 = .ok (.istore 5, 2) := by decide +kernel
theorem dX5_refusalOfPairs_22 : decode cX5_refusalOfPairs 22 = .ok (.aload_n 1, 1) := by decide +kernel
theorem dX5_refusalOfPairs_23 : decode cX5_refusalOfPairs 23 = .ok (.getfield 221, 3) := by decide +kernel
theorem dX5_refusalOfPairs_26 : decode cX5_refusalOfPairs 26 = .ok (.iload_n 2, 1) := by decide +kernel
theorem dX5_refusalOfPairs_27 : decode cX5_refusalOfPairs 27 = .ok (.iconst 2, 1) := by decide +kernel
theorem dX5_refusalOfPairs_28 : decode cX5_refusalOfPairs 28 = .ok (.iload 4, 2) := by decide +kernel
theorem dX5_refusalOfPairs_30 : decode cX5_refusalOfPairs 30 = .ok (.imul, 1) := by decide +kernel
theorem dX5_refusalOfPairs_31 : decode cX5_refusalOfPairs 31 = .ok (.iadd, 1) := by decide +kernel
theorem dX5_refusalOfPairs_32 : decode cX5_refusalOfPairs 32 = .ok (.iconst 1, 1) := by decide +kernel
theorem dX5_refusalOfPairs_33 : decode cX5_refusalOfPairs 33 = .ok (.iadd, 1) := by decide +kernel
theorem dX5_refusalOfPairs_34 : decode cX5_refusalOfPairs 34 = .ok (.iaload, 1) := by decide +kernel
theorem dX5_refusalOfPairs_35 : decode cX5_refusalOfPairs 35 = .ok (.istore 6, 2) := by decide +kernel
theorem dX5_refusalOfPairs_37 : decode cX5_refusalOfPairs 37 = .ok (.iload 6, 2) := by decide +kernel
theorem dX5_refusalOfPairs_39 : decode cX5_refusalOfPairs 39 = .ok (.bipush 9, 2) := by decide +kernel
theorem dX5_refusalOfPairs_41 : decode cX5_refusalOfPairs 41 = .ok (.if_icmp .ne 18, 3) := by decide +kernel
theorem dX5_refusalOfPairs_44 : decode cX5_refusalOfPairs 44 = .ok (.iload 5, 2) := by decide +kernel
theorem dX5_refusalOfPairs_46 : decode cX5_refusalOfPairs 46 = .ok (.ifCond .lt 10, 3) := by decide +kernel
theorem dX5_refusalOfPairs_49 : decode cX5_refusalOfPairs 49 = .ok (.iload 5, 2) := by decide +kernel
theorem dX5_refusalOfPairs_51 : decode cX5_refusalOfPairs 51 = .ok (.bipush 9, 2) := by decide +kernel
theorem dX5_refusalOfPairs_53 : decode cX5_refusalOfPairs 53 = .ok (.if_icmp .le 41, 3) := by decide +kernel
theorem dX5_refusalOfPairs_56 : decode cX5_refusalOfPairs 56 = .ok (.bipush (-2), 2) := by decide +kernel
theorem dX5_refusalOfPairs_58 : decode cX5_refusalOfPairs 58 = .ok (.ireturn, 1) := by decide +kernel
theorem dX5_refusalOfPairs_59 : decode cX5_refusalOfPairs 59 = .ok (.iload 6, 2) := by decide +kernel
theorem dX5_refusalOfPairs_61 : decode cX5_refusalOfPairs 61 = .ok (.bipush 8, 2) := by decide +kernel
theorem dX5_refusalOfPairs_63 : decode cX5_refusalOfPairs 63 = .ok (.if_icmp .eq 17, 3) := by decide +kernel
theorem dX5_refusalOfPairs_66 : decode cX5_refusalOfPairs 66 = .ok (.iload 6, 2) := by decide +kernel
theorem dX5_refusalOfPairs_68 : decode cX5_refusalOfPairs 68 = .ok (.ifCond .lt 9, 3) := by decide +kernel
theorem dX5_refusalOfPairs_71 : decode cX5_refusalOfPairs 71 = .ok (.iload 6, 2) := by decide +kernel
theorem dX5_refusalOfPairs_73 : decode cX5_refusalOfPairs 73 = .ok (.iconst 4, 1) := by decide +kernel
theorem dX5_refusalOfPairs_74 : decode cX5_refusalOfPairs 74 = .ok (.if_icmp .lt 6, 3) := by decide +kernel
theorem dX5_refusalOfPairs_77 : decode cX5_refusalOfPairs 77 = .ok (.bipush (-2), 2) := by decide +kernel
theorem dX5_refusalOfPairs_79 : decode cX5_refusalOfPairs 79 = .ok (.ireturn, 1) := by decide +kernel
theorem dX5_refusalOfPairs_80 : decode cX5_refusalOfPairs 80 = .ok (.aload_n 0, 1) := by decide +kernel
theorem dX5_refusalOfPairs_81 : decode cX5_refusalOfPairs 81 = .ok (.getfield 20, 3) := by decide +kernel
theorem dX5_refusalOfPairs_84 : decode cX5_refusalOfPairs 84 = .ok (.iload 5, 2) := by decide +kernel
theorem dX5_refusalOfPairs_86 : decode cX5_refusalOfPairs 86 = .ok (.invokevirtual 93, 3) := by decide +kernel
theorem dX5_refusalOfPairs_89 : decode cX5_refusalOfPairs 89 = .ok (.ifCond .ne 5, 3) := by decide +kernel
theorem dX5_refusalOfPairs_92 : decode cX5_refusalOfPairs 92 = .ok (.iconst (-1), 1) := by decide +kernel
theorem dX5_refusalOfPairs_93 : decode cX5_refusalOfPairs 93 = .ok (.ireturn, 1) := by decide +kernel
theorem dX5_refusalOfPairs_94 : decode cX5_refusalOfPairs 94 = .ok (.iinc 4 1, 3) := by decide +kernel
theorem dX5_refusalOfPairs_97 : decode cX5_refusalOfPairs 97 = .ok (.goto (-94), 3) := by decide +kernel
theorem dX5_refusalOfPairs_100 : decode cX5_refusalOfPairs 100 = .ok (.iconst 0, 1) := by decide +kernel
theorem dX5_refusalOfPairs_101 : decode cX5_refusalOfPairs 101 = .ok (.ireturn, 1) := by decide +kernel
theorem dX5_firstWrongIn_0 : decode cX5_firstWrongIn 0 = .ok (.iconst 0, 1) := by decide +kernel
theorem dX5_firstWrongIn_1 : decode cX5_firstWrongIn 1 = .ok (.istore 4, 2) := by decide +kernel
theorem dX5_firstWrongIn_3 : decode cX5_firstWrongIn 3 = .ok (.iload 4, 2) := by decide +kernel
theorem dX5_firstWrongIn_5 : decode cX5_firstWrongIn 5 = .ok (.iload_n 3, 1) := by decide +kernel
theorem dX5_firstWrongIn_6 : decode cX5_firstWrongIn 6 = .ok (.if_icmp .ge 46, 3) := by decide +kernel
theorem dX5_firstWrongIn_9 : decode cX5_firstWrongIn 9 = .ok (.aload_n 0, 1) := by decide +kernel
theorem dX5_firstWrongIn_10 : decode cX5_firstWrongIn 10 = .ok (.getfield 24, 3) := by decide +kernel
theorem dX5_firstWrongIn_13 : decode cX5_firstWrongIn 13 = .ok (.aload_n 1, 1) := by decide +kernel
theorem dX5_firstWrongIn_14 : decode cX5_firstWrongIn 14 = .ok (.getfield 221, 3) := by decide +kernel
theorem dX5_firstWrongIn_17 : decode cX5_firstWrongIn 17 = .ok (.iload_n 2, 1) := by decide +kernel
theorem dX5_firstWrongIn_18 : decode cX5_firstWrongIn 18 = .ok (.iconst 2, 1) := by decide +kernel
theorem dX5_firstWrongIn_19 : decode cX5_firstWrongIn 19 = .ok (.iload 4, 2) := by decide +kernel
theorem dX5_firstWrongIn_21 : decode cX5_firstWrongIn 21 = .ok (.imul, 1) := by decide +kernel
theorem dX5_firstWrongIn_22 : decode cX5_firstWrongIn 22 = .ok (.iadd, 1) := by decide +kernel
theorem dX5_firstWrongIn_23 : decode cX5_firstWrongIn 23 = .ok (.iaload, 1) := by decide +kernel
theorem dX5_firstWrongIn_24 : decode cX5_firstWrongIn 24 = .ok (.aload_n 1, 1) := by decide +kernel
theorem dX5_firstWrongIn_25 : decode cX5_firstWrongIn 25 = .ok (.getfield 221, 3) := by decide +kernel
theorem dX5_firstWrongIn_28 : decode cX5_firstWrongIn 28 = .ok (.iload_n 2, 1) := by decide +kernel
theorem dX5_firstWrongIn_29 : decode cX5_firstWrongIn 29 = .ok (.iconst 2, 1) := by decide +kernel
theorem dX5_firstWrongIn_30 : decode cX5_firstWrongIn 30 = .ok (.iload 4, 2) := by decide +kernel
theorem dX5_firstWrongIn_32 : decode cX5_firstWrongIn 32 = .ok (.imul, 1) := by decide +kernel
theorem dX5_firstWrongIn_33 : decode cX5_firstWrongIn 33 = .ok (.iadd, 1) := by decide +kernel
theorem dX5_firstWrongIn_34 : decode cX5_firstWrongIn 34 = .ok (.iconst 1, 1) := by decide +kernel
theorem dX5_firstWrongIn_35 : decode cX5_firstWrongIn 35 = .ok (.iadd, 1) := by decide +kernel
theorem dX5_firstWrongIn_36 : decode cX5_firstWrongIn 36 = .ok (.iaload, 1) := by decide +kernel
theorem dX5_firstWrongIn_37 : decode cX5_firstWrongIn 37 = .ok (.invokevirtual 259, 3) := by decide +kernel
theorem dX5_firstWrongIn_40 : decode cX5_firstWrongIn 40 = .ok (.ifCond .ne 6, 3) := by decide +kernel
theorem dX5_firstWrongIn_43 : decode cX5_firstWrongIn 43 = .ok (.iload 4, 2) := by decide +kernel
theorem dX5_firstWrongIn_45 : decode cX5_firstWrongIn 45 = .ok (.ireturn, 1) := by decide +kernel
theorem dX5_firstWrongIn_46 : decode cX5_firstWrongIn 46 = .ok (.iinc 4 1, 3) := by decide +kernel
theorem dX5_firstWrongIn_49 : decode cX5_firstWrongIn 49 = .ok (.goto (-46), 3) := by decide +kernel
theorem dX5_firstWrongIn_52 : decode cX5_firstWrongIn 52 = .ok (.bipush (-9), 2) := by decide +kernel
theorem dX5_firstWrongIn_54 : decode cX5_firstWrongIn 54 = .ok (.ireturn, 1) := by decide +kernel
theorem dX5_behindYear_0 : decode cX5_behindYear 0 = .ok (.iload_n 1, 1) := by decide +kernel
theorem dX5_behindYear_1 : decode cX5_behindYear 1 = .ok (.ifCond .ne 11, 3) := by decide +kernel
theorem dX5_behindYear_4 : decode cX5_behindYear 4 = .ok (.aload_n 0, 1) := by decide +kernel
theorem dX5_behindYear_5 : decode cX5_behindYear 5 = .ok (.getfield 24, 3) := by decide +kernel
theorem dX5_behindYear_8 : decode cX5_behindYear 8 = .ok (.getfield 157, 3) := by decide +kernel
theorem dX5_behindYear_11 : decode cX5_behindYear 11 = .ok (.ireturn, 1) := by decide +kernel
theorem dX5_behindYear_12 : decode cX5_behindYear 12 = .ok (.iload_n 1, 1) := by decide +kernel
theorem dX5_behindYear_13 : decode cX5_behindYear 13 = .ok (.iconst 2, 1) := by decide +kernel
theorem dX5_behindYear_14 : decode cX5_behindYear 14 = .ok (.if_icmp .ne 11, 3) := by decide +kernel
theorem dX5_behindYear_17 : decode cX5_behindYear 17 = .ok (.aload_n 0, 1) := by decide +kernel
theorem dX5_behindYear_18 : decode cX5_behindYear 18 = .ok (.getfield 24, 3) := by decide +kernel
theorem dX5_behindYear_21 : decode cX5_behindYear 21 = .ok (.getfield 262, 3) := by decide +kernel
theorem dX5_behindYear_24 : decode cX5_behindYear 24 = .ok (.ireturn, 1) := by decide +kernel
theorem dX5_behindYear_25 : decode cX5_behindYear 25 = .ok (.iload_n 1, 1) := by decide +kernel
theorem dX5_behindYear_26 : decode cX5_behindYear 26 = .ok (.iconst 3, 1) := by decide +kernel
theorem dX5_behindYear_27 : decode cX5_behindYear 27 = .ok (.if_icmp .ne 11, 3) := by decide +kernel
theorem dX5_behindYear_30 : decode cX5_behindYear 30 = .ok (.aload_n 0, 1) := by decide +kernel
theorem dX5_behindYear_31 : decode cX5_behindYear 31 = .ok (.getfield 24, 3) := by decide +kernel
theorem dX5_behindYear_34 : decode cX5_behindYear 34 = .ok (.invokevirtual 265, 3) := by decide +kernel
theorem dX5_behindYear_37 : decode cX5_behindYear 37 = .ok (.ireturn, 1) := by decide +kernel
theorem dX5_behindYear_38 : decode cX5_behindYear 38 = .ok (.iload_n 1, 1) := by decide +kernel
theorem dX5_behindYear_39 : decode cX5_behindYear 39 = .ok (.bipush 30, 2) := by decide +kernel
theorem dX5_behindYear_41 : decode cX5_behindYear 41 = .ok (.if_icmp .lt 35, 3) := by decide +kernel
theorem dX5_behindYear_44 : decode cX5_behindYear 44 = .ok (.aload_n 0, 1) := by decide +kernel
theorem dX5_behindYear_45 : decode cX5_behindYear 45 = .ok (.getfield 24, 3) := by decide +kernel
theorem dX5_behindYear_48 : decode cX5_behindYear 48 = .ok (.iload_n 1, 1) := by decide +kernel
theorem dX5_behindYear_49 : decode cX5_behindYear 49 = .ok (.bipush 30, 2) := by decide +kernel
theorem dX5_behindYear_51 : decode cX5_behindYear 51 = .ok (.isub, 1) := by decide +kernel
theorem dX5_behindYear_52 : decode cX5_behindYear 52 = .ok (.invokevirtual 93, 3) := by decide +kernel
theorem dX5_behindYear_55 : decode cX5_behindYear 55 = .ok (.ifCond .eq 18, 3) := by decide +kernel
theorem dX5_behindYear_58 : decode cX5_behindYear 58 = .ok (.aload_n 0, 1) := by decide +kernel
theorem dX5_behindYear_59 : decode cX5_behindYear 59 = .ok (.getfield 24, 3) := by decide +kernel
theorem dX5_behindYear_62 : decode cX5_behindYear 62 = .ok (.getfield 100, 3) := by decide +kernel
theorem dX5_behindYear_65 : decode cX5_behindYear 65 = .ok (.iload_n 1, 1) := by decide +kernel
theorem dX5_behindYear_66 : decode cX5_behindYear 66 = .ok (.bipush 30, 2) := by decide +kernel
theorem dX5_behindYear_68 : decode cX5_behindYear 68 = .ok (.isub, 1) := by decide +kernel
theorem dX5_behindYear_69 : decode cX5_behindYear 69 = .ok (.iaload, 1) := by decide +kernel
theorem dX5_behindYear_70 : decode cX5_behindYear 70 = .ok (.goto 5, 3) := by decide +kernel
theorem dX5_behindYear_73 : decode cX5_behindYear 73 = .ok (.bipush (-9), 2) := by decide +kernel
theorem dX5_behindYear_75 : decode cX5_behindYear 75 = .ok (.ireturn, 1) := by decide +kernel
theorem dX5_behindYear_76 : decode cX5_behindYear 76 = .ok (.iload_n 1, 1) := by decide +kernel
theorem dX5_behindYear_77 : decode cX5_behindYear 77 = .ok (.bipush 20, 2) := by decide +kernel
theorem dX5_behindYear_79 : decode cX5_behindYear 79 = .ok (.if_icmp .lt 35, 3) := by decide +kernel
theorem dX5_behindYear_82 : decode cX5_behindYear 82 = .ok (.aload_n 0, 1) := by decide +kernel
theorem dX5_behindYear_83 : decode cX5_behindYear 83 = .ok (.getfield 24, 3) := by decide +kernel
theorem dX5_behindYear_86 : decode cX5_behindYear 86 = .ok (.iload_n 1, 1) := by decide +kernel
theorem dX5_behindYear_87 : decode cX5_behindYear 87 = .ok (.bipush 20, 2) := by decide +kernel
theorem dX5_behindYear_89 : decode cX5_behindYear 89 = .ok (.isub, 1) := by decide +kernel
theorem dX5_behindYear_90 : decode cX5_behindYear 90 = .ok (.invokevirtual 112, 3) := by decide +kernel
theorem dX5_behindYear_93 : decode cX5_behindYear 93 = .ok (.ifCond .eq 18, 3) := by decide +kernel
theorem dX5_behindYear_96 : decode cX5_behindYear 96 = .ok (.aload_n 0, 1) := by decide +kernel
theorem dX5_behindYear_97 : decode cX5_behindYear 97 = .ok (.getfield 24, 3) := by decide +kernel
theorem dX5_behindYear_100 : decode cX5_behindYear 100 = .ok (.getfield 118, 3) := by decide +kernel
theorem dX5_behindYear_103 : decode cX5_behindYear 103 = .ok (.iload_n 1, 1) := by decide +kernel
theorem dX5_behindYear_104 : decode cX5_behindYear 104 = .ok (.bipush 20, 2) := by decide +kernel
theorem dX5_behindYear_106 : decode cX5_behindYear 106 = .ok (.isub, 1) := by decide +kernel
theorem dX5_behindYear_107 : decode cX5_behindYear 107 = .ok (.iaload, 1) := by decide +kernel
theorem dX5_behindYear_108 : decode cX5_behindYear 108 = .ok (.goto 5, 3) := by decide +kernel
theorem dX5_behindYear_111 : decode cX5_behindYear 111 = .ok (.bipush (-9), 2) := by decide +kernel
theorem dX5_behindYear_113 : decode cX5_behindYear 113 = .ok (.ireturn, 1) := by decide +kernel
theorem dX5_behindYear_114 : decode cX5_behindYear 114 = .ok (.aload_n 0, 1) := by decide +kernel
theorem dX5_behindYear_115 : decode cX5_behindYear 115 = .ok (.getfield 24, 3) := by decide +kernel
theorem dX5_behindYear_118 : decode cX5_behindYear 118 = .ok (.iload_n 1, 1) := by decide +kernel
theorem dX5_behindYear_119 : decode cX5_behindYear 119 = .ok (.bipush 10, 2) := by decide +kernel
theorem dX5_behindYear_121 : decode cX5_behindYear 121 = .ok (.isub, 1) := by decide +kernel
theorem dX5_behindYear_122 : decode cX5_behindYear 122 = .ok (.invokevirtual 112, 3) := by decide +kernel
theorem dX5_behindYear_125 : decode cX5_behindYear 125 = .ok (.ifCond .eq 18, 3) := by decide +kernel
theorem dX5_behindYear_128 : decode cX5_behindYear 128 = .ok (.aload_n 0, 1) := by decide +kernel
theorem dX5_behindYear_129 : decode cX5_behindYear 129 = .ok (.getfield 24, 3) := by decide +kernel
theorem dX5_behindYear_132 : decode cX5_behindYear 132 = .ok (.getfield 115, 3) := by decide +kernel
theorem dX5_behindYear_135 : decode cX5_behindYear 135 = .ok (.iload_n 1, 1) := by decide +kernel
theorem dX5_behindYear_136 : decode cX5_behindYear 136 = .ok (.bipush 10, 2) := by decide +kernel
theorem dX5_behindYear_138 : decode cX5_behindYear 138 = .ok (.isub, 1) := by decide +kernel
theorem dX5_behindYear_139 : decode cX5_behindYear 139 = .ok (.iaload, 1) := by decide +kernel
theorem dX5_behindYear_140 : decode cX5_behindYear 140 = .ok (.goto 5, 3) := by decide +kernel
theorem dX5_behindYear_143 : decode cX5_behindYear 143 = .ok (.bipush (-9), 2) := by decide +kernel
theorem dX5_behindYear_145 : decode cX5_behindYear 145 = .ok (.ireturn, 1) := by decide +kernel
theorem dX5_setToBuy_0 : decode cX5_setToBuy 0 = .ok (.aload_n 0, 1) := by decide +kernel
theorem dX5_setToBuy_1 : decode cX5_setToBuy 1 = .ok (.getfield 20, 3) := by decide +kernel
theorem dX5_setToBuy_4 : decode cX5_setToBuy 4 = .ok (.iload_n 1, 1) := by decide +kernel
theorem dX5_setToBuy_5 : decode cX5_setToBuy 5 = .ok (.invokevirtual 121, 3) := by decide +kernel
theorem dX5_setToBuy_8 : decode cX5_setToBuy 8 = .ok (.istore_n 3, 1) := by decide +kernel
theorem dX5_setToBuy_9 : decode cX5_setToBuy 9 = .ok (.aload_n 0, 1) := by decide +kernel
theorem dX5_setToBuy_10 : decode cX5_setToBuy 10 = .ok (.getfield 20, 3) := by decide +kernel
theorem dX5_setToBuy_13 : decode cX5_setToBuy 13 = .ok (.invokevirtual 268, 3) := by decide +kernel
theorem dX5_setToBuy_16 : decode cX5_setToBuy 16 = .ok (.iload_n 3, 1) := by decide +kernel
theorem dX5_setToBuy_17 : decode cX5_setToBuy 17 = .ok (.iconst (-1), 1) := by decide +kernel
theorem dX5_setToBuy_18 : decode cX5_setToBuy 18 = .ok (.ixor, 1) := by decide +kernel
theorem dX5_setToBuy_19 : decode cX5_setToBuy 19 = .ok (.iand, 1) := by decide +kernel
theorem dX5_setToBuy_20 : decode cX5_setToBuy 20 = .ok (.istore 4, 2) := by decide +kernel
theorem dX5_setToBuy_22 : decode cX5_setToBuy 22 = .ok (.bipush (-9), 2) := by decide +kernel
theorem dX5_setToBuy_24 : decode cX5_setToBuy 24 = .ok (.istore 5, 2) := by decide +kernel
theorem dX5_setToBuy_26 : decode cX5_setToBuy 26 = .ok (.iconst 0, 1) := by decide +kernel
theorem dX5_setToBuy_27 : decode cX5_setToBuy 27 = .ok (.istore 6, 2) := by decide +kernel
theorem dX5_setToBuy_29 : decode cX5_setToBuy 29 = .ok (.iconst 0, 1) := by decide +kernel
theorem dX5_setToBuy_30 : decode cX5_setToBuy 30 = .ok (.istore 7, 2) := by decide +kernel
theorem dX5_setToBuy_32 : decode cX5_setToBuy 32 = .ok (.iconst 0, 1) := by decide +kernel
theorem dX5_setToBuy_33 : decode cX5_setToBuy 33 = .ok (.istore 8, 2) := by decide +kernel
theorem dX5_setToBuy_35 : decode cX5_setToBuy 35 = .ok (.iload 8, 2) := by decide +kernel
theorem dX5_setToBuy_37 : decode cX5_setToBuy 37 = .ok (.bipush 64, 2) := by decide +kernel
theorem dX5_setToBuy_39 : decode cX5_setToBuy 39 = .ok (.if_icmp .ge 113, 3) := by decide +kernel
theorem dX5_setToBuy_42 : decode cX5_setToBuy 42 = .ok (.iload 8, 2) := by decide +kernel
theorem dX5_setToBuy_44 : decode cX5_setToBuy 44 = .ok (.iload 4, 2) := by decide +kernel
theorem dX5_setToBuy_46 : decode cX5_setToBuy 46 = .ok (.invokestatic 211, 3) := by decide +kernel
theorem dX5_setToBuy_49 : decode cX5_setToBuy 49 = .ok (.ifCond .ne 6, 3) := by decide +kernel
theorem dX5_setToBuy_52 : decode cX5_setToBuy 52 = .ok (.goto 94, 3) := by decide +kernel
theorem dX5_setToBuy_55 : decode cX5_setToBuy 55 = .ok (.aload_n 0, 1) := by decide +kernel
theorem dX5_setToBuy_56 : decode cX5_setToBuy 56 = .ok (.getfield 20, 3) := by decide +kernel
theorem dX5_setToBuy_59 : decode cX5_setToBuy 59 = .ok (.iload 8, 2) := by decide +kernel
theorem dX5_setToBuy_61 : decode cX5_setToBuy 61 = .ok (.invokevirtual 192, 3) := by decide +kernel
theorem dX5_setToBuy_64 : decode cX5_setToBuy 64 = .ok (.istore 9, 2) := by decide +kernel
theorem dX5_setToBuy_66 : decode cX5_setToBuy 66 = .ok (.iload 9, 2) := by decide +kernel
theorem dX5_setToBuy_68 : decode cX5_setToBuy 68 = .ok (.aload_n 0, 1) := by decide +kernel
theorem dX5_setToBuy_69 : decode cX5_setToBuy 69 = .ok (.getfield 20, 3) := by decide +kernel
theorem dX5_setToBuy_72 : decode cX5_setToBuy 72 = .ok (.getfield 115, 3) := by decide +kernel
theorem dX5_setToBuy_75 : decode cX5_setToBuy 75 = .ok (.iload_n 1, 1) := by decide +kernel
theorem dX5_setToBuy_76 : decode cX5_setToBuy 76 = .ok (.iaload, 1) := by decide +kernel
theorem dX5_setToBuy_77 : decode cX5_setToBuy 77 = .ok (.if_icmp .gt 69, 3) := by decide +kernel
theorem dX5_setToBuy_80 : decode cX5_setToBuy 80 = .ok (.aload_n 0, 1) := by decide +kernel
theorem dX5_setToBuy_81 : decode cX5_setToBuy 81 = .ok (.getfield 20, 3) := by decide +kernel
theorem dX5_setToBuy_84 : decode cX5_setToBuy 84 = .ok (.iload_n 1, 1) := by decide +kernel
theorem dX5_setToBuy_85 : decode cX5_setToBuy 85 = .ok (.iload_n 3, 1) := by decide +kernel
theorem dX5_setToBuy_86 : decode cX5_setToBuy 86 = .ok (.iload 8, 2) := by decide +kernel
theorem dX5_setToBuy_88 : decode cX5_setToBuy 88 = .ok (.ior, 1) := by decide +kernel
theorem dX5_setToBuy_89 : decode cX5_setToBuy 89 = .ok (.invokevirtual 176, 3) := by decide +kernel
theorem dX5_setToBuy_92 : decode cX5_setToBuy 92 = .ok (.iload_n 2, 1) := by decide +kernel
theorem dX5_setToBuy_93 : decode cX5_setToBuy 93 = .ok (.if_icmp .ge 6, 3) := by decide +kernel
theorem dX5_setToBuy_96 : decode cX5_setToBuy 96 = .ok (.goto 50, 3) := by decide +kernel
theorem dX5_setToBuy_99 : decode cX5_setToBuy 99 = .ok (.iload 8, 2) := by decide +kernel
theorem dX5_setToBuy_101 : decode cX5_setToBuy 101 = .ok (.invokestatic 124, 3) := by decide +kernel
theorem dX5_setToBuy_104 : decode cX5_setToBuy 104 = .ok (.istore 10, 2) := by decide +kernel
theorem dX5_setToBuy_106 : decode cX5_setToBuy 106 = .ok (.iload 5, 2) := by decide +kernel
theorem dX5_setToBuy_108 : decode cX5_setToBuy 108 = .ok (.bipush (-9), 2) := by decide +kernel
theorem dX5_setToBuy_110 : decode cX5_setToBuy 110 = .ok (.if_icmp .eq 24, 3) := by decide +kernel
theorem dX5_setToBuy_113 : decode cX5_setToBuy 113 = .ok (.iload 9, 2) := by decide +kernel
theorem dX5_setToBuy_115 : decode cX5_setToBuy 115 = .ok (.iload 6, 2) := by decide +kernel
theorem dX5_setToBuy_117 : decode cX5_setToBuy 117 = .ok (.if_icmp .lt 17, 3) := by decide +kernel
theorem dX5_setToBuy_120 : decode cX5_setToBuy 120 = .ok (.iload 9, 2) := by decide +kernel
theorem dX5_setToBuy_122 : decode cX5_setToBuy 122 = .ok (.iload 6, 2) := by decide +kernel
theorem dX5_setToBuy_124 : decode cX5_setToBuy 124 = .ok (.if_icmp .ne 22, 3) := by decide +kernel
theorem dX5_setToBuy_127 : decode cX5_setToBuy 127 = .ok (.iload 10, 2) := by decide +kernel
theorem dX5_setToBuy_129 : decode cX5_setToBuy 129 = .ok (.iload 7, 2) := by decide +kernel
theorem dX5_setToBuy_131 : decode cX5_setToBuy 131 = .ok (.if_icmp .ge 15, 3) := by decide +kernel
theorem dX5_setToBuy_134 : decode cX5_setToBuy 134 = .ok (.iload 8, 2) := by decide +kernel
theorem dX5_setToBuy_136 : decode cX5_setToBuy 136 = .ok (.istore 5, 2) := by decide +kernel
theorem dX5_setToBuy_138 : decode cX5_setToBuy 138 = .ok (.iload 9, 2) := by decide +kernel
theorem dX5_setToBuy_140 : decode cX5_setToBuy 140 = .ok (.istore 6, 2) := by decide +kernel
theorem dX5_setToBuy_142 : decode cX5_setToBuy 142 = .ok (.iload 10, 2) := by decide +kernel
theorem dX5_setToBuy_144 : decode cX5_setToBuy 144 = .ok (.istore 7, 2) := by decide +kernel
theorem dX5_setToBuy_146 : decode cX5_setToBuy 146 = .ok (.iinc 8 1, 3) := by decide +kernel
theorem dX5_setToBuy_149 : decode cX5_setToBuy 149 = .ok (.goto (-114), 3) := by decide +kernel
theorem dX5_setToBuy_152 : decode cX5_setToBuy 152 = .ok (.iload 5, 2) := by decide +kernel
theorem dX5_setToBuy_154 : decode cX5_setToBuy 154 = .ok (.ireturn, 1) := by decide +kernel
theorem dX5_setToSell_0 : decode cX5_setToSell 0 = .ok (.aload_n 0, 1) := by decide +kernel
theorem dX5_setToSell_1 : decode cX5_setToSell 1 = .ok (.getfield 20, 3) := by decide +kernel
theorem dX5_setToSell_4 : decode cX5_setToSell 4 = .ok (.iload_n 1, 1) := by decide +kernel
theorem dX5_setToSell_5 : decode cX5_setToSell 5 = .ok (.invokevirtual 121, 3) := by decide +kernel
theorem dX5_setToSell_8 : decode cX5_setToSell 8 = .ok (.istore_n 3, 1) := by decide +kernel
theorem dX5_setToSell_9 : decode cX5_setToSell 9 = .ok (.bipush (-9), 2) := by decide +kernel
theorem dX5_setToSell_11 : decode cX5_setToSell 11 = .ok (.istore 4, 2) := by decide +kernel
theorem dX5_setToSell_13 : decode cX5_setToSell 13 = .ok (.iconst 0, 1) := by decide +kernel
theorem dX5_setToSell_14 : decode cX5_setToSell 14 = .ok (.istore 5, 2) := by decide +kernel
theorem dX5_setToSell_16 : decode cX5_setToSell 16 = .ok (.iconst 0, 1) := by decide +kernel
theorem dX5_setToSell_17 : decode cX5_setToSell 17 = .ok (.istore 6, 2) := by decide +kernel
theorem dX5_setToSell_19 : decode cX5_setToSell 19 = .ok (.iconst 0, 1) := by decide +kernel
theorem dX5_setToSell_20 : decode cX5_setToSell 20 = .ok (.istore 7, 2) := by decide +kernel
theorem dX5_setToSell_22 : decode cX5_setToSell 22 = .ok (.iload 7, 2) := by decide +kernel
theorem dX5_setToSell_24 : decode cX5_setToSell 24 = .ok (.bipush 64, 2) := by decide +kernel
theorem dX5_setToSell_26 : decode cX5_setToSell 26 = .ok (.if_icmp .ge 97, 3) := by decide +kernel
theorem dX5_setToSell_29 : decode cX5_setToSell 29 = .ok (.iload 7, 2) := by decide +kernel
theorem dX5_setToSell_31 : decode cX5_setToSell 31 = .ok (.iload_n 3, 1) := by decide +kernel
theorem dX5_setToSell_32 : decode cX5_setToSell 32 = .ok (.invokestatic 211, 3) := by decide +kernel
theorem dX5_setToSell_35 : decode cX5_setToSell 35 = .ok (.ifCond .eq 82, 3) := by decide +kernel
theorem dX5_setToSell_38 : decode cX5_setToSell 38 = .ok (.aload_n 0, 1) := by decide +kernel
theorem dX5_setToSell_39 : decode cX5_setToSell 39 = .ok (.getfield 20, 3) := by decide +kernel
theorem dX5_setToSell_42 : decode cX5_setToSell 42 = .ok (.iload 7, 2) := by decide +kernel
theorem dX5_setToSell_44 : decode cX5_setToSell 44 = .ok (.invokevirtual 192, 3) := by decide +kernel
theorem dX5_setToSell_47 : decode cX5_setToSell 47 = .ok (.iload_n 2, 1) := by decide +kernel
theorem dX5_setToSell_48 : decode cX5_setToSell 48 = .ok (.if_icmp .ge 6, 3) := by decide +kernel
theorem dX5_setToSell_51 : decode cX5_setToSell 51 = .ok (.goto 66, 3) := by decide +kernel
theorem dX5_setToSell_54 : decode cX5_setToSell 54 = .ok (.aload_n 0, 1) := by decide +kernel
theorem dX5_setToSell_55 : decode cX5_setToSell 55 = .ok (.getfield 20, 3) := by decide +kernel
theorem dX5_setToSell_58 : decode cX5_setToSell 58 = .ok (.iload_n 1, 1) := by decide +kernel
theorem dX5_setToSell_59 : decode cX5_setToSell 59 = .ok (.iload_n 3, 1) := by decide +kernel
theorem dX5_setToSell_60 : decode cX5_setToSell 60 = .ok (.iload 7, 2) := by decide +kernel
theorem dX5_setToSell_62 : decode cX5_setToSell 62 = .ok (.iconst (-1), 1) := by decide +kernel
theorem dX5_setToSell_63 : decode cX5_setToSell 63 = .ok (.ixor, 1) := by decide +kernel
theorem dX5_setToSell_64 : decode cX5_setToSell 64 = .ok (.iand, 1) := by decide +kernel
theorem dX5_setToSell_65 : decode cX5_setToSell 65 = .ok (.invokevirtual 176, 3) := by decide +kernel
theorem dX5_setToSell_68 : decode cX5_setToSell 68 = .ok (.istore 8, 2) := by decide +kernel
theorem dX5_setToSell_70 : decode cX5_setToSell 70 = .ok (.iload 7, 2) := by decide +kernel
theorem dX5_setToSell_72 : decode cX5_setToSell 72 = .ok (.invokestatic 124, 3) := by decide +kernel
theorem dX5_setToSell_75 : decode cX5_setToSell 75 = .ok (.istore 9, 2) := by decide +kernel
theorem dX5_setToSell_77 : decode cX5_setToSell 77 = .ok (.iload 4, 2) := by decide +kernel
theorem dX5_setToSell_79 : decode cX5_setToSell 79 = .ok (.bipush (-9), 2) := by decide +kernel
theorem dX5_setToSell_81 : decode cX5_setToSell 81 = .ok (.if_icmp .eq 24, 3) := by decide +kernel
theorem dX5_setToSell_84 : decode cX5_setToSell 84 = .ok (.iload 8, 2) := by decide +kernel
theorem dX5_setToSell_86 : decode cX5_setToSell 86 = .ok (.iload 5, 2) := by decide +kernel
theorem dX5_setToSell_88 : decode cX5_setToSell 88 = .ok (.if_icmp .gt 17, 3) := by decide +kernel
theorem dX5_setToSell_91 : decode cX5_setToSell 91 = .ok (.iload 8, 2) := by decide +kernel
theorem dX5_setToSell_93 : decode cX5_setToSell 93 = .ok (.iload 5, 2) := by decide +kernel
theorem dX5_setToSell_95 : decode cX5_setToSell 95 = .ok (.if_icmp .ne 22, 3) := by decide +kernel
theorem dX5_setToSell_98 : decode cX5_setToSell 98 = .ok (.iload 9, 2) := by decide +kernel
theorem dX5_setToSell_100 : decode cX5_setToSell 100 = .ok (.iload 6, 2) := by decide +kernel
theorem dX5_setToSell_102 : decode cX5_setToSell 102 = .ok (.if_icmp .ge 15, 3) := by decide +kernel
theorem dX5_setToSell_105 : decode cX5_setToSell 105 = .ok (.iload 7, 2) := by decide +kernel
theorem dX5_setToSell_107 : decode cX5_setToSell 107 = .ok (.istore 4, 2) := by decide +kernel
theorem dX5_setToSell_109 : decode cX5_setToSell 109 = .ok (.iload 8, 2) := by decide +kernel
theorem dX5_setToSell_111 : decode cX5_setToSell 111 = .ok (.istore 5, 2) := by decide +kernel
theorem dX5_setToSell_113 : decode cX5_setToSell 113 = .ok (.iload 9, 2) := by decide +kernel
theorem dX5_setToSell_115 : decode cX5_setToSell 115 = .ok (.istore 6, 2) := by decide +kernel
theorem dX5_setToSell_117 : decode cX5_setToSell 117 = .ok (.iinc 7 1, 3) := by decide +kernel
theorem dX5_setToSell_120 : decode cX5_setToSell 120 = .ok (.goto (-98), 3) := by decide +kernel
theorem dX5_setToSell_123 : decode cX5_setToSell 123 = .ok (.iload 4, 2) := by decide +kernel
theorem dX5_setToSell_125 : decode cX5_setToSell 125 = .ok (.ireturn, 1) := by decide +kernel
theorem dX5_gainOfExchange_0 : decode cX5_gainOfExchange 0 = .ok (.aload_n 0, 1) := by decide +kernel
theorem dX5_gainOfExchange_1 : decode cX5_gainOfExchange 1 = .ok (.getfield 20, 3) := by decide +kernel
theorem dX5_gainOfExchange_4 : decode cX5_gainOfExchange 4 = .ok (.getfield 100, 3) := by decide +kernel
theorem dX5_gainOfExchange_7 : decode cX5_gainOfExchange 7 = .ok (.iload_n 1, 1) := by decide +kernel
theorem dX5_gainOfExchange_8 : decode cX5_gainOfExchange 8 = .ok (.iaload, 1) := by decide +kernel
theorem dX5_gainOfExchange_9 : decode cX5_gainOfExchange 9 = .ok (.istore_n 3, 1) := by decide +kernel
theorem dX5_gainOfExchange_10 : decode cX5_gainOfExchange 10 = .ok (.aload_n 0, 1) := by decide +kernel
theorem dX5_gainOfExchange_11 : decode cX5_gainOfExchange 11 = .ok (.getfield 20, 3) := by decide +kernel
theorem dX5_gainOfExchange_14 : decode cX5_gainOfExchange 14 = .ok (.getfield 100, 3) := by decide +kernel
theorem dX5_gainOfExchange_17 : decode cX5_gainOfExchange 17 = .ok (.iload_n 2, 1) := by decide +kernel
theorem dX5_gainOfExchange_18 : decode cX5_gainOfExchange 18 = .ok (.iaload, 1) := by decide +kernel
theorem dX5_gainOfExchange_19 : decode cX5_gainOfExchange 19 = .ok (.istore 4, 2) := by decide +kernel
theorem dX5_gainOfExchange_21 : decode cX5_gainOfExchange 21 = .ok (.iload_n 3, 1) := by decide +kernel
theorem dX5_gainOfExchange_22 : decode cX5_gainOfExchange 22 = .ok (.iload 4, 2) := by decide +kernel
theorem dX5_gainOfExchange_24 : decode cX5_gainOfExchange 24 = .ok (.if_icmp .eq 25, 3) := by decide +kernel
theorem dX5_gainOfExchange_27 : decode cX5_gainOfExchange 27 = .ok (.aload_n 0, 1) := by decide +kernel
theorem dX5_gainOfExchange_28 : decode cX5_gainOfExchange 28 = .ok (.getfield 20, 3) := by decide +kernel
theorem dX5_gainOfExchange_31 : decode cX5_gainOfExchange 31 = .ok (.iload_n 1, 1) := by decide +kernel
theorem dX5_gainOfExchange_32 : decode cX5_gainOfExchange 32 = .ok (.invokevirtual 109, 3) := by decide +kernel
theorem dX5_gainOfExchange_35 : decode cX5_gainOfExchange 35 = .ok (.ifCond .ne 14, 3) := by decide +kernel
theorem dX5_gainOfExchange_38 : decode cX5_gainOfExchange 38 = .ok (.aload_n 0, 1) := by decide +kernel
theorem dX5_gainOfExchange_39 : decode cX5_gainOfExchange 39 = .ok (.getfield 20, 3) := by decide +kernel
theorem dX5_gainOfExchange_42 : decode cX5_gainOfExchange 42 = .ok (.iload_n 2, 1) := by decide +kernel
theorem dX5_gainOfExchange_43 : decode cX5_gainOfExchange 43 = .ok (.invokevirtual 109, 3) := by decide +kernel
theorem dX5_gainOfExchange_46 : decode cX5_gainOfExchange 46 = .ok (.ifCond .eq 5, 3) := by decide +kernel
theorem dX5_gainOfExchange_49 : decode cX5_gainOfExchange 49 = .ok (.iconst 0, 1) := by decide +kernel
theorem dX5_gainOfExchange_50 : decode cX5_gainOfExchange 50 = .ok (.ireturn, 1) := by decide +kernel
theorem dX5_gainOfExchange_51 : decode cX5_gainOfExchange 51 = .ok (.iconst 1, 1) := by decide +kernel
theorem dX5_gainOfExchange_52 : decode cX5_gainOfExchange 52 = .ok (.iload_n 1, 1) := by decide +kernel
theorem dX5_gainOfExchange_53 : decode cX5_gainOfExchange 53 = .ok (.ishl, 1) := by decide +kernel
theorem dX5_gainOfExchange_54 : decode cX5_gainOfExchange 54 = .ok (.iconst 1, 1) := by decide +kernel
theorem dX5_gainOfExchange_55 : decode cX5_gainOfExchange 55 = .ok (.iload_n 2, 1) := by decide +kernel
theorem dX5_gainOfExchange_56 : decode cX5_gainOfExchange 56 = .ok (.ishl, 1) := by decide +kernel
theorem dX5_gainOfExchange_57 : decode cX5_gainOfExchange 57 = .ok (.ior, 1) := by decide +kernel
theorem dX5_gainOfExchange_58 : decode cX5_gainOfExchange 58 = .ok (.istore 5, 2) := by decide +kernel
theorem dX5_gainOfExchange_60 : decode cX5_gainOfExchange 60 = .ok (.aload_n 0, 1) := by decide +kernel
theorem dX5_gainOfExchange_61 : decode cX5_gainOfExchange 61 = .ok (.getfield 20, 3) := by decide +kernel
theorem dX5_gainOfExchange_64 : decode cX5_gainOfExchange 64 = .ok (.iload_n 3, 1) := by decide +kernel
theorem dX5_gainOfExchange_65 : decode cX5_gainOfExchange 65 = .ok (.aload_n 0, 1) := by decide +kernel
theorem dX5_gainOfExchange_66 : decode cX5_gainOfExchange 66 = .ok (.getfield 20, 3) := by decide +kernel
theorem dX5_gainOfExchange_69 : decode cX5_gainOfExchange 69 = .ok (.iload_n 3, 1) := by decide +kernel
theorem dX5_gainOfExchange_70 : decode cX5_gainOfExchange 70 = .ok (.invokevirtual 121, 3) := by decide +kernel
theorem dX5_gainOfExchange_73 : decode cX5_gainOfExchange 73 = .ok (.iload 5, 2) := by decide +kernel
theorem dX5_gainOfExchange_75 : decode cX5_gainOfExchange 75 = .ok (.ixor, 1) := by decide +kernel
theorem dX5_gainOfExchange_76 : decode cX5_gainOfExchange 76 = .ok (.invokevirtual 176, 3) := by decide +kernel
theorem dX5_gainOfExchange_79 : decode cX5_gainOfExchange 79 = .ok (.aload_n 0, 1) := by decide +kernel
theorem dX5_gainOfExchange_80 : decode cX5_gainOfExchange 80 = .ok (.getfield 20, 3) := by decide +kernel
theorem dX5_gainOfExchange_83 : decode cX5_gainOfExchange 83 = .ok (.iload_n 3, 1) := by decide +kernel
theorem dX5_gainOfExchange_84 : decode cX5_gainOfExchange 84 = .ok (.aload_n 0, 1) := by decide +kernel
theorem dX5_gainOfExchange_85 : decode cX5_gainOfExchange 85 = .ok (.getfield 20, 3) := by decide +kernel
theorem dX5_gainOfExchange_88 : decode cX5_gainOfExchange 88 = .ok (.iload_n 3, 1) := by decide +kernel
theorem dX5_gainOfExchange_89 : decode cX5_gainOfExchange 89 = .ok (.invokevirtual 121, 3) := by decide +kernel
theorem dX5_gainOfExchange_92 : decode cX5_gainOfExchange 92 = .ok (.invokevirtual 176, 3) := by decide +kernel
theorem dX5_gainOfExchange_95 : decode cX5_gainOfExchange 95 = .ok (.isub, 1) := by decide +kernel
theorem dX5_gainOfExchange_96 : decode cX5_gainOfExchange 96 = .ok (.istore 6, 2) := by decide +kernel
theorem dX5_gainOfExchange_98 : decode cX5_gainOfExchange 98 = .ok (.aload_n 0, 1) := by decide +kernel
theorem dX5_gainOfExchange_99 : decode cX5_gainOfExchange 99 = .ok (.getfield 20, 3) := by decide +kernel
theorem dX5_gainOfExchange_102 : decode cX5_gainOfExchange 102 = .ok (.iload 4, 2) := by decide +kernel
theorem dX5_gainOfExchange_104 : decode cX5_gainOfExchange 104 = .ok (.aload_n 0, 1) := by decide +kernel
theorem dX5_gainOfExchange_105 : decode cX5_gainOfExchange 105 = .ok (.getfield 20, 3) := by decide +kernel
theorem dX5_gainOfExchange_108 : decode cX5_gainOfExchange 108 = .ok (.iload 4, 2) := by decide +kernel
theorem dX5_gainOfExchange_110 : decode cX5_gainOfExchange 110 = .ok (.invokevirtual 121, 3) := by decide +kernel
theorem dX5_gainOfExchange_113 : decode cX5_gainOfExchange 113 = .ok (.iload 5, 2) := by decide +kernel
theorem dX5_gainOfExchange_115 : decode cX5_gainOfExchange 115 = .ok (.ixor, 1) := by decide +kernel
theorem dX5_gainOfExchange_116 : decode cX5_gainOfExchange 116 = .ok (.invokevirtual 176, 3) := by decide +kernel
theorem dX5_gainOfExchange_119 : decode cX5_gainOfExchange 119 = .ok (.aload_n 0, 1) := by decide +kernel
theorem dX5_gainOfExchange_120 : decode cX5_gainOfExchange 120 = .ok (.getfield 20, 3) := by decide +kernel
theorem dX5_gainOfExchange_123 : decode cX5_gainOfExchange 123 = .ok (.iload 4, 2) := by decide +kernel
theorem dX5_gainOfExchange_125 : decode cX5_gainOfExchange 125 = .ok (.aload_n 0, 1) := by decide +kernel
theorem dX5_gainOfExchange_126 : decode cX5_gainOfExchange 126 = .ok (.getfield 20, 3) := by decide +kernel
theorem dX5_gainOfExchange_129 : decode cX5_gainOfExchange 129 = .ok (.iload 4, 2) := by decide +kernel
theorem dX5_gainOfExchange_131 : decode cX5_gainOfExchange 131 = .ok (.invokevirtual 121, 3) := by decide +kernel
theorem dX5_gainOfExchange_134 : decode cX5_gainOfExchange 134 = .ok (.invokevirtual 176, 3) := by decide +kernel
theorem dX5_gainOfExchange_137 : decode cX5_gainOfExchange 137 = .ok (.isub, 1) := by decide +kernel
theorem dX5_gainOfExchange_138 : decode cX5_gainOfExchange 138 = .ok (.istore 7, 2) := by decide +kernel
theorem dX5_gainOfExchange_140 : decode cX5_gainOfExchange 140 = .ok (.iload 6, 2) := by decide +kernel
theorem dX5_gainOfExchange_142 : decode cX5_gainOfExchange 142 = .ok (.ifCond .lt 8, 3) := by decide +kernel
theorem dX5_gainOfExchange_145 : decode cX5_gainOfExchange 145 = .ok (.iload 7, 2) := by decide +kernel
theorem dX5_gainOfExchange_147 : decode cX5_gainOfExchange 147 = .ok (.ifCond .ge 7, 3) := by decide +kernel
theorem dX5_gainOfExchange_150 : decode cX5_gainOfExchange 150 = .ok (.iconst 0, 1) := by decide +kernel
theorem dX5_gainOfExchange_151 : decode cX5_gainOfExchange 151 = .ok (.goto 8, 3) := by decide +kernel
theorem dX5_gainOfExchange_154 : decode cX5_gainOfExchange 154 = .ok (.iload 6, 2) := by decide +kernel
theorem dX5_gainOfExchange_156 : decode cX5_gainOfExchange 156 = .ok (.iload 7, 2) := by decide +kernel
theorem dX5_gainOfExchange_158 : decode cX5_gainOfExchange 158 = .ok (.iadd, 1) := by decide +kernel
theorem dX5_gainOfExchange_159 : decode cX5_gainOfExchange 159 = .ok (.ireturn, 1) := by decide +kernel
theorem dX5_begins_0 : decode cX5_begins 0 = .ok (.aload_n 0, 1) := by decide +kernel
theorem dX5_begins_1 : decode cX5_begins 1 = .ok (.bipush 31, 2) := by decide +kernel
theorem dX5_begins_3 : decode cX5_begins 3 = .ok (.aload_n 0, 1) := by decide +kernel
theorem dX5_begins_4 : decode cX5_begins 4 = .ok (.getfield 48, 3) := by decide +kernel
theorem dX5_begins_7 : decode cX5_begins 7 = .ok (.imul, 1) := by decide +kernel
theorem dX5_begins_8 : decode cX5_begins 8 = .ok (.iload_n 1, 1) := by decide +kernel
theorem dX5_begins_9 : decode cX5_begins 9 = .ok (.iadd, 1) := by decide +kernel
theorem dX5_begins_10 : decode cX5_begins 10 = .ok (.putfield 48, 3) := by decide +kernel
theorem dX5_begins_13 : decode cX5_begins 13 = .ok (.return_, 1) := by decide +kernel
theorem dX5_toldByClear_0 : decode cX5_toldByClear 0 = .ok (.aload_n 0, 1) := by decide +kernel
theorem dX5_toldByClear_1 : decode cX5_toldByClear 1 = .ok (.iconst 1, 1) := by decide +kernel
theorem dX5_toldByClear_2 : decode cX5_toldByClear 2 = .ok (.invokevirtual 271, 3) := by decide +kernel
theorem dX5_toldByClear_5 : decode cX5_toldByClear 5 = .ok (.aload_n 0, 1) := by decide +kernel
theorem dX5_toldByClear_6 : decode cX5_toldByClear 6 = .ok (.getfield 20, 3) := by decide +kernel
theorem dX5_toldByClear_9 : decode cX5_toldByClear 9 = .ok (.getfield 106, 3) := by decide +kernel
theorem dX5_toldByClear_12 : decode cX5_toldByClear 12 = .ok (.iload_n 1, 1) := by decide +kernel
theorem dX5_toldByClear_13 : decode cX5_toldByClear 13 = .ok (.iaload, 1) := by decide +kernel
theorem dX5_toldByClear_14 : decode cX5_toldByClear 14 = .ok (.ireturn, 1) := by decide +kernel
theorem dX5_toldByFrost_0 : decode cX5_toldByFrost 0 = .ok (.aload_n 0, 1) := by decide +kernel
theorem dX5_toldByFrost_1 : decode cX5_toldByFrost 1 = .ok (.iconst 2, 1) := by decide +kernel
theorem dX5_toldByFrost_2 : decode cX5_toldByFrost 2 = .ok (.invokevirtual 271, 3) := by decide +kernel
theorem dX5_toldByFrost_5 : decode cX5_toldByFrost 5 = .ok (.aload_n 0, 1) := by decide +kernel
theorem dX5_toldByFrost_6 : decode cX5_toldByFrost 6 = .ok (.iload_n 1, 1) := by decide +kernel
theorem dX5_toldByFrost_7 : decode cX5_toldByFrost 7 = .ok (.invokevirtual 246, 3) := by decide +kernel
theorem dX5_toldByFrost_10 : decode cX5_toldByFrost 10 = .ok (.bipush 100, 2) := by decide +kernel
theorem dX5_toldByFrost_12 : decode cX5_toldByFrost 12 = .ok (.iadd, 1) := by decide +kernel
theorem dX5_toldByFrost_13 : decode cX5_toldByFrost 13 = .ok (.ireturn, 1) := by decide +kernel
theorem dX5_toldByPainted_0 : decode cX5_toldByPainted 0 = .ok (.aload_n 0, 1) := by decide +kernel
theorem dX5_toldByPainted_1 : decode cX5_toldByPainted 1 = .ok (.iconst 3, 1) := by decide +kernel
theorem dX5_toldByPainted_2 : decode cX5_toldByPainted 2 = .ok (.invokevirtual 271, 3) := by decide +kernel
theorem dX5_toldByPainted_5 : decode cX5_toldByPainted 5 = .ok (.aload_n 0, 1) := by decide +kernel
theorem dX5_toldByPainted_6 : decode cX5_toldByPainted 6 = .ok (.iload_n 1, 1) := by decide +kernel
theorem dX5_toldByPainted_7 : decode cX5_toldByPainted 7 = .ok (.invokevirtual 240, 3) := by decide +kernel
theorem dX5_toldByPainted_10 : decode cX5_toldByPainted 10 = .ok (.istore_n 2, 1) := by decide +kernel
theorem dX5_toldByPainted_11 : decode cX5_toldByPainted 11 = .ok (.iload_n 2, 1) := by decide +kernel
theorem dX5_toldByPainted_12 : decode cX5_toldByPainted 12 = .ok (.aload_n 0, 1) := by decide +kernel
theorem dX5_toldByPainted_13 : decode cX5_toldByPainted 13 = .ok (.iload_n 1, 1) := by decide +kernel
theorem dX5_toldByPainted_14 : decode cX5_toldByPainted 14 = .ok (.invokevirtual 246, 3) := by decide +kernel
theorem dX5_toldByPainted_17 : decode cX5_toldByPainted 17 = .ok (.iadd, 1) := by decide +kernel
theorem dX5_toldByPainted_18 : decode cX5_toldByPainted 18 = .ok (.ireturn, 1) := by decide +kernel
theorem dX5_crowedByLent_0 : decode cX5_crowedByLent 0 = .ok (.aload_n 0, 1) := by decide +kernel
theorem dX5_crowedByLent_1 : decode cX5_crowedByLent 1 = .ok (.iconst 4, 1) := by decide +kernel
theorem dX5_crowedByLent_2 : decode cX5_crowedByLent 2 = .ok (.invokevirtual 271, 3) := by decide +kernel
theorem dX5_crowedByLent_5 : decode cX5_crowedByLent 5 = .ok (.iload_n 1, 1) := by decide +kernel
theorem dX5_crowedByLent_6 : decode cX5_crowedByLent 6 = .ok (.ireturn, 1) := by decide +kernel
theorem dX5_crowedByPainted_0 : decode cX5_crowedByPainted 0 = .ok (.aload_n 0, 1) := by decide +kernel
theorem dX5_crowedByPainted_1 : decode cX5_crowedByPainted 1 = .ok (.iconst 5, 1) := by decide +kernel
theorem dX5_crowedByPainted_2 : decode cX5_crowedByPainted 2 = .ok (.invokevirtual 271, 3) := by decide +kernel
theorem dX5_crowedByPainted_5 : decode cX5_crowedByPainted 5 = .ok (.bipush 70, 2) := by decide +kernel
theorem dX5_crowedByPainted_7 : decode cX5_crowedByPainted 7 = .ok (.ireturn, 1) := by decide +kernel
end
section
theorem dX6_init_0 : decode cX6_init 0 = .ok (.aload_n 0, 1) := by decide +kernel
theorem dX6_init_1 : decode cX6_init 1 = .ok (.invokespecial 1, 3) := by decide +kernel
theorem dX6_init_4 : decode cX6_init 4 = .ok (.aload_n 0, 1) := by decide +kernel
theorem dX6_init_5 : decode cX6_init 5 = .ok (.iconst 4, 1) := by decide +kernel
theorem dX6_init_6 : decode cX6_init 6 = .ok (.newarray .int, 2) := by decide +kernel
theorem dX6_init_8 : decode cX6_init 8 = .ok (.dup, 1) := by decide +kernel
theorem dX6_init_9 : decode cX6_init 9 = .ok (.iconst 0, 1) := by decide +kernel
theorem dX6_init_10 : decode cX6_init 10 = .ok (.bipush (-9), 2) := by decide +kernel
theorem dX6_init_12 : decode cX6_init 12 = .ok (.iastore, 1) := by decide +kernel
theorem dX6_init_13 : decode cX6_init 13 = .ok (.dup, 1) := by decide +kernel
theorem dX6_init_14 : decode cX6_init 14 = .ok (.iconst 1, 1) := by decide +kernel
theorem dX6_init_15 : decode cX6_init 15 = .ok (.bipush (-9), 2) := by decide +kernel
theorem dX6_init_17 : decode cX6_init 17 = .ok (.iastore, 1) := by decide +kernel
theorem dX6_init_18 : decode cX6_init 18 = .ok (.dup, 1) := by decide +kernel
theorem dX6_init_19 : decode cX6_init 19 = .ok (.iconst 2, 1) := by decide +kernel
theorem dX6_init_20 : decode cX6_init 20 = .ok (.bipush (-9), 2) := by decide +kernel
theorem dX6_init_22 : decode cX6_init 22 = .ok (.iastore, 1) := by decide +kernel
theorem dX6_init_23 : decode cX6_init 23 = .ok (.dup, 1) := by decide +kernel
theorem dX6_init_24 : decode cX6_init 24 = .ok (.iconst 3, 1) := by decide +kernel
theorem dX6_init_25 : decode cX6_init 25 = .ok (.bipush (-9), 2) := by decide +kernel
theorem dX6_init_27 : decode cX6_init 27 = .ok (.iastore, 1) := by decide +kernel
theorem dX6_init_28 : decode cX6_init 28 = .ok (.putfield 9, 3) := by decide +kernel
theorem dX6_init_31 : decode cX6_init 31 = .ok (.aload_n 0, 1) := by decide +kernel
theorem dX6_init_32 : decode cX6_init 32 = .ok (.iconst 4, 1) := by decide +kernel
theorem dX6_init_33 : decode cX6_init 33 = .ok (.newarray .int, 2) := by decide +kernel
theorem dX6_init_35 : decode cX6_init 35 = .ok (.putfield 13, 3) := by decide +kernel
theorem dX6_init_38 : decode cX6_init 38 = .ok (.aload_n 0, 1) := by decide +kernel
theorem dX6_init_39 : decode cX6_init 39 = .ok (.sipush 240, 3) := by decide +kernel
theorem dX6_init_42 : decode cX6_init 42 = .ok (.newarray .int, 2) := by decide +kernel
theorem dX6_init_44 : decode cX6_init 44 = .ok (.putfield 16, 3) := by decide +kernel
theorem dX6_init_47 : decode cX6_init 47 = .ok (.aload_n 0, 1) := by decide +kernel
theorem dX6_init_48 : decode cX6_init 48 = .ok (.iconst 4, 1) := by decide +kernel
theorem dX6_init_49 : decode cX6_init 49 = .ok (.newarray .int, 2) := by decide +kernel
theorem dX6_init_51 : decode cX6_init 51 = .ok (.putfield 19, 3) := by decide +kernel
theorem dX6_init_54 : decode cX6_init 54 = .ok (.aload_n 0, 1) := by decide +kernel
theorem dX6_init_55 : decode cX6_init 55 = .ok (.iconst 4, 1) := by decide +kernel
theorem dX6_init_56 : decode cX6_init 56 = .ok (.newarray .int, 2) := by decide +kernel
theorem dX6_init_58 : decode cX6_init 58 = .ok (.putfield 22, 3) := by decide +kernel
theorem dX6_init_61 : decode cX6_init 61 = .ok (.aload_n 0, 1) := by decide +kernel
theorem dX6_init_62 : decode cX6_init 62 = .ok (.iconst 4, 1) := by decide +kernel
theorem dX6_init_63 : decode cX6_init 63 = .ok (.newarray .boolean, 2) := by decide +kernel
theorem dX6_init_65 : decode cX6_init 65 = .ok (.putfield 25, 3) := by decide +kernel
theorem dX6_init_68 : decode cX6_init 68 = .ok (.aload_n 0, 1) := by decide +kernel
theorem dX6_init_69 : decode cX6_init 69 = .ok (.bipush 6, 2) := by decide +kernel
theorem dX6_init_71 : decode cX6_init 71 = .ok (.newarray .int, 2) := by decide +kernel
theorem dX6_init_73 : decode cX6_init 73 = .ok (.putfield 29, 3) := by decide +kernel
theorem dX6_init_76 : decode cX6_init 76 = .ok (.aload_n 0, 1) := by decide +kernel
theorem dX6_init_77 : decode cX6_init 77 = .ok (.bipush 6, 2) := by decide +kernel
theorem dX6_init_79 : decode cX6_init 79 = .ok (.newarray .int, 2) := by decide +kernel
theorem dX6_init_81 : decode cX6_init 81 = .ok (.putfield 32, 3) := by decide +kernel
theorem dX6_init_84 : decode cX6_init 84 = .ok (.aload_n 0, 1) := by decide +kernel
theorem dX6_init_85 : decode cX6_init 85 = .ok (.bipush 6, 2) := by decide +kernel
theorem dX6_init_87 : decode cX6_init 87 = .ok (.newarray .int, 2) := by decide +kernel
theorem dX6_init_89 : decode cX6_init 89 = .ok (.putfield 35, 3) := by decide +kernel
theorem dX6_init_92 : decode cX6_init 92 = .ok (.aload_n 0, 1) := by decide +kernel
theorem dX6_init_93 : decode cX6_init 93 = .ok (.bipush 6, 2) := by decide +kernel
theorem dX6_init_95 : decode cX6_init 95 = .ok (.newarray .int, 2) := by decide +kernel
theorem dX6_init_97 : decode cX6_init 97 = .ok (.putfield 38, 3) := by decide +kernel
theorem dX6_init_100 : decode cX6_init 100 = .ok (.aload_n 0, 1) := by decide +kernel
theorem dX6_init_101 : decode cX6_init 101 = .ok (.bipush 6, 2) := by decide +kernel
theorem dX6_init_103 : decode cX6_init 103 = .ok (.newarray .boolean, 2) := by decide +kernel
theorem dX6_init_105 : decode cX6_init 105 = .ok (.putfield 41, 3) := by decide +kernel
theorem dX6_init_108 : decode cX6_init 108 = .ok (.aload_n 0, 1) := by decide +kernel
theorem dX6_init_109 : decode cX6_init 109 = .ok (.iconst 4, 1) := by decide +kernel
theorem dX6_init_110 : decode cX6_init 110 = .ok (.newarray .int, 2) := by decide +kernel
theorem dX6_init_112 : decode cX6_init 112 = .ok (.putfield 44, 3) := by decide +kernel
theorem dX6_init_115 : decode cX6_init 115 = .ok (.aload_n 0, 1) := by decide +kernel
theorem dX6_init_116 : decode cX6_init 116 = .ok (.bipush 24, 2) := by decide +kernel
theorem dX6_init_118 : decode cX6_init 118 = .ok (.newarray .int, 2) := by decide +kernel
theorem dX6_init_120 : decode cX6_init 120 = .ok (.putfield 47, 3) := by decide +kernel
theorem dX6_init_123 : decode cX6_init 123 = .ok (.aload_n 0, 1) := by decide +kernel
theorem dX6_init_124 : decode cX6_init 124 = .ok (.iconst 4, 1) := by decide +kernel
theorem dX6_init_125 : decode cX6_init 125 = .ok (.newarray .int, 2) := by decide +kernel
theorem dX6_init_127 : decode cX6_init 127 = .ok (.putfield 50, 3) := by decide +kernel
theorem dX6_init_130 : decode cX6_init 130 = .ok (.aload_n 0, 1) := by decide +kernel
theorem dX6_init_131 : decode cX6_init 131 = .ok (.iconst 4, 1) := by decide +kernel
theorem dX6_init_132 : decode cX6_init 132 = .ok (.newarray .int, 2) := by decide +kernel
theorem dX6_init_134 : decode cX6_init 134 = .ok (.putfield 53, 3) := by decide +kernel
theorem dX6_init_137 : decode cX6_init 137 = .ok (.aload_n 0, 1) := by decide +kernel
theorem dX6_init_138 : decode cX6_init 138 = .ok (.iconst 4, 1) := by decide +kernel
theorem dX6_init_139 : decode cX6_init 139 = .ok (.newarray .boolean, 2) := by decide +kernel
theorem dX6_init_141 : decode cX6_init 141 = .ok (.putfield 56, 3) := by decide +kernel
theorem dX6_init_144 : decode cX6_init 144 = .ok (.aload_n 0, 1) := by decide +kernel
theorem dX6_init_145 : decode cX6_init 145 = .ok (.bipush 6, 2) := by decide +kernel
theorem dX6_init_147 : decode cX6_init 147 = .ok (.newarray .int, 2) := by decide +kernel
theorem dX6_init_149 : decode cX6_init 149 = .ok (.putfield 59, 3) := by decide +kernel
theorem dX6_init_152 : decode cX6_init 152 = .ok (.aload_n 0, 1) := by decide +kernel
theorem dX6_init_153 : decode cX6_init 153 = .ok (.bipush 6, 2) := by decide +kernel
theorem dX6_init_155 : decode cX6_init 155 = .ok (.newarray .boolean, 2) := by decide +kernel
theorem dX6_init_157 : decode cX6_init 157 = .ok (.putfield 62, 3) := by decide +kernel
theorem dX6_init_160 : decode cX6_init 160 = .ok (.aload_n 0, 1) := by decide +kernel
theorem dX6_init_161 : decode cX6_init 161 = .ok (.bipush 6, 2) := by decide +kernel
theorem dX6_init_163 : decode cX6_init 163 = .ok (.newarray .int, 2) := by decide +kernel
theorem dX6_init_165 : decode cX6_init 165 = .ok (.putfield 65, 3) := by decide +kernel
theorem dX6_init_168 : decode cX6_init 168 = .ok (.aload_n 0, 1) := by decide +kernel
theorem dX6_init_169 : decode cX6_init 169 = .ok (.bipush 6, 2) := by decide +kernel
theorem dX6_init_171 : decode cX6_init 171 = .ok (.newarray .int, 2) := by decide +kernel
theorem dX6_init_173 : decode cX6_init 173 = .ok (.putfield 68, 3) := by decide +kernel
theorem dX6_init_176 : decode cX6_init 176 = .ok (.aload_n 0, 1) := by decide +kernel
theorem dX6_init_177 : decode cX6_init 177 = .ok (.bipush 8, 2) := by decide +kernel
theorem dX6_init_179 : decode cX6_init 179 = .ok (.newarray .int, 2) := by decide +kernel
theorem dX6_init_181 : decode cX6_init 181 = .ok (.putfield 71, 3) := by decide +kernel
theorem dX6_init_184 : decode cX6_init 184 = .ok (.aload_n 0, 1) := by decide +kernel
theorem dX6_init_185 : decode cX6_init 185 = .ok (.bipush 8, 2) := by decide +kernel
theorem dX6_init_187 : decode cX6_init 187 = .ok (.newarray .int, 2) := by decide +kernel
theorem dX6_init_189 : decode cX6_init 189 = .ok (.putfield 74, 3) := by decide +kernel
theorem dX6_init_192 : decode cX6_init 192 = .ok (.aload_n 0, 1) := by decide +kernel
theorem dX6_init_193 : decode cX6_init 193 = .ok (.bipush 8, 2) := by decide +kernel
theorem dX6_init_195 : decode cX6_init 195 = .ok (.newarray .int, 2) := by decide +kernel
theorem dX6_init_197 : decode cX6_init 197 = .ok (.putfield 77, 3) := by decide +kernel
theorem dX6_init_200 : decode cX6_init 200 = .ok (.return_, 1) := by decide +kernel
theorem dX6_fails_0 : decode cX6_fails 0 = .ok (.aload_n 0, 1) := by decide +kernel
theorem dX6_fails_1 : decode cX6_fails 1 = .ok (.iload_n 1, 1) := by decide +kernel
theorem dX6_fails_2 : decode cX6_fails 2 = .ok (.putfield 80, 3) := by decide +kernel
theorem dX6_fails_5 : decode cX6_fails 5 = .ok (.bipush (-10), 2) := by decide +kernel
theorem dX6_fails_7 : decode cX6_fails 7 = .ok (.iload_n 1, 1) := by decide +kernel
theorem dX6_fails_8 : decode cX6_fails 8 = .ok (.isub, 1) := by decide +kernel
theorem dX6_fails_9 : decode cX6_fails 9 = .ok (.ireturn, 1) := by decide +kernel
theorem dX6_lost_0 : decode cX6_lost 0 = .ok (.aload_n 0, 1) := by decide +kernel
theorem dX6_lost_1 : decode cX6_lost 1 = .ok (.iload_n 1, 1) := by decide +kernel
theorem dX6_lost_2 : decode cX6_lost 2 = .ok (.putfield 80, 3) := by decide +kernel
theorem dX6_lost_5 : decode cX6_lost 5 = .ok (.ldc2_w 84, 3) := by decide +kernel
theorem dX6_lost_8 : decode cX6_lost 8 = .ok (.lreturn, 1) := by decide +kernel
theorem dX6_within_0 : decode cX6_within 0 = .ok (.iload_n 0, 1) := by decide +kernel
theorem dX6_within_1 : decode cX6_within 1 = .ok (.iload_n 1, 1) := by decide +kernel
theorem dX6_within_2 : decode cX6_within 2 = .ok (.if_icmp .lt 12, 3) := by decide +kernel
theorem dX6_within_5 : decode cX6_within 5 = .ok (.iload_n 0, 1) := by decide +kernel
theorem dX6_within_6 : decode cX6_within 6 = .ok (.iload_n 2, 1) := by decide +kernel
theorem dX6_within_7 : decode cX6_within 7 = .ok (.if_icmp .gt 7, 3) := by decide +kernel
theorem dX6_within_10 : decode cX6_within 10 = .ok (.iconst 1, 1) := by decide +kernel
theorem dX6_within_11 : decode cX6_within 11 = .ok (.goto 4, 3) := by decide +kernel
theorem dX6_within_14 : decode cX6_within 14 = .ok (.iconst 0, 1) := by decide +kernel
theorem dX6_within_15 : decode cX6_within 15 = .ok (.ireturn, 1) := by decide +kernel
theorem dX6_isSheet_0 : decode cX6_isSheet 0 = .ok (.iload_n 0, 1) := by decide +kernel
theorem dX6_isSheet_1 : decode cX6_isSheet 1 = .ok (.iconst 0, 1) := by decide +kernel
theorem dX6_isSheet_2 : decode cX6_isSheet 2 = .ok (.iconst 3, 1) := by decide +kernel
theorem dX6_isSheet_3 : decode cX6_isSheet 3 = .ok (.invokestatic 86, 3) := by decide +kernel
theorem dX6_isSheet_6 : decode cX6_isSheet 6 = .ok (.ireturn, 1) := by decide +kernel
theorem dX6_isSort_0 : decode cX6_isSort 0 = .ok (.iload_n 0, 1) := by decide +kernel
theorem dX6_isSort_1 : decode cX6_isSort 1 = .ok (.iconst 0, 1) := by decide +kernel
theorem dX6_isSort_2 : decode cX6_isSort 2 = .ok (.iconst 2, 1) := by decide +kernel
theorem dX6_isSort_3 : decode cX6_isSort 3 = .ok (.invokestatic 86, 3) := by decide +kernel
theorem dX6_isSort_6 : decode cX6_isSort 6 = .ok (.ireturn, 1) := by decide +kernel
theorem dX6_against_0 : decode cX6_against 0 = .ok (.aload_n 0, 1) := by decide +kernel
theorem dX6_against_1 : decode cX6_against 1 = .ok (.getfield 9, 3) := by decide +kernel
theorem dX6_against_4 : decode cX6_against 4 = .ok (.iload_n 1, 1) := by decide +kernel
theorem dX6_against_5 : decode cX6_against 5 = .ok (.iaload, 1) := by decide +kernel
theorem dX6_against_6 : decode cX6_against 6 = .ok (.bipush (-9), 2) := by decide +kernel
theorem dX6_against_8 : decode cX6_against 8 = .ok (.if_icmp .eq 15, 3) := by decide +kernel
theorem dX6_against_11 : decode cX6_against 11 = .ok (.aload_n 0, 1) := by decide +kernel
theorem dX6_against_12 : decode cX6_against 12 = .ok (.getfield 9, 3) := by decide +kernel
theorem dX6_against_15 : decode cX6_against 15 = .ok (.iload_n 1, 1) := by decide +kernel
theorem dX6_against_16 : decode cX6_against 16 = .ok (.iaload, 1) := by decide +kernel
theorem dX6_against_17 : decode cX6_against 17 = .ok (.iload_n 2, 1) := by decide +kernel
theorem dX6_against_18 : decode cX6_against 18 = .ok (.if_icmp .eq 5, 3) := by decide +kernel
theorem dX6_against_21 : decode cX6_against 21 = .ok (.iconst 2, 1) := by decide +kernel
theorem dX6_against_22 : decode cX6_against 22 = .ok (.ireturn, 1) := by decide +kernel
theorem dX6_against_23 : decode cX6_against 23 = .ok (.aload_n 0, 1) := by decide +kernel
theorem dX6_against_24 : decode cX6_against 24 = .ok (.getfield 9, 3) := by decide +kernel
theorem dX6_against_27 : decode cX6_against 27 = .ok (.iload_n 1, 1) := by decide +kernel
theorem dX6_against_28 : decode cX6_against 28 = .ok (.iaload, 1) := by decide +kernel
theorem dX6_against_29 : decode cX6_against 29 = .ok (.bipush (-9), 2) := by decide +kernel
theorem dX6_against_31 : decode cX6_against 31 = .ok (.if_icmp .ne 5, 3) := by decide +kernel
theorem dX6_against_34 : decode cX6_against 34 = .ok (.iconst 1, 1) := by decide +kernel
theorem dX6_against_35 : decode cX6_against 35 = .ok (.ireturn, 1) := by decide +kernel
theorem dX6_against_36 : decode cX6_against 36 = .ok (.iload 4, 2) := by decide +kernel
theorem dX6_against_38 : decode cX6_against 38 = .ok (.ifCond .ge 5, 3) := by decide +kernel
theorem dX6_against_41 : decode cX6_against 41 = .ok (.iconst 4, 1) := by decide +kernel
theorem dX6_against_42 : decode cX6_against 42 = .ok (.ireturn, 1) := by decide +kernel
theorem dX6_against_43 : decode cX6_against 43 = .ok (.iload_n 3, 1) := by decide +kernel
theorem dX6_against_44 : decode cX6_against 44 = .ok (.ifCond .lt 26, 3) := by decide +kernel
theorem dX6_against_47 : decode cX6_against 47 = .ok (.iload_n 3, 1) := by decide +kernel
theorem dX6_against_48 : decode cX6_against 48 = .ok (.aload_n 0, 1) := by decide +kernel
theorem dX6_against_49 : decode cX6_against 49 = .ok (.getfield 13, 3) := by decide +kernel
theorem dX6_against_52 : decode cX6_against 52 = .ok (.iload_n 1, 1) := by decide +kernel
theorem dX6_against_53 : decode cX6_against 53 = .ok (.iaload, 1) := by decide +kernel
theorem dX6_against_54 : decode cX6_against 54 = .ok (.if_icmp .gt 16, 3) := by decide +kernel
theorem dX6_against_57 : decode cX6_against 57 = .ok (.iload 4, 2) := by decide +kernel
theorem dX6_against_59 : decode cX6_against 59 = .ok (.aload_n 0, 1) := by decide +kernel
theorem dX6_against_60 : decode cX6_against 60 = .ok (.getfield 13, 3) := by decide +kernel
theorem dX6_against_63 : decode cX6_against 63 = .ok (.iload_n 1, 1) := by decide +kernel
theorem dX6_against_64 : decode cX6_against 64 = .ok (.iaload, 1) := by decide +kernel
theorem dX6_against_65 : decode cX6_against 65 = .ok (.iload_n 3, 1) := by decide +kernel
theorem dX6_against_66 : decode cX6_against 66 = .ok (.isub, 1) := by decide +kernel
theorem dX6_against_67 : decode cX6_against 67 = .ok (.if_icmp .le 7, 3) := by decide +kernel
theorem dX6_against_70 : decode cX6_against 70 = .ok (.iconst 3, 1) := by decide +kernel
theorem dX6_against_71 : decode cX6_against 71 = .ok (.goto 4, 3) := by decide +kernel
theorem dX6_against_74 : decode cX6_against 74 = .ok (.iconst 0, 1) := by decide +kernel
theorem dX6_against_75 : decode cX6_against 75 = .ok (.ireturn, 1) := by decide +kernel
theorem dX6_isPerson_0 : decode cX6_isPerson 0 = .ok (.iload_n 1, 1) := by decide +kernel
theorem dX6_isPerson_1 : decode cX6_isPerson 1 = .ok (.ifCond .lt 15, 3) := by decide +kernel
theorem dX6_isPerson_4 : decode cX6_isPerson 4 = .ok (.iload_n 1, 1) := by decide +kernel
theorem dX6_isPerson_5 : decode cX6_isPerson 5 = .ok (.aload_n 0, 1) := by decide +kernel
theorem dX6_isPerson_6 : decode cX6_isPerson 6 = .ok (.getfield 90, 3) := by decide +kernel
theorem dX6_isPerson_9 : decode cX6_isPerson 9 = .ok (.if_icmp .ge 7, 3) := by decide +kernel
theorem dX6_isPerson_12 : decode cX6_isPerson 12 = .ok (.iconst 1, 1) := by decide +kernel
theorem dX6_isPerson_13 : decode cX6_isPerson 13 = .ok (.goto 4, 3) := by decide +kernel
theorem dX6_isPerson_16 : decode cX6_isPerson 16 = .ok (.iconst 0, 1) := by decide +kernel
theorem dX6_isPerson_17 : decode cX6_isPerson 17 = .ok (.ireturn, 1) := by decide +kernel
theorem dX6_isMorning_0 : decode cX6_isMorning 0 = .ok (.iload_n 1, 1) := by decide +kernel
theorem dX6_isMorning_1 : decode cX6_isMorning 1 = .ok (.ifCond .lt 15, 3) := by decide +kernel
theorem dX6_isMorning_4 : decode cX6_isMorning 4 = .ok (.iload_n 1, 1) := by decide +kernel
theorem dX6_isMorning_5 : decode cX6_isMorning 5 = .ok (.aload_n 0, 1) := by decide +kernel
theorem dX6_isMorning_6 : decode cX6_isMorning 6 = .ok (.getfield 93, 3) := by decide +kernel
theorem dX6_isMorning_9 : decode cX6_isMorning 9 = .ok (.if_icmp .ge 7, 3) := by decide +kernel
theorem dX6_isMorning_12 : decode cX6_isMorning 12 = .ok (.iconst 1, 1) := by decide +kernel
theorem dX6_isMorning_13 : decode cX6_isMorning 13 = .ok (.goto 4, 3) := by decide +kernel
theorem dX6_isMorning_16 : decode cX6_isMorning 16 = .ok (.iconst 0, 1) := by decide +kernel
theorem dX6_isMorning_17 : decode cX6_isMorning 17 = .ok (.ireturn, 1) := by decide +kernel
theorem dX6_digit_0 : decode cX6_digit 0 = .ok (.aload_n 0, 1) := by decide +kernel
theorem dX6_digit_1 : decode cX6_digit 1 = .ok (.getfield 96, 3) := by decide +kernel
theorem dX6_digit_4 : decode cX6_digit 4 = .ok (.iload_n 1, 1) := by decide +kernel
theorem dX6_digit_5 : decode cX6_digit 5 = .ok (.if_icmp .ge 26, 3) := by decide +kernel
theorem dX6_digit_8 : decode cX6_digit 8 = .ok (.aload_n 0, 1) := by decide +kernel
theorem dX6_digit_9 : decode cX6_digit 9 = .ok (.getfield 16, 3) := by decide +kernel
theorem dX6_digit_12 : decode cX6_digit 12 = .ok (.aload_n 0, 1) := by decide +kernel
theorem dX6_digit_13 : decode cX6_digit 13 = .ok (.getfield 96, 3) := by decide +kernel
theorem dX6_digit_16 : decode cX6_digit 16 = .ok (.iaload, 1) := by decide +kernel
theorem dX6_digit_17 : decode cX6_digit 17 = .ok (.bipush 48, 2) := by decide +kernel
theorem dX6_digit_19 : decode cX6_digit 19 = .ok (.iload_n 2, 1) := by decide +kernel
theorem dX6_digit_20 : decode cX6_digit 20 = .ok (.iadd, 1) := by decide +kernel
theorem dX6_digit_21 : decode cX6_digit 21 = .ok (.bipush 48, 2) := by decide +kernel
theorem dX6_digit_23 : decode cX6_digit 23 = .ok (.iload_n 3, 1) := by decide +kernel
theorem dX6_digit_24 : decode cX6_digit 24 = .ok (.iadd, 1) := by decide +kernel
theorem dX6_digit_25 : decode cX6_digit 25 = .ok (.invokestatic 86, 3) := by decide +kernel
theorem dX6_digit_28 : decode cX6_digit 28 = .ok (.ifCond .ne 6, 3) := by decide +kernel
theorem dX6_digit_31 : decode cX6_digit 31 = .ok (.bipush (-9), 2) := by decide +kernel
theorem dX6_digit_33 : decode cX6_digit 33 = .ok (.ireturn, 1) := by decide +kernel
theorem dX6_digit_34 : decode cX6_digit 34 = .ok (.aload_n 0, 1) := by decide +kernel
theorem dX6_digit_35 : decode cX6_digit 35 = .ok (.dup, 1) := by decide +kernel
theorem dX6_digit_36 : decode cX6_digit 36 = .ok (.getfield 96, 3) := by decide +kernel
theorem dX6_digit_39 : decode cX6_digit 39 = .ok (.iconst 1, 1) := by decide +kernel
theorem dX6_digit_40 : decode cX6_digit 40 = .ok (.iadd, 1) := by decide +kernel
theorem dX6_digit_41 : decode cX6_digit 41 = .ok (.putfield 96, 3) := by decide +kernel
theorem dX6_digit_44 : decode cX6_digit 44 = .ok (.aload_n 0, 1) := by decide +kernel
theorem dX6_digit_45 : decode cX6_digit 45 = .ok (.getfield 16, 3) := by decide +kernel
theorem dX6_digit_48 : decode cX6_digit 48 = .ok (.aload_n 0, 1) := by decide +kernel
theorem dX6_digit_49 : decode cX6_digit 49 = .ok (.getfield 96, 3) := by decide +kernel
theorem dX6_digit_52 : decode cX6_digit 52 = .ok (.iconst 1, 1) := by decide +kernel
theorem dX6_digit_53 : decode cX6_digit 53 = .ok (.isub, 1) := by decide +kernel
theorem dX6_digit_54 : decode cX6_digit 54 = .ok (.iaload, 1) := by decide +kernel
theorem dX6_digit_55 : decode cX6_digit 55 = .ok (.bipush 48, 2) := by decide +kernel
theorem dX6_digit_57 : decode cX6_digit 57 = .ok (.isub, 1) := by decide +kernel
theorem dX6_digit_58 : decode cX6_digit 58 = .ok (.ireturn, 1) := by decide +kernel
theorem dX6_isSign_0 : decode cX6_isSign 0 = .ok (.aload_n 0, 1) := by decide +kernel
theorem dX6_isSign_1 : decode cX6_isSign 1 = .ok (.getfield 96, 3) := by decide +kernel
theorem dX6_isSign_4 : decode cX6_isSign 4 = .ok (.iload_n 1, 1) := by decide +kernel
theorem dX6_isSign_5 : decode cX6_isSign 5 = .ok (.if_icmp .ge 16, 3) := by decide +kernel
theorem dX6_isSign_8 : decode cX6_isSign 8 = .ok (.aload_n 0, 1) := by decide +kernel
theorem dX6_isSign_9 : decode cX6_isSign 9 = .ok (.getfield 16, 3) := by decide +kernel
theorem dX6_isSign_12 : decode cX6_isSign 12 = .ok (.aload_n 0, 1) := by decide +kernel
theorem dX6_isSign_13 : decode cX6_isSign 13 = .ok (.getfield 96, 3) := by decide +kernel
theorem dX6_isSign_16 : decode cX6_isSign 16 = .ok (.iaload, 1) := by decide +kernel
theorem dX6_isSign_17 : decode cX6_isSign 17 = .ok (.iload_n 2, 1) := by decide +kernel
theorem dX6_isSign_18 : decode cX6_isSign 18 = .ok (.if_icmp .eq 5, 3) := by decide +kernel
theorem dX6_isSign_21 : decode cX6_isSign 21 = .ok (.iconst 0, 1) := by decide +kernel
theorem dX6_isSign_22 : decode cX6_isSign 22 = .ok (.ireturn, 1) := by decide +kernel
theorem dX6_isSign_23 : decode cX6_isSign 23 = .ok (.aload_n 0, 1) := by decide +kernel
theorem dX6_isSign_24 : decode cX6_isSign 24 = .ok (.dup, 1) := by decide +kernel
theorem dX6_isSign_25 : decode cX6_isSign 25 = .ok (.getfield 96, 3) := by decide +kernel
theorem dX6_isSign_28 : decode cX6_isSign 28 = .ok (.iconst 1, 1) := by decide +kernel
theorem dX6_isSign_29 : decode cX6_isSign 29 = .ok (.iadd, 1) := by decide +kernel
theorem dX6_isSign_30 : decode cX6_isSign 30 = .ok (.putfield 96, 3) := by decide +kernel
theorem dX6_isSign_33 : decode cX6_isSign 33 = .ok (.iconst 1, 1) := by decide +kernel
theorem dX6_isSign_34 : decode cX6_isSign 34 = .ok (.ireturn, 1) := by decide +kernel
theorem dX6_market_0 : decode cX6_market 0 = .ok (.aload_n 0, 1) := by decide +kernel
theorem dX6_market_1 : decode cX6_market 1 = .ok (.iconst 0, 1) := by decide +kernel
theorem dX6_market_2 : decode cX6_market 2 = .ok (.putfield 80, 3) := by decide +kernel
theorem dX6_market_5 : decode cX6_market 5 = .ok (.iload_n 1, 1) := by decide +kernel
theorem dX6_market_6 : decode cX6_market 6 = .ok (.invokestatic 99, 3) := by decide +kernel
theorem dX6_market_9 : decode cX6_market 9 = .ok (.ifCond .ne 5, 3) := by decide +kernel
theorem dX6_market_12 : decode cX6_market 12 = .ok (.iconst (-1), 1) := by decide +kernel
theorem dX6_market_13 : decode cX6_market 13 = .ok (.ireturn, 1) := by decide +kernel
theorem dX6_market_14 : decode cX6_market 14 = .ok (.iload_n 2, 1) := by decide +kernel
theorem dX6_market_15 : decode cX6_market 15 = .ok (.invokestatic 103, 3) := by decide +kernel
theorem dX6_market_18 : decode cX6_market 18 = .ok (.ifCond .ne 6, 3) := by decide +kernel
theorem dX6_market_21 : decode cX6_market 21 = .ok (.bipush (-2), 2) := by decide +kernel
theorem dX6_market_23 : decode cX6_market 23 = .ok (.ireturn, 1) := by decide +kernel
theorem dX6_market_24 : decode cX6_market 24 = .ok (.aload_n 0, 1) := by decide +kernel
theorem dX6_market_25 : decode cX6_market 25 = .ok (.iload_n 1, 1) := by decide +kernel
theorem dX6_market_26 : decode cX6_market 26 = .ok (.iload_n 2, 1) := by decide +kernel
theorem dX6_market_27 : decode cX6_market 27 = .ok (.iload_n 3, 1) := by decide +kernel
theorem dX6_market_28 : decode cX6_market 28 = .ok (.iload 4, 2) := by decide +kernel
theorem dX6_market_30 : decode cX6_market 30 = .ok (.invokevirtual 106, 3) := by decide +kernel
theorem dX6_market_33 : decode cX6_market 33 = .ok (.istore 5, 2) := by decide +kernel
theorem dX6_market_35 : decode cX6_market 35 = .ok (.iload 5, 2) := by decide +kernel
theorem dX6_market_37 : decode cX6_market 37 = .ok (.ifCond .eq 10, 3) := by decide +kernel
theorem dX6_market_40 : decode cX6_market 40 = .ok (.aload_n 0, 1) := by decide +kernel
theorem dX6_market_41 : decode cX6_market 41 = .ok (.iload 5, 2) := by decide +kernel
theorem dX6_market_43 : decode cX6_market 43 = .ok (.invokevirtual 110, 3) := by decide +kernel
theorem dX6_market_46 : decode cX6_market 46 = .ok (.ireturn, 1) := by decide +kernel
theorem dX6_market_47 : decode cX6_market 47 = .ok (.bipush 60, 2) := by decide +kernel
theorem dX6_market_49 : decode cX6_market 49 = .ok (.iload_n 1, 1) := by decide +kernel
theorem dX6_market_50 : decode cX6_market 50 = .ok (.imul, 1) := by decide +kernel
theorem dX6_market_51 : decode cX6_market 51 = .ok (.iload_n 3, 1) := by decide +kernel
theorem dX6_market_52 : decode cX6_market 52 = .ok (.iadd, 1) := by decide +kernel
theorem dX6_market_53 : decode cX6_market 53 = .ok (.istore 6, 2) := by decide +kernel
theorem dX6_market_55 : decode cX6_market 55 = .ok (.aload_n 0, 1) := by decide +kernel
theorem dX6_market_56 : decode cX6_market 56 = .ok (.iload 6, 2) := by decide +kernel
theorem dX6_market_58 : decode cX6_market 58 = .ok (.putfield 96, 3) := by decide +kernel
theorem dX6_market_61 : decode cX6_market 61 = .ok (.aload_n 0, 1) := by decide +kernel
theorem dX6_market_62 : decode cX6_market 62 = .ok (.iload 6, 2) := by decide +kernel
theorem dX6_market_64 : decode cX6_market 64 = .ok (.iload 4, 2) := by decide +kernel
theorem dX6_market_66 : decode cX6_market 66 = .ok (.iadd, 1) := by decide +kernel
theorem dX6_market_67 : decode cX6_market 67 = .ok (.invokevirtual 114, 3) := by decide +kernel
theorem dX6_market_70 : decode cX6_market 70 = .ok (.ifCond .ne 14, 3) := by decide +kernel
theorem dX6_market_73 : decode cX6_market 73 = .ok (.bipush (-100), 2) := by decide +kernel
theorem dX6_market_75 : decode cX6_market 75 = .ok (.aload_n 0, 1) := by decide +kernel
theorem dX6_market_76 : decode cX6_market 76 = .ok (.getfield 96, 3) := by decide +kernel
theorem dX6_market_79 : decode cX6_market 79 = .ok (.iload 6, 2) := by decide +kernel
theorem dX6_market_81 : decode cX6_market 81 = .ok (.isub, 1) := by decide +kernel
theorem dX6_market_82 : decode cX6_market 82 = .ok (.isub, 1) := by decide +kernel
theorem dX6_market_83 : decode cX6_market 83 = .ok (.ireturn, 1) := by decide +kernel
theorem dX6_market_84 : decode cX6_market 84 = .ok (.aload_n 0, 1) := by decide +kernel
theorem dX6_market_85 : decode cX6_market 85 = .ok (.invokevirtual 117, 3) := by decide +kernel
theorem dX6_market_88 : decode cX6_market 88 = .ok (.aload_n 0, 1) := by decide +kernel
theorem dX6_market_89 : decode cX6_market 89 = .ok (.getfield 93, 3) := by decide +kernel
theorem dX6_market_92 : decode cX6_market 92 = .ok (.ireturn, 1) := by decide +kernel
theorem dX6_takeMarket_0 : decode cX6_takeMarket 0 = .ok (.aload_n 0, 1) := by decide +kernel
theorem dX6_takeMarket_1 : decode cX6_takeMarket 1 = .ok (.aload_n 0, 1) := by decide +kernel
theorem dX6_takeMarket_2 : decode cX6_takeMarket 2 = .ok (.getfield 120, 3) := by decide +kernel
theorem dX6_takeMarket_5 : decode cX6_takeMarket 5 = .ok (.putfield 123, 3) := by decide +kernel
theorem dX6_takeMarket_8 : decode cX6_takeMarket 8 = .ok (.aload_n 0, 1) := by decide +kernel
theorem dX6_takeMarket_9 : decode cX6_takeMarket 9 = .ok (.aload_n 0, 1) := by decide +kernel
theorem dX6_takeMarket_10 : decode cX6_takeMarket 10 = .ok (.getfield 126, 3) := by decide +kernel
theorem dX6_takeMarket_13 : decode cX6_takeMarket 13 = .ok (.putfield 90, 3) := by decide +kernel
theorem dX6_takeMarket_16 : decode cX6_takeMarket 16 = .ok (.aload_n 0, 1) := by decide +kernel
theorem dX6_takeMarket_17 : decode cX6_takeMarket 17 = .ok (.iconst 0, 1) := by decide +kernel
theorem dX6_takeMarket_18 : decode cX6_takeMarket 18 = .ok (.putfield 129, 3) := by decide +kernel
theorem dX6_takeMarket_21 : decode cX6_takeMarket 21 = .ok (.iconst 0, 1) := by decide +kernel
theorem dX6_takeMarket_22 : decode cX6_takeMarket 22 = .ok (.istore_n 1, 1) := by decide +kernel
theorem dX6_takeMarket_23 : decode cX6_takeMarket 23 = .ok (.iload_n 1, 1) := by decide +kernel
theorem dX6_takeMarket_24 : decode cX6_takeMarket 24 = .ok (.aload_n 0, 1) := by decide +kernel
theorem dX6_takeMarket_25 : decode cX6_takeMarket 25 = .ok (.getfield 90, 3) := by decide +kernel
theorem dX6_takeMarket_28 : decode cX6_takeMarket 28 = .ok (.if_icmp .ge 35, 3) := by decide +kernel
theorem dX6_takeMarket_31 : decode cX6_takeMarket 31 = .ok (.aload_n 0, 1) := by decide +kernel
theorem dX6_takeMarket_32 : decode cX6_takeMarket 32 = .ok (.getfield 19, 3) := by decide +kernel
theorem dX6_takeMarket_35 : decode cX6_takeMarket 35 = .ok (.iload_n 1, 1) := by decide +kernel
theorem dX6_takeMarket_36 : decode cX6_takeMarket 36 = .ok (.aload_n 0, 1) := by decide +kernel
theorem dX6_takeMarket_37 : decode cX6_takeMarket 37 = .ok (.getfield 44, 3) := by decide +kernel
theorem dX6_takeMarket_40 : decode cX6_takeMarket 40 = .ok (.iload_n 1, 1) := by decide +kernel
theorem dX6_takeMarket_41 : decode cX6_takeMarket 41 = .ok (.iaload, 1) := by decide +kernel
theorem dX6_takeMarket_42 : decode cX6_takeMarket 42 = .ok (.iastore, 1) := by decide +kernel
theorem dX6_takeMarket_43 : decode cX6_takeMarket 43 = .ok (.aload_n 0, 1) := by decide +kernel
theorem dX6_takeMarket_44 : decode cX6_takeMarket 44 = .ok (.getfield 22, 3) := by decide +kernel
theorem dX6_takeMarket_47 : decode cX6_takeMarket 47 = .ok (.iload_n 1, 1) := by decide +kernel
theorem dX6_takeMarket_48 : decode cX6_takeMarket 48 = .ok (.iconst 0, 1) := by decide +kernel
theorem dX6_takeMarket_49 : decode cX6_takeMarket 49 = .ok (.iastore, 1) := by decide +kernel
theorem dX6_takeMarket_50 : decode cX6_takeMarket 50 = .ok (.aload_n 0, 1) := by decide +kernel
theorem dX6_takeMarket_51 : decode cX6_takeMarket 51 = .ok (.getfield 25, 3) := by decide +kernel
theorem dX6_takeMarket_54 : decode cX6_takeMarket 54 = .ok (.iload_n 1, 1) := by decide +kernel
theorem dX6_takeMarket_55 : decode cX6_takeMarket 55 = .ok (.iconst 0, 1) := by decide +kernel
theorem dX6_takeMarket_56 : decode cX6_takeMarket 56 = .ok (.bastore, 1) := by decide +kernel
theorem dX6_takeMarket_57 : decode cX6_takeMarket 57 = .ok (.iinc 1 1, 3) := by decide +kernel
theorem dX6_takeMarket_60 : decode cX6_takeMarket 60 = .ok (.goto (-37), 3) := by decide +kernel
theorem dX6_takeMarket_63 : decode cX6_takeMarket 63 = .ok (.aload_n 0, 1) := by decide +kernel
theorem dX6_takeMarket_64 : decode cX6_takeMarket 64 = .ok (.aload_n 0, 1) := by decide +kernel
theorem dX6_takeMarket_65 : decode cX6_takeMarket 65 = .ok (.getfield 132, 3) := by decide +kernel
theorem dX6_takeMarket_68 : decode cX6_takeMarket 68 = .ok (.putfield 93, 3) := by decide +kernel
theorem dX6_takeMarket_71 : decode cX6_takeMarket 71 = .ok (.iconst 0, 1) := by decide +kernel
theorem dX6_takeMarket_72 : decode cX6_takeMarket 72 = .ok (.istore_n 1, 1) := by decide +kernel
theorem dX6_takeMarket_73 : decode cX6_takeMarket 73 = .ok (.iload_n 1, 1) := by decide +kernel
theorem dX6_takeMarket_74 : decode cX6_takeMarket 74 = .ok (.aload_n 0, 1) := by decide +kernel
theorem dX6_takeMarket_75 : decode cX6_takeMarket 75 = .ok (.getfield 93, 3) := by decide +kernel
theorem dX6_takeMarket_78 : decode cX6_takeMarket 78 = .ok (.if_icmp .ge 78, 3) := by decide +kernel
theorem dX6_takeMarket_81 : decode cX6_takeMarket 81 = .ok (.aload_n 0, 1) := by decide +kernel
theorem dX6_takeMarket_82 : decode cX6_takeMarket 82 = .ok (.getfield 29, 3) := by decide +kernel
theorem dX6_takeMarket_85 : decode cX6_takeMarket 85 = .ok (.iload_n 1, 1) := by decide +kernel
theorem dX6_takeMarket_86 : decode cX6_takeMarket 86 = .ok (.aload_n 0, 1) := by decide +kernel
theorem dX6_takeMarket_87 : decode cX6_takeMarket 87 = .ok (.getfield 47, 3) := by decide +kernel
theorem dX6_takeMarket_90 : decode cX6_takeMarket 90 = .ok (.iconst 4, 1) := by decide +kernel
theorem dX6_takeMarket_91 : decode cX6_takeMarket 91 = .ok (.iload_n 1, 1) := by decide +kernel
theorem dX6_takeMarket_92 : decode cX6_takeMarket 92 = .ok (.imul, 1) := by decide +kernel
theorem dX6_takeMarket_93 : decode cX6_takeMarket 93 = .ok (.iaload, 1) := by decide +kernel
theorem dX6_takeMarket_94 : decode cX6_takeMarket 94 = .ok (.iastore, 1) := by decide +kernel
theorem dX6_takeMarket_95 : decode cX6_takeMarket 95 = .ok (.aload_n 0, 1) := by decide +kernel
theorem dX6_takeMarket_96 : decode cX6_takeMarket 96 = .ok (.getfield 32, 3) := by decide +kernel
theorem dX6_takeMarket_99 : decode cX6_takeMarket 99 = .ok (.iload_n 1, 1) := by decide +kernel
theorem dX6_takeMarket_100 : decode cX6_takeMarket 100 = .ok (.aload_n 0, 1) := by decide +kernel
theorem dX6_takeMarket_101 : decode cX6_takeMarket 101 = .ok (.getfield 47, 3) := by decide +kernel
theorem dX6_takeMarket_104 : decode cX6_takeMarket 104 = .ok (.iconst 4, 1) := by decide +kernel
theorem dX6_takeMarket_105 : decode cX6_takeMarket 105 = .ok (.iload_n 1, 1) := by decide +kernel
theorem dX6_takeMarket_106 : decode cX6_takeMarket 106 = .ok (.imul, 1) := by decide +kernel
theorem dX6_takeMarket_107 : decode cX6_takeMarket 107 = .ok (.iconst 1, 1) := by decide +kernel
theorem dX6_takeMarket_108 : decode cX6_takeMarket 108 = .ok (.iadd, 1) := by decide +kernel
theorem dX6_takeMarket_109 : decode cX6_takeMarket 109 = .ok (.iaload, 1) := by decide +kernel
theorem dX6_takeMarket_110 : decode cX6_takeMarket 110 = .ok (.iastore, 1) := by decide +kernel
theorem dX6_takeMarket_111 : decode cX6_takeMarket 111 = .ok (.aload_n 0, 1) := by decide +kernel
theorem dX6_takeMarket_112 : decode cX6_takeMarket 112 = .ok (.getfield 35, 3) := by decide +kernel
theorem dX6_takeMarket_115 : decode cX6_takeMarket 115 = .ok (.iload_n 1, 1) := by decide +kernel
theorem dX6_takeMarket_116 : decode cX6_takeMarket 116 = .ok (.aload_n 0, 1) := by decide +kernel
theorem dX6_takeMarket_117 : decode cX6_takeMarket 117 = .ok (.getfield 47, 3) := by decide +kernel
theorem dX6_takeMarket_120 : decode cX6_takeMarket 120 = .ok (.iconst 4, 1) := by decide +kernel
theorem dX6_takeMarket_121 : decode cX6_takeMarket 121 = .ok (.iload_n 1, 1) := by decide +kernel
theorem dX6_takeMarket_122 : decode cX6_takeMarket 122 = .ok (.imul, 1) := by decide +kernel
theorem dX6_takeMarket_123 : decode cX6_takeMarket 123 = .ok (.iconst 2, 1) := by decide +kernel
theorem dX6_takeMarket_124 : decode cX6_takeMarket 124 = .ok (.iadd, 1) := by decide +kernel
theorem dX6_takeMarket_125 : decode cX6_takeMarket 125 = .ok (.iaload, 1) := by decide +kernel
theorem dX6_takeMarket_126 : decode cX6_takeMarket 126 = .ok (.iastore, 1) := by decide +kernel
theorem dX6_takeMarket_127 : decode cX6_takeMarket 127 = .ok (.aload_n 0, 1) := by decide +kernel
theorem dX6_takeMarket_128 : decode cX6_takeMarket 128 = .ok (.getfield 38, 3) := by decide +kernel
theorem dX6_takeMarket_131 : decode cX6_takeMarket 131 = .ok (.iload_n 1, 1) := by decide +kernel
theorem dX6_takeMarket_132 : decode cX6_takeMarket 132 = .ok (.aload_n 0, 1) := by decide +kernel
theorem dX6_takeMarket_133 : decode cX6_takeMarket 133 = .ok (.getfield 47, 3) := by decide +kernel
theorem dX6_takeMarket_136 : decode cX6_takeMarket 136 = .ok (.iconst 4, 1) := by decide +kernel
theorem dX6_takeMarket_137 : decode cX6_takeMarket 137 = .ok (.iload_n 1, 1) := by decide +kernel
theorem dX6_takeMarket_138 : decode cX6_takeMarket 138 = .ok (.imul, 1) := by decide +kernel
theorem dX6_takeMarket_139 : decode cX6_takeMarket 139 = .ok (.iconst 3, 1) := by decide +kernel
theorem dX6_takeMarket_140 : decode cX6_takeMarket 140 = .ok (.iadd, 1) := by decide +kernel
theorem dX6_takeMarket_141 : decode cX6_takeMarket 141 = .ok (.iaload, 1) := by decide +kernel
theorem dX6_takeMarket_142 : decode cX6_takeMarket 142 = .ok (.iastore, 1) := by decide +kernel
theorem dX6_takeMarket_143 : decode cX6_takeMarket 143 = .ok (.aload_n 0, 1) := by decide +kernel
theorem dX6_takeMarket_144 : decode cX6_takeMarket 144 = .ok (.getfield 41, 3) := by decide +kernel
theorem dX6_takeMarket_147 : decode cX6_takeMarket 147 = .ok (.iload_n 1, 1) := by decide +kernel
theorem dX6_takeMarket_148 : decode cX6_takeMarket 148 = .ok (.iconst 0, 1) := by decide +kernel
theorem dX6_takeMarket_149 : decode cX6_takeMarket 149 = .ok (.bastore, 1) := by decide +kernel
theorem dX6_takeMarket_150 : decode cX6_takeMarket 150 = .ok (.iinc 1 1, 3) := by decide +kernel
theorem dX6_takeMarket_153 : decode cX6_takeMarket 153 = .ok (.goto (-80), 3) := by decide +kernel
theorem dX6_takeMarket_156 : decode cX6_takeMarket 156 = .ok (.aload_n 0, 1) := by decide +kernel
theorem dX6_takeMarket_157 : decode cX6_takeMarket 157 = .ok (.iconst 0, 1) := by decide +kernel
theorem dX6_takeMarket_158 : decode cX6_takeMarket 158 = .ok (.putfield 135, 3) := by decide +kernel
theorem dX6_takeMarket_161 : decode cX6_takeMarket 161 = .ok (.return_, 1) := by decide +kernel
theorem dX6_readMarket_0 : decode cX6_readMarket 0 = .ok (.aload_n 0, 1) := by decide +kernel
theorem dX6_readMarket_1 : decode cX6_readMarket 1 = .ok (.iconst 0, 1) := by decide +kernel
theorem dX6_readMarket_2 : decode cX6_readMarket 2 = .ok (.putfield 126, 3) := by decide +kernel
theorem dX6_readMarket_5 : decode cX6_readMarket 5 = .ok (.aload_n 0, 1) := by decide +kernel
theorem dX6_readMarket_6 : decode cX6_readMarket 6 = .ok (.iconst 0, 1) := by decide +kernel
theorem dX6_readMarket_7 : decode cX6_readMarket 7 = .ok (.putfield 132, 3) := by decide +kernel
theorem dX6_readMarket_10 : decode cX6_readMarket 10 = .ok (.aload_n 0, 1) := by decide +kernel
theorem dX6_readMarket_11 : decode cX6_readMarket 11 = .ok (.iload_n 1, 1) := by decide +kernel
theorem dX6_readMarket_12 : decode cX6_readMarket 12 = .ok (.bipush 109, 2) := by decide +kernel
theorem dX6_readMarket_14 : decode cX6_readMarket 14 = .ok (.invokevirtual 138, 3) := by decide +kernel
theorem dX6_readMarket_17 : decode cX6_readMarket 17 = .ok (.ifCond .ne 5, 3) := by decide +kernel
theorem dX6_readMarket_20 : decode cX6_readMarket 20 = .ok (.iconst 0, 1) := by decide +kernel
theorem dX6_readMarket_21 : decode cX6_readMarket 21 = .ok (.ireturn, 1) := by decide +kernel
theorem dX6_readMarket_22 : decode cX6_readMarket 22 = .ok (.aload_n 0, 1) := by decide +kernel
theorem dX6_readMarket_23 : decode cX6_readMarket 23 = .ok (.aload_n 0, 1) := by decide +kernel
theorem dX6_readMarket_24 : decode cX6_readMarket 24 = .ok (.iload_n 1, 1) := by decide +kernel
theorem dX6_readMarket_25 : decode cX6_readMarket 25 = .ok (.iconst 1, 1) := by decide +kernel
theorem dX6_readMarket_26 : decode cX6_readMarket 26 = .ok (.bipush 9, 2) := by decide +kernel
theorem dX6_readMarket_28 : decode cX6_readMarket 28 = .ok (.invokevirtual 142, 3) := by decide +kernel
theorem dX6_readMarket_31 : decode cX6_readMarket 31 = .ok (.putfield 120, 3) := by decide +kernel
theorem dX6_readMarket_34 : decode cX6_readMarket 34 = .ok (.aload_n 0, 1) := by decide +kernel
theorem dX6_readMarket_35 : decode cX6_readMarket 35 = .ok (.getfield 120, 3) := by decide +kernel
theorem dX6_readMarket_38 : decode cX6_readMarket 38 = .ok (.bipush (-9), 2) := by decide +kernel
theorem dX6_readMarket_40 : decode cX6_readMarket 40 = .ok (.if_icmp .eq 21, 3) := by decide +kernel
theorem dX6_readMarket_43 : decode cX6_readMarket 43 = .ok (.aload_n 0, 1) := by decide +kernel
theorem dX6_readMarket_44 : decode cX6_readMarket 44 = .ok (.iload_n 1, 1) := by decide +kernel
theorem dX6_readMarket_45 : decode cX6_readMarket 45 = .ok (.bipush 44, 2) := by decide +kernel
theorem dX6_readMarket_47 : decode cX6_readMarket 47 = .ok (.invokevirtual 138, 3) := by decide +kernel
theorem dX6_readMarket_50 : decode cX6_readMarket 50 = .ok (.ifCond .eq 11, 3) := by decide +kernel
theorem dX6_readMarket_53 : decode cX6_readMarket 53 = .ok (.aload_n 0, 1) := by decide +kernel
theorem dX6_readMarket_54 : decode cX6_readMarket 54 = .ok (.iload_n 1, 1) := by decide +kernel
theorem dX6_readMarket_55 : decode cX6_readMarket 55 = .ok (.invokevirtual 146, 3) := by decide +kernel
theorem dX6_readMarket_58 : decode cX6_readMarket 58 = .ok (.ifCond .ne 5, 3) := by decide +kernel
theorem dX6_readMarket_61 : decode cX6_readMarket 61 = .ok (.iconst 0, 1) := by decide +kernel
theorem dX6_readMarket_62 : decode cX6_readMarket 62 = .ok (.ireturn, 1) := by decide +kernel
theorem dX6_readMarket_63 : decode cX6_readMarket 63 = .ok (.aload_n 0, 1) := by decide +kernel
theorem dX6_readMarket_64 : decode cX6_readMarket 64 = .ok (.getfield 126, 3) := by decide +kernel
theorem dX6_readMarket_67 : decode cX6_readMarket 67 = .ok (.iconst 4, 1) := by decide +kernel
theorem dX6_readMarket_68 : decode cX6_readMarket 68 = .ok (.if_icmp .ge 23, 3) := by decide +kernel
theorem dX6_readMarket_71 : decode cX6_readMarket 71 = .ok (.aload_n 0, 1) := by decide +kernel
theorem dX6_readMarket_72 : decode cX6_readMarket 72 = .ok (.iload_n 1, 1) := by decide +kernel
theorem dX6_readMarket_73 : decode cX6_readMarket 73 = .ok (.bipush 44, 2) := by decide +kernel
theorem dX6_readMarket_75 : decode cX6_readMarket 75 = .ok (.invokevirtual 138, 3) := by decide +kernel
theorem dX6_readMarket_78 : decode cX6_readMarket 78 = .ok (.ifCond .eq 13, 3) := by decide +kernel
theorem dX6_readMarket_81 : decode cX6_readMarket 81 = .ok (.aload_n 0, 1) := by decide +kernel
theorem dX6_readMarket_82 : decode cX6_readMarket 82 = .ok (.iload_n 1, 1) := by decide +kernel
theorem dX6_readMarket_83 : decode cX6_readMarket 83 = .ok (.invokevirtual 146, 3) := by decide +kernel
theorem dX6_readMarket_86 : decode cX6_readMarket 86 = .ok (.ifCond .ne (-23), 3) := by decide +kernel
theorem dX6_readMarket_89 : decode cX6_readMarket 89 = .ok (.iconst 0, 1) := by decide +kernel
theorem dX6_readMarket_90 : decode cX6_readMarket 90 = .ok (.ireturn, 1) := by decide +kernel
theorem dX6_readMarket_91 : decode cX6_readMarket 91 = .ok (.aload_n 0, 1) := by decide +kernel
theorem dX6_readMarket_92 : decode cX6_readMarket 92 = .ok (.getfield 132, 3) := by decide +kernel
theorem dX6_readMarket_95 : decode cX6_readMarket 95 = .ok (.ifCond .eq 20, 3) := by decide +kernel
theorem dX6_readMarket_98 : decode cX6_readMarket 98 = .ok (.aload_n 0, 1) := by decide +kernel
theorem dX6_readMarket_99 : decode cX6_readMarket 99 = .ok (.getfield 132, 3) := by decide +kernel
theorem dX6_readMarket_102 : decode cX6_readMarket 102 = .ok (.bipush 6, 2) := by decide +kernel
theorem dX6_readMarket_104 : decode cX6_readMarket 104 = .ok (.if_icmp .ge 31, 3) := by decide +kernel
theorem dX6_readMarket_107 : decode cX6_readMarket 107 = .ok (.aload_n 0, 1) := by decide +kernel
theorem dX6_readMarket_108 : decode cX6_readMarket 108 = .ok (.getfield 96, 3) := by decide +kernel
theorem dX6_readMarket_111 : decode cX6_readMarket 111 = .ok (.iload_n 1, 1) := by decide +kernel
theorem dX6_readMarket_112 : decode cX6_readMarket 112 = .ok (.if_icmp .ge 23, 3) := by decide +kernel
theorem dX6_readMarket_115 : decode cX6_readMarket 115 = .ok (.aload_n 0, 1) := by decide +kernel
theorem dX6_readMarket_116 : decode cX6_readMarket 116 = .ok (.iload_n 1, 1) := by decide +kernel
theorem dX6_readMarket_117 : decode cX6_readMarket 117 = .ok (.bipush 59, 2) := by decide +kernel
theorem dX6_readMarket_119 : decode cX6_readMarket 119 = .ok (.invokevirtual 138, 3) := by decide +kernel
theorem dX6_readMarket_122 : decode cX6_readMarket 122 = .ok (.ifCond .eq 11, 3) := by decide +kernel
theorem dX6_readMarket_125 : decode cX6_readMarket 125 = .ok (.aload_n 0, 1) := by decide +kernel
theorem dX6_readMarket_126 : decode cX6_readMarket 126 = .ok (.iload_n 1, 1) := by decide +kernel
theorem dX6_readMarket_127 : decode cX6_readMarket 127 = .ok (.invokevirtual 149, 3) := by decide +kernel
theorem dX6_readMarket_130 : decode cX6_readMarket 130 = .ok (.ifCond .ne (-39), 3) := by decide +kernel
theorem dX6_readMarket_133 : decode cX6_readMarket 133 = .ok (.iconst 0, 1) := by decide +kernel
theorem dX6_readMarket_134 : decode cX6_readMarket 134 = .ok (.ireturn, 1) := by decide +kernel
theorem dX6_readMarket_135 : decode cX6_readMarket 135 = .ok (.aload_n 0, 1) := by decide +kernel
theorem dX6_readMarket_136 : decode cX6_readMarket 136 = .ok (.getfield 96, 3) := by decide +kernel
theorem dX6_readMarket_139 : decode cX6_readMarket 139 = .ok (.iload_n 1, 1) := by decide +kernel
theorem dX6_readMarket_140 : decode cX6_readMarket 140 = .ok (.if_icmp .ne 7, 3) := by decide +kernel
theorem dX6_readMarket_143 : decode cX6_readMarket 143 = .ok (.iconst 1, 1) := by decide +kernel
theorem dX6_readMarket_144 : decode cX6_readMarket 144 = .ok (.goto 4, 3) := by decide +kernel
theorem dX6_readMarket_147 : decode cX6_readMarket 147 = .ok (.iconst 0, 1) := by decide +kernel
theorem dX6_readMarket_148 : decode cX6_readMarket 148 = .ok (.ireturn, 1) := by decide +kernel
theorem dX6_readPerson_0 : decode cX6_readPerson 0 = .ok (.aload_n 0, 1) := by decide +kernel
theorem dX6_readPerson_1 : decode cX6_readPerson 1 = .ok (.iload_n 1, 1) := by decide +kernel
theorem dX6_readPerson_2 : decode cX6_readPerson 2 = .ok (.iconst 0, 1) := by decide +kernel
theorem dX6_readPerson_3 : decode cX6_readPerson 3 = .ok (.bipush 9, 2) := by decide +kernel
theorem dX6_readPerson_5 : decode cX6_readPerson 5 = .ok (.invokevirtual 142, 3) := by decide +kernel
theorem dX6_readPerson_8 : decode cX6_readPerson 8 = .ok (.istore_n 2, 1) := by decide +kernel
theorem dX6_readPerson_9 : decode cX6_readPerson 9 = .ok (.iload_n 2, 1) := by decide +kernel
theorem dX6_readPerson_10 : decode cX6_readPerson 10 = .ok (.bipush (-9), 2) := by decide +kernel
theorem dX6_readPerson_12 : decode cX6_readPerson 12 = .ok (.if_icmp .ne 5, 3) := by decide +kernel
theorem dX6_readPerson_15 : decode cX6_readPerson 15 = .ok (.iconst 0, 1) := by decide +kernel
theorem dX6_readPerson_16 : decode cX6_readPerson 16 = .ok (.ireturn, 1) := by decide +kernel
theorem dX6_readPerson_17 : decode cX6_readPerson 17 = .ok (.aload_n 0, 1) := by decide +kernel
theorem dX6_readPerson_18 : decode cX6_readPerson 18 = .ok (.iload_n 1, 1) := by decide +kernel
theorem dX6_readPerson_19 : decode cX6_readPerson 19 = .ok (.iconst 0, 1) := by decide +kernel
theorem dX6_readPerson_20 : decode cX6_readPerson 20 = .ok (.bipush 9, 2) := by decide +kernel
theorem dX6_readPerson_22 : decode cX6_readPerson 22 = .ok (.invokevirtual 142, 3) := by decide +kernel
theorem dX6_readPerson_25 : decode cX6_readPerson 25 = .ok (.istore_n 3, 1) := by decide +kernel
theorem dX6_readPerson_26 : decode cX6_readPerson 26 = .ok (.iload_n 3, 1) := by decide +kernel
theorem dX6_readPerson_27 : decode cX6_readPerson 27 = .ok (.bipush (-9), 2) := by decide +kernel
theorem dX6_readPerson_29 : decode cX6_readPerson 29 = .ok (.if_icmp .ne 5, 3) := by decide +kernel
theorem dX6_readPerson_32 : decode cX6_readPerson 32 = .ok (.iconst 0, 1) := by decide +kernel
theorem dX6_readPerson_33 : decode cX6_readPerson 33 = .ok (.ireturn, 1) := by decide +kernel
theorem dX6_readPerson_34 : decode cX6_readPerson 34 = .ok (.aload_n 0, 1) := by decide +kernel
theorem dX6_readPerson_35 : decode cX6_readPerson 35 = .ok (.getfield 44, 3) := by decide +kernel
theorem dX6_readPerson_38 : decode cX6_readPerson 38 = .ok (.aload_n 0, 1) := by decide +kernel
theorem dX6_readPerson_39 : decode cX6_readPerson 39 = .ok (.getfield 126, 3) := by decide +kernel
theorem dX6_readPerson_42 : decode cX6_readPerson 42 = .ok (.bipush 10, 2) := by decide +kernel
theorem dX6_readPerson_44 : decode cX6_readPerson 44 = .ok (.iload_n 2, 1) := by decide +kernel
theorem dX6_readPerson_45 : decode cX6_readPerson 45 = .ok (.imul, 1) := by decide +kernel
theorem dX6_readPerson_46 : decode cX6_readPerson 46 = .ok (.iload_n 3, 1) := by decide +kernel
theorem dX6_readPerson_47 : decode cX6_readPerson 47 = .ok (.iadd, 1) := by decide +kernel
theorem dX6_readPerson_48 : decode cX6_readPerson 48 = .ok (.iastore, 1) := by decide +kernel
theorem dX6_readPerson_49 : decode cX6_readPerson 49 = .ok (.aload_n 0, 1) := by decide +kernel
theorem dX6_readPerson_50 : decode cX6_readPerson 50 = .ok (.dup, 1) := by decide +kernel
theorem dX6_readPerson_51 : decode cX6_readPerson 51 = .ok (.getfield 126, 3) := by decide +kernel
theorem dX6_readPerson_54 : decode cX6_readPerson 54 = .ok (.iconst 1, 1) := by decide +kernel
theorem dX6_readPerson_55 : decode cX6_readPerson 55 = .ok (.iadd, 1) := by decide +kernel
theorem dX6_readPerson_56 : decode cX6_readPerson 56 = .ok (.putfield 126, 3) := by decide +kernel
theorem dX6_readPerson_59 : decode cX6_readPerson 59 = .ok (.iconst 1, 1) := by decide +kernel
theorem dX6_readPerson_60 : decode cX6_readPerson 60 = .ok (.ireturn, 1) := by decide +kernel
theorem dX6_readMorning_0 : decode cX6_readMorning 0 = .ok (.aload_n 0, 1) := by decide +kernel
theorem dX6_readMorning_1 : decode cX6_readMorning 1 = .ok (.getfield 96, 3) := by decide +kernel
theorem dX6_readMorning_4 : decode cX6_readMorning 4 = .ok (.iload_n 1, 1) := by decide +kernel
theorem dX6_readMorning_5 : decode cX6_readMorning 5 = .ok (.if_icmp .ge 15, 3) := by decide +kernel
theorem dX6_readMorning_8 : decode cX6_readMorning 8 = .ok (.aload_n 0, 1) := by decide +kernel
theorem dX6_readMorning_9 : decode cX6_readMorning 9 = .ok (.getfield 16, 3) := by decide +kernel
theorem dX6_readMorning_12 : decode cX6_readMorning 12 = .ok (.aload_n 0, 1) := by decide +kernel
theorem dX6_readMorning_13 : decode cX6_readMorning 13 = .ok (.getfield 96, 3) := by decide +kernel
theorem dX6_readMorning_16 : decode cX6_readMorning 16 = .ok (.iaload, 1) := by decide +kernel
theorem dX6_readMorning_17 : decode cX6_readMorning 17 = .ok (.goto 4, 3) := by decide +kernel
theorem dX6_readMorning_20 : decode cX6_readMorning 20 = .ok (.iconst 0, 1) := by decide +kernel
theorem dX6_readMorning_21 : decode cX6_readMorning 21 = .ok (.istore_n 2, 1) := by decide +kernel
theorem dX6_readMorning_22 : decode cX6_readMorning 22 = .ok (.iconst 4, 1) := by decide +kernel
theorem dX6_readMorning_23 : decode cX6_readMorning 23 = .ok (.aload_n 0, 1) := by decide +kernel
theorem dX6_readMorning_24 : decode cX6_readMorning 24 = .ok (.getfield 132, 3) := by decide +kernel
theorem dX6_readMorning_27 : decode cX6_readMorning 27 = .ok (.imul, 1) := by decide +kernel
theorem dX6_readMorning_28 : decode cX6_readMorning 28 = .ok (.istore_n 3, 1) := by decide +kernel
theorem dX6_readMorning_29 : decode cX6_readMorning 29 = .ok (.aload_n 0, 1) := by decide +kernel
theorem dX6_readMorning_30 : decode cX6_readMorning 30 = .ok (.getfield 47, 3) := by decide +kernel
theorem dX6_readMorning_33 : decode cX6_readMorning 33 = .ok (.iload_n 3, 1) := by decide +kernel
theorem dX6_readMorning_34 : decode cX6_readMorning 34 = .ok (.iload_n 2, 1) := by decide +kernel
theorem dX6_readMorning_35 : decode cX6_readMorning 35 = .ok (.bipush 99, 2) := by decide +kernel
theorem dX6_readMorning_37 : decode cX6_readMorning 37 = .ok (.if_icmp .ne 7, 3) := by decide +kernel
theorem dX6_readMorning_40 : decode cX6_readMorning 40 = .ok (.iconst 0, 1) := by decide +kernel
theorem dX6_readMorning_41 : decode cX6_readMorning 41 = .ok (.goto 25, 3) := by decide +kernel
theorem dX6_readMorning_44 : decode cX6_readMorning 44 = .ok (.iload_n 2, 1) := by decide +kernel
theorem dX6_readMorning_45 : decode cX6_readMorning 45 = .ok (.bipush 102, 2) := by decide +kernel
theorem dX6_readMorning_47 : decode cX6_readMorning 47 = .ok (.if_icmp .ne 7, 3) := by decide +kernel
theorem dX6_readMorning_50 : decode cX6_readMorning 50 = .ok (.iconst 1, 1) := by decide +kernel
theorem dX6_readMorning_51 : decode cX6_readMorning 51 = .ok (.goto 15, 3) := by decide +kernel
theorem dX6_readMorning_54 : decode cX6_readMorning 54 = .ok (.iload_n 2, 1) := by decide +kernel
theorem dX6_readMorning_55 : decode cX6_readMorning 55 = .ok (.bipush 112, 2) := by decide +kernel
theorem dX6_readMorning_57 : decode cX6_readMorning 57 = .ok (.if_icmp .ne 7, 3) := by decide +kernel
theorem dX6_readMorning_60 : decode cX6_readMorning 60 = .ok (.iconst 2, 1) := by decide +kernel
theorem dX6_readMorning_61 : decode cX6_readMorning 61 = .ok (.goto 5, 3) := by decide +kernel
theorem dX6_readMorning_64 : decode cX6_readMorning 64 = .ok (.bipush (-9), 2) := by decide +kernel
theorem dX6_readMorning_66 : decode cX6_readMorning 66 = .ok (.iastore, 1) := by decide +kernel
theorem dX6_readMorning_67 : decode cX6_readMorning 67 = .ok (.aload_n 0, 1) := by decide +kernel
theorem dX6_readMorning_68 : decode cX6_readMorning 68 = .ok (.getfield 47, 3) := by decide +kernel
theorem dX6_readMorning_71 : decode cX6_readMorning 71 = .ok (.iload_n 3, 1) := by decide +kernel
theorem dX6_readMorning_72 : decode cX6_readMorning 72 = .ok (.iaload, 1) := by decide +kernel
theorem dX6_readMorning_73 : decode cX6_readMorning 73 = .ok (.bipush (-9), 2) := by decide +kernel
theorem dX6_readMorning_75 : decode cX6_readMorning 75 = .ok (.if_icmp .ne 5, 3) := by decide +kernel
theorem dX6_readMorning_78 : decode cX6_readMorning 78 = .ok (.iconst 0, 1) := by decide +kernel
theorem dX6_readMorning_79 : decode cX6_readMorning 79 = .ok (.ireturn, 1) := by decide +kernel
theorem dX6_readMorning_80 : decode cX6_readMorning 80 = .ok (.aload_n 0, 1) := by decide +kernel
theorem dX6_readMorning_81 : decode cX6_readMorning 81 = .ok (.dup, 1) := by decide +kernel
theorem dX6_readMorning_82 : decode cX6_readMorning 82 = .ok (.getfield 96, 3) := by decide +kernel
theorem dX6_readMorning_85 : decode cX6_readMorning 85 = .ok (.iconst 1, 1) := by decide +kernel
theorem dX6_readMorning_86 : decode cX6_readMorning 86 = .ok (.iadd, 1) := by decide +kernel
theorem dX6_readMorning_87 : decode cX6_readMorning 87 = .ok (.putfield 96, 3) := by decide +kernel
theorem dX6_readMorning_90 : decode cX6_readMorning 90 = .ok (.iconst 1, 1) := by decide +kernel
theorem dX6_readMorning_91 : decode cX6_readMorning 91 = .ok (.istore 4, 2) := by decide +kernel
theorem dX6_readMorning_93 : decode cX6_readMorning 93 = .ok (.iload 4, 2) := by decide +kernel
theorem dX6_readMorning_95 : decode cX6_readMorning 95 = .ok (.iconst 4, 1) := by decide +kernel
theorem dX6_readMorning_96 : decode cX6_readMorning 96 = .ok (.if_icmp .ge 57, 3) := by decide +kernel
theorem dX6_readMorning_99 : decode cX6_readMorning 99 = .ok (.aload_n 0, 1) := by decide +kernel
theorem dX6_readMorning_100 : decode cX6_readMorning 100 = .ok (.getfield 47, 3) := by decide +kernel
theorem dX6_readMorning_103 : decode cX6_readMorning 103 = .ok (.iload_n 3, 1) := by decide +kernel
theorem dX6_readMorning_104 : decode cX6_readMorning 104 = .ok (.iload 4, 2) := by decide +kernel
theorem dX6_readMorning_106 : decode cX6_readMorning 106 = .ok (.iadd, 1) := by decide +kernel
theorem dX6_readMorning_107 : decode cX6_readMorning 107 = .ok (.aload_n 0, 1) := by decide +kernel
theorem dX6_readMorning_108 : decode cX6_readMorning 108 = .ok (.iload_n 1, 1) := by decide +kernel
theorem dX6_readMorning_109 : decode cX6_readMorning 109 = .ok (.iconst 0, 1) := by decide +kernel
theorem dX6_readMorning_110 : decode cX6_readMorning 110 = .ok (.iload 4, 2) := by decide +kernel
theorem dX6_readMorning_112 : decode cX6_readMorning 112 = .ok (.iconst 1, 1) := by decide +kernel
theorem dX6_readMorning_113 : decode cX6_readMorning 113 = .ok (.if_icmp .ne 12, 3) := by decide +kernel
theorem dX6_readMorning_116 : decode cX6_readMorning 116 = .ok (.aload_n 0, 1) := by decide +kernel
theorem dX6_readMorning_117 : decode cX6_readMorning 117 = .ok (.getfield 126, 3) := by decide +kernel
theorem dX6_readMorning_120 : decode cX6_readMorning 120 = .ok (.iconst 1, 1) := by decide +kernel
theorem dX6_readMorning_121 : decode cX6_readMorning 121 = .ok (.isub, 1) := by decide +kernel
theorem dX6_readMorning_122 : decode cX6_readMorning 122 = .ok (.goto 5, 3) := by decide +kernel
theorem dX6_readMorning_125 : decode cX6_readMorning 125 = .ok (.bipush 9, 2) := by decide +kernel
theorem dX6_readMorning_127 : decode cX6_readMorning 127 = .ok (.invokevirtual 142, 3) := by decide +kernel
theorem dX6_readMorning_130 : decode cX6_readMorning 130 = .ok (.iastore, 1) := by decide +kernel
theorem dX6_readMorning_131 : decode cX6_readMorning 131 = .ok (.aload_n 0, 1) := by decide +kernel
theorem dX6_readMorning_132 : decode cX6_readMorning 132 = .ok (.getfield 47, 3) := by decide +kernel
theorem dX6_readMorning_135 : decode cX6_readMorning 135 = .ok (.iload_n 3, 1) := by decide +kernel
theorem dX6_readMorning_136 : decode cX6_readMorning 136 = .ok (.iload 4, 2) := by decide +kernel
theorem dX6_readMorning_138 : decode cX6_readMorning 138 = .ok (.iadd, 1) := by decide +kernel
theorem dX6_readMorning_139 : decode cX6_readMorning 139 = .ok (.iaload, 1) := by decide +kernel
theorem dX6_readMorning_140 : decode cX6_readMorning 140 = .ok (.bipush (-9), 2) := by decide +kernel
theorem dX6_readMorning_142 : decode cX6_readMorning 142 = .ok (.if_icmp .ne 5, 3) := by decide +kernel
theorem dX6_readMorning_145 : decode cX6_readMorning 145 = .ok (.iconst 0, 1) := by decide +kernel
theorem dX6_readMorning_146 : decode cX6_readMorning 146 = .ok (.ireturn, 1) := by decide +kernel
theorem dX6_readMorning_147 : decode cX6_readMorning 147 = .ok (.iinc 4 1, 3) := by decide +kernel
theorem dX6_readMorning_150 : decode cX6_readMorning 150 = .ok (.goto (-57), 3) := by decide +kernel
theorem dX6_readMorning_153 : decode cX6_readMorning 153 = .ok (.aload_n 0, 1) := by decide +kernel
theorem dX6_readMorning_154 : decode cX6_readMorning 154 = .ok (.dup, 1) := by decide +kernel
theorem dX6_readMorning_155 : decode cX6_readMorning 155 = .ok (.getfield 132, 3) := by decide +kernel
theorem dX6_readMorning_158 : decode cX6_readMorning 158 = .ok (.iconst 1, 1) := by decide +kernel
theorem dX6_readMorning_159 : decode cX6_readMorning 159 = .ok (.iadd, 1) := by decide +kernel
theorem dX6_readMorning_160 : decode cX6_readMorning 160 = .ok (.putfield 132, 3) := by decide +kernel
theorem dX6_readMorning_163 : decode cX6_readMorning 163 = .ok (.iconst 1, 1) := by decide +kernel
theorem dX6_readMorning_164 : decode cX6_readMorning 164 = .ok (.ireturn, 1) := by decide +kernel
theorem dX6_freshOn_0 : decode cX6_freshOn 0 = .ok (.iload_n 2, 1) := by decide +kernel
theorem dX6_freshOn_1 : decode cX6_freshOn 1 = .ok (.aload_n 0, 1) := by decide +kernel
theorem dX6_freshOn_2 : decode cX6_freshOn 2 = .ok (.getfield 35, 3) := by decide +kernel
theorem dX6_freshOn_5 : decode cX6_freshOn 5 = .ok (.iload_n 1, 1) := by decide +kernel
theorem dX6_freshOn_6 : decode cX6_freshOn 6 = .ok (.iaload, 1) := by decide +kernel
theorem dX6_freshOn_7 : decode cX6_freshOn 7 = .ok (.if_icmp .ge 5, 3) := by decide +kernel
theorem dX6_freshOn_10 : decode cX6_freshOn 10 = .ok (.iconst 0, 1) := by decide +kernel
theorem dX6_freshOn_11 : decode cX6_freshOn 11 = .ok (.ireturn, 1) := by decide +kernel
theorem dX6_freshOn_12 : decode cX6_freshOn 12 = .ok (.iload_n 2, 1) := by decide +kernel
theorem dX6_freshOn_13 : decode cX6_freshOn 13 = .ok (.aload_n 0, 1) := by decide +kernel
theorem dX6_freshOn_14 : decode cX6_freshOn 14 = .ok (.getfield 35, 3) := by decide +kernel
theorem dX6_freshOn_17 : decode cX6_freshOn 17 = .ok (.iload_n 1, 1) := by decide +kernel
theorem dX6_freshOn_18 : decode cX6_freshOn 18 = .ok (.iaload, 1) := by decide +kernel
theorem dX6_freshOn_19 : decode cX6_freshOn 19 = .ok (.isub, 1) := by decide +kernel
theorem dX6_freshOn_20 : decode cX6_freshOn 20 = .ok (.istore_n 3, 1) := by decide +kernel
theorem dX6_freshOn_21 : decode cX6_freshOn 21 = .ok (.aload_n 0, 1) := by decide +kernel
theorem dX6_freshOn_22 : decode cX6_freshOn 22 = .ok (.getfield 38, 3) := by decide +kernel
theorem dX6_freshOn_25 : decode cX6_freshOn 25 = .ok (.iload_n 1, 1) := by decide +kernel
theorem dX6_freshOn_26 : decode cX6_freshOn 26 = .ok (.iaload, 1) := by decide +kernel
theorem dX6_freshOn_27 : decode cX6_freshOn 27 = .ok (.aload_n 0, 1) := by decide +kernel
theorem dX6_freshOn_28 : decode cX6_freshOn 28 = .ok (.getfield 29, 3) := by decide +kernel
theorem dX6_freshOn_31 : decode cX6_freshOn 31 = .ok (.iload_n 1, 1) := by decide +kernel
theorem dX6_freshOn_32 : decode cX6_freshOn 32 = .ok (.iaload, 1) := by decide +kernel
theorem dX6_freshOn_33 : decode cX6_freshOn 33 = .ok (.iconst 1, 1) := by decide +kernel
theorem dX6_freshOn_34 : decode cX6_freshOn 34 = .ok (.if_icmp .ne 9, 3) := by decide +kernel
theorem dX6_freshOn_37 : decode cX6_freshOn 37 = .ok (.iload_n 3, 1) := by decide +kernel
theorem dX6_freshOn_38 : decode cX6_freshOn 38 = .ok (.iconst 3, 1) := by decide +kernel
theorem dX6_freshOn_39 : decode cX6_freshOn 39 = .ok (.idiv, 1) := by decide +kernel
theorem dX6_freshOn_40 : decode cX6_freshOn 40 = .ok (.goto 4, 3) := by decide +kernel
theorem dX6_freshOn_43 : decode cX6_freshOn 43 = .ok (.iload_n 3, 1) := by decide +kernel
theorem dX6_freshOn_44 : decode cX6_freshOn 44 = .ok (.isub, 1) := by decide +kernel
theorem dX6_freshOn_45 : decode cX6_freshOn 45 = .ok (.istore 4, 2) := by decide +kernel
theorem dX6_freshOn_47 : decode cX6_freshOn 47 = .ok (.iload 4, 2) := by decide +kernel
theorem dX6_freshOn_49 : decode cX6_freshOn 49 = .ok (.ifCond .ge 5, 3) := by decide +kernel
theorem dX6_freshOn_52 : decode cX6_freshOn 52 = .ok (.iconst 0, 1) := by decide +kernel
theorem dX6_freshOn_53 : decode cX6_freshOn 53 = .ok (.ireturn, 1) := by decide +kernel
theorem dX6_freshOn_54 : decode cX6_freshOn 54 = .ok (.aload_n 0, 1) := by decide +kernel
theorem dX6_freshOn_55 : decode cX6_freshOn 55 = .ok (.getfield 29, 3) := by decide +kernel
theorem dX6_freshOn_58 : decode cX6_freshOn 58 = .ok (.iload_n 1, 1) := by decide +kernel
theorem dX6_freshOn_59 : decode cX6_freshOn 59 = .ok (.iaload, 1) := by decide +kernel
theorem dX6_freshOn_60 : decode cX6_freshOn 60 = .ok (.iconst 2, 1) := by decide +kernel
theorem dX6_freshOn_61 : decode cX6_freshOn 61 = .ok (.if_icmp .ne 10, 3) := by decide +kernel
theorem dX6_freshOn_64 : decode cX6_freshOn 64 = .ok (.iload 4, 2) := by decide +kernel
theorem dX6_freshOn_66 : decode cX6_freshOn 66 = .ok (.iconst 2, 1) := by decide +kernel
theorem dX6_freshOn_67 : decode cX6_freshOn 67 = .ok (.idiv, 1) := by decide +kernel
theorem dX6_freshOn_68 : decode cX6_freshOn 68 = .ok (.goto 5, 3) := by decide +kernel
theorem dX6_freshOn_71 : decode cX6_freshOn 71 = .ok (.iload 4, 2) := by decide +kernel
theorem dX6_freshOn_73 : decode cX6_freshOn 73 = .ok (.ireturn, 1) := by decide +kernel
theorem dX6_priceOf_0 : decode cX6_priceOf 0 = .ok (.aload_n 0, 1) := by decide +kernel
theorem dX6_priceOf_1 : decode cX6_priceOf 1 = .ok (.getfield 123, 3) := by decide +kernel
theorem dX6_priceOf_4 : decode cX6_priceOf 4 = .ok (.aload_n 0, 1) := by decide +kernel
theorem dX6_priceOf_5 : decode cX6_priceOf 5 = .ok (.iload_n 1, 1) := by decide +kernel
theorem dX6_priceOf_6 : decode cX6_priceOf 6 = .ok (.aload_n 0, 1) := by decide +kernel
theorem dX6_priceOf_7 : decode cX6_priceOf 7 = .ok (.getfield 129, 3) := by decide +kernel
theorem dX6_priceOf_10 : decode cX6_priceOf 10 = .ok (.invokevirtual 152, 3) := by decide +kernel
theorem dX6_priceOf_13 : decode cX6_priceOf 13 = .ok (.imul, 1) := by decide +kernel
theorem dX6_priceOf_14 : decode cX6_priceOf 14 = .ok (.ireturn, 1) := by decide +kernel
theorem dX6_ofMorning_0 : decode cX6_ofMorning 0 = .ok (.aload_n 0, 1) := by decide +kernel
theorem dX6_ofMorning_1 : decode cX6_ofMorning 1 = .ok (.iload_n 1, 1) := by decide +kernel
theorem dX6_ofMorning_2 : decode cX6_ofMorning 2 = .ok (.invokevirtual 156, 3) := by decide +kernel
theorem dX6_ofMorning_5 : decode cX6_ofMorning 5 = .ok (.ifCond .ne 5, 3) := by decide +kernel
theorem dX6_ofMorning_8 : decode cX6_ofMorning 8 = .ok (.iconst (-1), 1) := by decide +kernel
theorem dX6_ofMorning_9 : decode cX6_ofMorning 9 = .ok (.ireturn, 1) := by decide +kernel
theorem dX6_ofMorning_10 : decode cX6_ofMorning 10 = .ok (.iload_n 2, 1) := by decide +kernel
theorem dX6_ofMorning_11 : decode cX6_ofMorning 11 = .ok (.tableswitch 76 0 4 #[33, 40, 47, 54, 61], 33) := by decide +kernel
theorem dX6_ofMorning_44 : decode cX6_ofMorning 44 = .ok (.aload_n 0, 1) := by decide +kernel
theorem dX6_ofMorning_45 : decode cX6_ofMorning 45 = .ok (.getfield 29, 3) := by decide +kernel
theorem dX6_ofMorning_48 : decode cX6_ofMorning 48 = .ok (.iload_n 1, 1) := by decide +kernel
theorem dX6_ofMorning_49 : decode cX6_ofMorning 49 = .ok (.iaload, 1) := by decide +kernel
theorem dX6_ofMorning_50 : decode cX6_ofMorning 50 = .ok (.ireturn, 1) := by decide +kernel
theorem dX6_ofMorning_51 : decode cX6_ofMorning 51 = .ok (.aload_n 0, 1) := by decide +kernel
theorem dX6_ofMorning_52 : decode cX6_ofMorning 52 = .ok (.getfield 32, 3) := by decide +kernel
theorem dX6_ofMorning_55 : decode cX6_ofMorning 55 = .ok (.iload_n 1, 1) := by decide +kernel
theorem dX6_ofMorning_56 : decode cX6_ofMorning 56 = .ok (.iaload, 1) := by decide +kernel
theorem dX6_ofMorning_57 : decode cX6_ofMorning 57 = .ok (.ireturn, 1) := by decide +kernel
theorem dX6_ofMorning_58 : decode cX6_ofMorning 58 = .ok (.aload_n 0, 1) := by decide +kernel
theorem dX6_ofMorning_59 : decode cX6_ofMorning 59 = .ok (.getfield 35, 3) := by decide +kernel
theorem dX6_ofMorning_62 : decode cX6_ofMorning 62 = .ok (.iload_n 1, 1) := by decide +kernel
theorem dX6_ofMorning_63 : decode cX6_ofMorning 63 = .ok (.iaload, 1) := by decide +kernel
theorem dX6_ofMorning_64 : decode cX6_ofMorning 64 = .ok (.ireturn, 1) := by decide +kernel
theorem dX6_ofMorning_65 : decode cX6_ofMorning 65 = .ok (.aload_n 0, 1) := by decide +kernel
theorem dX6_ofMorning_66 : decode cX6_ofMorning 66 = .ok (.getfield 38, 3) := by decide +kernel
theorem dX6_ofMorning_69 : decode cX6_ofMorning 69 = .ok (.iload_n 1, 1) := by decide +kernel
theorem dX6_ofMorning_70 : decode cX6_ofMorning 70 = .ok (.iaload, 1) := by decide +kernel
theorem dX6_ofMorning_71 : decode cX6_ofMorning 71 = .ok (.ireturn, 1) := by decide +kernel
theorem dX6_ofMorning_72 : decode cX6_ofMorning 72 = .ok (.aload_n 0, 1) := by decide +kernel
theorem dX6_ofMorning_73 : decode cX6_ofMorning 73 = .ok (.getfield 41, 3) := by decide +kernel
theorem dX6_ofMorning_76 : decode cX6_ofMorning 76 = .ok (.iload_n 1, 1) := by decide +kernel
theorem dX6_ofMorning_77 : decode cX6_ofMorning 77 = .ok (.baload, 1) := by decide +kernel
theorem dX6_ofMorning_78 : decode cX6_ofMorning 78 = .ok (.ifCond .eq 7, 3) := by decide +kernel
theorem dX6_ofMorning_81 : decode cX6_ofMorning 81 = .ok (.iconst 1, 1) := by decide +kernel
theorem dX6_ofMorning_82 : decode cX6_ofMorning 82 = .ok (.goto 4, 3) := by decide +kernel
theorem dX6_ofMorning_85 : decode cX6_ofMorning 85 = .ok (.iconst 0, 1) := by decide +kernel
theorem dX6_ofMorning_86 : decode cX6_ofMorning 86 = .ok (.ireturn, 1) := by decide +kernel
theorem dX6_ofMorning_87 : decode cX6_ofMorning 87 = .ok (.bipush (-2), 2) := by decide +kernel
theorem dX6_ofMorning_89 : decode cX6_ofMorning 89 = .ok (.ireturn, 1) := by decide +kernel
theorem dX6_ownOf_0 : decode cX6_ownOf 0 = .ok (.iconst 0, 1) := by decide +kernel
theorem dX6_ownOf_1 : decode cX6_ownOf 1 = .ok (.istore_n 2, 1) := by decide +kernel
theorem dX6_ownOf_2 : decode cX6_ownOf 2 = .ok (.iconst 0, 1) := by decide +kernel
theorem dX6_ownOf_3 : decode cX6_ownOf 3 = .ok (.istore_n 3, 1) := by decide +kernel
theorem dX6_ownOf_4 : decode cX6_ownOf 4 = .ok (.iload_n 3, 1) := by decide +kernel
theorem dX6_ownOf_5 : decode cX6_ownOf 5 = .ok (.aload_n 0, 1) := by decide +kernel
theorem dX6_ownOf_6 : decode cX6_ownOf 6 = .ok (.getfield 93, 3) := by decide +kernel
theorem dX6_ownOf_9 : decode cX6_ownOf 9 = .ok (.if_icmp .ge 38, 3) := by decide +kernel
theorem dX6_ownOf_12 : decode cX6_ownOf 12 = .ok (.iload_n 2, 1) := by decide +kernel
theorem dX6_ownOf_13 : decode cX6_ownOf 13 = .ok (.aload_n 0, 1) := by decide +kernel
theorem dX6_ownOf_14 : decode cX6_ownOf 14 = .ok (.getfield 32, 3) := by decide +kernel
theorem dX6_ownOf_17 : decode cX6_ownOf 17 = .ok (.iload_n 3, 1) := by decide +kernel
theorem dX6_ownOf_18 : decode cX6_ownOf 18 = .ok (.iaload, 1) := by decide +kernel
theorem dX6_ownOf_19 : decode cX6_ownOf 19 = .ok (.iload_n 1, 1) := by decide +kernel
theorem dX6_ownOf_20 : decode cX6_ownOf 20 = .ok (.if_icmp .ne 18, 3) := by decide +kernel
theorem dX6_ownOf_23 : decode cX6_ownOf 23 = .ok (.aload_n 0, 1) := by decide +kernel
theorem dX6_ownOf_24 : decode cX6_ownOf 24 = .ok (.getfield 41, 3) := by decide +kernel
theorem dX6_ownOf_27 : decode cX6_ownOf 27 = .ok (.iload_n 3, 1) := by decide +kernel
theorem dX6_ownOf_28 : decode cX6_ownOf 28 = .ok (.baload, 1) := by decide +kernel
theorem dX6_ownOf_29 : decode cX6_ownOf 29 = .ok (.ifCond .ne 9, 3) := by decide +kernel
theorem dX6_ownOf_32 : decode cX6_ownOf 32 = .ok (.iconst 1, 1) := by decide +kernel
theorem dX6_ownOf_33 : decode cX6_ownOf 33 = .ok (.iload_n 3, 1) := by decide +kernel
theorem dX6_ownOf_34 : decode cX6_ownOf 34 = .ok (.ishl, 1) := by decide +kernel
theorem dX6_ownOf_35 : decode cX6_ownOf 35 = .ok (.goto 4, 3) := by decide +kernel
theorem dX6_ownOf_38 : decode cX6_ownOf 38 = .ok (.iconst 0, 1) := by decide +kernel
theorem dX6_ownOf_39 : decode cX6_ownOf 39 = .ok (.ior, 1) := by decide +kernel
theorem dX6_ownOf_40 : decode cX6_ownOf 40 = .ok (.istore_n 2, 1) := by decide +kernel
theorem dX6_ownOf_41 : decode cX6_ownOf 41 = .ok (.iinc 3 1, 3) := by decide +kernel
theorem dX6_ownOf_44 : decode cX6_ownOf 44 = .ok (.goto (-40), 3) := by decide +kernel
theorem dX6_ownOf_47 : decode cX6_ownOf 47 = .ok (.iload_n 2, 1) := by decide +kernel
theorem dX6_ownOf_48 : decode cX6_ownOf 48 = .ok (.ireturn, 1) := by decide +kernel
theorem dX6_size_0 : decode cX6_size 0 = .ok (.iconst 0, 1) := by decide +kernel
theorem dX6_size_1 : decode cX6_size 1 = .ok (.istore_n 1, 1) := by decide +kernel
theorem dX6_size_2 : decode cX6_size 2 = .ok (.iload_n 0, 1) := by decide +kernel
theorem dX6_size_3 : decode cX6_size 3 = .ok (.istore_n 2, 1) := by decide +kernel
theorem dX6_size_4 : decode cX6_size 4 = .ok (.iload_n 2, 1) := by decide +kernel
theorem dX6_size_5 : decode cX6_size 5 = .ok (.ifCond .le 16, 3) := by decide +kernel
theorem dX6_size_8 : decode cX6_size 8 = .ok (.iload_n 1, 1) := by decide +kernel
theorem dX6_size_9 : decode cX6_size 9 = .ok (.iload_n 2, 1) := by decide +kernel
theorem dX6_size_10 : decode cX6_size 10 = .ok (.iconst 1, 1) := by decide +kernel
theorem dX6_size_11 : decode cX6_size 11 = .ok (.iand, 1) := by decide +kernel
theorem dX6_size_12 : decode cX6_size 12 = .ok (.iadd, 1) := by decide +kernel
theorem dX6_size_13 : decode cX6_size 13 = .ok (.istore_n 1, 1) := by decide +kernel
theorem dX6_size_14 : decode cX6_size 14 = .ok (.iload_n 2, 1) := by decide +kernel
theorem dX6_size_15 : decode cX6_size 15 = .ok (.iconst 1, 1) := by decide +kernel
theorem dX6_size_16 : decode cX6_size 16 = .ok (.ishr, 1) := by decide +kernel
theorem dX6_size_17 : decode cX6_size 17 = .ok (.istore_n 2, 1) := by decide +kernel
theorem dX6_size_18 : decode cX6_size 18 = .ok (.goto (-14), 3) := by decide +kernel
theorem dX6_size_21 : decode cX6_size 21 = .ok (.iload_n 1, 1) := by decide +kernel
theorem dX6_size_22 : decode cX6_size 22 = .ok (.ireturn, 1) := by decide +kernel
theorem dX6_ofPerson_0 : decode cX6_ofPerson 0 = .ok (.aload_n 0, 1) := by decide +kernel
theorem dX6_ofPerson_1 : decode cX6_ofPerson 1 = .ok (.iload_n 1, 1) := by decide +kernel
theorem dX6_ofPerson_2 : decode cX6_ofPerson 2 = .ok (.invokevirtual 159, 3) := by decide +kernel
theorem dX6_ofPerson_5 : decode cX6_ofPerson 5 = .ok (.ifCond .ne 5, 3) := by decide +kernel
theorem dX6_ofPerson_8 : decode cX6_ofPerson 8 = .ok (.iconst (-1), 1) := by decide +kernel
theorem dX6_ofPerson_9 : decode cX6_ofPerson 9 = .ok (.ireturn, 1) := by decide +kernel
theorem dX6_ofPerson_10 : decode cX6_ofPerson 10 = .ok (.iload_n 2, 1) := by decide +kernel
theorem dX6_ofPerson_11 : decode cX6_ofPerson 11 = .ok (.tableswitch 67 0 3 #[29, 36, 43, 52], 29) := by decide +kernel
theorem dX6_ofPerson_40 : decode cX6_ofPerson 40 = .ok (.aload_n 0, 1) := by decide +kernel
theorem dX6_ofPerson_41 : decode cX6_ofPerson 41 = .ok (.getfield 19, 3) := by decide +kernel
theorem dX6_ofPerson_44 : decode cX6_ofPerson 44 = .ok (.iload_n 1, 1) := by decide +kernel
theorem dX6_ofPerson_45 : decode cX6_ofPerson 45 = .ok (.iaload, 1) := by decide +kernel
theorem dX6_ofPerson_46 : decode cX6_ofPerson 46 = .ok (.ireturn, 1) := by decide +kernel
theorem dX6_ofPerson_47 : decode cX6_ofPerson 47 = .ok (.aload_n 0, 1) := by decide +kernel
theorem dX6_ofPerson_48 : decode cX6_ofPerson 48 = .ok (.getfield 22, 3) := by decide +kernel
theorem dX6_ofPerson_51 : decode cX6_ofPerson 51 = .ok (.iload_n 1, 1) := by decide +kernel
theorem dX6_ofPerson_52 : decode cX6_ofPerson 52 = .ok (.iaload, 1) := by decide +kernel
theorem dX6_ofPerson_53 : decode cX6_ofPerson 53 = .ok (.ireturn, 1) := by decide +kernel
theorem dX6_ofPerson_54 : decode cX6_ofPerson 54 = .ok (.aload_n 0, 1) := by decide +kernel
theorem dX6_ofPerson_55 : decode cX6_ofPerson 55 = .ok (.iload_n 1, 1) := by decide +kernel
theorem dX6_ofPerson_56 : decode cX6_ofPerson 56 = .ok (.invokevirtual 162, 3) := by decide +kernel
theorem dX6_ofPerson_59 : decode cX6_ofPerson 59 = .ok (.invokestatic 165, 3) := by decide +kernel
theorem dX6_ofPerson_62 : decode cX6_ofPerson 62 = .ok (.ireturn, 1) := by decide +kernel
theorem dX6_ofPerson_63 : decode cX6_ofPerson 63 = .ok (.aload_n 0, 1) := by decide +kernel
theorem dX6_ofPerson_64 : decode cX6_ofPerson 64 = .ok (.getfield 25, 3) := by decide +kernel
theorem dX6_ofPerson_67 : decode cX6_ofPerson 67 = .ok (.iload_n 1, 1) := by decide +kernel
theorem dX6_ofPerson_68 : decode cX6_ofPerson 68 = .ok (.baload, 1) := by decide +kernel
theorem dX6_ofPerson_69 : decode cX6_ofPerson 69 = .ok (.ifCond .eq 7, 3) := by decide +kernel
theorem dX6_ofPerson_72 : decode cX6_ofPerson 72 = .ok (.iconst 1, 1) := by decide +kernel
theorem dX6_ofPerson_73 : decode cX6_ofPerson 73 = .ok (.goto 4, 3) := by decide +kernel
theorem dX6_ofPerson_76 : decode cX6_ofPerson 76 = .ok (.iconst 0, 1) := by decide +kernel
theorem dX6_ofPerson_77 : decode cX6_ofPerson 77 = .ok (.ireturn, 1) := by decide +kernel
theorem dX6_ofPerson_78 : decode cX6_ofPerson 78 = .ok (.bipush (-2), 2) := by decide +kernel
theorem dX6_ofPerson_80 : decode cX6_ofPerson 80 = .ok (.ireturn, 1) := by decide +kernel
theorem dX6_fill_0 : decode cX6_fill 0 = .ok (.aload_n 0, 1) := by decide +kernel
theorem dX6_fill_1 : decode cX6_fill 1 = .ok (.iload_n 1, 1) := by decide +kernel
theorem dX6_fill_2 : decode cX6_fill 2 = .ok (.invokevirtual 159, 3) := by decide +kernel
theorem dX6_fill_5 : decode cX6_fill 5 = .ok (.ifCond .ne 5, 3) := by decide +kernel
theorem dX6_fill_8 : decode cX6_fill 8 = .ok (.iconst (-1), 1) := by decide +kernel
theorem dX6_fill_9 : decode cX6_fill 9 = .ok (.ireturn, 1) := by decide +kernel
theorem dX6_fill_10 : decode cX6_fill 10 = .ok (.iload_n 2, 1) := by decide +kernel
theorem dX6_fill_11 : decode cX6_fill 11 = .ok (.iconst 0, 1) := by decide +kernel
theorem dX6_fill_12 : decode cX6_fill 12 = .ok (.bipush 99, 2) := by decide +kernel
theorem dX6_fill_14 : decode cX6_fill 14 = .ok (.invokestatic 86, 3) := by decide +kernel
theorem dX6_fill_17 : decode cX6_fill 17 = .ok (.ifCond .ne 6, 3) := by decide +kernel
theorem dX6_fill_20 : decode cX6_fill 20 = .ok (.bipush (-2), 2) := by decide +kernel
theorem dX6_fill_22 : decode cX6_fill 22 = .ok (.ireturn, 1) := by decide +kernel
theorem dX6_fill_23 : decode cX6_fill 23 = .ok (.aload_n 0, 1) := by decide +kernel
theorem dX6_fill_24 : decode cX6_fill 24 = .ok (.getfield 19, 3) := by decide +kernel
theorem dX6_fill_27 : decode cX6_fill 27 = .ok (.iload_n 1, 1) := by decide +kernel
theorem dX6_fill_28 : decode cX6_fill 28 = .ok (.iaload, 1) := by decide +kernel
theorem dX6_fill_29 : decode cX6_fill 29 = .ok (.istore_n 3, 1) := by decide +kernel
theorem dX6_fill_30 : decode cX6_fill 30 = .ok (.aload_n 0, 1) := by decide +kernel
theorem dX6_fill_31 : decode cX6_fill 31 = .ok (.getfield 19, 3) := by decide +kernel
theorem dX6_fill_34 : decode cX6_fill 34 = .ok (.iload_n 1, 1) := by decide +kernel
theorem dX6_fill_35 : decode cX6_fill 35 = .ok (.iload_n 2, 1) := by decide +kernel
theorem dX6_fill_36 : decode cX6_fill 36 = .ok (.iastore, 1) := by decide +kernel
theorem dX6_fill_37 : decode cX6_fill 37 = .ok (.iload_n 3, 1) := by decide +kernel
theorem dX6_fill_38 : decode cX6_fill 38 = .ok (.ireturn, 1) := by decide +kernel
theorem dX6_rate_0 : decode cX6_rate 0 = .ok (.iload_n 1, 1) := by decide +kernel
theorem dX6_rate_1 : decode cX6_rate 1 = .ok (.iconst 1, 1) := by decide +kernel
theorem dX6_rate_2 : decode cX6_rate 2 = .ok (.bipush 9, 2) := by decide +kernel
theorem dX6_rate_4 : decode cX6_rate 4 = .ok (.invokestatic 86, 3) := by decide +kernel
theorem dX6_rate_7 : decode cX6_rate 7 = .ok (.ifCond .ne 6, 3) := by decide +kernel
theorem dX6_rate_10 : decode cX6_rate 10 = .ok (.bipush (-2), 2) := by decide +kernel
theorem dX6_rate_12 : decode cX6_rate 12 = .ok (.ireturn, 1) := by decide +kernel
theorem dX6_rate_13 : decode cX6_rate 13 = .ok (.aload_n 0, 1) := by decide +kernel
theorem dX6_rate_14 : decode cX6_rate 14 = .ok (.getfield 90, 3) := by decide +kernel
theorem dX6_rate_17 : decode cX6_rate 17 = .ok (.ifCond .ne 6, 3) := by decide +kernel
theorem dX6_rate_20 : decode cX6_rate 20 = .ok (.bipush (-3), 2) := by decide +kernel
theorem dX6_rate_22 : decode cX6_rate 22 = .ok (.ireturn, 1) := by decide +kernel
theorem dX6_rate_23 : decode cX6_rate 23 = .ok (.aload_n 0, 1) := by decide +kernel
theorem dX6_rate_24 : decode cX6_rate 24 = .ok (.getfield 123, 3) := by decide +kernel
theorem dX6_rate_27 : decode cX6_rate 27 = .ok (.istore_n 2, 1) := by decide +kernel
theorem dX6_rate_28 : decode cX6_rate 28 = .ok (.aload_n 0, 1) := by decide +kernel
theorem dX6_rate_29 : decode cX6_rate 29 = .ok (.iload_n 1, 1) := by decide +kernel
theorem dX6_rate_30 : decode cX6_rate 30 = .ok (.putfield 123, 3) := by decide +kernel
theorem dX6_rate_33 : decode cX6_rate 33 = .ok (.iload_n 2, 1) := by decide +kernel
theorem dX6_rate_34 : decode cX6_rate 34 = .ok (.ireturn, 1) := by decide +kernel
theorem dX6_fresh_0 : decode cX6_fresh 0 = .ok (.aload_n 0, 1) := by decide +kernel
theorem dX6_fresh_1 : decode cX6_fresh 1 = .ok (.iload_n 1, 1) := by decide +kernel
theorem dX6_fresh_2 : decode cX6_fresh 2 = .ok (.invokevirtual 156, 3) := by decide +kernel
theorem dX6_fresh_5 : decode cX6_fresh 5 = .ok (.ifCond .ne 5, 3) := by decide +kernel
theorem dX6_fresh_8 : decode cX6_fresh 8 = .ok (.iconst (-1), 1) := by decide +kernel
theorem dX6_fresh_9 : decode cX6_fresh 9 = .ok (.ireturn, 1) := by decide +kernel
theorem dX6_fresh_10 : decode cX6_fresh 10 = .ok (.iload_n 2, 1) := by decide +kernel
theorem dX6_fresh_11 : decode cX6_fresh 11 = .ok (.iconst 0, 1) := by decide +kernel
theorem dX6_fresh_12 : decode cX6_fresh 12 = .ok (.bipush 99, 2) := by decide +kernel
theorem dX6_fresh_14 : decode cX6_fresh 14 = .ok (.invokestatic 86, 3) := by decide +kernel
theorem dX6_fresh_17 : decode cX6_fresh 17 = .ok (.ifCond .eq 12, 3) := by decide +kernel
theorem dX6_fresh_20 : decode cX6_fresh 20 = .ok (.aload_n 0, 1) := by decide +kernel
theorem dX6_fresh_21 : decode cX6_fresh 21 = .ok (.iload_n 1, 1) := by decide +kernel
theorem dX6_fresh_22 : decode cX6_fresh 22 = .ok (.iload_n 2, 1) := by decide +kernel
theorem dX6_fresh_23 : decode cX6_fresh 23 = .ok (.invokevirtual 152, 3) := by decide +kernel
theorem dX6_fresh_26 : decode cX6_fresh 26 = .ok (.goto 5, 3) := by decide +kernel
theorem dX6_fresh_29 : decode cX6_fresh 29 = .ok (.bipush (-2), 2) := by decide +kernel
theorem dX6_fresh_31 : decode cX6_fresh 31 = .ok (.ireturn, 1) := by decide +kernel
theorem dX6_price_0 : decode cX6_price 0 = .ok (.aload_n 0, 1) := by decide +kernel
theorem dX6_price_1 : decode cX6_price 1 = .ok (.iload_n 1, 1) := by decide +kernel
theorem dX6_price_2 : decode cX6_price 2 = .ok (.invokevirtual 156, 3) := by decide +kernel
theorem dX6_price_5 : decode cX6_price 5 = .ok (.ifCond .eq 11, 3) := by decide +kernel
theorem dX6_price_8 : decode cX6_price 8 = .ok (.aload_n 0, 1) := by decide +kernel
theorem dX6_price_9 : decode cX6_price 9 = .ok (.iload_n 1, 1) := by decide +kernel
theorem dX6_price_10 : decode cX6_price 10 = .ok (.invokevirtual 168, 3) := by decide +kernel
theorem dX6_price_13 : decode cX6_price 13 = .ok (.goto 4, 3) := by decide +kernel
theorem dX6_price_16 : decode cX6_price 16 = .ok (.iconst (-1), 1) := by decide +kernel
theorem dX6_price_17 : decode cX6_price 17 = .ok (.ireturn, 1) := by decide +kernel
theorem dX6_maySell_0 : decode cX6_maySell 0 = .ok (.aload_n 0, 1) := by decide +kernel
theorem dX6_maySell_1 : decode cX6_maySell 1 = .ok (.getfield 41, 3) := by decide +kernel
theorem dX6_maySell_4 : decode cX6_maySell 4 = .ok (.iload_n 1, 1) := by decide +kernel
theorem dX6_maySell_5 : decode cX6_maySell 5 = .ok (.baload, 1) := by decide +kernel
theorem dX6_maySell_6 : decode cX6_maySell 6 = .ok (.ifCond .ne 39, 3) := by decide +kernel
theorem dX6_maySell_9 : decode cX6_maySell 9 = .ok (.aload_n 0, 1) := by decide +kernel
theorem dX6_maySell_10 : decode cX6_maySell 10 = .ok (.iload_n 2, 1) := by decide +kernel
theorem dX6_maySell_11 : decode cX6_maySell 11 = .ok (.invokevirtual 159, 3) := by decide +kernel
theorem dX6_maySell_14 : decode cX6_maySell 14 = .ok (.ifCond .eq 31, 3) := by decide +kernel
theorem dX6_maySell_17 : decode cX6_maySell 17 = .ok (.iload_n 2, 1) := by decide +kernel
theorem dX6_maySell_18 : decode cX6_maySell 18 = .ok (.aload_n 0, 1) := by decide +kernel
theorem dX6_maySell_19 : decode cX6_maySell 19 = .ok (.getfield 32, 3) := by decide +kernel
theorem dX6_maySell_22 : decode cX6_maySell 22 = .ok (.iload_n 1, 1) := by decide +kernel
theorem dX6_maySell_23 : decode cX6_maySell 23 = .ok (.iaload, 1) := by decide +kernel
theorem dX6_maySell_24 : decode cX6_maySell 24 = .ok (.if_icmp .eq 21, 3) := by decide +kernel
theorem dX6_maySell_27 : decode cX6_maySell 27 = .ok (.aload_n 0, 1) := by decide +kernel
theorem dX6_maySell_28 : decode cX6_maySell 28 = .ok (.iload_n 1, 1) := by decide +kernel
theorem dX6_maySell_29 : decode cX6_maySell 29 = .ok (.invokevirtual 168, 3) := by decide +kernel
theorem dX6_maySell_32 : decode cX6_maySell 32 = .ok (.aload_n 0, 1) := by decide +kernel
theorem dX6_maySell_33 : decode cX6_maySell 33 = .ok (.getfield 19, 3) := by decide +kernel
theorem dX6_maySell_36 : decode cX6_maySell 36 = .ok (.iload_n 2, 1) := by decide +kernel
theorem dX6_maySell_37 : decode cX6_maySell 37 = .ok (.iaload, 1) := by decide +kernel
theorem dX6_maySell_38 : decode cX6_maySell 38 = .ok (.if_icmp .gt 7, 3) := by decide +kernel
theorem dX6_maySell_41 : decode cX6_maySell 41 = .ok (.iconst 1, 1) := by decide +kernel
theorem dX6_maySell_42 : decode cX6_maySell 42 = .ok (.goto 4, 3) := by decide +kernel
theorem dX6_maySell_45 : decode cX6_maySell 45 = .ok (.iconst 0, 1) := by decide +kernel
theorem dX6_maySell_46 : decode cX6_maySell 46 = .ok (.ireturn, 1) := by decide +kernel
theorem dX6_doSell_0 : decode cX6_doSell 0 = .ok (.aload_n 0, 1) := by decide +kernel
theorem dX6_doSell_1 : decode cX6_doSell 1 = .ok (.getfield 19, 3) := by decide +kernel
theorem dX6_doSell_4 : decode cX6_doSell 4 = .ok (.iload_n 2, 1) := by decide +kernel
theorem dX6_doSell_5 : decode cX6_doSell 5 = .ok (.dup2, 1) := by decide +kernel
theorem dX6_doSell_6 : decode cX6_doSell 6 = .ok (.iaload, 1) := by decide +kernel
theorem dX6_doSell_7 : decode cX6_doSell 7 = .ok (.aload_n 0, 1) := by decide +kernel
theorem dX6_doSell_8 : decode cX6_doSell 8 = .ok (.iload_n 1, 1) := by decide +kernel
theorem dX6_doSell_9 : decode cX6_doSell 9 = .ok (.invokevirtual 168, 3) := by decide +kernel
theorem dX6_doSell_12 : decode cX6_doSell 12 = .ok (.isub, 1) := by decide +kernel
theorem dX6_doSell_13 : decode cX6_doSell 13 = .ok (.iastore, 1) := by decide +kernel
theorem dX6_doSell_14 : decode cX6_doSell 14 = .ok (.aload_n 0, 1) := by decide +kernel
theorem dX6_doSell_15 : decode cX6_doSell 15 = .ok (.getfield 19, 3) := by decide +kernel
theorem dX6_doSell_18 : decode cX6_doSell 18 = .ok (.aload_n 0, 1) := by decide +kernel
theorem dX6_doSell_19 : decode cX6_doSell 19 = .ok (.getfield 32, 3) := by decide +kernel
theorem dX6_doSell_22 : decode cX6_doSell 22 = .ok (.iload_n 1, 1) := by decide +kernel
theorem dX6_doSell_23 : decode cX6_doSell 23 = .ok (.iaload, 1) := by decide +kernel
theorem dX6_doSell_24 : decode cX6_doSell 24 = .ok (.dup2, 1) := by decide +kernel
theorem dX6_doSell_25 : decode cX6_doSell 25 = .ok (.iaload, 1) := by decide +kernel
theorem dX6_doSell_26 : decode cX6_doSell 26 = .ok (.aload_n 0, 1) := by decide +kernel
theorem dX6_doSell_27 : decode cX6_doSell 27 = .ok (.iload_n 1, 1) := by decide +kernel
theorem dX6_doSell_28 : decode cX6_doSell 28 = .ok (.invokevirtual 168, 3) := by decide +kernel
theorem dX6_doSell_31 : decode cX6_doSell 31 = .ok (.iadd, 1) := by decide +kernel
theorem dX6_doSell_32 : decode cX6_doSell 32 = .ok (.iastore, 1) := by decide +kernel
theorem dX6_doSell_33 : decode cX6_doSell 33 = .ok (.aload_n 0, 1) := by decide +kernel
theorem dX6_doSell_34 : decode cX6_doSell 34 = .ok (.getfield 32, 3) := by decide +kernel
theorem dX6_doSell_37 : decode cX6_doSell 37 = .ok (.iload_n 1, 1) := by decide +kernel
theorem dX6_doSell_38 : decode cX6_doSell 38 = .ok (.iload_n 2, 1) := by decide +kernel
theorem dX6_doSell_39 : decode cX6_doSell 39 = .ok (.iastore, 1) := by decide +kernel
theorem dX6_doSell_40 : decode cX6_doSell 40 = .ok (.return_, 1) := by decide +kernel
theorem dX6_doOpen_0 : decode cX6_doOpen 0 = .ok (.aload_n 0, 1) := by decide +kernel
theorem dX6_doOpen_1 : decode cX6_doOpen 1 = .ok (.getfield 32, 3) := by decide +kernel
theorem dX6_doOpen_4 : decode cX6_doOpen 4 = .ok (.iload_n 1, 1) := by decide +kernel
theorem dX6_doOpen_5 : decode cX6_doOpen 5 = .ok (.iaload, 1) := by decide +kernel
theorem dX6_doOpen_6 : decode cX6_doOpen 6 = .ok (.istore_n 2, 1) := by decide +kernel
theorem dX6_doOpen_7 : decode cX6_doOpen 7 = .ok (.aload_n 0, 1) := by decide +kernel
theorem dX6_doOpen_8 : decode cX6_doOpen 8 = .ok (.getfield 25, 3) := by decide +kernel
theorem dX6_doOpen_11 : decode cX6_doOpen 11 = .ok (.iload_n 2, 1) := by decide +kernel
theorem dX6_doOpen_12 : decode cX6_doOpen 12 = .ok (.baload, 1) := by decide +kernel
theorem dX6_doOpen_13 : decode cX6_doOpen 13 = .ok (.ifCond .eq 17, 3) := by decide +kernel
theorem dX6_doOpen_16 : decode cX6_doOpen 16 = .ok (.aload_n 0, 1) := by decide +kernel
theorem dX6_doOpen_17 : decode cX6_doOpen 17 = .ok (.iload_n 1, 1) := by decide +kernel
theorem dX6_doOpen_18 : decode cX6_doOpen 18 = .ok (.aload_n 0, 1) := by decide +kernel
theorem dX6_doOpen_19 : decode cX6_doOpen 19 = .ok (.getfield 129, 3) := by decide +kernel
theorem dX6_doOpen_22 : decode cX6_doOpen 22 = .ok (.invokevirtual 152, 3) := by decide +kernel
theorem dX6_doOpen_25 : decode cX6_doOpen 25 = .ok (.iconst 2, 1) := by decide +kernel
theorem dX6_doOpen_26 : decode cX6_doOpen 26 = .ok (.idiv, 1) := by decide +kernel
theorem dX6_doOpen_27 : decode cX6_doOpen 27 = .ok (.goto 12, 3) := by decide +kernel
theorem dX6_doOpen_30 : decode cX6_doOpen 30 = .ok (.aload_n 0, 1) := by decide +kernel
theorem dX6_doOpen_31 : decode cX6_doOpen 31 = .ok (.iload_n 1, 1) := by decide +kernel
theorem dX6_doOpen_32 : decode cX6_doOpen 32 = .ok (.aload_n 0, 1) := by decide +kernel
theorem dX6_doOpen_33 : decode cX6_doOpen 33 = .ok (.getfield 129, 3) := by decide +kernel
theorem dX6_doOpen_36 : decode cX6_doOpen 36 = .ok (.invokevirtual 152, 3) := by decide +kernel
theorem dX6_doOpen_39 : decode cX6_doOpen 39 = .ok (.istore_n 3, 1) := by decide +kernel
theorem dX6_doOpen_40 : decode cX6_doOpen 40 = .ok (.aload_n 0, 1) := by decide +kernel
theorem dX6_doOpen_41 : decode cX6_doOpen 41 = .ok (.getfield 25, 3) := by decide +kernel
theorem dX6_doOpen_44 : decode cX6_doOpen 44 = .ok (.iload_n 2, 1) := by decide +kernel
theorem dX6_doOpen_45 : decode cX6_doOpen 45 = .ok (.iconst 1, 1) := by decide +kernel
theorem dX6_doOpen_46 : decode cX6_doOpen 46 = .ok (.bastore, 1) := by decide +kernel
theorem dX6_doOpen_47 : decode cX6_doOpen 47 = .ok (.aload_n 0, 1) := by decide +kernel
theorem dX6_doOpen_48 : decode cX6_doOpen 48 = .ok (.getfield 41, 3) := by decide +kernel
theorem dX6_doOpen_51 : decode cX6_doOpen 51 = .ok (.iload_n 1, 1) := by decide +kernel
theorem dX6_doOpen_52 : decode cX6_doOpen 52 = .ok (.iconst 1, 1) := by decide +kernel
theorem dX6_doOpen_53 : decode cX6_doOpen 53 = .ok (.bastore, 1) := by decide +kernel
theorem dX6_doOpen_54 : decode cX6_doOpen 54 = .ok (.aload_n 0, 1) := by decide +kernel
theorem dX6_doOpen_55 : decode cX6_doOpen 55 = .ok (.getfield 22, 3) := by decide +kernel
theorem dX6_doOpen_58 : decode cX6_doOpen 58 = .ok (.iload_n 2, 1) := by decide +kernel
theorem dX6_doOpen_59 : decode cX6_doOpen 59 = .ok (.dup2, 1) := by decide +kernel
theorem dX6_doOpen_60 : decode cX6_doOpen 60 = .ok (.iaload, 1) := by decide +kernel
theorem dX6_doOpen_61 : decode cX6_doOpen 61 = .ok (.iload_n 3, 1) := by decide +kernel
theorem dX6_doOpen_62 : decode cX6_doOpen 62 = .ok (.iadd, 1) := by decide +kernel
theorem dX6_doOpen_63 : decode cX6_doOpen 63 = .ok (.iastore, 1) := by decide +kernel
theorem dX6_doOpen_64 : decode cX6_doOpen 64 = .ok (.iload_n 3, 1) := by decide +kernel
theorem dX6_doOpen_65 : decode cX6_doOpen 65 = .ok (.ireturn, 1) := by decide +kernel
theorem dX6_doSleep_0 : decode cX6_doSleep 0 = .ok (.aload_n 0, 1) := by decide +kernel
theorem dX6_doSleep_1 : decode cX6_doSleep 1 = .ok (.dup, 1) := by decide +kernel
theorem dX6_doSleep_2 : decode cX6_doSleep 2 = .ok (.getfield 129, 3) := by decide +kernel
theorem dX6_doSleep_5 : decode cX6_doSleep 5 = .ok (.iload_n 1, 1) := by decide +kernel
theorem dX6_doSleep_6 : decode cX6_doSleep 6 = .ok (.iadd, 1) := by decide +kernel
theorem dX6_doSleep_7 : decode cX6_doSleep 7 = .ok (.putfield 129, 3) := by decide +kernel
theorem dX6_doSleep_10 : decode cX6_doSleep 10 = .ok (.iconst 0, 1) := by decide +kernel
theorem dX6_doSleep_11 : decode cX6_doSleep 11 = .ok (.istore_n 2, 1) := by decide +kernel
theorem dX6_doSleep_12 : decode cX6_doSleep 12 = .ok (.iload_n 2, 1) := by decide +kernel
theorem dX6_doSleep_13 : decode cX6_doSleep 13 = .ok (.aload_n 0, 1) := by decide +kernel
theorem dX6_doSleep_14 : decode cX6_doSleep 14 = .ok (.getfield 90, 3) := by decide +kernel
theorem dX6_doSleep_17 : decode cX6_doSleep 17 = .ok (.if_icmp .ge 20, 3) := by decide +kernel
theorem dX6_doSleep_20 : decode cX6_doSleep 20 = .ok (.iload_n 1, 1) := by decide +kernel
theorem dX6_doSleep_21 : decode cX6_doSleep 21 = .ok (.ifCond .le 16, 3) := by decide +kernel
theorem dX6_doSleep_24 : decode cX6_doSleep 24 = .ok (.aload_n 0, 1) := by decide +kernel
theorem dX6_doSleep_25 : decode cX6_doSleep 25 = .ok (.getfield 25, 3) := by decide +kernel
theorem dX6_doSleep_28 : decode cX6_doSleep 28 = .ok (.iload_n 2, 1) := by decide +kernel
theorem dX6_doSleep_29 : decode cX6_doSleep 29 = .ok (.iconst 0, 1) := by decide +kernel
theorem dX6_doSleep_30 : decode cX6_doSleep 30 = .ok (.bastore, 1) := by decide +kernel
theorem dX6_doSleep_31 : decode cX6_doSleep 31 = .ok (.iinc 2 1, 3) := by decide +kernel
theorem dX6_doSleep_34 : decode cX6_doSleep 34 = .ok (.goto (-22), 3) := by decide +kernel
theorem dX6_doSleep_37 : decode cX6_doSleep 37 = .ok (.return_, 1) := by decide +kernel
theorem dX6_sell_0 : decode cX6_sell 0 = .ok (.aload_n 0, 1) := by decide +kernel
theorem dX6_sell_1 : decode cX6_sell 1 = .ok (.iload_n 1, 1) := by decide +kernel
theorem dX6_sell_2 : decode cX6_sell 2 = .ok (.invokevirtual 156, 3) := by decide +kernel
theorem dX6_sell_5 : decode cX6_sell 5 = .ok (.ifCond .eq 11, 3) := by decide +kernel
theorem dX6_sell_8 : decode cX6_sell 8 = .ok (.aload_n 0, 1) := by decide +kernel
theorem dX6_sell_9 : decode cX6_sell 9 = .ok (.iload_n 2, 1) := by decide +kernel
theorem dX6_sell_10 : decode cX6_sell 10 = .ok (.invokevirtual 159, 3) := by decide +kernel
theorem dX6_sell_13 : decode cX6_sell 13 = .ok (.ifCond .ne 5, 3) := by decide +kernel
theorem dX6_sell_16 : decode cX6_sell 16 = .ok (.iconst (-1), 1) := by decide +kernel
theorem dX6_sell_17 : decode cX6_sell 17 = .ok (.ireturn, 1) := by decide +kernel
theorem dX6_sell_18 : decode cX6_sell 18 = .ok (.aload_n 0, 1) := by decide +kernel
theorem dX6_sell_19 : decode cX6_sell 19 = .ok (.iload_n 1, 1) := by decide +kernel
theorem dX6_sell_20 : decode cX6_sell 20 = .ok (.iload_n 2, 1) := by decide +kernel
theorem dX6_sell_21 : decode cX6_sell 21 = .ok (.invokevirtual 171, 3) := by decide +kernel
theorem dX6_sell_24 : decode cX6_sell 24 = .ok (.ifCond .ne 6, 3) := by decide +kernel
theorem dX6_sell_27 : decode cX6_sell 27 = .ok (.bipush (-3), 2) := by decide +kernel
theorem dX6_sell_29 : decode cX6_sell 29 = .ok (.ireturn, 1) := by decide +kernel
theorem dX6_sell_30 : decode cX6_sell 30 = .ok (.aload_n 0, 1) := by decide +kernel
theorem dX6_sell_31 : decode cX6_sell 31 = .ok (.iload_n 1, 1) := by decide +kernel
theorem dX6_sell_32 : decode cX6_sell 32 = .ok (.invokevirtual 168, 3) := by decide +kernel
theorem dX6_sell_35 : decode cX6_sell 35 = .ok (.istore_n 3, 1) := by decide +kernel
theorem dX6_sell_36 : decode cX6_sell 36 = .ok (.aload_n 0, 1) := by decide +kernel
theorem dX6_sell_37 : decode cX6_sell 37 = .ok (.iload_n 1, 1) := by decide +kernel
theorem dX6_sell_38 : decode cX6_sell 38 = .ok (.iload_n 2, 1) := by decide +kernel
theorem dX6_sell_39 : decode cX6_sell 39 = .ok (.invokevirtual 174, 3) := by decide +kernel
theorem dX6_sell_42 : decode cX6_sell 42 = .ok (.iload_n 3, 1) := by decide +kernel
theorem dX6_sell_43 : decode cX6_sell 43 = .ok (.ireturn, 1) := by decide +kernel
theorem dX6_open_0 : decode cX6_open 0 = .ok (.aload_n 0, 1) := by decide +kernel
theorem dX6_open_1 : decode cX6_open 1 = .ok (.iload_n 1, 1) := by decide +kernel
theorem dX6_open_2 : decode cX6_open 2 = .ok (.invokevirtual 156, 3) := by decide +kernel
theorem dX6_open_5 : decode cX6_open 5 = .ok (.ifCond .ne 5, 3) := by decide +kernel
theorem dX6_open_8 : decode cX6_open 8 = .ok (.iconst (-1), 1) := by decide +kernel
theorem dX6_open_9 : decode cX6_open 9 = .ok (.ireturn, 1) := by decide +kernel
theorem dX6_open_10 : decode cX6_open 10 = .ok (.aload_n 0, 1) := by decide +kernel
theorem dX6_open_11 : decode cX6_open 11 = .ok (.getfield 41, 3) := by decide +kernel
theorem dX6_open_14 : decode cX6_open 14 = .ok (.iload_n 1, 1) := by decide +kernel
theorem dX6_open_15 : decode cX6_open 15 = .ok (.baload, 1) := by decide +kernel
theorem dX6_open_16 : decode cX6_open 16 = .ok (.ifCond .eq 8, 3) := by decide +kernel
theorem dX6_open_19 : decode cX6_open 19 = .ok (.bipush (-3), 2) := by decide +kernel
theorem dX6_open_21 : decode cX6_open 21 = .ok (.goto 8, 3) := by decide +kernel
theorem dX6_open_24 : decode cX6_open 24 = .ok (.aload_n 0, 1) := by decide +kernel
theorem dX6_open_25 : decode cX6_open 25 = .ok (.iload_n 1, 1) := by decide +kernel
theorem dX6_open_26 : decode cX6_open 26 = .ok (.invokevirtual 178, 3) := by decide +kernel
theorem dX6_open_29 : decode cX6_open 29 = .ok (.ireturn, 1) := by decide +kernel
theorem dX6_sleep_0 : decode cX6_sleep 0 = .ok (.iload_n 1, 1) := by decide +kernel
theorem dX6_sleep_1 : decode cX6_sleep 1 = .ok (.iconst 0, 1) := by decide +kernel
theorem dX6_sleep_2 : decode cX6_sleep 2 = .ok (.bipush 9, 2) := by decide +kernel
theorem dX6_sleep_4 : decode cX6_sleep 4 = .ok (.invokestatic 86, 3) := by decide +kernel
theorem dX6_sleep_7 : decode cX6_sleep 7 = .ok (.ifCond .ne 6, 3) := by decide +kernel
theorem dX6_sleep_10 : decode cX6_sleep 10 = .ok (.bipush (-2), 2) := by decide +kernel
theorem dX6_sleep_12 : decode cX6_sleep 12 = .ok (.ireturn, 1) := by decide +kernel
theorem dX6_sleep_13 : decode cX6_sleep 13 = .ok (.aload_n 0, 1) := by decide +kernel
theorem dX6_sleep_14 : decode cX6_sleep 14 = .ok (.getfield 90, 3) := by decide +kernel
theorem dX6_sleep_17 : decode cX6_sleep 17 = .ok (.ifCond .eq 14, 3) := by decide +kernel
theorem dX6_sleep_20 : decode cX6_sleep 20 = .ok (.aload_n 0, 1) := by decide +kernel
theorem dX6_sleep_21 : decode cX6_sleep 21 = .ok (.getfield 129, 3) := by decide +kernel
theorem dX6_sleep_24 : decode cX6_sleep 24 = .ok (.iload_n 1, 1) := by decide +kernel
theorem dX6_sleep_25 : decode cX6_sleep 25 = .ok (.iadd, 1) := by decide +kernel
theorem dX6_sleep_26 : decode cX6_sleep 26 = .ok (.bipush 99, 2) := by decide +kernel
theorem dX6_sleep_28 : decode cX6_sleep 28 = .ok (.if_icmp .le 6, 3) := by decide +kernel
theorem dX6_sleep_31 : decode cX6_sleep 31 = .ok (.bipush (-3), 2) := by decide +kernel
theorem dX6_sleep_33 : decode cX6_sleep 33 = .ok (.ireturn, 1) := by decide +kernel
theorem dX6_sleep_34 : decode cX6_sleep 34 = .ok (.aload_n 0, 1) := by decide +kernel
theorem dX6_sleep_35 : decode cX6_sleep 35 = .ok (.iload_n 1, 1) := by decide +kernel
theorem dX6_sleep_36 : decode cX6_sleep 36 = .ok (.invokevirtual 181, 3) := by decide +kernel
theorem dX6_sleep_39 : decode cX6_sleep 39 = .ok (.aload_n 0, 1) := by decide +kernel
theorem dX6_sleep_40 : decode cX6_sleep 40 = .ok (.getfield 129, 3) := by decide +kernel
theorem dX6_sleep_43 : decode cX6_sleep 43 = .ok (.ireturn, 1) := by decide +kernel
theorem dX6_keepAll_0 : decode cX6_keepAll 0 = .ok (.aload_n 0, 1) := by decide +kernel
theorem dX6_keepAll_1 : decode cX6_keepAll 1 = .ok (.aload_n 0, 1) := by decide +kernel
theorem dX6_keepAll_2 : decode cX6_keepAll 2 = .ok (.getfield 129, 3) := by decide +kernel
theorem dX6_keepAll_5 : decode cX6_keepAll 5 = .ok (.putfield 185, 3) := by decide +kernel
theorem dX6_keepAll_8 : decode cX6_keepAll 8 = .ok (.iconst 0, 1) := by decide +kernel
theorem dX6_keepAll_9 : decode cX6_keepAll 9 = .ok (.istore_n 1, 1) := by decide +kernel
theorem dX6_keepAll_10 : decode cX6_keepAll 10 = .ok (.iload_n 1, 1) := by decide +kernel
theorem dX6_keepAll_11 : decode cX6_keepAll 11 = .ok (.iconst 4, 1) := by decide +kernel
theorem dX6_keepAll_12 : decode cX6_keepAll 12 = .ok (.if_icmp .ge 45, 3) := by decide +kernel
theorem dX6_keepAll_15 : decode cX6_keepAll 15 = .ok (.aload_n 0, 1) := by decide +kernel
theorem dX6_keepAll_16 : decode cX6_keepAll 16 = .ok (.getfield 50, 3) := by decide +kernel
theorem dX6_keepAll_19 : decode cX6_keepAll 19 = .ok (.iload_n 1, 1) := by decide +kernel
theorem dX6_keepAll_20 : decode cX6_keepAll 20 = .ok (.aload_n 0, 1) := by decide +kernel
theorem dX6_keepAll_21 : decode cX6_keepAll 21 = .ok (.getfield 19, 3) := by decide +kernel
theorem dX6_keepAll_24 : decode cX6_keepAll 24 = .ok (.iload_n 1, 1) := by decide +kernel
theorem dX6_keepAll_25 : decode cX6_keepAll 25 = .ok (.iaload, 1) := by decide +kernel
theorem dX6_keepAll_26 : decode cX6_keepAll 26 = .ok (.iastore, 1) := by decide +kernel
theorem dX6_keepAll_27 : decode cX6_keepAll 27 = .ok (.aload_n 0, 1) := by decide +kernel
theorem dX6_keepAll_28 : decode cX6_keepAll 28 = .ok (.getfield 53, 3) := by decide +kernel
theorem dX6_keepAll_31 : decode cX6_keepAll 31 = .ok (.iload_n 1, 1) := by decide +kernel
theorem dX6_keepAll_32 : decode cX6_keepAll 32 = .ok (.aload_n 0, 1) := by decide +kernel
theorem dX6_keepAll_33 : decode cX6_keepAll 33 = .ok (.getfield 22, 3) := by decide +kernel
theorem dX6_keepAll_36 : decode cX6_keepAll 36 = .ok (.iload_n 1, 1) := by decide +kernel
theorem dX6_keepAll_37 : decode cX6_keepAll 37 = .ok (.iaload, 1) := by decide +kernel
theorem dX6_keepAll_38 : decode cX6_keepAll 38 = .ok (.iastore, 1) := by decide +kernel
theorem dX6_keepAll_39 : decode cX6_keepAll 39 = .ok (.aload_n 0, 1) := by decide +kernel
theorem dX6_keepAll_40 : decode cX6_keepAll 40 = .ok (.getfield 56, 3) := by decide +kernel
theorem dX6_keepAll_43 : decode cX6_keepAll 43 = .ok (.iload_n 1, 1) := by decide +kernel
theorem dX6_keepAll_44 : decode cX6_keepAll 44 = .ok (.aload_n 0, 1) := by decide +kernel
theorem dX6_keepAll_45 : decode cX6_keepAll 45 = .ok (.getfield 25, 3) := by decide +kernel
theorem dX6_keepAll_48 : decode cX6_keepAll 48 = .ok (.iload_n 1, 1) := by decide +kernel
theorem dX6_keepAll_49 : decode cX6_keepAll 49 = .ok (.baload, 1) := by decide +kernel
theorem dX6_keepAll_50 : decode cX6_keepAll 50 = .ok (.bastore, 1) := by decide +kernel
theorem dX6_keepAll_51 : decode cX6_keepAll 51 = .ok (.iinc 1 1, 3) := by decide +kernel
theorem dX6_keepAll_54 : decode cX6_keepAll 54 = .ok (.goto (-44), 3) := by decide +kernel
theorem dX6_keepAll_57 : decode cX6_keepAll 57 = .ok (.iconst 0, 1) := by decide +kernel
theorem dX6_keepAll_58 : decode cX6_keepAll 58 = .ok (.istore_n 1, 1) := by decide +kernel
theorem dX6_keepAll_59 : decode cX6_keepAll 59 = .ok (.iload_n 1, 1) := by decide +kernel
theorem dX6_keepAll_60 : decode cX6_keepAll 60 = .ok (.bipush 6, 2) := by decide +kernel
theorem dX6_keepAll_62 : decode cX6_keepAll 62 = .ok (.if_icmp .ge 33, 3) := by decide +kernel
theorem dX6_keepAll_65 : decode cX6_keepAll 65 = .ok (.aload_n 0, 1) := by decide +kernel
theorem dX6_keepAll_66 : decode cX6_keepAll 66 = .ok (.getfield 59, 3) := by decide +kernel
theorem dX6_keepAll_69 : decode cX6_keepAll 69 = .ok (.iload_n 1, 1) := by decide +kernel
theorem dX6_keepAll_70 : decode cX6_keepAll 70 = .ok (.aload_n 0, 1) := by decide +kernel
theorem dX6_keepAll_71 : decode cX6_keepAll 71 = .ok (.getfield 32, 3) := by decide +kernel
theorem dX6_keepAll_74 : decode cX6_keepAll 74 = .ok (.iload_n 1, 1) := by decide +kernel
theorem dX6_keepAll_75 : decode cX6_keepAll 75 = .ok (.iaload, 1) := by decide +kernel
theorem dX6_keepAll_76 : decode cX6_keepAll 76 = .ok (.iastore, 1) := by decide +kernel
theorem dX6_keepAll_77 : decode cX6_keepAll 77 = .ok (.aload_n 0, 1) := by decide +kernel
theorem dX6_keepAll_78 : decode cX6_keepAll 78 = .ok (.getfield 62, 3) := by decide +kernel
theorem dX6_keepAll_81 : decode cX6_keepAll 81 = .ok (.iload_n 1, 1) := by decide +kernel
theorem dX6_keepAll_82 : decode cX6_keepAll 82 = .ok (.aload_n 0, 1) := by decide +kernel
theorem dX6_keepAll_83 : decode cX6_keepAll 83 = .ok (.getfield 41, 3) := by decide +kernel
theorem dX6_keepAll_86 : decode cX6_keepAll 86 = .ok (.iload_n 1, 1) := by decide +kernel
theorem dX6_keepAll_87 : decode cX6_keepAll 87 = .ok (.baload, 1) := by decide +kernel
theorem dX6_keepAll_88 : decode cX6_keepAll 88 = .ok (.bastore, 1) := by decide +kernel
theorem dX6_keepAll_89 : decode cX6_keepAll 89 = .ok (.iinc 1 1, 3) := by decide +kernel
theorem dX6_keepAll_92 : decode cX6_keepAll 92 = .ok (.goto (-33), 3) := by decide +kernel
theorem dX6_keepAll_95 : decode cX6_keepAll 95 = .ok (.return_, 1) := by decide +kernel
theorem dX6_putBack_0 : decode cX6_putBack 0 = .ok (.aload_n 0, 1) := by decide +kernel
theorem dX6_putBack_1 : decode cX6_putBack 1 = .ok (.aload_n 0, 1) := by decide +kernel
theorem dX6_putBack_2 : decode cX6_putBack 2 = .ok (.getfield 185, 3) := by decide +kernel
theorem dX6_putBack_5 : decode cX6_putBack 5 = .ok (.putfield 129, 3) := by decide +kernel
theorem dX6_putBack_8 : decode cX6_putBack 8 = .ok (.iconst 0, 1) := by decide +kernel
theorem dX6_putBack_9 : decode cX6_putBack 9 = .ok (.istore_n 1, 1) := by decide +kernel
theorem dX6_putBack_10 : decode cX6_putBack 10 = .ok (.iload_n 1, 1) := by decide +kernel
theorem dX6_putBack_11 : decode cX6_putBack 11 = .ok (.iconst 4, 1) := by decide +kernel
theorem dX6_putBack_12 : decode cX6_putBack 12 = .ok (.if_icmp .ge 45, 3) := by decide +kernel
theorem dX6_putBack_15 : decode cX6_putBack 15 = .ok (.aload_n 0, 1) := by decide +kernel
theorem dX6_putBack_16 : decode cX6_putBack 16 = .ok (.getfield 19, 3) := by decide +kernel
theorem dX6_putBack_19 : decode cX6_putBack 19 = .ok (.iload_n 1, 1) := by decide +kernel
theorem dX6_putBack_20 : decode cX6_putBack 20 = .ok (.aload_n 0, 1) := by decide +kernel
theorem dX6_putBack_21 : decode cX6_putBack 21 = .ok (.getfield 50, 3) := by decide +kernel
theorem dX6_putBack_24 : decode cX6_putBack 24 = .ok (.iload_n 1, 1) := by decide +kernel
theorem dX6_putBack_25 : decode cX6_putBack 25 = .ok (.iaload, 1) := by decide +kernel
theorem dX6_putBack_26 : decode cX6_putBack 26 = .ok (.iastore, 1) := by decide +kernel
theorem dX6_putBack_27 : decode cX6_putBack 27 = .ok (.aload_n 0, 1) := by decide +kernel
theorem dX6_putBack_28 : decode cX6_putBack 28 = .ok (.getfield 22, 3) := by decide +kernel
theorem dX6_putBack_31 : decode cX6_putBack 31 = .ok (.iload_n 1, 1) := by decide +kernel
theorem dX6_putBack_32 : decode cX6_putBack 32 = .ok (.aload_n 0, 1) := by decide +kernel
theorem dX6_putBack_33 : decode cX6_putBack 33 = .ok (.getfield 53, 3) := by decide +kernel
theorem dX6_putBack_36 : decode cX6_putBack 36 = .ok (.iload_n 1, 1) := by decide +kernel
theorem dX6_putBack_37 : decode cX6_putBack 37 = .ok (.iaload, 1) := by decide +kernel
theorem dX6_putBack_38 : decode cX6_putBack 38 = .ok (.iastore, 1) := by decide +kernel
theorem dX6_putBack_39 : decode cX6_putBack 39 = .ok (.aload_n 0, 1) := by decide +kernel
theorem dX6_putBack_40 : decode cX6_putBack 40 = .ok (.getfield 25, 3) := by decide +kernel
theorem dX6_putBack_43 : decode cX6_putBack 43 = .ok (.iload_n 1, 1) := by decide +kernel
theorem dX6_putBack_44 : decode cX6_putBack 44 = .ok (.aload_n 0, 1) := by decide +kernel
theorem dX6_putBack_45 : decode cX6_putBack 45 = .ok (.getfield 56, 3) := by decide +kernel
theorem dX6_putBack_48 : decode cX6_putBack 48 = .ok (.iload_n 1, 1) := by decide +kernel
theorem dX6_putBack_49 : decode cX6_putBack 49 = .ok (.baload, 1) := by decide +kernel
theorem dX6_putBack_50 : decode cX6_putBack 50 = .ok (.bastore, 1) := by decide +kernel
theorem dX6_putBack_51 : decode cX6_putBack 51 = .ok (.iinc 1 1, 3) := by decide +kernel
theorem dX6_putBack_54 : decode cX6_putBack 54 = .ok (.goto (-44), 3) := by decide +kernel
theorem dX6_putBack_57 : decode cX6_putBack 57 = .ok (.iconst 0, 1) := by decide +kernel
theorem dX6_putBack_58 : decode cX6_putBack 58 = .ok (.istore_n 1, 1) := by decide +kernel
theorem dX6_putBack_59 : decode cX6_putBack 59 = .ok (.iload_n 1, 1) := by decide +kernel
theorem dX6_putBack_60 : decode cX6_putBack 60 = .ok (.bipush 6, 2) := by decide +kernel
theorem dX6_putBack_62 : decode cX6_putBack 62 = .ok (.if_icmp .ge 33, 3) := by decide +kernel
theorem dX6_putBack_65 : decode cX6_putBack 65 = .ok (.aload_n 0, 1) := by decide +kernel
theorem dX6_putBack_66 : decode cX6_putBack 66 = .ok (.getfield 32, 3) := by decide +kernel
theorem dX6_putBack_69 : decode cX6_putBack 69 = .ok (.iload_n 1, 1) := by decide +kernel
theorem dX6_putBack_70 : decode cX6_putBack 70 = .ok (.aload_n 0, 1) := by decide +kernel
theorem dX6_putBack_71 : decode cX6_putBack 71 = .ok (.getfield 59, 3) := by decide +kernel
theorem dX6_putBack_74 : decode cX6_putBack 74 = .ok (.iload_n 1, 1) := by decide +kernel
theorem dX6_putBack_75 : decode cX6_putBack 75 = .ok (.iaload, 1) := by decide +kernel
theorem dX6_putBack_76 : decode cX6_putBack 76 = .ok (.iastore, 1) := by decide +kernel
theorem dX6_putBack_77 : decode cX6_putBack 77 = .ok (.aload_n 0, 1) := by decide +kernel
theorem dX6_putBack_78 : decode cX6_putBack 78 = .ok (.getfield 41, 3) := by decide +kernel
theorem dX6_putBack_81 : decode cX6_putBack 81 = .ok (.iload_n 1, 1) := by decide +kernel
theorem dX6_putBack_82 : decode cX6_putBack 82 = .ok (.aload_n 0, 1) := by decide +kernel
theorem dX6_putBack_83 : decode cX6_putBack 83 = .ok (.getfield 62, 3) := by decide +kernel
theorem dX6_putBack_86 : decode cX6_putBack 86 = .ok (.iload_n 1, 1) := by decide +kernel
theorem dX6_putBack_87 : decode cX6_putBack 87 = .ok (.baload, 1) := by decide +kernel
theorem dX6_putBack_88 : decode cX6_putBack 88 = .ok (.bastore, 1) := by decide +kernel
theorem dX6_putBack_89 : decode cX6_putBack 89 = .ok (.iinc 1 1, 3) := by decide +kernel
theorem dX6_putBack_92 : decode cX6_putBack 92 = .ok (.goto (-33), 3) := by decide +kernel
theorem dX6_putBack_95 : decode cX6_putBack 95 = .ok (.return_, 1) := by decide +kernel
theorem dX6_goes_0 : decode cX6_goes 0 = .ok (.iload_n 2, 1) := by decide +kernel
theorem dX6_goes_1 : decode cX6_goes 1 = .ok (.bipush 9, 2) := by decide +kernel
theorem dX6_goes_3 : decode cX6_goes 3 = .ok (.if_icmp .ne 23, 3) := by decide +kernel
theorem dX6_goes_6 : decode cX6_goes 6 = .ok (.aload_n 0, 1) := by decide +kernel
theorem dX6_goes_7 : decode cX6_goes 7 = .ok (.getfield 129, 3) := by decide +kernel
theorem dX6_goes_10 : decode cX6_goes 10 = .ok (.iload_n 1, 1) := by decide +kernel
theorem dX6_goes_11 : decode cX6_goes 11 = .ok (.iadd, 1) := by decide +kernel
theorem dX6_goes_12 : decode cX6_goes 12 = .ok (.bipush 99, 2) := by decide +kernel
theorem dX6_goes_14 : decode cX6_goes 14 = .ok (.if_icmp .le 5, 3) := by decide +kernel
theorem dX6_goes_17 : decode cX6_goes 17 = .ok (.iconst 0, 1) := by decide +kernel
theorem dX6_goes_18 : decode cX6_goes 18 = .ok (.ireturn, 1) := by decide +kernel
theorem dX6_goes_19 : decode cX6_goes 19 = .ok (.aload_n 0, 1) := by decide +kernel
theorem dX6_goes_20 : decode cX6_goes 20 = .ok (.iload_n 1, 1) := by decide +kernel
theorem dX6_goes_21 : decode cX6_goes 21 = .ok (.invokevirtual 181, 3) := by decide +kernel
theorem dX6_goes_24 : decode cX6_goes 24 = .ok (.iconst 1, 1) := by decide +kernel
theorem dX6_goes_25 : decode cX6_goes 25 = .ok (.ireturn, 1) := by decide +kernel
theorem dX6_goes_26 : decode cX6_goes 26 = .ok (.iload_n 2, 1) := by decide +kernel
theorem dX6_goes_27 : decode cX6_goes 27 = .ok (.bipush 8, 2) := by decide +kernel
theorem dX6_goes_29 : decode cX6_goes 29 = .ok (.if_icmp .ne 22, 3) := by decide +kernel
theorem dX6_goes_32 : decode cX6_goes 32 = .ok (.aload_n 0, 1) := by decide +kernel
theorem dX6_goes_33 : decode cX6_goes 33 = .ok (.getfield 41, 3) := by decide +kernel
theorem dX6_goes_36 : decode cX6_goes 36 = .ok (.iload_n 1, 1) := by decide +kernel
theorem dX6_goes_37 : decode cX6_goes 37 = .ok (.baload, 1) := by decide +kernel
theorem dX6_goes_38 : decode cX6_goes 38 = .ok (.ifCond .eq 5, 3) := by decide +kernel
theorem dX6_goes_41 : decode cX6_goes 41 = .ok (.iconst 0, 1) := by decide +kernel
theorem dX6_goes_42 : decode cX6_goes 42 = .ok (.ireturn, 1) := by decide +kernel
theorem dX6_goes_43 : decode cX6_goes 43 = .ok (.aload_n 0, 1) := by decide +kernel
theorem dX6_goes_44 : decode cX6_goes 44 = .ok (.iload_n 1, 1) := by decide +kernel
theorem dX6_goes_45 : decode cX6_goes 45 = .ok (.invokevirtual 178, 3) := by decide +kernel
theorem dX6_goes_48 : decode cX6_goes 48 = .ok (.pop, 1) := by decide +kernel
theorem dX6_goes_49 : decode cX6_goes 49 = .ok (.iconst 1, 1) := by decide +kernel
theorem dX6_goes_50 : decode cX6_goes 50 = .ok (.ireturn, 1) := by decide +kernel
theorem dX6_goes_51 : decode cX6_goes 51 = .ok (.aload_n 0, 1) := by decide +kernel
theorem dX6_goes_52 : decode cX6_goes 52 = .ok (.iload_n 1, 1) := by decide +kernel
theorem dX6_goes_53 : decode cX6_goes 53 = .ok (.iload_n 2, 1) := by decide +kernel
theorem dX6_goes_54 : decode cX6_goes 54 = .ok (.invokevirtual 171, 3) := by decide +kernel
theorem dX6_goes_57 : decode cX6_goes 57 = .ok (.ifCond .ne 5, 3) := by decide +kernel
theorem dX6_goes_60 : decode cX6_goes 60 = .ok (.iconst 0, 1) := by decide +kernel
theorem dX6_goes_61 : decode cX6_goes 61 = .ok (.ireturn, 1) := by decide +kernel
theorem dX6_goes_62 : decode cX6_goes 62 = .ok (.aload_n 0, 1) := by decide +kernel
theorem dX6_goes_63 : decode cX6_goes 63 = .ok (.iload_n 1, 1) := by decide +kernel
theorem dX6_goes_64 : decode cX6_goes 64 = .ok (.iload_n 2, 1) := by decide +kernel
theorem dX6_goes_65 : decode cX6_goes 65 = .ok (.invokevirtual 174, 3) := by decide +kernel
theorem dX6_goes_68 : decode cX6_goes 68 = .ok (.iconst 1, 1) := by decide +kernel
theorem dX6_goes_69 : decode cX6_goes 69 = .ok (.ireturn, 1) := by decide +kernel
theorem dX6_year_0 : decode cX6_year 0 = .ok (.aload_n 0, 1) := by decide +kernel
theorem dX6_year_1 : decode cX6_year 1 = .ok (.iconst 0, 1) := by decide +kernel
theorem dX6_year_2 : decode cX6_year 2 = .ok (.putfield 80, 3) := by decide +kernel
theorem dX6_year_5 : decode cX6_year 5 = .ok (.iload_n 1, 1) := by decide +kernel
theorem dX6_year_6 : decode cX6_year 6 = .ok (.invokestatic 99, 3) := by decide +kernel
theorem dX6_year_9 : decode cX6_year 9 = .ok (.ifCond .ne 5, 3) := by decide +kernel
theorem dX6_year_12 : decode cX6_year 12 = .ok (.iconst (-1), 1) := by decide +kernel
theorem dX6_year_13 : decode cX6_year 13 = .ok (.ireturn, 1) := by decide +kernel
theorem dX6_year_14 : decode cX6_year 14 = .ok (.iload 5, 2) := by decide +kernel
theorem dX6_year_16 : decode cX6_year 16 = .ok (.iconst 0, 1) := by decide +kernel
theorem dX6_year_17 : decode cX6_year 17 = .ok (.iconst 3, 1) := by decide +kernel
theorem dX6_year_18 : decode cX6_year 18 = .ok (.invokestatic 86, 3) := by decide +kernel
theorem dX6_year_21 : decode cX6_year 21 = .ok (.ifCond .ne 39, 3) := by decide +kernel
theorem dX6_year_24 : decode cX6_year 24 = .ok (.iload 5, 2) := by decide +kernel
theorem dX6_year_26 : decode cX6_year 26 = .ok (.bipush 10, 2) := by decide +kernel
theorem dX6_year_28 : decode cX6_year 28 = .ok (.bipush 13, 2) := by decide +kernel
theorem dX6_year_30 : decode cX6_year 30 = .ok (.invokestatic 86, 3) := by decide +kernel
theorem dX6_year_33 : decode cX6_year 33 = .ok (.ifCond .ne 27, 3) := by decide +kernel
theorem dX6_year_36 : decode cX6_year 36 = .ok (.iload 5, 2) := by decide +kernel
theorem dX6_year_38 : decode cX6_year 38 = .ok (.bipush 20, 2) := by decide +kernel
theorem dX6_year_40 : decode cX6_year 40 = .ok (.bipush 23, 2) := by decide +kernel
theorem dX6_year_42 : decode cX6_year 42 = .ok (.invokestatic 86, 3) := by decide +kernel
theorem dX6_year_45 : decode cX6_year 45 = .ok (.ifCond .ne 15, 3) := by decide +kernel
theorem dX6_year_48 : decode cX6_year 48 = .ok (.iload 5, 2) := by decide +kernel
theorem dX6_year_50 : decode cX6_year 50 = .ok (.bipush 30, 2) := by decide +kernel
theorem dX6_year_52 : decode cX6_year 52 = .ok (.bipush 35, 2) := by decide +kernel
theorem dX6_year_54 : decode cX6_year 54 = .ok (.invokestatic 86, 3) := by decide +kernel
theorem dX6_year_57 : decode cX6_year 57 = .ok (.ifCond .eq 7, 3) := by decide +kernel
theorem dX6_year_60 : decode cX6_year 60 = .ok (.iconst 1, 1) := by decide +kernel
theorem dX6_year_61 : decode cX6_year 61 = .ok (.goto 4, 3) := by decide +kernel
theorem dX6_year_64 : decode cX6_year 64 = .ok (.iconst 0, 1) := by decide +kernel
theorem dX6_year_65 : decode cX6_year 65 = .ok (.istore 6, 2) := by decide +kernel
theorem dX6_year_67 : decode cX6_year 67 = .ok (.iload_n 2, 1) := by decide +kernel
theorem dX6_year_68 : decode cX6_year 68 = .ok (.invokestatic 103, 3) := by decide +kernel
theorem dX6_year_71 : decode cX6_year 71 = .ok (.ifCond .eq 19, 3) := by decide +kernel
theorem dX6_year_74 : decode cX6_year 74 = .ok (.iload 4, 2) := by decide +kernel
theorem dX6_year_76 : decode cX6_year 76 = .ok (.iconst 0, 1) := by decide +kernel
theorem dX6_year_77 : decode cX6_year 77 = .ok (.bipush 20, 2) := by decide +kernel
theorem dX6_year_79 : decode cX6_year 79 = .ok (.invokestatic 86, 3) := by decide +kernel
theorem dX6_year_82 : decode cX6_year 82 = .ok (.ifCond .eq 8, 3) := by decide +kernel
theorem dX6_year_85 : decode cX6_year 85 = .ok (.iload 6, 2) := by decide +kernel
theorem dX6_year_87 : decode cX6_year 87 = .ok (.ifCond .ne 6, 3) := by decide +kernel
theorem dX6_year_90 : decode cX6_year 90 = .ok (.bipush (-2), 2) := by decide +kernel
theorem dX6_year_92 : decode cX6_year 92 = .ok (.ireturn, 1) := by decide +kernel
theorem dX6_year_93 : decode cX6_year 93 = .ok (.aload_n 0, 1) := by decide +kernel
theorem dX6_year_94 : decode cX6_year 94 = .ok (.iload_n 1, 1) := by decide +kernel
theorem dX6_year_95 : decode cX6_year 95 = .ok (.iload_n 2, 1) := by decide +kernel
theorem dX6_year_96 : decode cX6_year 96 = .ok (.iload_n 3, 1) := by decide +kernel
theorem dX6_year_97 : decode cX6_year 97 = .ok (.iconst 2, 1) := by decide +kernel
theorem dX6_year_98 : decode cX6_year 98 = .ok (.iload 4, 2) := by decide +kernel
theorem dX6_year_100 : decode cX6_year 100 = .ok (.imul, 1) := by decide +kernel
theorem dX6_year_101 : decode cX6_year 101 = .ok (.invokevirtual 106, 3) := by decide +kernel
theorem dX6_year_104 : decode cX6_year 104 = .ok (.istore 7, 2) := by decide +kernel
theorem dX6_year_106 : decode cX6_year 106 = .ok (.iload 7, 2) := by decide +kernel
theorem dX6_year_108 : decode cX6_year 108 = .ok (.ifCond .eq 10, 3) := by decide +kernel
theorem dX6_year_111 : decode cX6_year 111 = .ok (.aload_n 0, 1) := by decide +kernel
theorem dX6_year_112 : decode cX6_year 112 = .ok (.iload 7, 2) := by decide +kernel
theorem dX6_year_114 : decode cX6_year 114 = .ok (.invokevirtual 110, 3) := by decide +kernel
theorem dX6_year_117 : decode cX6_year 117 = .ok (.ireturn, 1) := by decide +kernel
theorem dX6_year_118 : decode cX6_year 118 = .ok (.aload_n 0, 1) := by decide +kernel
theorem dX6_year_119 : decode cX6_year 119 = .ok (.getfield 90, 3) := by decide +kernel
theorem dX6_year_122 : decode cX6_year 122 = .ok (.ifCond .ne 6, 3) := by decide +kernel
theorem dX6_year_125 : decode cX6_year 125 = .ok (.bipush (-3), 2) := by decide +kernel
theorem dX6_year_127 : decode cX6_year 127 = .ok (.ireturn, 1) := by decide +kernel
theorem dX6_year_128 : decode cX6_year 128 = .ok (.bipush 60, 2) := by decide +kernel
theorem dX6_year_130 : decode cX6_year 130 = .ok (.iload_n 1, 1) := by decide +kernel
theorem dX6_year_131 : decode cX6_year 131 = .ok (.imul, 1) := by decide +kernel
theorem dX6_year_132 : decode cX6_year 132 = .ok (.iload_n 3, 1) := by decide +kernel
theorem dX6_year_133 : decode cX6_year 133 = .ok (.iadd, 1) := by decide +kernel
theorem dX6_year_134 : decode cX6_year 134 = .ok (.istore 8, 2) := by decide +kernel
theorem dX6_year_136 : decode cX6_year 136 = .ok (.iconst 0, 1) := by decide +kernel
theorem dX6_year_137 : decode cX6_year 137 = .ok (.istore 9, 2) := by decide +kernel
theorem dX6_year_139 : decode cX6_year 139 = .ok (.iload 9, 2) := by decide +kernel
theorem dX6_year_141 : decode cX6_year 141 = .ok (.iload 4, 2) := by decide +kernel
theorem dX6_year_143 : decode cX6_year 143 = .ok (.if_icmp .ge 49, 3) := by decide +kernel
theorem dX6_year_146 : decode cX6_year 146 = .ok (.aload_n 0, 1) := by decide +kernel
theorem dX6_year_147 : decode cX6_year 147 = .ok (.aload_n 0, 1) := by decide +kernel
theorem dX6_year_148 : decode cX6_year 148 = .ok (.getfield 16, 3) := by decide +kernel
theorem dX6_year_151 : decode cX6_year 151 = .ok (.iload 8, 2) := by decide +kernel
theorem dX6_year_153 : decode cX6_year 153 = .ok (.iconst 2, 1) := by decide +kernel
theorem dX6_year_154 : decode cX6_year 154 = .ok (.iload 9, 2) := by decide +kernel
theorem dX6_year_156 : decode cX6_year 156 = .ok (.imul, 1) := by decide +kernel
theorem dX6_year_157 : decode cX6_year 157 = .ok (.iadd, 1) := by decide +kernel
theorem dX6_year_158 : decode cX6_year 158 = .ok (.iaload, 1) := by decide +kernel
theorem dX6_year_159 : decode cX6_year 159 = .ok (.aload_n 0, 1) := by decide +kernel
theorem dX6_year_160 : decode cX6_year 160 = .ok (.getfield 16, 3) := by decide +kernel
theorem dX6_year_163 : decode cX6_year 163 = .ok (.iload 8, 2) := by decide +kernel
theorem dX6_year_165 : decode cX6_year 165 = .ok (.iconst 2, 1) := by decide +kernel
theorem dX6_year_166 : decode cX6_year 166 = .ok (.iload 9, 2) := by decide +kernel
theorem dX6_year_168 : decode cX6_year 168 = .ok (.imul, 1) := by decide +kernel
theorem dX6_year_169 : decode cX6_year 169 = .ok (.iadd, 1) := by decide +kernel
theorem dX6_year_170 : decode cX6_year 170 = .ok (.iconst 1, 1) := by decide +kernel
theorem dX6_year_171 : decode cX6_year 171 = .ok (.iadd, 1) := by decide +kernel
theorem dX6_year_172 : decode cX6_year 172 = .ok (.iaload, 1) := by decide +kernel
theorem dX6_year_173 : decode cX6_year 173 = .ok (.invokevirtual 188, 3) := by decide +kernel
theorem dX6_year_176 : decode cX6_year 176 = .ok (.istore 10, 2) := by decide +kernel
theorem dX6_year_178 : decode cX6_year 178 = .ok (.iload 10, 2) := by decide +kernel
theorem dX6_year_180 : decode cX6_year 180 = .ok (.ifCond .eq 6, 3) := by decide +kernel
theorem dX6_year_183 : decode cX6_year 183 = .ok (.iload 10, 2) := by decide +kernel
theorem dX6_year_185 : decode cX6_year 185 = .ok (.ireturn, 1) := by decide +kernel
theorem dX6_year_186 : decode cX6_year 186 = .ok (.iinc 9 1, 3) := by decide +kernel
theorem dX6_year_189 : decode cX6_year 189 = .ok (.goto (-50), 3) := by decide +kernel
theorem dX6_year_192 : decode cX6_year 192 = .ok (.aload_n 0, 1) := by decide +kernel
theorem dX6_year_193 : decode cX6_year 193 = .ok (.invokevirtual 191, 3) := by decide +kernel
theorem dX6_year_196 : decode cX6_year 196 = .ok (.bipush (-9), 2) := by decide +kernel
theorem dX6_year_198 : decode cX6_year 198 = .ok (.istore 9, 2) := by decide +kernel
theorem dX6_year_200 : decode cX6_year 200 = .ok (.iconst 0, 1) := by decide +kernel
theorem dX6_year_201 : decode cX6_year 201 = .ok (.istore 10, 2) := by decide +kernel
theorem dX6_year_203 : decode cX6_year 203 = .ok (.iload 10, 2) := by decide +kernel
theorem dX6_year_205 : decode cX6_year 205 = .ok (.iload 4, 2) := by decide +kernel
theorem dX6_year_207 : decode cX6_year 207 = .ok (.if_icmp .ge 58, 3) := by decide +kernel
theorem dX6_year_210 : decode cX6_year 210 = .ok (.iload 9, 2) := by decide +kernel
theorem dX6_year_212 : decode cX6_year 212 = .ok (.bipush (-9), 2) := by decide +kernel
theorem dX6_year_214 : decode cX6_year 214 = .ok (.if_icmp .ne 51, 3) := by decide +kernel
theorem dX6_year_217 : decode cX6_year 217 = .ok (.aload_n 0, 1) := by decide +kernel
theorem dX6_year_218 : decode cX6_year 218 = .ok (.aload_n 0, 1) := by decide +kernel
theorem dX6_year_219 : decode cX6_year 219 = .ok (.getfield 16, 3) := by decide +kernel
theorem dX6_year_222 : decode cX6_year 222 = .ok (.iload 8, 2) := by decide +kernel
theorem dX6_year_224 : decode cX6_year 224 = .ok (.iconst 2, 1) := by decide +kernel
theorem dX6_year_225 : decode cX6_year 225 = .ok (.iload 10, 2) := by decide +kernel
theorem dX6_year_227 : decode cX6_year 227 = .ok (.imul, 1) := by decide +kernel
theorem dX6_year_228 : decode cX6_year 228 = .ok (.iadd, 1) := by decide +kernel
theorem dX6_year_229 : decode cX6_year 229 = .ok (.iaload, 1) := by decide +kernel
theorem dX6_year_230 : decode cX6_year 230 = .ok (.aload_n 0, 1) := by decide +kernel
theorem dX6_year_231 : decode cX6_year 231 = .ok (.getfield 16, 3) := by decide +kernel
theorem dX6_year_234 : decode cX6_year 234 = .ok (.iload 8, 2) := by decide +kernel
theorem dX6_year_236 : decode cX6_year 236 = .ok (.iconst 2, 1) := by decide +kernel
theorem dX6_year_237 : decode cX6_year 237 = .ok (.iload 10, 2) := by decide +kernel
theorem dX6_year_239 : decode cX6_year 239 = .ok (.imul, 1) := by decide +kernel
theorem dX6_year_240 : decode cX6_year 240 = .ok (.iadd, 1) := by decide +kernel
theorem dX6_year_241 : decode cX6_year 241 = .ok (.iconst 1, 1) := by decide +kernel
theorem dX6_year_242 : decode cX6_year 242 = .ok (.iadd, 1) := by decide +kernel
theorem dX6_year_243 : decode cX6_year 243 = .ok (.iaload, 1) := by decide +kernel
theorem dX6_year_244 : decode cX6_year 244 = .ok (.invokevirtual 194, 3) := by decide +kernel
theorem dX6_year_247 : decode cX6_year 247 = .ok (.ifCond .eq 8, 3) := by decide +kernel
theorem dX6_year_250 : decode cX6_year 250 = .ok (.bipush (-9), 2) := by decide +kernel
theorem dX6_year_252 : decode cX6_year 252 = .ok (.goto 5, 3) := by decide +kernel
theorem dX6_year_255 : decode cX6_year 255 = .ok (.iload 10, 2) := by decide +kernel
theorem dX6_year_257 : decode cX6_year 257 = .ok (.istore 9, 2) := by decide +kernel
theorem dX6_year_259 : decode cX6_year 259 = .ok (.iinc 10 1, 3) := by decide +kernel
theorem dX6_year_262 : decode cX6_year 262 = .ok (.goto (-59), 3) := by decide +kernel
theorem dX6_year_265 : decode cX6_year 265 = .ok (.aload_n 0, 1) := by decide +kernel
theorem dX6_year_266 : decode cX6_year 266 = .ok (.iload 5, 2) := by decide +kernel
theorem dX6_year_268 : decode cX6_year 268 = .ok (.invokevirtual 197, 3) := by decide +kernel
theorem dX6_year_271 : decode cX6_year 271 = .ok (.istore 10, 2) := by decide +kernel
theorem dX6_year_273 : decode cX6_year 273 = .ok (.aload_n 0, 1) := by decide +kernel
theorem dX6_year_274 : decode cX6_year 274 = .ok (.invokevirtual 200, 3) := by decide +kernel
theorem dX6_year_277 : decode cX6_year 277 = .ok (.iload 5, 2) := by decide +kernel
theorem dX6_year_279 : decode cX6_year 279 = .ok (.iconst 1, 1) := by decide +kernel
theorem dX6_year_280 : decode cX6_year 280 = .ok (.if_icmp .ne 8, 3) := by decide +kernel
theorem dX6_year_283 : decode cX6_year 283 = .ok (.iload 9, 2) := by decide +kernel
theorem dX6_year_285 : decode cX6_year 285 = .ok (.goto 20, 3) := by decide +kernel
theorem dX6_year_288 : decode cX6_year 288 = .ok (.iload 9, 2) := by decide +kernel
theorem dX6_year_290 : decode cX6_year 290 = .ok (.bipush (-9), 2) := by decide +kernel
theorem dX6_year_292 : decode cX6_year 292 = .ok (.if_icmp .ne 8, 3) := by decide +kernel
theorem dX6_year_295 : decode cX6_year 295 = .ok (.iload 10, 2) := by decide +kernel
theorem dX6_year_297 : decode cX6_year 297 = .ok (.goto 8, 3) := by decide +kernel
theorem dX6_year_300 : decode cX6_year 300 = .ok (.bipush (-100), 2) := by decide +kernel
theorem dX6_year_302 : decode cX6_year 302 = .ok (.iload 9, 2) := by decide +kernel
theorem dX6_year_304 : decode cX6_year 304 = .ok (.isub, 1) := by decide +kernel
theorem dX6_year_305 : decode cX6_year 305 = .ok (.ireturn, 1) := by decide +kernel
theorem dX6_refusesPair_0 : decode cX6_refusesPair 0 = .ok (.iload_n 2, 1) := by decide +kernel
theorem dX6_refusesPair_1 : decode cX6_refusesPair 1 = .ok (.iconst 0, 1) := by decide +kernel
theorem dX6_refusesPair_2 : decode cX6_refusesPair 2 = .ok (.iconst 3, 1) := by decide +kernel
theorem dX6_refusesPair_3 : decode cX6_refusesPair 3 = .ok (.invokestatic 86, 3) := by decide +kernel
theorem dX6_refusesPair_6 : decode cX6_refusesPair 6 = .ok (.ifCond .ne 15, 3) := by decide +kernel
theorem dX6_refusesPair_9 : decode cX6_refusesPair 9 = .ok (.iload_n 2, 1) := by decide +kernel
theorem dX6_refusesPair_10 : decode cX6_refusesPair 10 = .ok (.bipush 8, 2) := by decide +kernel
theorem dX6_refusesPair_12 : decode cX6_refusesPair 12 = .ok (.if_icmp .eq 9, 3) := by decide +kernel
theorem dX6_refusesPair_15 : decode cX6_refusesPair 15 = .ok (.iload_n 2, 1) := by decide +kernel
theorem dX6_refusesPair_16 : decode cX6_refusesPair 16 = .ok (.bipush 9, 2) := by decide +kernel
theorem dX6_refusesPair_18 : decode cX6_refusesPair 18 = .ok (.if_icmp .ne 19, 3) := by decide +kernel
theorem dX6_refusesPair_21 : decode cX6_refusesPair 21 = .ok (.iload_n 2, 1) := by decide +kernel
theorem dX6_refusesPair_22 : decode cX6_refusesPair 22 = .ok (.bipush 9, 2) := by decide +kernel
theorem dX6_refusesPair_24 : decode cX6_refusesPair 24 = .ok (.if_icmp .ne 16, 3) := by decide +kernel
theorem dX6_refusesPair_27 : decode cX6_refusesPair 27 = .ok (.iload_n 1, 1) := by decide +kernel
theorem dX6_refusesPair_28 : decode cX6_refusesPair 28 = .ok (.iconst 0, 1) := by decide +kernel
theorem dX6_refusesPair_29 : decode cX6_refusesPair 29 = .ok (.bipush 9, 2) := by decide +kernel
theorem dX6_refusesPair_31 : decode cX6_refusesPair 31 = .ok (.invokestatic 86, 3) := by decide +kernel
theorem dX6_refusesPair_34 : decode cX6_refusesPair 34 = .ok (.ifCond .ne 6, 3) := by decide +kernel
theorem dX6_refusesPair_37 : decode cX6_refusesPair 37 = .ok (.bipush (-2), 2) := by decide +kernel
theorem dX6_refusesPair_39 : decode cX6_refusesPair 39 = .ok (.ireturn, 1) := by decide +kernel
theorem dX6_refusesPair_40 : decode cX6_refusesPair 40 = .ok (.iload_n 2, 1) := by decide +kernel
theorem dX6_refusesPair_41 : decode cX6_refusesPair 41 = .ok (.bipush 9, 2) := by decide +kernel
theorem dX6_refusesPair_43 : decode cX6_refusesPair 43 = .ok (.if_icmp .eq 15, 3) := by decide +kernel
theorem dX6_refusesPair_46 : decode cX6_refusesPair 46 = .ok (.aload_n 0, 1) := by decide +kernel
theorem dX6_refusesPair_47 : decode cX6_refusesPair 47 = .ok (.iload_n 1, 1) := by decide +kernel
theorem dX6_refusesPair_48 : decode cX6_refusesPair 48 = .ok (.invokevirtual 156, 3) := by decide +kernel
theorem dX6_refusesPair_51 : decode cX6_refusesPair 51 = .ok (.ifCond .ne 7, 3) := by decide +kernel
theorem dX6_refusesPair_54 : decode cX6_refusesPair 54 = .ok (.iconst (-1), 1) := by decide +kernel
theorem dX6_refusesPair_55 : decode cX6_refusesPair 55 = .ok (.goto 4, 3) := by decide +kernel
theorem dX6_refusesPair_58 : decode cX6_refusesPair 58 = .ok (.iconst 0, 1) := by decide +kernel
theorem dX6_refusesPair_59 : decode cX6_refusesPair 59 = .ok (.ireturn, 1) := by decide +kernel
theorem dX6_tellYear_0 : decode cX6_tellYear 0 = .ok (.iload_n 1, 1) := by decide +kernel
theorem dX6_tellYear_1 : decode cX6_tellYear 1 = .ok (.bipush 30, 2) := by decide +kernel
theorem dX6_tellYear_3 : decode cX6_tellYear 3 = .ok (.if_icmp .lt 29, 3) := by decide +kernel
theorem dX6_tellYear_6 : decode cX6_tellYear 6 = .ok (.aload_n 0, 1) := by decide +kernel
theorem dX6_tellYear_7 : decode cX6_tellYear 7 = .ok (.iload_n 1, 1) := by decide +kernel
theorem dX6_tellYear_8 : decode cX6_tellYear 8 = .ok (.bipush 30, 2) := by decide +kernel
theorem dX6_tellYear_10 : decode cX6_tellYear 10 = .ok (.isub, 1) := by decide +kernel
theorem dX6_tellYear_11 : decode cX6_tellYear 11 = .ok (.invokevirtual 156, 3) := by decide +kernel
theorem dX6_tellYear_14 : decode cX6_tellYear 14 = .ok (.ifCond .eq 15, 3) := by decide +kernel
theorem dX6_tellYear_17 : decode cX6_tellYear 17 = .ok (.aload_n 0, 1) := by decide +kernel
theorem dX6_tellYear_18 : decode cX6_tellYear 18 = .ok (.getfield 32, 3) := by decide +kernel
theorem dX6_tellYear_21 : decode cX6_tellYear 21 = .ok (.iload_n 1, 1) := by decide +kernel
theorem dX6_tellYear_22 : decode cX6_tellYear 22 = .ok (.bipush 30, 2) := by decide +kernel
theorem dX6_tellYear_24 : decode cX6_tellYear 24 = .ok (.isub, 1) := by decide +kernel
theorem dX6_tellYear_25 : decode cX6_tellYear 25 = .ok (.iaload, 1) := by decide +kernel
theorem dX6_tellYear_26 : decode cX6_tellYear 26 = .ok (.goto 5, 3) := by decide +kernel
theorem dX6_tellYear_29 : decode cX6_tellYear 29 = .ok (.bipush (-9), 2) := by decide +kernel
theorem dX6_tellYear_31 : decode cX6_tellYear 31 = .ok (.ireturn, 1) := by decide +kernel
theorem dX6_tellYear_32 : decode cX6_tellYear 32 = .ok (.iload_n 1, 1) := by decide +kernel
theorem dX6_tellYear_33 : decode cX6_tellYear 33 = .ok (.bipush 20, 2) := by decide +kernel
theorem dX6_tellYear_35 : decode cX6_tellYear 35 = .ok (.if_icmp .lt 39, 3) := by decide +kernel
theorem dX6_tellYear_38 : decode cX6_tellYear 38 = .ok (.aload_n 0, 1) := by decide +kernel
theorem dX6_tellYear_39 : decode cX6_tellYear 39 = .ok (.iload_n 1, 1) := by decide +kernel
theorem dX6_tellYear_40 : decode cX6_tellYear 40 = .ok (.bipush 20, 2) := by decide +kernel
theorem dX6_tellYear_42 : decode cX6_tellYear 42 = .ok (.isub, 1) := by decide +kernel
theorem dX6_tellYear_43 : decode cX6_tellYear 43 = .ok (.invokevirtual 159, 3) := by decide +kernel
theorem dX6_tellYear_46 : decode cX6_tellYear 46 = .ok (.ifCond .eq 25, 3) := by decide +kernel
theorem dX6_tellYear_49 : decode cX6_tellYear 49 = .ok (.aload_n 0, 1) := by decide +kernel
theorem dX6_tellYear_50 : decode cX6_tellYear 50 = .ok (.getfield 22, 3) := by decide +kernel
theorem dX6_tellYear_53 : decode cX6_tellYear 53 = .ok (.iload_n 1, 1) := by decide +kernel
theorem dX6_tellYear_54 : decode cX6_tellYear 54 = .ok (.bipush 20, 2) := by decide +kernel
theorem dX6_tellYear_56 : decode cX6_tellYear 56 = .ok (.isub, 1) := by decide +kernel
theorem dX6_tellYear_57 : decode cX6_tellYear 57 = .ok (.iaload, 1) := by decide +kernel
theorem dX6_tellYear_58 : decode cX6_tellYear 58 = .ok (.aload_n 0, 1) := by decide +kernel
theorem dX6_tellYear_59 : decode cX6_tellYear 59 = .ok (.getfield 53, 3) := by decide +kernel
theorem dX6_tellYear_62 : decode cX6_tellYear 62 = .ok (.iload_n 1, 1) := by decide +kernel
theorem dX6_tellYear_63 : decode cX6_tellYear 63 = .ok (.bipush 20, 2) := by decide +kernel
theorem dX6_tellYear_65 : decode cX6_tellYear 65 = .ok (.isub, 1) := by decide +kernel
theorem dX6_tellYear_66 : decode cX6_tellYear 66 = .ok (.iaload, 1) := by decide +kernel
theorem dX6_tellYear_67 : decode cX6_tellYear 67 = .ok (.isub, 1) := by decide +kernel
theorem dX6_tellYear_68 : decode cX6_tellYear 68 = .ok (.goto 5, 3) := by decide +kernel
theorem dX6_tellYear_71 : decode cX6_tellYear 71 = .ok (.bipush (-9), 2) := by decide +kernel
theorem dX6_tellYear_73 : decode cX6_tellYear 73 = .ok (.ireturn, 1) := by decide +kernel
theorem dX6_tellYear_74 : decode cX6_tellYear 74 = .ok (.iload_n 1, 1) := by decide +kernel
theorem dX6_tellYear_75 : decode cX6_tellYear 75 = .ok (.bipush 10, 2) := by decide +kernel
theorem dX6_tellYear_77 : decode cX6_tellYear 77 = .ok (.if_icmp .lt 29, 3) := by decide +kernel
theorem dX6_tellYear_80 : decode cX6_tellYear 80 = .ok (.aload_n 0, 1) := by decide +kernel
theorem dX6_tellYear_81 : decode cX6_tellYear 81 = .ok (.iload_n 1, 1) := by decide +kernel
theorem dX6_tellYear_82 : decode cX6_tellYear 82 = .ok (.bipush 10, 2) := by decide +kernel
theorem dX6_tellYear_84 : decode cX6_tellYear 84 = .ok (.isub, 1) := by decide +kernel
theorem dX6_tellYear_85 : decode cX6_tellYear 85 = .ok (.invokevirtual 159, 3) := by decide +kernel
theorem dX6_tellYear_88 : decode cX6_tellYear 88 = .ok (.ifCond .eq 15, 3) := by decide +kernel
theorem dX6_tellYear_91 : decode cX6_tellYear 91 = .ok (.aload_n 0, 1) := by decide +kernel
theorem dX6_tellYear_92 : decode cX6_tellYear 92 = .ok (.getfield 19, 3) := by decide +kernel
theorem dX6_tellYear_95 : decode cX6_tellYear 95 = .ok (.iload_n 1, 1) := by decide +kernel
theorem dX6_tellYear_96 : decode cX6_tellYear 96 = .ok (.bipush 10, 2) := by decide +kernel
theorem dX6_tellYear_98 : decode cX6_tellYear 98 = .ok (.isub, 1) := by decide +kernel
theorem dX6_tellYear_99 : decode cX6_tellYear 99 = .ok (.iaload, 1) := by decide +kernel
theorem dX6_tellYear_100 : decode cX6_tellYear 100 = .ok (.goto 5, 3) := by decide +kernel
theorem dX6_tellYear_103 : decode cX6_tellYear 103 = .ok (.bipush (-9), 2) := by decide +kernel
theorem dX6_tellYear_105 : decode cX6_tellYear 105 = .ok (.ireturn, 1) := by decide +kernel
theorem dX6_tellYear_106 : decode cX6_tellYear 106 = .ok (.iload_n 1, 1) := by decide +kernel
theorem dX6_tellYear_107 : decode cX6_tellYear 107 = .ok (.ifCond .ne 8, 3) := by decide +kernel
theorem dX6_tellYear_110 : decode cX6_tellYear 110 = .ok (.aload_n 0, 1) := by decide +kernel
theorem dX6_tellYear_111 : decode cX6_tellYear 111 = .ok (.getfield 129, 3) := by decide +kernel
theorem dX6_tellYear_114 : decode cX6_tellYear 114 = .ok (.ireturn, 1) := by decide +kernel
theorem dX6_tellYear_115 : decode cX6_tellYear 115 = .ok (.iconst 0, 1) := by decide +kernel
theorem dX6_tellYear_116 : decode cX6_tellYear 116 = .ok (.istore_n 2, 1) := by decide +kernel
theorem dX6_tellYear_117 : decode cX6_tellYear 117 = .ok (.iconst 0, 1) := by decide +kernel
theorem dX6_tellYear_118 : decode cX6_tellYear 118 = .ok (.istore_n 3, 1) := by decide +kernel
theorem dX6_tellYear_119 : decode cX6_tellYear 119 = .ok (.iload_n 3, 1) := by decide +kernel
theorem dX6_tellYear_120 : decode cX6_tellYear 120 = .ok (.aload_n 0, 1) := by decide +kernel
theorem dX6_tellYear_121 : decode cX6_tellYear 121 = .ok (.getfield 90, 3) := by decide +kernel
theorem dX6_tellYear_124 : decode cX6_tellYear 124 = .ok (.if_icmp .ge 25, 3) := by decide +kernel
theorem dX6_tellYear_127 : decode cX6_tellYear 127 = .ok (.iload_n 2, 1) := by decide +kernel
theorem dX6_tellYear_128 : decode cX6_tellYear 128 = .ok (.aload_n 0, 1) := by decide +kernel
theorem dX6_tellYear_129 : decode cX6_tellYear 129 = .ok (.getfield 22, 3) := by decide +kernel
theorem dX6_tellYear_132 : decode cX6_tellYear 132 = .ok (.iload_n 3, 1) := by decide +kernel
theorem dX6_tellYear_133 : decode cX6_tellYear 133 = .ok (.iaload, 1) := by decide +kernel
theorem dX6_tellYear_134 : decode cX6_tellYear 134 = .ok (.aload_n 0, 1) := by decide +kernel
theorem dX6_tellYear_135 : decode cX6_tellYear 135 = .ok (.getfield 53, 3) := by decide +kernel
theorem dX6_tellYear_138 : decode cX6_tellYear 138 = .ok (.iload_n 3, 1) := by decide +kernel
theorem dX6_tellYear_139 : decode cX6_tellYear 139 = .ok (.iaload, 1) := by decide +kernel
theorem dX6_tellYear_140 : decode cX6_tellYear 140 = .ok (.isub, 1) := by decide +kernel
theorem dX6_tellYear_141 : decode cX6_tellYear 141 = .ok (.iadd, 1) := by decide +kernel
theorem dX6_tellYear_142 : decode cX6_tellYear 142 = .ok (.istore_n 2, 1) := by decide +kernel
theorem dX6_tellYear_143 : decode cX6_tellYear 143 = .ok (.iinc 3 1, 3) := by decide +kernel
theorem dX6_tellYear_146 : decode cX6_tellYear 146 = .ok (.goto (-27), 3) := by decide +kernel
theorem dX6_tellYear_149 : decode cX6_tellYear 149 = .ok (.iconst 0, 1) := by decide +kernel
theorem dX6_tellYear_150 : decode cX6_tellYear 150 = .ok (.istore_n 3, 1) := by decide +kernel
theorem dX6_tellYear_151 : decode cX6_tellYear 151 = .ok (.iconst 0, 1) := by decide +kernel
theorem dX6_tellYear_152 : decode cX6_tellYear 152 = .ok (.istore 4, 2) := by decide +kernel
theorem dX6_tellYear_154 : decode cX6_tellYear 154 = .ok (.iload 4, 2) := by decide +kernel
theorem dX6_tellYear_156 : decode cX6_tellYear 156 = .ok (.aload_n 0, 1) := by decide +kernel
theorem dX6_tellYear_157 : decode cX6_tellYear 157 = .ok (.getfield 93, 3) := by decide +kernel
theorem dX6_tellYear_160 : decode cX6_tellYear 160 = .ok (.if_icmp .ge 30, 3) := by decide +kernel
theorem dX6_tellYear_163 : decode cX6_tellYear 163 = .ok (.iload_n 3, 1) := by decide +kernel
theorem dX6_tellYear_164 : decode cX6_tellYear 164 = .ok (.aload_n 0, 1) := by decide +kernel
theorem dX6_tellYear_165 : decode cX6_tellYear 165 = .ok (.getfield 41, 3) := by decide +kernel
theorem dX6_tellYear_168 : decode cX6_tellYear 168 = .ok (.iload 4, 2) := by decide +kernel
theorem dX6_tellYear_170 : decode cX6_tellYear 170 = .ok (.baload, 1) := by decide +kernel
theorem dX6_tellYear_171 : decode cX6_tellYear 171 = .ok (.ifCond .eq 10, 3) := by decide +kernel
theorem dX6_tellYear_174 : decode cX6_tellYear 174 = .ok (.iconst 1, 1) := by decide +kernel
theorem dX6_tellYear_175 : decode cX6_tellYear 175 = .ok (.iload 4, 2) := by decide +kernel
theorem dX6_tellYear_177 : decode cX6_tellYear 177 = .ok (.ishl, 1) := by decide +kernel
theorem dX6_tellYear_178 : decode cX6_tellYear 178 = .ok (.goto 4, 3) := by decide +kernel
theorem dX6_tellYear_181 : decode cX6_tellYear 181 = .ok (.iconst 0, 1) := by decide +kernel
theorem dX6_tellYear_182 : decode cX6_tellYear 182 = .ok (.ior, 1) := by decide +kernel
theorem dX6_tellYear_183 : decode cX6_tellYear 183 = .ok (.istore_n 3, 1) := by decide +kernel
theorem dX6_tellYear_184 : decode cX6_tellYear 184 = .ok (.iinc 4 1, 3) := by decide +kernel
theorem dX6_tellYear_187 : decode cX6_tellYear 187 = .ok (.goto (-33), 3) := by decide +kernel
theorem dX6_tellYear_190 : decode cX6_tellYear 190 = .ok (.iload_n 1, 1) := by decide +kernel
theorem dX6_tellYear_191 : decode cX6_tellYear 191 = .ok (.iconst 2, 1) := by decide +kernel
theorem dX6_tellYear_192 : decode cX6_tellYear 192 = .ok (.if_icmp .ne 7, 3) := by decide +kernel
end
section
theorem dX6_tellYear_195 : decode cX6_tellYear 195 = .ok (.iload_n 3, 1) := by decide +kernel
theorem dX6_tellYear_196 : decode cX6_tellYear 196 = .ok (.goto 4, 3) := by decide +kernel
theorem dX6_tellYear_199 : decode cX6_tellYear 199 = .ok (.iload_n 2, 1) := by decide +kernel
theorem dX6_tellYear_200 : decode cX6_tellYear 200 = .ok (.ireturn, 1) := by decide +kernel
theorem dX6_joyBy_0 : decode cX6_joyBy 0 = .ok (.iconst 0, 1) := by decide +kernel
theorem dX6_joyBy_1 : decode cX6_joyBy 1 = .ok (.istore 4, 2) := by decide +kernel
theorem dX6_joyBy_3 : decode cX6_joyBy 3 = .ok (.iconst 0, 1) := by decide +kernel
theorem dX6_joyBy_4 : decode cX6_joyBy 4 = .ok (.istore 5, 2) := by decide +kernel
theorem dX6_joyBy_6 : decode cX6_joyBy 6 = .ok (.iconst 0, 1) := by decide +kernel
theorem dX6_joyBy_7 : decode cX6_joyBy 7 = .ok (.istore 6, 2) := by decide +kernel
theorem dX6_joyBy_9 : decode cX6_joyBy 9 = .ok (.iload 6, 2) := by decide +kernel
theorem dX6_joyBy_11 : decode cX6_joyBy 11 = .ok (.aload_n 0, 1) := by decide +kernel
theorem dX6_joyBy_12 : decode cX6_joyBy 12 = .ok (.getfield 93, 3) := by decide +kernel
theorem dX6_joyBy_15 : decode cX6_joyBy 15 = .ok (.if_icmp .ge 57, 3) := by decide +kernel
theorem dX6_joyBy_18 : decode cX6_joyBy 18 = .ok (.iload_n 1, 1) := by decide +kernel
theorem dX6_joyBy_19 : decode cX6_joyBy 19 = .ok (.iload 6, 2) := by decide +kernel
theorem dX6_joyBy_21 : decode cX6_joyBy 21 = .ok (.ishr, 1) := by decide +kernel
theorem dX6_joyBy_22 : decode cX6_joyBy 22 = .ok (.iconst 1, 1) := by decide +kernel
theorem dX6_joyBy_23 : decode cX6_joyBy 23 = .ok (.iand, 1) := by decide +kernel
theorem dX6_joyBy_24 : decode cX6_joyBy 24 = .ok (.iconst 1, 1) := by decide +kernel
theorem dX6_joyBy_25 : decode cX6_joyBy 25 = .ok (.if_icmp .ne 13, 3) := by decide +kernel
theorem dX6_joyBy_28 : decode cX6_joyBy 28 = .ok (.aload_n 0, 1) := by decide +kernel
theorem dX6_joyBy_29 : decode cX6_joyBy 29 = .ok (.iload 6, 2) := by decide +kernel
theorem dX6_joyBy_31 : decode cX6_joyBy 31 = .ok (.iload_n 2, 1) := by decide +kernel
theorem dX6_joyBy_32 : decode cX6_joyBy 32 = .ok (.invokevirtual 152, 3) := by decide +kernel
theorem dX6_joyBy_35 : decode cX6_joyBy 35 = .ok (.goto 4, 3) := by decide +kernel
theorem dX6_joyBy_38 : decode cX6_joyBy 38 = .ok (.iconst 0, 1) := by decide +kernel
theorem dX6_joyBy_39 : decode cX6_joyBy 39 = .ok (.istore 7, 2) := by decide +kernel
theorem dX6_joyBy_41 : decode cX6_joyBy 41 = .ok (.iload 4, 2) := by decide +kernel
theorem dX6_joyBy_43 : decode cX6_joyBy 43 = .ok (.iload 7, 2) := by decide +kernel
theorem dX6_joyBy_45 : decode cX6_joyBy 45 = .ok (.iconst 2, 1) := by decide +kernel
theorem dX6_joyBy_46 : decode cX6_joyBy 46 = .ok (.idiv, 1) := by decide +kernel
theorem dX6_joyBy_47 : decode cX6_joyBy 47 = .ok (.iadd, 1) := by decide +kernel
theorem dX6_joyBy_48 : decode cX6_joyBy 48 = .ok (.istore 4, 2) := by decide +kernel
theorem dX6_joyBy_50 : decode cX6_joyBy 50 = .ok (.iload 7, 2) := by decide +kernel
theorem dX6_joyBy_52 : decode cX6_joyBy 52 = .ok (.iload 5, 2) := by decide +kernel
theorem dX6_joyBy_54 : decode cX6_joyBy 54 = .ok (.if_icmp .le 8, 3) := by decide +kernel
theorem dX6_joyBy_57 : decode cX6_joyBy 57 = .ok (.iload 7, 2) := by decide +kernel
theorem dX6_joyBy_59 : decode cX6_joyBy 59 = .ok (.goto 5, 3) := by decide +kernel
theorem dX6_joyBy_62 : decode cX6_joyBy 62 = .ok (.iload 5, 2) := by decide +kernel
theorem dX6_joyBy_64 : decode cX6_joyBy 64 = .ok (.istore 5, 2) := by decide +kernel
theorem dX6_joyBy_66 : decode cX6_joyBy 66 = .ok (.iinc 6 1, 3) := by decide +kernel
theorem dX6_joyBy_69 : decode cX6_joyBy 69 = .ok (.goto (-60), 3) := by decide +kernel
theorem dX6_joyBy_72 : decode cX6_joyBy 72 = .ok (.iload_n 3, 1) := by decide +kernel
theorem dX6_joyBy_73 : decode cX6_joyBy 73 = .ok (.ifCond .eq 8, 3) := by decide +kernel
theorem dX6_joyBy_76 : decode cX6_joyBy 76 = .ok (.iload 4, 2) := by decide +kernel
theorem dX6_joyBy_78 : decode cX6_joyBy 78 = .ok (.goto 13, 3) := by decide +kernel
theorem dX6_joyBy_81 : decode cX6_joyBy 81 = .ok (.iload 4, 2) := by decide +kernel
theorem dX6_joyBy_83 : decode cX6_joyBy 83 = .ok (.iload 5, 2) := by decide +kernel
theorem dX6_joyBy_85 : decode cX6_joyBy 85 = .ok (.iadd, 1) := by decide +kernel
theorem dX6_joyBy_86 : decode cX6_joyBy 86 = .ok (.iload 5, 2) := by decide +kernel
theorem dX6_joyBy_88 : decode cX6_joyBy 88 = .ok (.iconst 2, 1) := by decide +kernel
theorem dX6_joyBy_89 : decode cX6_joyBy 89 = .ok (.idiv, 1) := by decide +kernel
theorem dX6_joyBy_90 : decode cX6_joyBy 90 = .ok (.isub, 1) := by decide +kernel
theorem dX6_joyBy_91 : decode cX6_joyBy 91 = .ok (.ireturn, 1) := by decide +kernel
theorem dX6_feastBy_0 : decode cX6_feastBy 0 = .ok (.aload_n 0, 1) := by decide +kernel
theorem dX6_feastBy_1 : decode cX6_feastBy 1 = .ok (.iload_n 2, 1) := by decide +kernel
theorem dX6_feastBy_2 : decode cX6_feastBy 2 = .ok (.aload_n 0, 1) := by decide +kernel
theorem dX6_feastBy_3 : decode cX6_feastBy 3 = .ok (.getfield 129, 3) := by decide +kernel
theorem dX6_feastBy_6 : decode cX6_feastBy 6 = .ok (.aload_n 0, 1) := by decide +kernel
theorem dX6_feastBy_7 : decode cX6_feastBy 7 = .ok (.getfield 25, 3) := by decide +kernel
theorem dX6_feastBy_10 : decode cX6_feastBy 10 = .ok (.iload_n 1, 1) := by decide +kernel
theorem dX6_feastBy_11 : decode cX6_feastBy 11 = .ok (.baload, 1) := by decide +kernel
theorem dX6_feastBy_12 : decode cX6_feastBy 12 = .ok (.invokevirtual 203, 3) := by decide +kernel
theorem dX6_feastBy_15 : decode cX6_feastBy 15 = .ok (.ireturn, 1) := by decide +kernel
theorem dX6_feast_0 : decode cX6_feast 0 = .ok (.aload_n 0, 1) := by decide +kernel
theorem dX6_feast_1 : decode cX6_feast 1 = .ok (.iload_n 1, 1) := by decide +kernel
theorem dX6_feast_2 : decode cX6_feast 2 = .ok (.invokevirtual 159, 3) := by decide +kernel
theorem dX6_feast_5 : decode cX6_feast 5 = .ok (.ifCond .eq 16, 3) := by decide +kernel
theorem dX6_feast_8 : decode cX6_feast 8 = .ok (.aload_n 0, 1) := by decide +kernel
theorem dX6_feast_9 : decode cX6_feast 9 = .ok (.iload_n 1, 1) := by decide +kernel
theorem dX6_feast_10 : decode cX6_feast 10 = .ok (.aload_n 0, 1) := by decide +kernel
theorem dX6_feast_11 : decode cX6_feast 11 = .ok (.iload_n 1, 1) := by decide +kernel
theorem dX6_feast_12 : decode cX6_feast 12 = .ok (.invokevirtual 162, 3) := by decide +kernel
theorem dX6_feast_15 : decode cX6_feast 15 = .ok (.invokevirtual 207, 3) := by decide +kernel
theorem dX6_feast_18 : decode cX6_feast 18 = .ok (.goto 4, 3) := by decide +kernel
theorem dX6_feast_21 : decode cX6_feast 21 = .ok (.iconst (-1), 1) := by decide +kernel
theorem dX6_feast_22 : decode cX6_feast 22 = .ok (.ireturn, 1) := by decide +kernel
theorem dX6_joyOfRow_0 : decode cX6_joyOfRow 0 = .ok (.iconst 0, 1) := by decide +kernel
theorem dX6_joyOfRow_1 : decode cX6_joyOfRow 1 = .ok (.istore 4, 2) := by decide +kernel
theorem dX6_joyOfRow_3 : decode cX6_joyOfRow 3 = .ok (.iconst 0, 1) := by decide +kernel
theorem dX6_joyOfRow_4 : decode cX6_joyOfRow 4 = .ok (.istore 5, 2) := by decide +kernel
theorem dX6_joyOfRow_6 : decode cX6_joyOfRow 6 = .ok (.iload 5, 2) := by decide +kernel
theorem dX6_joyOfRow_8 : decode cX6_joyOfRow 8 = .ok (.iload_n 3, 1) := by decide +kernel
theorem dX6_joyOfRow_9 : decode cX6_joyOfRow 9 = .ok (.if_icmp .ge 102, 3) := by decide +kernel
theorem dX6_joyOfRow_12 : decode cX6_joyOfRow 12 = .ok (.iconst 0, 1) := by decide +kernel
theorem dX6_joyOfRow_13 : decode cX6_joyOfRow 13 = .ok (.istore 6, 2) := by decide +kernel
theorem dX6_joyOfRow_15 : decode cX6_joyOfRow 15 = .ok (.iconst 0, 1) := by decide +kernel
theorem dX6_joyOfRow_16 : decode cX6_joyOfRow 16 = .ok (.istore 7, 2) := by decide +kernel
theorem dX6_joyOfRow_18 : decode cX6_joyOfRow 18 = .ok (.iload 7, 2) := by decide +kernel
theorem dX6_joyOfRow_20 : decode cX6_joyOfRow 20 = .ok (.aload_n 0, 1) := by decide +kernel
theorem dX6_joyOfRow_21 : decode cX6_joyOfRow 21 = .ok (.getfield 93, 3) := by decide +kernel
theorem dX6_joyOfRow_24 : decode cX6_joyOfRow 24 = .ok (.if_icmp .ge 44, 3) := by decide +kernel
theorem dX6_joyOfRow_27 : decode cX6_joyOfRow 27 = .ok (.iload 6, 2) := by decide +kernel
theorem dX6_joyOfRow_29 : decode cX6_joyOfRow 29 = .ok (.iload_n 2, 1) := by decide +kernel
theorem dX6_joyOfRow_30 : decode cX6_joyOfRow 30 = .ok (.iload 7, 2) := by decide +kernel
theorem dX6_joyOfRow_32 : decode cX6_joyOfRow 32 = .ok (.ishr, 1) := by decide +kernel
theorem dX6_joyOfRow_33 : decode cX6_joyOfRow 33 = .ok (.iconst 1, 1) := by decide +kernel
theorem dX6_joyOfRow_34 : decode cX6_joyOfRow 34 = .ok (.iand, 1) := by decide +kernel
theorem dX6_joyOfRow_35 : decode cX6_joyOfRow 35 = .ok (.iconst 1, 1) := by decide +kernel
theorem dX6_joyOfRow_36 : decode cX6_joyOfRow 36 = .ok (.if_icmp .ne 22, 3) := by decide +kernel
theorem dX6_joyOfRow_39 : decode cX6_joyOfRow 39 = .ok (.aload_n 0, 1) := by decide +kernel
theorem dX6_joyOfRow_40 : decode cX6_joyOfRow 40 = .ok (.getfield 65, 3) := by decide +kernel
theorem dX6_joyOfRow_43 : decode cX6_joyOfRow 43 = .ok (.iload 7, 2) := by decide +kernel
theorem dX6_joyOfRow_45 : decode cX6_joyOfRow 45 = .ok (.iaload, 1) := by decide +kernel
theorem dX6_joyOfRow_46 : decode cX6_joyOfRow 46 = .ok (.iload 5, 2) := by decide +kernel
theorem dX6_joyOfRow_48 : decode cX6_joyOfRow 48 = .ok (.if_icmp .ne 10, 3) := by decide +kernel
theorem dX6_joyOfRow_51 : decode cX6_joyOfRow 51 = .ok (.iconst 1, 1) := by decide +kernel
theorem dX6_joyOfRow_52 : decode cX6_joyOfRow 52 = .ok (.iload 7, 2) := by decide +kernel
theorem dX6_joyOfRow_54 : decode cX6_joyOfRow 54 = .ok (.ishl, 1) := by decide +kernel
theorem dX6_joyOfRow_55 : decode cX6_joyOfRow 55 = .ok (.goto 4, 3) := by decide +kernel
theorem dX6_joyOfRow_58 : decode cX6_joyOfRow 58 = .ok (.iconst 0, 1) := by decide +kernel
theorem dX6_joyOfRow_59 : decode cX6_joyOfRow 59 = .ok (.ior, 1) := by decide +kernel
theorem dX6_joyOfRow_60 : decode cX6_joyOfRow 60 = .ok (.istore 6, 2) := by decide +kernel
theorem dX6_joyOfRow_62 : decode cX6_joyOfRow 62 = .ok (.iinc 7 1, 3) := by decide +kernel
theorem dX6_joyOfRow_65 : decode cX6_joyOfRow 65 = .ok (.goto (-47), 3) := by decide +kernel
theorem dX6_joyOfRow_68 : decode cX6_joyOfRow 68 = .ok (.iload 4, 2) := by decide +kernel
theorem dX6_joyOfRow_70 : decode cX6_joyOfRow 70 = .ok (.aload_n 0, 1) := by decide +kernel
theorem dX6_joyOfRow_71 : decode cX6_joyOfRow 71 = .ok (.iload 6, 2) := by decide +kernel
theorem dX6_joyOfRow_73 : decode cX6_joyOfRow 73 = .ok (.aload_n 0, 1) := by decide +kernel
theorem dX6_joyOfRow_74 : decode cX6_joyOfRow 74 = .ok (.getfield 129, 3) := by decide +kernel
theorem dX6_joyOfRow_77 : decode cX6_joyOfRow 77 = .ok (.iload 5, 2) := by decide +kernel
theorem dX6_joyOfRow_79 : decode cX6_joyOfRow 79 = .ok (.iadd, 1) := by decide +kernel
theorem dX6_joyOfRow_80 : decode cX6_joyOfRow 80 = .ok (.iload 5, 2) := by decide +kernel
theorem dX6_joyOfRow_82 : decode cX6_joyOfRow 82 = .ok (.ifCond .ne 16, 3) := by decide +kernel
theorem dX6_joyOfRow_85 : decode cX6_joyOfRow 85 = .ok (.aload_n 0, 1) := by decide +kernel
theorem dX6_joyOfRow_86 : decode cX6_joyOfRow 86 = .ok (.getfield 25, 3) := by decide +kernel
theorem dX6_joyOfRow_89 : decode cX6_joyOfRow 89 = .ok (.iload_n 1, 1) := by decide +kernel
theorem dX6_joyOfRow_90 : decode cX6_joyOfRow 90 = .ok (.baload, 1) := by decide +kernel
theorem dX6_joyOfRow_91 : decode cX6_joyOfRow 91 = .ok (.ifCond .eq 7, 3) := by decide +kernel
theorem dX6_joyOfRow_94 : decode cX6_joyOfRow 94 = .ok (.iconst 1, 1) := by decide +kernel
theorem dX6_joyOfRow_95 : decode cX6_joyOfRow 95 = .ok (.goto 4, 3) := by decide +kernel
theorem dX6_joyOfRow_98 : decode cX6_joyOfRow 98 = .ok (.iconst 0, 1) := by decide +kernel
theorem dX6_joyOfRow_99 : decode cX6_joyOfRow 99 = .ok (.invokevirtual 203, 3) := by decide +kernel
theorem dX6_joyOfRow_102 : decode cX6_joyOfRow 102 = .ok (.iadd, 1) := by decide +kernel
theorem dX6_joyOfRow_103 : decode cX6_joyOfRow 103 = .ok (.istore 4, 2) := by decide +kernel
theorem dX6_joyOfRow_105 : decode cX6_joyOfRow 105 = .ok (.iinc 5 1, 3) := by decide +kernel
theorem dX6_joyOfRow_108 : decode cX6_joyOfRow 108 = .ok (.goto (-102), 3) := by decide +kernel
theorem dX6_joyOfRow_111 : decode cX6_joyOfRow 111 = .ok (.iload 4, 2) := by decide +kernel
theorem dX6_joyOfRow_113 : decode cX6_joyOfRow 113 = .ok (.ireturn, 1) := by decide +kernel
theorem dX6_findKeep_0 : decode cX6_findKeep 0 = .ok (.aload_n 0, 1) := by decide +kernel
theorem dX6_findKeep_1 : decode cX6_findKeep 1 = .ok (.iload_n 1, 1) := by decide +kernel
theorem dX6_findKeep_2 : decode cX6_findKeep 2 = .ok (.invokevirtual 162, 3) := by decide +kernel
theorem dX6_findKeep_5 : decode cX6_findKeep 5 = .ok (.istore_n 3, 1) := by decide +kernel
theorem dX6_findKeep_6 : decode cX6_findKeep 6 = .ok (.iconst 1, 1) := by decide +kernel
theorem dX6_findKeep_7 : decode cX6_findKeep 7 = .ok (.istore 4, 2) := by decide +kernel
theorem dX6_findKeep_9 : decode cX6_findKeep 9 = .ok (.iconst 0, 1) := by decide +kernel
theorem dX6_findKeep_10 : decode cX6_findKeep 10 = .ok (.istore 5, 2) := by decide +kernel
theorem dX6_findKeep_12 : decode cX6_findKeep 12 = .ok (.iload 5, 2) := by decide +kernel
theorem dX6_findKeep_14 : decode cX6_findKeep 14 = .ok (.aload_n 0, 1) := by decide +kernel
theorem dX6_findKeep_15 : decode cX6_findKeep 15 = .ok (.getfield 93, 3) := by decide +kernel
theorem dX6_findKeep_18 : decode cX6_findKeep 18 = .ok (.if_icmp .ge 31, 3) := by decide +kernel
theorem dX6_findKeep_21 : decode cX6_findKeep 21 = .ok (.iload 4, 2) := by decide +kernel
theorem dX6_findKeep_23 : decode cX6_findKeep 23 = .ok (.iload_n 3, 1) := by decide +kernel
theorem dX6_findKeep_24 : decode cX6_findKeep 24 = .ok (.iload 5, 2) := by decide +kernel
theorem dX6_findKeep_26 : decode cX6_findKeep 26 = .ok (.ishr, 1) := by decide +kernel
theorem dX6_findKeep_27 : decode cX6_findKeep 27 = .ok (.iconst 1, 1) := by decide +kernel
theorem dX6_findKeep_28 : decode cX6_findKeep 28 = .ok (.iand, 1) := by decide +kernel
theorem dX6_findKeep_29 : decode cX6_findKeep 29 = .ok (.iconst 1, 1) := by decide +kernel
theorem dX6_findKeep_30 : decode cX6_findKeep 30 = .ok (.if_icmp .ne 9, 3) := by decide +kernel
theorem dX6_findKeep_33 : decode cX6_findKeep 33 = .ok (.iload_n 2, 1) := by decide +kernel
theorem dX6_findKeep_34 : decode cX6_findKeep 34 = .ok (.iconst 1, 1) := by decide +kernel
theorem dX6_findKeep_35 : decode cX6_findKeep 35 = .ok (.iadd, 1) := by decide +kernel
theorem dX6_findKeep_36 : decode cX6_findKeep 36 = .ok (.goto 4, 3) := by decide +kernel
theorem dX6_findKeep_39 : decode cX6_findKeep 39 = .ok (.iconst 1, 1) := by decide +kernel
theorem dX6_findKeep_40 : decode cX6_findKeep 40 = .ok (.imul, 1) := by decide +kernel
theorem dX6_findKeep_41 : decode cX6_findKeep 41 = .ok (.istore 4, 2) := by decide +kernel
theorem dX6_findKeep_43 : decode cX6_findKeep 43 = .ok (.iinc 5 1, 3) := by decide +kernel
theorem dX6_findKeep_46 : decode cX6_findKeep 46 = .ok (.goto (-34), 3) := by decide +kernel
theorem dX6_findKeep_49 : decode cX6_findKeep 49 = .ok (.bipush (-9), 2) := by decide +kernel
theorem dX6_findKeep_51 : decode cX6_findKeep 51 = .ok (.istore 5, 2) := by decide +kernel
theorem dX6_findKeep_53 : decode cX6_findKeep 53 = .ok (.iconst 0, 1) := by decide +kernel
theorem dX6_findKeep_54 : decode cX6_findKeep 54 = .ok (.istore 6, 2) := by decide +kernel
theorem dX6_findKeep_56 : decode cX6_findKeep 56 = .ok (.iload 6, 2) := by decide +kernel
theorem dX6_findKeep_58 : decode cX6_findKeep 58 = .ok (.iload 4, 2) := by decide +kernel
theorem dX6_findKeep_60 : decode cX6_findKeep 60 = .ok (.if_icmp .ge 141, 3) := by decide +kernel
theorem dX6_findKeep_63 : decode cX6_findKeep 63 = .ok (.iload 6, 2) := by decide +kernel
theorem dX6_findKeep_65 : decode cX6_findKeep 65 = .ok (.istore 7, 2) := by decide +kernel
theorem dX6_findKeep_67 : decode cX6_findKeep 67 = .ok (.aload_n 0, 1) := by decide +kernel
theorem dX6_findKeep_68 : decode cX6_findKeep 68 = .ok (.getfield 93, 3) := by decide +kernel
theorem dX6_findKeep_71 : decode cX6_findKeep 71 = .ok (.iconst 1, 1) := by decide +kernel
theorem dX6_findKeep_72 : decode cX6_findKeep 72 = .ok (.isub, 1) := by decide +kernel
theorem dX6_findKeep_73 : decode cX6_findKeep 73 = .ok (.istore 8, 2) := by decide +kernel
theorem dX6_findKeep_75 : decode cX6_findKeep 75 = .ok (.iload 8, 2) := by decide +kernel
theorem dX6_findKeep_77 : decode cX6_findKeep 77 = .ok (.ifCond .lt 66, 3) := by decide +kernel
theorem dX6_findKeep_80 : decode cX6_findKeep 80 = .ok (.iload_n 3, 1) := by decide +kernel
theorem dX6_findKeep_81 : decode cX6_findKeep 81 = .ok (.iload 8, 2) := by decide +kernel
theorem dX6_findKeep_83 : decode cX6_findKeep 83 = .ok (.ishr, 1) := by decide +kernel
theorem dX6_findKeep_84 : decode cX6_findKeep 84 = .ok (.iconst 1, 1) := by decide +kernel
theorem dX6_findKeep_85 : decode cX6_findKeep 85 = .ok (.iand, 1) := by decide +kernel
theorem dX6_findKeep_86 : decode cX6_findKeep 86 = .ok (.iconst 1, 1) := by decide +kernel
theorem dX6_findKeep_87 : decode cX6_findKeep 87 = .ok (.if_icmp .ne 7, 3) := by decide +kernel
theorem dX6_findKeep_90 : decode cX6_findKeep 90 = .ok (.iconst 1, 1) := by decide +kernel
theorem dX6_findKeep_91 : decode cX6_findKeep 91 = .ok (.goto 4, 3) := by decide +kernel
theorem dX6_findKeep_94 : decode cX6_findKeep 94 = .ok (.iconst 0, 1) := by decide +kernel
theorem dX6_findKeep_95 : decode cX6_findKeep 95 = .ok (.istore 9, 2) := by decide +kernel
theorem dX6_findKeep_97 : decode cX6_findKeep 97 = .ok (.aload_n 0, 1) := by decide +kernel
theorem dX6_findKeep_98 : decode cX6_findKeep 98 = .ok (.getfield 65, 3) := by decide +kernel
theorem dX6_findKeep_101 : decode cX6_findKeep 101 = .ok (.iload 8, 2) := by decide +kernel
theorem dX6_findKeep_103 : decode cX6_findKeep 103 = .ok (.iload 9, 2) := by decide +kernel
theorem dX6_findKeep_105 : decode cX6_findKeep 105 = .ok (.ifCond .eq 12, 3) := by decide +kernel
theorem dX6_findKeep_108 : decode cX6_findKeep 108 = .ok (.iload 7, 2) := by decide +kernel
theorem dX6_findKeep_110 : decode cX6_findKeep 110 = .ok (.iload_n 2, 1) := by decide +kernel
theorem dX6_findKeep_111 : decode cX6_findKeep 111 = .ok (.iconst 1, 1) := by decide +kernel
theorem dX6_findKeep_112 : decode cX6_findKeep 112 = .ok (.iadd, 1) := by decide +kernel
theorem dX6_findKeep_113 : decode cX6_findKeep 113 = .ok (.irem, 1) := by decide +kernel
theorem dX6_findKeep_114 : decode cX6_findKeep 114 = .ok (.goto 4, 3) := by decide +kernel
theorem dX6_findKeep_117 : decode cX6_findKeep 117 = .ok (.iload_n 2, 1) := by decide +kernel
theorem dX6_findKeep_118 : decode cX6_findKeep 118 = .ok (.iastore, 1) := by decide +kernel
theorem dX6_findKeep_119 : decode cX6_findKeep 119 = .ok (.iload 9, 2) := by decide +kernel
theorem dX6_findKeep_121 : decode cX6_findKeep 121 = .ok (.ifCond .eq 12, 3) := by decide +kernel
theorem dX6_findKeep_124 : decode cX6_findKeep 124 = .ok (.iload 7, 2) := by decide +kernel
theorem dX6_findKeep_126 : decode cX6_findKeep 126 = .ok (.iload_n 2, 1) := by decide +kernel
theorem dX6_findKeep_127 : decode cX6_findKeep 127 = .ok (.iconst 1, 1) := by decide +kernel
theorem dX6_findKeep_128 : decode cX6_findKeep 128 = .ok (.iadd, 1) := by decide +kernel
theorem dX6_findKeep_129 : decode cX6_findKeep 129 = .ok (.idiv, 1) := by decide +kernel
theorem dX6_findKeep_130 : decode cX6_findKeep 130 = .ok (.goto 5, 3) := by decide +kernel
theorem dX6_findKeep_133 : decode cX6_findKeep 133 = .ok (.iload 7, 2) := by decide +kernel
theorem dX6_findKeep_135 : decode cX6_findKeep 135 = .ok (.istore 7, 2) := by decide +kernel
theorem dX6_findKeep_137 : decode cX6_findKeep 137 = .ok (.iinc 8 (-1), 3) := by decide +kernel
theorem dX6_findKeep_140 : decode cX6_findKeep 140 = .ok (.goto (-65), 3) := by decide +kernel
theorem dX6_findKeep_143 : decode cX6_findKeep 143 = .ok (.aload_n 0, 1) := by decide +kernel
theorem dX6_findKeep_144 : decode cX6_findKeep 144 = .ok (.iload_n 1, 1) := by decide +kernel
theorem dX6_findKeep_145 : decode cX6_findKeep 145 = .ok (.iload_n 3, 1) := by decide +kernel
theorem dX6_findKeep_146 : decode cX6_findKeep 146 = .ok (.iload_n 2, 1) := by decide +kernel
theorem dX6_findKeep_147 : decode cX6_findKeep 147 = .ok (.invokevirtual 210, 3) := by decide +kernel
theorem dX6_findKeep_150 : decode cX6_findKeep 150 = .ok (.istore 8, 2) := by decide +kernel
theorem dX6_findKeep_152 : decode cX6_findKeep 152 = .ok (.iload 8, 2) := by decide +kernel
theorem dX6_findKeep_154 : decode cX6_findKeep 154 = .ok (.iload 5, 2) := by decide +kernel
theorem dX6_findKeep_156 : decode cX6_findKeep 156 = .ok (.if_icmp .le 39, 3) := by decide +kernel
theorem dX6_findKeep_159 : decode cX6_findKeep 159 = .ok (.iload 8, 2) := by decide +kernel
theorem dX6_findKeep_161 : decode cX6_findKeep 161 = .ok (.istore 5, 2) := by decide +kernel
theorem dX6_findKeep_163 : decode cX6_findKeep 163 = .ok (.iconst 0, 1) := by decide +kernel
theorem dX6_findKeep_164 : decode cX6_findKeep 164 = .ok (.istore 9, 2) := by decide +kernel
theorem dX6_findKeep_166 : decode cX6_findKeep 166 = .ok (.iload 9, 2) := by decide +kernel
theorem dX6_findKeep_168 : decode cX6_findKeep 168 = .ok (.aload_n 0, 1) := by decide +kernel
theorem dX6_findKeep_169 : decode cX6_findKeep 169 = .ok (.getfield 93, 3) := by decide +kernel
theorem dX6_findKeep_172 : decode cX6_findKeep 172 = .ok (.if_icmp .ge 23, 3) := by decide +kernel
theorem dX6_findKeep_175 : decode cX6_findKeep 175 = .ok (.aload_n 0, 1) := by decide +kernel
theorem dX6_findKeep_176 : decode cX6_findKeep 176 = .ok (.getfield 68, 3) := by decide +kernel
theorem dX6_findKeep_179 : decode cX6_findKeep 179 = .ok (.iload 9, 2) := by decide +kernel
theorem dX6_findKeep_181 : decode cX6_findKeep 181 = .ok (.aload_n 0, 1) := by decide +kernel
theorem dX6_findKeep_182 : decode cX6_findKeep 182 = .ok (.getfield 65, 3) := by decide +kernel
theorem dX6_findKeep_185 : decode cX6_findKeep 185 = .ok (.iload 9, 2) := by decide +kernel
theorem dX6_findKeep_187 : decode cX6_findKeep 187 = .ok (.iaload, 1) := by decide +kernel
theorem dX6_findKeep_188 : decode cX6_findKeep 188 = .ok (.iastore, 1) := by decide +kernel
theorem dX6_findKeep_189 : decode cX6_findKeep 189 = .ok (.iinc 9 1, 3) := by decide +kernel
theorem dX6_findKeep_192 : decode cX6_findKeep 192 = .ok (.goto (-26), 3) := by decide +kernel
theorem dX6_findKeep_195 : decode cX6_findKeep 195 = .ok (.iinc 6 1, 3) := by decide +kernel
theorem dX6_findKeep_198 : decode cX6_findKeep 198 = .ok (.goto (-142), 3) := by decide +kernel
theorem dX6_findKeep_201 : decode cX6_findKeep 201 = .ok (.iload 5, 2) := by decide +kernel
theorem dX6_findKeep_203 : decode cX6_findKeep 203 = .ok (.ireturn, 1) := by decide +kernel
theorem dX6_keep_0 : decode cX6_keep 0 = .ok (.aload_n 0, 1) := by decide +kernel
theorem dX6_keep_1 : decode cX6_keep 1 = .ok (.iload_n 1, 1) := by decide +kernel
theorem dX6_keep_2 : decode cX6_keep 2 = .ok (.invokevirtual 159, 3) := by decide +kernel
theorem dX6_keep_5 : decode cX6_keep 5 = .ok (.ifCond .ne 5, 3) := by decide +kernel
theorem dX6_keep_8 : decode cX6_keep 8 = .ok (.iconst (-1), 1) := by decide +kernel
theorem dX6_keep_9 : decode cX6_keep 9 = .ok (.ireturn, 1) := by decide +kernel
theorem dX6_keep_10 : decode cX6_keep 10 = .ok (.iload_n 2, 1) := by decide +kernel
theorem dX6_keep_11 : decode cX6_keep 11 = .ok (.iconst 1, 1) := by decide +kernel
theorem dX6_keep_12 : decode cX6_keep 12 = .ok (.iconst 3, 1) := by decide +kernel
theorem dX6_keep_13 : decode cX6_keep 13 = .ok (.invokestatic 86, 3) := by decide +kernel
theorem dX6_keep_16 : decode cX6_keep 16 = .ok (.ifCond .eq 12, 3) := by decide +kernel
theorem dX6_keep_19 : decode cX6_keep 19 = .ok (.iload_n 3, 1) := by decide +kernel
theorem dX6_keep_20 : decode cX6_keep 20 = .ok (.iconst (-1), 1) := by decide +kernel
theorem dX6_keep_21 : decode cX6_keep 21 = .ok (.iconst 5, 1) := by decide +kernel
theorem dX6_keep_22 : decode cX6_keep 22 = .ok (.invokestatic 86, 3) := by decide +kernel
theorem dX6_keep_25 : decode cX6_keep 25 = .ok (.ifCond .ne 6, 3) := by decide +kernel
theorem dX6_keep_28 : decode cX6_keep 28 = .ok (.bipush (-2), 2) := by decide +kernel
theorem dX6_keep_30 : decode cX6_keep 30 = .ok (.ireturn, 1) := by decide +kernel
theorem dX6_keep_31 : decode cX6_keep 31 = .ok (.aload_n 0, 1) := by decide +kernel
theorem dX6_keep_32 : decode cX6_keep 32 = .ok (.iload_n 1, 1) := by decide +kernel
theorem dX6_keep_33 : decode cX6_keep 33 = .ok (.iload_n 2, 1) := by decide +kernel
theorem dX6_keep_34 : decode cX6_keep 34 = .ok (.invokevirtual 213, 3) := by decide +kernel
theorem dX6_keep_37 : decode cX6_keep 37 = .ok (.istore 4, 2) := by decide +kernel
theorem dX6_keep_39 : decode cX6_keep 39 = .ok (.iload_n 3, 1) := by decide +kernel
theorem dX6_keep_40 : decode cX6_keep 40 = .ok (.iconst (-1), 1) := by decide +kernel
theorem dX6_keep_41 : decode cX6_keep 41 = .ok (.if_icmp .ne 6, 3) := by decide +kernel
theorem dX6_keep_44 : decode cX6_keep 44 = .ok (.iload 4, 2) := by decide +kernel
theorem dX6_keep_46 : decode cX6_keep 46 = .ok (.ireturn, 1) := by decide +kernel
theorem dX6_keep_47 : decode cX6_keep 47 = .ok (.aload_n 0, 1) := by decide +kernel
theorem dX6_keep_48 : decode cX6_keep 48 = .ok (.iload_n 3, 1) := by decide +kernel
theorem dX6_keep_49 : decode cX6_keep 49 = .ok (.invokevirtual 156, 3) := by decide +kernel
theorem dX6_keep_52 : decode cX6_keep 52 = .ok (.ifCond .eq 22, 3) := by decide +kernel
theorem dX6_keep_55 : decode cX6_keep 55 = .ok (.aload_n 0, 1) := by decide +kernel
theorem dX6_keep_56 : decode cX6_keep 56 = .ok (.getfield 68, 3) := by decide +kernel
theorem dX6_keep_59 : decode cX6_keep 59 = .ok (.iload_n 3, 1) := by decide +kernel
theorem dX6_keep_60 : decode cX6_keep 60 = .ok (.iaload, 1) := by decide +kernel
theorem dX6_keep_61 : decode cX6_keep 61 = .ok (.iload_n 2, 1) := by decide +kernel
theorem dX6_keep_62 : decode cX6_keep 62 = .ok (.if_icmp .ge 12, 3) := by decide +kernel
theorem dX6_keep_65 : decode cX6_keep 65 = .ok (.aload_n 0, 1) := by decide +kernel
theorem dX6_keep_66 : decode cX6_keep 66 = .ok (.getfield 68, 3) := by decide +kernel
theorem dX6_keep_69 : decode cX6_keep 69 = .ok (.iload_n 3, 1) := by decide +kernel
theorem dX6_keep_70 : decode cX6_keep 70 = .ok (.iaload, 1) := by decide +kernel
theorem dX6_keep_71 : decode cX6_keep 71 = .ok (.goto 5, 3) := by decide +kernel
theorem dX6_keep_74 : decode cX6_keep 74 = .ok (.bipush (-9), 2) := by decide +kernel
theorem dX6_keep_76 : decode cX6_keep 76 = .ok (.ireturn, 1) := by decide +kernel
theorem dX6_pricesOf_0 : decode cX6_pricesOf 0 = .ok (.iconst 0, 1) := by decide +kernel
theorem dX6_pricesOf_1 : decode cX6_pricesOf 1 = .ok (.istore_n 2, 1) := by decide +kernel
theorem dX6_pricesOf_2 : decode cX6_pricesOf 2 = .ok (.iconst 0, 1) := by decide +kernel
theorem dX6_pricesOf_3 : decode cX6_pricesOf 3 = .ok (.istore_n 3, 1) := by decide +kernel
theorem dX6_pricesOf_4 : decode cX6_pricesOf 4 = .ok (.iload_n 3, 1) := by decide +kernel
theorem dX6_pricesOf_5 : decode cX6_pricesOf 5 = .ok (.aload_n 0, 1) := by decide +kernel
theorem dX6_pricesOf_6 : decode cX6_pricesOf 6 = .ok (.getfield 93, 3) := by decide +kernel
theorem dX6_pricesOf_9 : decode cX6_pricesOf 9 = .ok (.if_icmp .ge 30, 3) := by decide +kernel
theorem dX6_pricesOf_12 : decode cX6_pricesOf 12 = .ok (.iload_n 2, 1) := by decide +kernel
theorem dX6_pricesOf_13 : decode cX6_pricesOf 13 = .ok (.iload_n 1, 1) := by decide +kernel
theorem dX6_pricesOf_14 : decode cX6_pricesOf 14 = .ok (.iload_n 3, 1) := by decide +kernel
theorem dX6_pricesOf_15 : decode cX6_pricesOf 15 = .ok (.ishr, 1) := by decide +kernel
theorem dX6_pricesOf_16 : decode cX6_pricesOf 16 = .ok (.iconst 1, 1) := by decide +kernel
theorem dX6_pricesOf_17 : decode cX6_pricesOf 17 = .ok (.iand, 1) := by decide +kernel
theorem dX6_pricesOf_18 : decode cX6_pricesOf 18 = .ok (.iconst 1, 1) := by decide +kernel
theorem dX6_pricesOf_19 : decode cX6_pricesOf 19 = .ok (.if_icmp .ne 11, 3) := by decide +kernel
theorem dX6_pricesOf_22 : decode cX6_pricesOf 22 = .ok (.aload_n 0, 1) := by decide +kernel
theorem dX6_pricesOf_23 : decode cX6_pricesOf 23 = .ok (.iload_n 3, 1) := by decide +kernel
theorem dX6_pricesOf_24 : decode cX6_pricesOf 24 = .ok (.invokevirtual 168, 3) := by decide +kernel
theorem dX6_pricesOf_27 : decode cX6_pricesOf 27 = .ok (.goto 4, 3) := by decide +kernel
theorem dX6_pricesOf_30 : decode cX6_pricesOf 30 = .ok (.iconst 0, 1) := by decide +kernel
theorem dX6_pricesOf_31 : decode cX6_pricesOf 31 = .ok (.iadd, 1) := by decide +kernel
theorem dX6_pricesOf_32 : decode cX6_pricesOf 32 = .ok (.istore_n 2, 1) := by decide +kernel
theorem dX6_pricesOf_33 : decode cX6_pricesOf 33 = .ok (.iinc 3 1, 3) := by decide +kernel
theorem dX6_pricesOf_36 : decode cX6_pricesOf 36 = .ok (.goto (-32), 3) := by decide +kernel
theorem dX6_pricesOf_39 : decode cX6_pricesOf 39 = .ok (.iload_n 2, 1) := by decide +kernel
theorem dX6_pricesOf_40 : decode cX6_pricesOf 40 = .ok (.ireturn, 1) := by decide +kernel
theorem dX6_buy_0 : decode cX6_buy 0 = .ok (.aload_n 0, 1) := by decide +kernel
theorem dX6_buy_1 : decode cX6_buy 1 = .ok (.iload_n 1, 1) := by decide +kernel
theorem dX6_buy_2 : decode cX6_buy 2 = .ok (.invokevirtual 159, 3) := by decide +kernel
theorem dX6_buy_5 : decode cX6_buy 5 = .ok (.ifCond .ne 5, 3) := by decide +kernel
theorem dX6_buy_8 : decode cX6_buy 8 = .ok (.iconst (-1), 1) := by decide +kernel
theorem dX6_buy_9 : decode cX6_buy 9 = .ok (.ireturn, 1) := by decide +kernel
theorem dX6_buy_10 : decode cX6_buy 10 = .ok (.iload_n 2, 1) := by decide +kernel
theorem dX6_buy_11 : decode cX6_buy 11 = .ok (.iconst 0, 1) := by decide +kernel
theorem dX6_buy_12 : decode cX6_buy 12 = .ok (.bipush 99, 2) := by decide +kernel
theorem dX6_buy_14 : decode cX6_buy 14 = .ok (.invokestatic 86, 3) := by decide +kernel
theorem dX6_buy_17 : decode cX6_buy 17 = .ok (.ifCond .eq 12, 3) := by decide +kernel
theorem dX6_buy_20 : decode cX6_buy 20 = .ok (.iload_n 3, 1) := by decide +kernel
theorem dX6_buy_21 : decode cX6_buy 21 = .ok (.iconst 0, 1) := by decide +kernel
theorem dX6_buy_22 : decode cX6_buy 22 = .ok (.iconst 1, 1) := by decide +kernel
theorem dX6_buy_23 : decode cX6_buy 23 = .ok (.invokestatic 86, 3) := by decide +kernel
theorem dX6_buy_26 : decode cX6_buy 26 = .ok (.ifCond .ne 6, 3) := by decide +kernel
theorem dX6_buy_29 : decode cX6_buy 29 = .ok (.bipush (-2), 2) := by decide +kernel
theorem dX6_buy_31 : decode cX6_buy 31 = .ok (.ireturn, 1) := by decide +kernel
theorem dX6_buy_32 : decode cX6_buy 32 = .ok (.iconst 0, 1) := by decide +kernel
theorem dX6_buy_33 : decode cX6_buy 33 = .ok (.istore 4, 2) := by decide +kernel
theorem dX6_buy_35 : decode cX6_buy 35 = .ok (.iconst 0, 1) := by decide +kernel
theorem dX6_buy_36 : decode cX6_buy 36 = .ok (.istore 5, 2) := by decide +kernel
theorem dX6_buy_38 : decode cX6_buy 38 = .ok (.iload 5, 2) := by decide +kernel
theorem dX6_buy_40 : decode cX6_buy 40 = .ok (.aload_n 0, 1) := by decide +kernel
theorem dX6_buy_41 : decode cX6_buy 41 = .ok (.getfield 90, 3) := by decide +kernel
theorem dX6_buy_44 : decode cX6_buy 44 = .ok (.if_icmp .ge 30, 3) := by decide +kernel
theorem dX6_buy_47 : decode cX6_buy 47 = .ok (.iload 4, 2) := by decide +kernel
theorem dX6_buy_49 : decode cX6_buy 49 = .ok (.iload 5, 2) := by decide +kernel
theorem dX6_buy_51 : decode cX6_buy 51 = .ok (.iload_n 1, 1) := by decide +kernel
theorem dX6_buy_52 : decode cX6_buy 52 = .ok (.if_icmp .ne 7, 3) := by decide +kernel
theorem dX6_buy_55 : decode cX6_buy 55 = .ok (.iconst 0, 1) := by decide +kernel
theorem dX6_buy_56 : decode cX6_buy 56 = .ok (.goto 9, 3) := by decide +kernel
theorem dX6_buy_59 : decode cX6_buy 59 = .ok (.aload_n 0, 1) := by decide +kernel
theorem dX6_buy_60 : decode cX6_buy 60 = .ok (.iload 5, 2) := by decide +kernel
theorem dX6_buy_62 : decode cX6_buy 62 = .ok (.invokevirtual 162, 3) := by decide +kernel
theorem dX6_buy_65 : decode cX6_buy 65 = .ok (.ior, 1) := by decide +kernel
theorem dX6_buy_66 : decode cX6_buy 66 = .ok (.istore 4, 2) := by decide +kernel
theorem dX6_buy_68 : decode cX6_buy 68 = .ok (.iinc 5 1, 3) := by decide +kernel
theorem dX6_buy_71 : decode cX6_buy 71 = .ok (.goto (-33), 3) := by decide +kernel
theorem dX6_buy_74 : decode cX6_buy 74 = .ok (.bipush (-9), 2) := by decide +kernel
theorem dX6_buy_76 : decode cX6_buy 76 = .ok (.istore 5, 2) := by decide +kernel
theorem dX6_buy_78 : decode cX6_buy 78 = .ok (.iconst 0, 1) := by decide +kernel
theorem dX6_buy_79 : decode cX6_buy 79 = .ok (.istore 6, 2) := by decide +kernel
theorem dX6_buy_81 : decode cX6_buy 81 = .ok (.iload 6, 2) := by decide +kernel
theorem dX6_buy_83 : decode cX6_buy 83 = .ok (.iconst 1, 1) := by decide +kernel
theorem dX6_buy_84 : decode cX6_buy 84 = .ok (.aload_n 0, 1) := by decide +kernel
theorem dX6_buy_85 : decode cX6_buy 85 = .ok (.getfield 93, 3) := by decide +kernel
theorem dX6_buy_88 : decode cX6_buy 88 = .ok (.ishl, 1) := by decide +kernel
theorem dX6_buy_89 : decode cX6_buy 89 = .ok (.if_icmp .ge 85, 3) := by decide +kernel
theorem dX6_buy_92 : decode cX6_buy 92 = .ok (.iload 6, 2) := by decide +kernel
theorem dX6_buy_94 : decode cX6_buy 94 = .ok (.iload 4, 2) := by decide +kernel
theorem dX6_buy_96 : decode cX6_buy 96 = .ok (.iconst (-1), 1) := by decide +kernel
theorem dX6_buy_97 : decode cX6_buy 97 = .ok (.ixor, 1) := by decide +kernel
theorem dX6_buy_98 : decode cX6_buy 98 = .ok (.iand, 1) := by decide +kernel
theorem dX6_buy_99 : decode cX6_buy 99 = .ok (.ifCond .ne 39, 3) := by decide +kernel
theorem dX6_buy_102 : decode cX6_buy 102 = .ok (.aload_n 0, 1) := by decide +kernel
theorem dX6_buy_103 : decode cX6_buy 103 = .ok (.iload 6, 2) := by decide +kernel
theorem dX6_buy_105 : decode cX6_buy 105 = .ok (.invokevirtual 216, 3) := by decide +kernel
theorem dX6_buy_108 : decode cX6_buy 108 = .ok (.aload_n 0, 1) := by decide +kernel
theorem dX6_buy_109 : decode cX6_buy 109 = .ok (.getfield 19, 3) := by decide +kernel
theorem dX6_buy_112 : decode cX6_buy 112 = .ok (.iload_n 1, 1) := by decide +kernel
theorem dX6_buy_113 : decode cX6_buy 113 = .ok (.iaload, 1) := by decide +kernel
theorem dX6_buy_114 : decode cX6_buy 114 = .ok (.if_icmp .gt 24, 3) := by decide +kernel
theorem dX6_buy_117 : decode cX6_buy 117 = .ok (.aload_n 0, 1) := by decide +kernel
theorem dX6_buy_118 : decode cX6_buy 118 = .ok (.iload_n 1, 1) := by decide +kernel
theorem dX6_buy_119 : decode cX6_buy 119 = .ok (.aload_n 0, 1) := by decide +kernel
theorem dX6_buy_120 : decode cX6_buy 120 = .ok (.iload_n 1, 1) := by decide +kernel
theorem dX6_buy_121 : decode cX6_buy 121 = .ok (.invokevirtual 162, 3) := by decide +kernel
theorem dX6_buy_124 : decode cX6_buy 124 = .ok (.iload 6, 2) := by decide +kernel
theorem dX6_buy_126 : decode cX6_buy 126 = .ok (.ior, 1) := by decide +kernel
theorem dX6_buy_127 : decode cX6_buy 127 = .ok (.invokevirtual 207, 3) := by decide +kernel
theorem dX6_buy_130 : decode cX6_buy 130 = .ok (.iload_n 2, 1) := by decide +kernel
theorem dX6_buy_131 : decode cX6_buy 131 = .ok (.if_icmp .lt 7, 3) := by decide +kernel
theorem dX6_buy_134 : decode cX6_buy 134 = .ok (.iconst 1, 1) := by decide +kernel
theorem dX6_buy_135 : decode cX6_buy 135 = .ok (.goto 4, 3) := by decide +kernel
theorem dX6_buy_138 : decode cX6_buy 138 = .ok (.iconst 0, 1) := by decide +kernel
theorem dX6_buy_139 : decode cX6_buy 139 = .ok (.istore 7, 2) := by decide +kernel
theorem dX6_buy_141 : decode cX6_buy 141 = .ok (.iload 7, 2) := by decide +kernel
theorem dX6_buy_143 : decode cX6_buy 143 = .ok (.ifCond .eq 25, 3) := by decide +kernel
theorem dX6_buy_146 : decode cX6_buy 146 = .ok (.iload 5, 2) := by decide +kernel
theorem dX6_buy_148 : decode cX6_buy 148 = .ok (.bipush (-9), 2) := by decide +kernel
theorem dX6_buy_150 : decode cX6_buy 150 = .ok (.if_icmp .eq 14, 3) := by decide +kernel
theorem dX6_buy_153 : decode cX6_buy 153 = .ok (.aload_n 0, 1) := by decide +kernel
theorem dX6_buy_154 : decode cX6_buy 154 = .ok (.iload 6, 2) := by decide +kernel
theorem dX6_buy_156 : decode cX6_buy 156 = .ok (.iload 5, 2) := by decide +kernel
theorem dX6_buy_158 : decode cX6_buy 158 = .ok (.invokevirtual 219, 3) := by decide +kernel
theorem dX6_buy_161 : decode cX6_buy 161 = .ok (.ifCond .eq 7, 3) := by decide +kernel
theorem dX6_buy_164 : decode cX6_buy 164 = .ok (.iload 6, 2) := by decide +kernel
theorem dX6_buy_166 : decode cX6_buy 166 = .ok (.istore 5, 2) := by decide +kernel
theorem dX6_buy_168 : decode cX6_buy 168 = .ok (.iinc 6 1, 3) := by decide +kernel
theorem dX6_buy_171 : decode cX6_buy 171 = .ok (.goto (-90), 3) := by decide +kernel
theorem dX6_buy_174 : decode cX6_buy 174 = .ok (.iload_n 3, 1) := by decide +kernel
theorem dX6_buy_175 : decode cX6_buy 175 = .ok (.iconst 1, 1) := by decide +kernel
theorem dX6_buy_176 : decode cX6_buy 176 = .ok (.if_icmp .eq 10, 3) := by decide +kernel
theorem dX6_buy_179 : decode cX6_buy 179 = .ok (.iload 5, 2) := by decide +kernel
theorem dX6_buy_181 : decode cX6_buy 181 = .ok (.bipush (-9), 2) := by decide +kernel
theorem dX6_buy_183 : decode cX6_buy 183 = .ok (.if_icmp .ne 8, 3) := by decide +kernel
theorem dX6_buy_186 : decode cX6_buy 186 = .ok (.iload 5, 2) := by decide +kernel
theorem dX6_buy_188 : decode cX6_buy 188 = .ok (.goto 9, 3) := by decide +kernel
theorem dX6_buy_191 : decode cX6_buy 191 = .ok (.aload_n 0, 1) := by decide +kernel
theorem dX6_buy_192 : decode cX6_buy 192 = .ok (.iload 5, 2) := by decide +kernel
theorem dX6_buy_194 : decode cX6_buy 194 = .ok (.invokevirtual 216, 3) := by decide +kernel
theorem dX6_buy_197 : decode cX6_buy 197 = .ok (.ireturn, 1) := by decide +kernel
theorem dX6_isCheaper_0 : decode cX6_isCheaper 0 = .ok (.aload_n 0, 1) := by decide +kernel
theorem dX6_isCheaper_1 : decode cX6_isCheaper 1 = .ok (.iload_n 1, 1) := by decide +kernel
theorem dX6_isCheaper_2 : decode cX6_isCheaper 2 = .ok (.invokevirtual 216, 3) := by decide +kernel
theorem dX6_isCheaper_5 : decode cX6_isCheaper 5 = .ok (.aload_n 0, 1) := by decide +kernel
theorem dX6_isCheaper_6 : decode cX6_isCheaper 6 = .ok (.iload_n 2, 1) := by decide +kernel
theorem dX6_isCheaper_7 : decode cX6_isCheaper 7 = .ok (.invokevirtual 216, 3) := by decide +kernel
theorem dX6_isCheaper_10 : decode cX6_isCheaper 10 = .ok (.if_icmp .lt 27, 3) := by decide +kernel
theorem dX6_isCheaper_13 : decode cX6_isCheaper 13 = .ok (.aload_n 0, 1) := by decide +kernel
theorem dX6_isCheaper_14 : decode cX6_isCheaper 14 = .ok (.iload_n 1, 1) := by decide +kernel
theorem dX6_isCheaper_15 : decode cX6_isCheaper 15 = .ok (.invokevirtual 216, 3) := by decide +kernel
theorem dX6_isCheaper_18 : decode cX6_isCheaper 18 = .ok (.aload_n 0, 1) := by decide +kernel
theorem dX6_isCheaper_19 : decode cX6_isCheaper 19 = .ok (.iload_n 2, 1) := by decide +kernel
theorem dX6_isCheaper_20 : decode cX6_isCheaper 20 = .ok (.invokevirtual 216, 3) := by decide +kernel
theorem dX6_isCheaper_23 : decode cX6_isCheaper 23 = .ok (.if_icmp .ne 18, 3) := by decide +kernel
theorem dX6_isCheaper_26 : decode cX6_isCheaper 26 = .ok (.iload_n 1, 1) := by decide +kernel
theorem dX6_isCheaper_27 : decode cX6_isCheaper 27 = .ok (.invokestatic 165, 3) := by decide +kernel
theorem dX6_isCheaper_30 : decode cX6_isCheaper 30 = .ok (.iload_n 2, 1) := by decide +kernel
theorem dX6_isCheaper_31 : decode cX6_isCheaper 31 = .ok (.invokestatic 165, 3) := by decide +kernel
theorem dX6_isCheaper_34 : decode cX6_isCheaper 34 = .ok (.if_icmp .ge 7, 3) := by decide +kernel
theorem dX6_isCheaper_37 : decode cX6_isCheaper 37 = .ok (.iconst 1, 1) := by decide +kernel
theorem dX6_isCheaper_38 : decode cX6_isCheaper 38 = .ok (.goto 4, 3) := by decide +kernel
theorem dX6_isCheaper_41 : decode cX6_isCheaper 41 = .ok (.iconst 0, 1) := by decide +kernel
theorem dX6_isCheaper_42 : decode cX6_isCheaper 42 = .ok (.ireturn, 1) := by decide +kernel
theorem dX6_debt_0 : decode cX6_debt 0 = .ok (.aload_n 0, 1) := by decide +kernel
theorem dX6_debt_1 : decode cX6_debt 1 = .ok (.iload_n 1, 1) := by decide +kernel
theorem dX6_debt_2 : decode cX6_debt 2 = .ok (.invokevirtual 159, 3) := by decide +kernel
theorem dX6_debt_5 : decode cX6_debt 5 = .ok (.ifCond .ne 5, 3) := by decide +kernel
theorem dX6_debt_8 : decode cX6_debt 8 = .ok (.iconst (-1), 1) := by decide +kernel
theorem dX6_debt_9 : decode cX6_debt 9 = .ok (.ireturn, 1) := by decide +kernel
theorem dX6_debt_10 : decode cX6_debt 10 = .ok (.iload_n 2, 1) := by decide +kernel
theorem dX6_debt_11 : decode cX6_debt 11 = .ok (.iconst 0, 1) := by decide +kernel
theorem dX6_debt_12 : decode cX6_debt 12 = .ok (.sipush 999, 3) := by decide +kernel
theorem dX6_debt_15 : decode cX6_debt 15 = .ok (.invokestatic 86, 3) := by decide +kernel
theorem dX6_debt_18 : decode cX6_debt 18 = .ok (.ifCond .eq 12, 3) := by decide +kernel
theorem dX6_debt_21 : decode cX6_debt 21 = .ok (.iload_n 3, 1) := by decide +kernel
theorem dX6_debt_22 : decode cX6_debt 22 = .ok (.iconst 0, 1) := by decide +kernel
theorem dX6_debt_23 : decode cX6_debt 23 = .ok (.iconst 1, 1) := by decide +kernel
theorem dX6_debt_24 : decode cX6_debt 24 = .ok (.invokestatic 86, 3) := by decide +kernel
theorem dX6_debt_27 : decode cX6_debt 27 = .ok (.ifCond .ne 6, 3) := by decide +kernel
theorem dX6_debt_30 : decode cX6_debt 30 = .ok (.bipush (-2), 2) := by decide +kernel
theorem dX6_debt_32 : decode cX6_debt 32 = .ok (.ireturn, 1) := by decide +kernel
theorem dX6_debt_33 : decode cX6_debt 33 = .ok (.aload_n 0, 1) := by decide +kernel
theorem dX6_debt_34 : decode cX6_debt 34 = .ok (.iload_n 1, 1) := by decide +kernel
theorem dX6_debt_35 : decode cX6_debt 35 = .ok (.invokevirtual 162, 3) := by decide +kernel
theorem dX6_debt_38 : decode cX6_debt 38 = .ok (.istore 4, 2) := by decide +kernel
theorem dX6_debt_40 : decode cX6_debt 40 = .ok (.bipush (-9), 2) := by decide +kernel
theorem dX6_debt_42 : decode cX6_debt 42 = .ok (.istore 5, 2) := by decide +kernel
theorem dX6_debt_44 : decode cX6_debt 44 = .ok (.bipush (-9), 2) := by decide +kernel
theorem dX6_debt_46 : decode cX6_debt 46 = .ok (.istore 6, 2) := by decide +kernel
theorem dX6_debt_48 : decode cX6_debt 48 = .ok (.iconst 0, 1) := by decide +kernel
theorem dX6_debt_49 : decode cX6_debt 49 = .ok (.istore 7, 2) := by decide +kernel
theorem dX6_debt_51 : decode cX6_debt 51 = .ok (.iload 7, 2) := by decide +kernel
theorem dX6_debt_53 : decode cX6_debt 53 = .ok (.iconst 1, 1) := by decide +kernel
theorem dX6_debt_54 : decode cX6_debt 54 = .ok (.aload_n 0, 1) := by decide +kernel
theorem dX6_debt_55 : decode cX6_debt 55 = .ok (.getfield 93, 3) := by decide +kernel
theorem dX6_debt_58 : decode cX6_debt 58 = .ok (.ishl, 1) := by decide +kernel
theorem dX6_debt_59 : decode cX6_debt 59 = .ok (.if_icmp .ge 100, 3) := by decide +kernel
theorem dX6_debt_62 : decode cX6_debt 62 = .ok (.iload 7, 2) := by decide +kernel
theorem dX6_debt_64 : decode cX6_debt 64 = .ok (.iload 4, 2) := by decide +kernel
theorem dX6_debt_66 : decode cX6_debt 66 = .ok (.iconst (-1), 1) := by decide +kernel
theorem dX6_debt_67 : decode cX6_debt 67 = .ok (.ixor, 1) := by decide +kernel
theorem dX6_debt_68 : decode cX6_debt 68 = .ok (.iand, 1) := by decide +kernel
theorem dX6_debt_69 : decode cX6_debt 69 = .ok (.ifCond .ne 17, 3) := by decide +kernel
theorem dX6_debt_72 : decode cX6_debt 72 = .ok (.aload_n 0, 1) := by decide +kernel
theorem dX6_debt_73 : decode cX6_debt 73 = .ok (.iload 7, 2) := by decide +kernel
theorem dX6_debt_75 : decode cX6_debt 75 = .ok (.invokevirtual 216, 3) := by decide +kernel
theorem dX6_debt_78 : decode cX6_debt 78 = .ok (.iload_n 2, 1) := by decide +kernel
theorem dX6_debt_79 : decode cX6_debt 79 = .ok (.if_icmp .lt 7, 3) := by decide +kernel
theorem dX6_debt_82 : decode cX6_debt 82 = .ok (.iconst 1, 1) := by decide +kernel
theorem dX6_debt_83 : decode cX6_debt 83 = .ok (.goto 4, 3) := by decide +kernel
theorem dX6_debt_86 : decode cX6_debt 86 = .ok (.iconst 0, 1) := by decide +kernel
theorem dX6_debt_87 : decode cX6_debt 87 = .ok (.istore 8, 2) := by decide +kernel
theorem dX6_debt_89 : decode cX6_debt 89 = .ok (.iload 8, 2) := by decide +kernel
theorem dX6_debt_91 : decode cX6_debt 91 = .ok (.ifCond .eq 18, 3) := by decide +kernel
theorem dX6_debt_94 : decode cX6_debt 94 = .ok (.aload_n 0, 1) := by decide +kernel
theorem dX6_debt_95 : decode cX6_debt 95 = .ok (.iload_n 1, 1) := by decide +kernel
theorem dX6_debt_96 : decode cX6_debt 96 = .ok (.iload 4, 2) := by decide +kernel
theorem dX6_debt_98 : decode cX6_debt 98 = .ok (.iload 7, 2) := by decide +kernel
theorem dX6_debt_100 : decode cX6_debt 100 = .ok (.iconst (-1), 1) := by decide +kernel
theorem dX6_debt_101 : decode cX6_debt 101 = .ok (.ixor, 1) := by decide +kernel
theorem dX6_debt_102 : decode cX6_debt 102 = .ok (.iand, 1) := by decide +kernel
theorem dX6_debt_103 : decode cX6_debt 103 = .ok (.invokevirtual 207, 3) := by decide +kernel
theorem dX6_debt_106 : decode cX6_debt 106 = .ok (.goto 5, 3) := by decide +kernel
theorem dX6_debt_109 : decode cX6_debt 109 = .ok (.bipush (-9), 2) := by decide +kernel
theorem dX6_debt_111 : decode cX6_debt 111 = .ok (.istore 9, 2) := by decide +kernel
theorem dX6_debt_113 : decode cX6_debt 113 = .ok (.iload 8, 2) := by decide +kernel
theorem dX6_debt_115 : decode cX6_debt 115 = .ok (.ifCond .eq 38, 3) := by decide +kernel
theorem dX6_debt_118 : decode cX6_debt 118 = .ok (.iload 9, 2) := by decide +kernel
theorem dX6_debt_120 : decode cX6_debt 120 = .ok (.iload 6, 2) := by decide +kernel
theorem dX6_debt_122 : decode cX6_debt 122 = .ok (.if_icmp .gt 23, 3) := by decide +kernel
theorem dX6_debt_125 : decode cX6_debt 125 = .ok (.iload 9, 2) := by decide +kernel
theorem dX6_debt_127 : decode cX6_debt 127 = .ok (.iload 6, 2) := by decide +kernel
theorem dX6_debt_129 : decode cX6_debt 129 = .ok (.if_icmp .ne 24, 3) := by decide +kernel
theorem dX6_debt_132 : decode cX6_debt 132 = .ok (.iload 7, 2) := by decide +kernel
theorem dX6_debt_134 : decode cX6_debt 134 = .ok (.invokestatic 165, 3) := by decide +kernel
theorem dX6_debt_137 : decode cX6_debt 137 = .ok (.iload 5, 2) := by decide +kernel
theorem dX6_debt_139 : decode cX6_debt 139 = .ok (.invokestatic 165, 3) := by decide +kernel
theorem dX6_debt_142 : decode cX6_debt 142 = .ok (.if_icmp .ge 11, 3) := by decide +kernel
theorem dX6_debt_145 : decode cX6_debt 145 = .ok (.iload 7, 2) := by decide +kernel
theorem dX6_debt_147 : decode cX6_debt 147 = .ok (.istore 5, 2) := by decide +kernel
theorem dX6_debt_149 : decode cX6_debt 149 = .ok (.iload 9, 2) := by decide +kernel
theorem dX6_debt_151 : decode cX6_debt 151 = .ok (.istore 6, 2) := by decide +kernel
theorem dX6_debt_153 : decode cX6_debt 153 = .ok (.iinc 7 1, 3) := by decide +kernel
theorem dX6_debt_156 : decode cX6_debt 156 = .ok (.goto (-105), 3) := by decide +kernel
theorem dX6_debt_159 : decode cX6_debt 159 = .ok (.iload_n 3, 1) := by decide +kernel
theorem dX6_debt_160 : decode cX6_debt 160 = .ok (.ifCond .ne 8, 3) := by decide +kernel
theorem dX6_debt_163 : decode cX6_debt 163 = .ok (.iload 6, 2) := by decide +kernel
theorem dX6_debt_165 : decode cX6_debt 165 = .ok (.goto 5, 3) := by decide +kernel
theorem dX6_debt_168 : decode cX6_debt 168 = .ok (.iload 5, 2) := by decide +kernel
theorem dX6_debt_170 : decode cX6_debt 170 = .ok (.ireturn, 1) := by decide +kernel
theorem dX6_findSwap_0 : decode cX6_findSwap 0 = .ok (.iconst 0, 1) := by decide +kernel
theorem dX6_findSwap_1 : decode cX6_findSwap 1 = .ok (.istore_n 1, 1) := by decide +kernel
theorem dX6_findSwap_2 : decode cX6_findSwap 2 = .ok (.aload_n 0, 1) := by decide +kernel
theorem dX6_findSwap_3 : decode cX6_findSwap 3 = .ok (.bipush (-9), 2) := by decide +kernel
theorem dX6_findSwap_5 : decode cX6_findSwap 5 = .ok (.putfield 222, 3) := by decide +kernel
theorem dX6_findSwap_8 : decode cX6_findSwap 8 = .ok (.aload_n 0, 1) := by decide +kernel
theorem dX6_findSwap_9 : decode cX6_findSwap 9 = .ok (.bipush (-9), 2) := by decide +kernel
theorem dX6_findSwap_11 : decode cX6_findSwap 11 = .ok (.putfield 225, 3) := by decide +kernel
theorem dX6_findSwap_14 : decode cX6_findSwap 14 = .ok (.iconst 0, 1) := by decide +kernel
theorem dX6_findSwap_15 : decode cX6_findSwap 15 = .ok (.istore_n 2, 1) := by decide +kernel
theorem dX6_findSwap_16 : decode cX6_findSwap 16 = .ok (.iload_n 2, 1) := by decide +kernel
theorem dX6_findSwap_17 : decode cX6_findSwap 17 = .ok (.aload_n 0, 1) := by decide +kernel
theorem dX6_findSwap_18 : decode cX6_findSwap 18 = .ok (.getfield 93, 3) := by decide +kernel
theorem dX6_findSwap_21 : decode cX6_findSwap 21 = .ok (.if_icmp .ge 92, 3) := by decide +kernel
theorem dX6_findSwap_24 : decode cX6_findSwap 24 = .ok (.iload_n 2, 1) := by decide +kernel
theorem dX6_findSwap_25 : decode cX6_findSwap 25 = .ok (.iconst 1, 1) := by decide +kernel
theorem dX6_findSwap_26 : decode cX6_findSwap 26 = .ok (.iadd, 1) := by decide +kernel
theorem dX6_findSwap_27 : decode cX6_findSwap 27 = .ok (.istore_n 3, 1) := by decide +kernel
theorem dX6_findSwap_28 : decode cX6_findSwap 28 = .ok (.iload_n 3, 1) := by decide +kernel
theorem dX6_findSwap_29 : decode cX6_findSwap 29 = .ok (.aload_n 0, 1) := by decide +kernel
theorem dX6_findSwap_30 : decode cX6_findSwap 30 = .ok (.getfield 93, 3) := by decide +kernel
theorem dX6_findSwap_33 : decode cX6_findSwap 33 = .ok (.if_icmp .ge 74, 3) := by decide +kernel
theorem dX6_findSwap_36 : decode cX6_findSwap 36 = .ok (.aload_n 0, 1) := by decide +kernel
theorem dX6_findSwap_37 : decode cX6_findSwap 37 = .ok (.getfield 41, 3) := by decide +kernel
theorem dX6_findSwap_40 : decode cX6_findSwap 40 = .ok (.iload_n 2, 1) := by decide +kernel
theorem dX6_findSwap_41 : decode cX6_findSwap 41 = .ok (.baload, 1) := by decide +kernel
theorem dX6_findSwap_42 : decode cX6_findSwap 42 = .ok (.ifCond .ne 27, 3) := by decide +kernel
theorem dX6_findSwap_45 : decode cX6_findSwap 45 = .ok (.aload_n 0, 1) := by decide +kernel
theorem dX6_findSwap_46 : decode cX6_findSwap 46 = .ok (.getfield 41, 3) := by decide +kernel
theorem dX6_findSwap_49 : decode cX6_findSwap 49 = .ok (.iload_n 3, 1) := by decide +kernel
theorem dX6_findSwap_50 : decode cX6_findSwap 50 = .ok (.baload, 1) := by decide +kernel
theorem dX6_findSwap_51 : decode cX6_findSwap 51 = .ok (.ifCond .ne 18, 3) := by decide +kernel
theorem dX6_findSwap_54 : decode cX6_findSwap 54 = .ok (.aload_n 0, 1) := by decide +kernel
theorem dX6_findSwap_55 : decode cX6_findSwap 55 = .ok (.getfield 32, 3) := by decide +kernel
theorem dX6_findSwap_58 : decode cX6_findSwap 58 = .ok (.iload_n 2, 1) := by decide +kernel
theorem dX6_findSwap_59 : decode cX6_findSwap 59 = .ok (.iaload, 1) := by decide +kernel
theorem dX6_findSwap_60 : decode cX6_findSwap 60 = .ok (.aload_n 0, 1) := by decide +kernel
theorem dX6_findSwap_61 : decode cX6_findSwap 61 = .ok (.getfield 32, 3) := by decide +kernel
theorem dX6_findSwap_64 : decode cX6_findSwap 64 = .ok (.iload_n 3, 1) := by decide +kernel
theorem dX6_findSwap_65 : decode cX6_findSwap 65 = .ok (.iaload, 1) := by decide +kernel
theorem dX6_findSwap_66 : decode cX6_findSwap 66 = .ok (.if_icmp .ne 8, 3) := by decide +kernel
theorem dX6_findSwap_69 : decode cX6_findSwap 69 = .ok (.bipush (-9), 2) := by decide +kernel
theorem dX6_findSwap_71 : decode cX6_findSwap 71 = .ok (.goto 9, 3) := by decide +kernel
theorem dX6_findSwap_74 : decode cX6_findSwap 74 = .ok (.aload_n 0, 1) := by decide +kernel
theorem dX6_findSwap_75 : decode cX6_findSwap 75 = .ok (.iload_n 2, 1) := by decide +kernel
theorem dX6_findSwap_76 : decode cX6_findSwap 76 = .ok (.iload_n 3, 1) := by decide +kernel
theorem dX6_findSwap_77 : decode cX6_findSwap 77 = .ok (.invokevirtual 228, 3) := by decide +kernel
theorem dX6_findSwap_80 : decode cX6_findSwap 80 = .ok (.istore 4, 2) := by decide +kernel
theorem dX6_findSwap_82 : decode cX6_findSwap 82 = .ok (.iload 4, 2) := by decide +kernel
theorem dX6_findSwap_84 : decode cX6_findSwap 84 = .ok (.iload_n 1, 1) := by decide +kernel
theorem dX6_findSwap_85 : decode cX6_findSwap 85 = .ok (.if_icmp .le 16, 3) := by decide +kernel
theorem dX6_findSwap_88 : decode cX6_findSwap 88 = .ok (.iload 4, 2) := by decide +kernel
theorem dX6_findSwap_90 : decode cX6_findSwap 90 = .ok (.istore_n 1, 1) := by decide +kernel
theorem dX6_findSwap_91 : decode cX6_findSwap 91 = .ok (.aload_n 0, 1) := by decide +kernel
theorem dX6_findSwap_92 : decode cX6_findSwap 92 = .ok (.iload_n 2, 1) := by decide +kernel
theorem dX6_findSwap_93 : decode cX6_findSwap 93 = .ok (.putfield 222, 3) := by decide +kernel
theorem dX6_findSwap_96 : decode cX6_findSwap 96 = .ok (.aload_n 0, 1) := by decide +kernel
theorem dX6_findSwap_97 : decode cX6_findSwap 97 = .ok (.iload_n 3, 1) := by decide +kernel
theorem dX6_findSwap_98 : decode cX6_findSwap 98 = .ok (.putfield 225, 3) := by decide +kernel
theorem dX6_findSwap_101 : decode cX6_findSwap 101 = .ok (.iinc 3 1, 3) := by decide +kernel
theorem dX6_findSwap_104 : decode cX6_findSwap 104 = .ok (.goto (-76), 3) := by decide +kernel
theorem dX6_findSwap_107 : decode cX6_findSwap 107 = .ok (.iinc 2 1, 3) := by decide +kernel
theorem dX6_findSwap_110 : decode cX6_findSwap 110 = .ok (.goto (-94), 3) := by decide +kernel
theorem dX6_findSwap_113 : decode cX6_findSwap 113 = .ok (.iload_n 1, 1) := by decide +kernel
theorem dX6_findSwap_114 : decode cX6_findSwap 114 = .ok (.ifCond .ne 8, 3) := by decide +kernel
theorem dX6_findSwap_117 : decode cX6_findSwap 117 = .ok (.bipush (-9), 2) := by decide +kernel
theorem dX6_findSwap_119 : decode cX6_findSwap 119 = .ok (.goto 4, 3) := by decide +kernel
theorem dX6_findSwap_122 : decode cX6_findSwap 122 = .ok (.iload_n 1, 1) := by decide +kernel
theorem dX6_findSwap_123 : decode cX6_findSwap 123 = .ok (.ireturn, 1) := by decide +kernel
theorem dX6_gainBy_0 : decode cX6_gainBy 0 = .ok (.aload_n 0, 1) := by decide +kernel
theorem dX6_gainBy_1 : decode cX6_gainBy 1 = .ok (.getfield 32, 3) := by decide +kernel
theorem dX6_gainBy_4 : decode cX6_gainBy 4 = .ok (.iload_n 1, 1) := by decide +kernel
theorem dX6_gainBy_5 : decode cX6_gainBy 5 = .ok (.iaload, 1) := by decide +kernel
theorem dX6_gainBy_6 : decode cX6_gainBy 6 = .ok (.istore_n 3, 1) := by decide +kernel
theorem dX6_gainBy_7 : decode cX6_gainBy 7 = .ok (.aload_n 0, 1) := by decide +kernel
theorem dX6_gainBy_8 : decode cX6_gainBy 8 = .ok (.getfield 32, 3) := by decide +kernel
theorem dX6_gainBy_11 : decode cX6_gainBy 11 = .ok (.iload_n 2, 1) := by decide +kernel
theorem dX6_gainBy_12 : decode cX6_gainBy 12 = .ok (.iaload, 1) := by decide +kernel
theorem dX6_gainBy_13 : decode cX6_gainBy 13 = .ok (.istore 4, 2) := by decide +kernel
theorem dX6_gainBy_15 : decode cX6_gainBy 15 = .ok (.iconst 1, 1) := by decide +kernel
theorem dX6_gainBy_16 : decode cX6_gainBy 16 = .ok (.iload_n 1, 1) := by decide +kernel
theorem dX6_gainBy_17 : decode cX6_gainBy 17 = .ok (.ishl, 1) := by decide +kernel
theorem dX6_gainBy_18 : decode cX6_gainBy 18 = .ok (.iconst 1, 1) := by decide +kernel
theorem dX6_gainBy_19 : decode cX6_gainBy 19 = .ok (.iload_n 2, 1) := by decide +kernel
theorem dX6_gainBy_20 : decode cX6_gainBy 20 = .ok (.ishl, 1) := by decide +kernel
theorem dX6_gainBy_21 : decode cX6_gainBy 21 = .ok (.ior, 1) := by decide +kernel
theorem dX6_gainBy_22 : decode cX6_gainBy 22 = .ok (.istore 5, 2) := by decide +kernel
theorem dX6_gainBy_24 : decode cX6_gainBy 24 = .ok (.aload_n 0, 1) := by decide +kernel
theorem dX6_gainBy_25 : decode cX6_gainBy 25 = .ok (.iload_n 3, 1) := by decide +kernel
theorem dX6_gainBy_26 : decode cX6_gainBy 26 = .ok (.aload_n 0, 1) := by decide +kernel
theorem dX6_gainBy_27 : decode cX6_gainBy 27 = .ok (.iload_n 3, 1) := by decide +kernel
theorem dX6_gainBy_28 : decode cX6_gainBy 28 = .ok (.invokevirtual 162, 3) := by decide +kernel
theorem dX6_gainBy_31 : decode cX6_gainBy 31 = .ok (.iload 5, 2) := by decide +kernel
theorem dX6_gainBy_33 : decode cX6_gainBy 33 = .ok (.ixor, 1) := by decide +kernel
theorem dX6_gainBy_34 : decode cX6_gainBy 34 = .ok (.invokevirtual 207, 3) := by decide +kernel
theorem dX6_gainBy_37 : decode cX6_gainBy 37 = .ok (.aload_n 0, 1) := by decide +kernel
theorem dX6_gainBy_38 : decode cX6_gainBy 38 = .ok (.iload_n 3, 1) := by decide +kernel
theorem dX6_gainBy_39 : decode cX6_gainBy 39 = .ok (.aload_n 0, 1) := by decide +kernel
theorem dX6_gainBy_40 : decode cX6_gainBy 40 = .ok (.iload_n 3, 1) := by decide +kernel
theorem dX6_gainBy_41 : decode cX6_gainBy 41 = .ok (.invokevirtual 162, 3) := by decide +kernel
theorem dX6_gainBy_44 : decode cX6_gainBy 44 = .ok (.invokevirtual 207, 3) := by decide +kernel
theorem dX6_gainBy_47 : decode cX6_gainBy 47 = .ok (.isub, 1) := by decide +kernel
theorem dX6_gainBy_48 : decode cX6_gainBy 48 = .ok (.istore 6, 2) := by decide +kernel
theorem dX6_gainBy_50 : decode cX6_gainBy 50 = .ok (.aload_n 0, 1) := by decide +kernel
theorem dX6_gainBy_51 : decode cX6_gainBy 51 = .ok (.iload 4, 2) := by decide +kernel
theorem dX6_gainBy_53 : decode cX6_gainBy 53 = .ok (.aload_n 0, 1) := by decide +kernel
theorem dX6_gainBy_54 : decode cX6_gainBy 54 = .ok (.iload 4, 2) := by decide +kernel
theorem dX6_gainBy_56 : decode cX6_gainBy 56 = .ok (.invokevirtual 162, 3) := by decide +kernel
theorem dX6_gainBy_59 : decode cX6_gainBy 59 = .ok (.iload 5, 2) := by decide +kernel
theorem dX6_gainBy_61 : decode cX6_gainBy 61 = .ok (.ixor, 1) := by decide +kernel
theorem dX6_gainBy_62 : decode cX6_gainBy 62 = .ok (.invokevirtual 207, 3) := by decide +kernel
theorem dX6_gainBy_65 : decode cX6_gainBy 65 = .ok (.aload_n 0, 1) := by decide +kernel
theorem dX6_gainBy_66 : decode cX6_gainBy 66 = .ok (.iload 4, 2) := by decide +kernel
theorem dX6_gainBy_68 : decode cX6_gainBy 68 = .ok (.aload_n 0, 1) := by decide +kernel
theorem dX6_gainBy_69 : decode cX6_gainBy 69 = .ok (.iload 4, 2) := by decide +kernel
theorem dX6_gainBy_71 : decode cX6_gainBy 71 = .ok (.invokevirtual 162, 3) := by decide +kernel
theorem dX6_gainBy_74 : decode cX6_gainBy 74 = .ok (.invokevirtual 207, 3) := by decide +kernel
theorem dX6_gainBy_77 : decode cX6_gainBy 77 = .ok (.isub, 1) := by decide +kernel
theorem dX6_gainBy_78 : decode cX6_gainBy 78 = .ok (.istore 7, 2) := by decide +kernel
theorem dX6_gainBy_80 : decode cX6_gainBy 80 = .ok (.iload 6, 2) := by decide +kernel
theorem dX6_gainBy_82 : decode cX6_gainBy 82 = .ok (.ifCond .lt 8, 3) := by decide +kernel
theorem dX6_gainBy_85 : decode cX6_gainBy 85 = .ok (.iload 7, 2) := by decide +kernel
theorem dX6_gainBy_87 : decode cX6_gainBy 87 = .ok (.ifCond .ge 8, 3) := by decide +kernel
theorem dX6_gainBy_90 : decode cX6_gainBy 90 = .ok (.bipush (-9), 2) := by decide +kernel
theorem dX6_gainBy_92 : decode cX6_gainBy 92 = .ok (.goto 8, 3) := by decide +kernel
theorem dX6_gainBy_95 : decode cX6_gainBy 95 = .ok (.iload 6, 2) := by decide +kernel
theorem dX6_gainBy_97 : decode cX6_gainBy 97 = .ok (.iload 7, 2) := by decide +kernel
theorem dX6_gainBy_99 : decode cX6_gainBy 99 = .ok (.iadd, 1) := by decide +kernel
theorem dX6_gainBy_100 : decode cX6_gainBy 100 = .ok (.ireturn, 1) := by decide +kernel
theorem dX6_swap_0 : decode cX6_swap 0 = .ok (.iload_n 1, 1) := by decide +kernel
theorem dX6_swap_1 : decode cX6_swap 1 = .ok (.iconst 0, 1) := by decide +kernel
theorem dX6_swap_2 : decode cX6_swap 2 = .ok (.iconst 2, 1) := by decide +kernel
theorem dX6_swap_3 : decode cX6_swap 3 = .ok (.invokestatic 86, 3) := by decide +kernel
theorem dX6_swap_6 : decode cX6_swap 6 = .ok (.ifCond .ne 6, 3) := by decide +kernel
theorem dX6_swap_9 : decode cX6_swap 9 = .ok (.bipush (-2), 2) := by decide +kernel
theorem dX6_swap_11 : decode cX6_swap 11 = .ok (.ireturn, 1) := by decide +kernel
theorem dX6_swap_12 : decode cX6_swap 12 = .ok (.aload_n 0, 1) := by decide +kernel
theorem dX6_swap_13 : decode cX6_swap 13 = .ok (.getfield 90, 3) := by decide +kernel
theorem dX6_swap_16 : decode cX6_swap 16 = .ok (.ifCond .ne 6, 3) := by decide +kernel
theorem dX6_swap_19 : decode cX6_swap 19 = .ok (.bipush (-3), 2) := by decide +kernel
theorem dX6_swap_21 : decode cX6_swap 21 = .ok (.ireturn, 1) := by decide +kernel
theorem dX6_swap_22 : decode cX6_swap 22 = .ok (.aload_n 0, 1) := by decide +kernel
theorem dX6_swap_23 : decode cX6_swap 23 = .ok (.invokevirtual 231, 3) := by decide +kernel
theorem dX6_swap_26 : decode cX6_swap 26 = .ok (.istore_n 2, 1) := by decide +kernel
theorem dX6_swap_27 : decode cX6_swap 27 = .ok (.iload_n 1, 1) := by decide +kernel
theorem dX6_swap_28 : decode cX6_swap 28 = .ok (.ifCond .ne 7, 3) := by decide +kernel
theorem dX6_swap_31 : decode cX6_swap 31 = .ok (.iload_n 2, 1) := by decide +kernel
theorem dX6_swap_32 : decode cX6_swap 32 = .ok (.goto 19, 3) := by decide +kernel
theorem dX6_swap_35 : decode cX6_swap 35 = .ok (.iload_n 1, 1) := by decide +kernel
theorem dX6_swap_36 : decode cX6_swap 36 = .ok (.iconst 1, 1) := by decide +kernel
theorem dX6_swap_37 : decode cX6_swap 37 = .ok (.if_icmp .ne 10, 3) := by decide +kernel
theorem dX6_swap_40 : decode cX6_swap 40 = .ok (.aload_n 0, 1) := by decide +kernel
theorem dX6_swap_41 : decode cX6_swap 41 = .ok (.getfield 222, 3) := by decide +kernel
theorem dX6_swap_44 : decode cX6_swap 44 = .ok (.goto 7, 3) := by decide +kernel
theorem dX6_swap_47 : decode cX6_swap 47 = .ok (.aload_n 0, 1) := by decide +kernel
theorem dX6_swap_48 : decode cX6_swap 48 = .ok (.getfield 225, 3) := by decide +kernel
theorem dX6_swap_51 : decode cX6_swap 51 = .ok (.ireturn, 1) := by decide +kernel
theorem dX6_reading_0 : decode cX6_reading 0 = .ok (.aload_n 0, 1) := by decide +kernel
theorem dX6_reading_1 : decode cX6_reading 1 = .ok (.iload_n 1, 1) := by decide +kernel
theorem dX6_reading_2 : decode cX6_reading 2 = .ok (.invokevirtual 156, 3) := by decide +kernel
theorem dX6_reading_5 : decode cX6_reading 5 = .ok (.ifCond .ne 5, 3) := by decide +kernel
theorem dX6_reading_8 : decode cX6_reading 8 = .ok (.iconst (-1), 1) := by decide +kernel
theorem dX6_reading_9 : decode cX6_reading 9 = .ok (.ireturn, 1) := by decide +kernel
theorem dX6_reading_10 : decode cX6_reading 10 = .ok (.iload_n 2, 1) := by decide +kernel
theorem dX6_reading_11 : decode cX6_reading 11 = .ok (.iconst 0, 1) := by decide +kernel
theorem dX6_reading_12 : decode cX6_reading 12 = .ok (.bipush 99, 2) := by decide +kernel
theorem dX6_reading_14 : decode cX6_reading 14 = .ok (.invokestatic 86, 3) := by decide +kernel
theorem dX6_reading_17 : decode cX6_reading 17 = .ok (.ifCond .eq 13, 3) := by decide +kernel
theorem dX6_reading_20 : decode cX6_reading 20 = .ok (.iload_n 3, 1) := by decide +kernel
theorem dX6_reading_21 : decode cX6_reading 21 = .ok (.iconst 0, 1) := by decide +kernel
theorem dX6_reading_22 : decode cX6_reading 22 = .ok (.bipush 9, 2) := by decide +kernel
theorem dX6_reading_24 : decode cX6_reading 24 = .ok (.invokestatic 86, 3) := by decide +kernel
theorem dX6_reading_27 : decode cX6_reading 27 = .ok (.ifCond .ne 6, 3) := by decide +kernel
theorem dX6_reading_30 : decode cX6_reading 30 = .ok (.bipush (-2), 2) := by decide +kernel
theorem dX6_reading_32 : decode cX6_reading 32 = .ok (.ireturn, 1) := by decide +kernel
theorem dX6_reading_33 : decode cX6_reading 33 = .ok (.aload_n 0, 1) := by decide +kernel
theorem dX6_reading_34 : decode cX6_reading 34 = .ok (.getfield 135, 3) := by decide +kernel
theorem dX6_reading_37 : decode cX6_reading 37 = .ok (.bipush 8, 2) := by decide +kernel
theorem dX6_reading_39 : decode cX6_reading 39 = .ok (.if_icmp .ne 6, 3) := by decide +kernel
theorem dX6_reading_42 : decode cX6_reading 42 = .ok (.bipush (-4), 2) := by decide +kernel
theorem dX6_reading_44 : decode cX6_reading 44 = .ok (.ireturn, 1) := by decide +kernel
theorem dX6_reading_45 : decode cX6_reading 45 = .ok (.aload_n 0, 1) := by decide +kernel
theorem dX6_reading_46 : decode cX6_reading 46 = .ok (.getfield 71, 3) := by decide +kernel
theorem dX6_reading_49 : decode cX6_reading 49 = .ok (.aload_n 0, 1) := by decide +kernel
theorem dX6_reading_50 : decode cX6_reading 50 = .ok (.getfield 135, 3) := by decide +kernel
theorem dX6_reading_53 : decode cX6_reading 53 = .ok (.iload_n 1, 1) := by decide +kernel
theorem dX6_reading_54 : decode cX6_reading 54 = .ok (.iastore, 1) := by decide +kernel
theorem dX6_reading_55 : decode cX6_reading 55 = .ok (.aload_n 0, 1) := by decide +kernel
theorem dX6_reading_56 : decode cX6_reading 56 = .ok (.getfield 74, 3) := by decide +kernel
theorem dX6_reading_59 : decode cX6_reading 59 = .ok (.aload_n 0, 1) := by decide +kernel
theorem dX6_reading_60 : decode cX6_reading 60 = .ok (.getfield 135, 3) := by decide +kernel
theorem dX6_reading_63 : decode cX6_reading 63 = .ok (.iload_n 2, 1) := by decide +kernel
theorem dX6_reading_64 : decode cX6_reading 64 = .ok (.iastore, 1) := by decide +kernel
theorem dX6_reading_65 : decode cX6_reading 65 = .ok (.aload_n 0, 1) := by decide +kernel
theorem dX6_reading_66 : decode cX6_reading 66 = .ok (.getfield 77, 3) := by decide +kernel
theorem dX6_reading_69 : decode cX6_reading 69 = .ok (.aload_n 0, 1) := by decide +kernel
theorem dX6_reading_70 : decode cX6_reading 70 = .ok (.getfield 135, 3) := by decide +kernel
theorem dX6_reading_73 : decode cX6_reading 73 = .ok (.iload_n 3, 1) := by decide +kernel
theorem dX6_reading_74 : decode cX6_reading 74 = .ok (.iastore, 1) := by decide +kernel
theorem dX6_reading_75 : decode cX6_reading 75 = .ok (.aload_n 0, 1) := by decide +kernel
theorem dX6_reading_76 : decode cX6_reading 76 = .ok (.dup, 1) := by decide +kernel
theorem dX6_reading_77 : decode cX6_reading 77 = .ok (.getfield 135, 3) := by decide +kernel
theorem dX6_reading_80 : decode cX6_reading 80 = .ok (.iconst 1, 1) := by decide +kernel
theorem dX6_reading_81 : decode cX6_reading 81 = .ok (.iadd, 1) := by decide +kernel
theorem dX6_reading_82 : decode cX6_reading 82 = .ok (.putfield 135, 3) := by decide +kernel
theorem dX6_reading_85 : decode cX6_reading 85 = .ok (.aload_n 0, 1) := by decide +kernel
theorem dX6_reading_86 : decode cX6_reading 86 = .ok (.getfield 135, 3) := by decide +kernel
theorem dX6_reading_89 : decode cX6_reading 89 = .ok (.iconst 1, 1) := by decide +kernel
theorem dX6_reading_90 : decode cX6_reading 90 = .ok (.isub, 1) := by decide +kernel
theorem dX6_reading_91 : decode cX6_reading 91 = .ok (.ireturn, 1) := by decide +kernel
theorem dX6_back_0 : decode cX6_back 0 = .ok (.iload_n 1, 1) := by decide +kernel
theorem dX6_back_1 : decode cX6_back 1 = .ok (.iconst 0, 1) := by decide +kernel
theorem dX6_back_2 : decode cX6_back 2 = .ok (.aload_n 0, 1) := by decide +kernel
theorem dX6_back_3 : decode cX6_back 3 = .ok (.getfield 135, 3) := by decide +kernel
theorem dX6_back_6 : decode cX6_back 6 = .ok (.invokestatic 86, 3) := by decide +kernel
theorem dX6_back_9 : decode cX6_back 9 = .ok (.ifCond .ne 6, 3) := by decide +kernel
theorem dX6_back_12 : decode cX6_back 12 = .ok (.bipush (-2), 2) := by decide +kernel
theorem dX6_back_14 : decode cX6_back 14 = .ok (.ireturn, 1) := by decide +kernel
theorem dX6_back_15 : decode cX6_back 15 = .ok (.aload_n 0, 1) := by decide +kernel
theorem dX6_back_16 : decode cX6_back 16 = .ok (.dup, 1) := by decide +kernel
theorem dX6_back_17 : decode cX6_back 17 = .ok (.getfield 135, 3) := by decide +kernel
theorem dX6_back_20 : decode cX6_back 20 = .ok (.iload_n 1, 1) := by decide +kernel
theorem dX6_back_21 : decode cX6_back 21 = .ok (.isub, 1) := by decide +kernel
theorem dX6_back_22 : decode cX6_back 22 = .ok (.putfield 135, 3) := by decide +kernel
theorem dX6_back_25 : decode cX6_back 25 = .ok (.aload_n 0, 1) := by decide +kernel
theorem dX6_back_26 : decode cX6_back 26 = .ok (.getfield 135, 3) := by decide +kernel
theorem dX6_back_29 : decode cX6_back 29 = .ok (.ireturn, 1) := by decide +kernel
theorem dX6_areSo_0 : decode cX6_areSo 0 = .ok (.iconst 0, 1) := by decide +kernel
theorem dX6_areSo_1 : decode cX6_areSo 1 = .ok (.istore_n 1, 1) := by decide +kernel
theorem dX6_areSo_2 : decode cX6_areSo 2 = .ok (.iload_n 1, 1) := by decide +kernel
theorem dX6_areSo_3 : decode cX6_areSo 3 = .ok (.aload_n 0, 1) := by decide +kernel
theorem dX6_areSo_4 : decode cX6_areSo 4 = .ok (.getfield 135, 3) := by decide +kernel
theorem dX6_areSo_7 : decode cX6_areSo 7 = .ok (.if_icmp .ge 36, 3) := by decide +kernel
theorem dX6_areSo_10 : decode cX6_areSo 10 = .ok (.aload_n 0, 1) := by decide +kernel
theorem dX6_areSo_11 : decode cX6_areSo 11 = .ok (.aload_n 0, 1) := by decide +kernel
theorem dX6_areSo_12 : decode cX6_areSo 12 = .ok (.getfield 71, 3) := by decide +kernel
theorem dX6_areSo_15 : decode cX6_areSo 15 = .ok (.iload_n 1, 1) := by decide +kernel
theorem dX6_areSo_16 : decode cX6_areSo 16 = .ok (.iaload, 1) := by decide +kernel
theorem dX6_areSo_17 : decode cX6_areSo 17 = .ok (.aload_n 0, 1) := by decide +kernel
theorem dX6_areSo_18 : decode cX6_areSo 18 = .ok (.getfield 74, 3) := by decide +kernel
theorem dX6_areSo_21 : decode cX6_areSo 21 = .ok (.iload_n 1, 1) := by decide +kernel
theorem dX6_areSo_22 : decode cX6_areSo 22 = .ok (.iaload, 1) := by decide +kernel
theorem dX6_areSo_23 : decode cX6_areSo 23 = .ok (.invokevirtual 152, 3) := by decide +kernel
theorem dX6_areSo_26 : decode cX6_areSo 26 = .ok (.aload_n 0, 1) := by decide +kernel
theorem dX6_areSo_27 : decode cX6_areSo 27 = .ok (.getfield 77, 3) := by decide +kernel
theorem dX6_areSo_30 : decode cX6_areSo 30 = .ok (.iload_n 1, 1) := by decide +kernel
theorem dX6_areSo_31 : decode cX6_areSo 31 = .ok (.iaload, 1) := by decide +kernel
theorem dX6_areSo_32 : decode cX6_areSo 32 = .ok (.if_icmp .eq 5, 3) := by decide +kernel
theorem dX6_areSo_35 : decode cX6_areSo 35 = .ok (.iconst 0, 1) := by decide +kernel
theorem dX6_areSo_36 : decode cX6_areSo 36 = .ok (.ireturn, 1) := by decide +kernel
theorem dX6_areSo_37 : decode cX6_areSo 37 = .ok (.iinc 1 1, 3) := by decide +kernel
theorem dX6_areSo_40 : decode cX6_areSo 40 = .ok (.goto (-38), 3) := by decide +kernel
theorem dX6_areSo_43 : decode cX6_areSo 43 = .ok (.iconst 1, 1) := by decide +kernel
theorem dX6_areSo_44 : decode cX6_areSo 44 = .ok (.ireturn, 1) := by decide +kernel
theorem dX6_dews_0 : decode cX6_dews 0 = .ok (.aload_n 0, 1) := by decide +kernel
theorem dX6_dews_1 : decode cX6_dews 1 = .ok (.iload_n 1, 1) := by decide +kernel
theorem dX6_dews_2 : decode cX6_dews 2 = .ok (.invokevirtual 156, 3) := by decide +kernel
theorem dX6_dews_5 : decode cX6_dews 5 = .ok (.ifCond .ne 5, 3) := by decide +kernel
theorem dX6_dews_8 : decode cX6_dews 8 = .ok (.iconst (-1), 1) := by decide +kernel
theorem dX6_dews_9 : decode cX6_dews 9 = .ok (.ireturn, 1) := by decide +kernel
theorem dX6_dews_10 : decode cX6_dews 10 = .ok (.aload_n 0, 1) := by decide +kernel
theorem dX6_dews_11 : decode cX6_dews 11 = .ok (.getfield 38, 3) := by decide +kernel
theorem dX6_dews_14 : decode cX6_dews 14 = .ok (.iload_n 1, 1) := by decide +kernel
theorem dX6_dews_15 : decode cX6_dews 15 = .ok (.iaload, 1) := by decide +kernel
theorem dX6_dews_16 : decode cX6_dews 16 = .ok (.istore_n 2, 1) := by decide +kernel
theorem dX6_dews_17 : decode cX6_dews 17 = .ok (.iconst 0, 1) := by decide +kernel
theorem dX6_dews_18 : decode cX6_dews 18 = .ok (.istore_n 3, 1) := by decide +kernel
theorem dX6_dews_19 : decode cX6_dews 19 = .ok (.iconst 0, 1) := by decide +kernel
theorem dX6_dews_20 : decode cX6_dews 20 = .ok (.istore 4, 2) := by decide +kernel
theorem dX6_dews_22 : decode cX6_dews 22 = .ok (.iload 4, 2) := by decide +kernel
theorem dX6_dews_24 : decode cX6_dews 24 = .ok (.bipush 9, 2) := by decide +kernel
theorem dX6_dews_26 : decode cX6_dews 26 = .ok (.if_icmp .gt 35, 3) := by decide +kernel
theorem dX6_dews_29 : decode cX6_dews 29 = .ok (.aload_n 0, 1) := by decide +kernel
theorem dX6_dews_30 : decode cX6_dews 30 = .ok (.getfield 38, 3) := by decide +kernel
theorem dX6_dews_33 : decode cX6_dews 33 = .ok (.iload_n 1, 1) := by decide +kernel
theorem dX6_dews_34 : decode cX6_dews 34 = .ok (.iload 4, 2) := by decide +kernel
theorem dX6_dews_36 : decode cX6_dews 36 = .ok (.iastore, 1) := by decide +kernel
theorem dX6_dews_37 : decode cX6_dews 37 = .ok (.iload_n 3, 1) := by decide +kernel
theorem dX6_dews_38 : decode cX6_dews 38 = .ok (.aload_n 0, 1) := by decide +kernel
theorem dX6_dews_39 : decode cX6_dews 39 = .ok (.invokevirtual 235, 3) := by decide +kernel
theorem dX6_dews_42 : decode cX6_dews 42 = .ok (.ifCond .eq 10, 3) := by decide +kernel
theorem dX6_dews_45 : decode cX6_dews 45 = .ok (.iconst 1, 1) := by decide +kernel
theorem dX6_dews_46 : decode cX6_dews 46 = .ok (.iload 4, 2) := by decide +kernel
theorem dX6_dews_48 : decode cX6_dews 48 = .ok (.ishl, 1) := by decide +kernel
theorem dX6_dews_49 : decode cX6_dews 49 = .ok (.goto 4, 3) := by decide +kernel
theorem dX6_dews_52 : decode cX6_dews 52 = .ok (.iconst 0, 1) := by decide +kernel
theorem dX6_dews_53 : decode cX6_dews 53 = .ok (.ior, 1) := by decide +kernel
theorem dX6_dews_54 : decode cX6_dews 54 = .ok (.istore_n 3, 1) := by decide +kernel
theorem dX6_dews_55 : decode cX6_dews 55 = .ok (.iinc 4 1, 3) := by decide +kernel
theorem dX6_dews_58 : decode cX6_dews 58 = .ok (.goto (-36), 3) := by decide +kernel
theorem dX6_dews_61 : decode cX6_dews 61 = .ok (.aload_n 0, 1) := by decide +kernel
theorem dX6_dews_62 : decode cX6_dews 62 = .ok (.getfield 38, 3) := by decide +kernel
theorem dX6_dews_65 : decode cX6_dews 65 = .ok (.iload_n 1, 1) := by decide +kernel
theorem dX6_dews_66 : decode cX6_dews 66 = .ok (.iload_n 2, 1) := by decide +kernel
theorem dX6_dews_67 : decode cX6_dews 67 = .ok (.iastore, 1) := by decide +kernel
theorem dX6_dews_68 : decode cX6_dews 68 = .ok (.iload_n 3, 1) := by decide +kernel
theorem dX6_dews_69 : decode cX6_dews 69 = .ok (.ireturn, 1) := by decide +kernel
theorem dX6_kinds_0 : decode cX6_kinds 0 = .ok (.aload_n 0, 1) := by decide +kernel
theorem dX6_kinds_1 : decode cX6_kinds 1 = .ok (.iload_n 1, 1) := by decide +kernel
theorem dX6_kinds_2 : decode cX6_kinds 2 = .ok (.invokevirtual 156, 3) := by decide +kernel
theorem dX6_kinds_5 : decode cX6_kinds 5 = .ok (.ifCond .ne 5, 3) := by decide +kernel
theorem dX6_kinds_8 : decode cX6_kinds 8 = .ok (.iconst (-1), 1) := by decide +kernel
theorem dX6_kinds_9 : decode cX6_kinds 9 = .ok (.ireturn, 1) := by decide +kernel
theorem dX6_kinds_10 : decode cX6_kinds 10 = .ok (.aload_n 0, 1) := by decide +kernel
theorem dX6_kinds_11 : decode cX6_kinds 11 = .ok (.getfield 29, 3) := by decide +kernel
theorem dX6_kinds_14 : decode cX6_kinds 14 = .ok (.iload_n 1, 1) := by decide +kernel
theorem dX6_kinds_15 : decode cX6_kinds 15 = .ok (.iaload, 1) := by decide +kernel
theorem dX6_kinds_16 : decode cX6_kinds 16 = .ok (.istore_n 2, 1) := by decide +kernel
theorem dX6_kinds_17 : decode cX6_kinds 17 = .ok (.iconst 0, 1) := by decide +kernel
theorem dX6_kinds_18 : decode cX6_kinds 18 = .ok (.istore_n 3, 1) := by decide +kernel
theorem dX6_kinds_19 : decode cX6_kinds 19 = .ok (.iconst 0, 1) := by decide +kernel
theorem dX6_kinds_20 : decode cX6_kinds 20 = .ok (.istore 4, 2) := by decide +kernel
theorem dX6_kinds_22 : decode cX6_kinds 22 = .ok (.iload 4, 2) := by decide +kernel
theorem dX6_kinds_24 : decode cX6_kinds 24 = .ok (.iconst 3, 1) := by decide +kernel
theorem dX6_kinds_25 : decode cX6_kinds 25 = .ok (.if_icmp .ge 35, 3) := by decide +kernel
theorem dX6_kinds_28 : decode cX6_kinds 28 = .ok (.aload_n 0, 1) := by decide +kernel
theorem dX6_kinds_29 : decode cX6_kinds 29 = .ok (.getfield 29, 3) := by decide +kernel
theorem dX6_kinds_32 : decode cX6_kinds 32 = .ok (.iload_n 1, 1) := by decide +kernel
theorem dX6_kinds_33 : decode cX6_kinds 33 = .ok (.iload 4, 2) := by decide +kernel
theorem dX6_kinds_35 : decode cX6_kinds 35 = .ok (.iastore, 1) := by decide +kernel
theorem dX6_kinds_36 : decode cX6_kinds 36 = .ok (.iload_n 3, 1) := by decide +kernel
theorem dX6_kinds_37 : decode cX6_kinds 37 = .ok (.aload_n 0, 1) := by decide +kernel
theorem dX6_kinds_38 : decode cX6_kinds 38 = .ok (.invokevirtual 235, 3) := by decide +kernel
theorem dX6_kinds_41 : decode cX6_kinds 41 = .ok (.ifCond .eq 10, 3) := by decide +kernel
theorem dX6_kinds_44 : decode cX6_kinds 44 = .ok (.iconst 1, 1) := by decide +kernel
theorem dX6_kinds_45 : decode cX6_kinds 45 = .ok (.iload 4, 2) := by decide +kernel
theorem dX6_kinds_47 : decode cX6_kinds 47 = .ok (.ishl, 1) := by decide +kernel
theorem dX6_kinds_48 : decode cX6_kinds 48 = .ok (.goto 4, 3) := by decide +kernel
theorem dX6_kinds_51 : decode cX6_kinds 51 = .ok (.iconst 0, 1) := by decide +kernel
theorem dX6_kinds_52 : decode cX6_kinds 52 = .ok (.ior, 1) := by decide +kernel
theorem dX6_kinds_53 : decode cX6_kinds 53 = .ok (.istore_n 3, 1) := by decide +kernel
theorem dX6_kinds_54 : decode cX6_kinds 54 = .ok (.iinc 4 1, 3) := by decide +kernel
theorem dX6_kinds_57 : decode cX6_kinds 57 = .ok (.goto (-35), 3) := by decide +kernel
theorem dX6_kinds_60 : decode cX6_kinds 60 = .ok (.aload_n 0, 1) := by decide +kernel
theorem dX6_kinds_61 : decode cX6_kinds 61 = .ok (.getfield 29, 3) := by decide +kernel
theorem dX6_kinds_64 : decode cX6_kinds 64 = .ok (.iload_n 1, 1) := by decide +kernel
theorem dX6_kinds_65 : decode cX6_kinds 65 = .ok (.iload_n 2, 1) := by decide +kernel
theorem dX6_kinds_66 : decode cX6_kinds 66 = .ok (.iastore, 1) := by decide +kernel
theorem dX6_kinds_67 : decode cX6_kinds 67 = .ok (.iload_n 3, 1) := by decide +kernel
theorem dX6_kinds_68 : decode cX6_kinds 68 = .ok (.ireturn, 1) := by decide +kernel
theorem dX6_takens_0 : decode cX6_takens 0 = .ok (.aload_n 0, 1) := by decide +kernel
theorem dX6_takens_1 : decode cX6_takens 1 = .ok (.iload_n 1, 1) := by decide +kernel
theorem dX6_takens_2 : decode cX6_takens 2 = .ok (.invokevirtual 156, 3) := by decide +kernel
theorem dX6_takens_5 : decode cX6_takens 5 = .ok (.ifCond .ne 5, 3) := by decide +kernel
theorem dX6_takens_8 : decode cX6_takens 8 = .ok (.iconst (-1), 1) := by decide +kernel
theorem dX6_takens_9 : decode cX6_takens 9 = .ok (.ireturn, 1) := by decide +kernel
theorem dX6_takens_10 : decode cX6_takens 10 = .ok (.aload_n 0, 1) := by decide +kernel
theorem dX6_takens_11 : decode cX6_takens 11 = .ok (.getfield 35, 3) := by decide +kernel
theorem dX6_takens_14 : decode cX6_takens 14 = .ok (.iload_n 1, 1) := by decide +kernel
theorem dX6_takens_15 : decode cX6_takens 15 = .ok (.iaload, 1) := by decide +kernel
theorem dX6_takens_16 : decode cX6_takens 16 = .ok (.istore_n 2, 1) := by decide +kernel
theorem dX6_takens_17 : decode cX6_takens 17 = .ok (.iconst 0, 1) := by decide +kernel
theorem dX6_takens_18 : decode cX6_takens 18 = .ok (.istore_n 3, 1) := by decide +kernel
theorem dX6_takens_19 : decode cX6_takens 19 = .ok (.iconst 0, 1) := by decide +kernel
theorem dX6_takens_20 : decode cX6_takens 20 = .ok (.istore 4, 2) := by decide +kernel
theorem dX6_takens_22 : decode cX6_takens 22 = .ok (.iload 4, 2) := by decide +kernel
theorem dX6_takens_24 : decode cX6_takens 24 = .ok (.bipush 9, 2) := by decide +kernel
theorem dX6_takens_26 : decode cX6_takens 26 = .ok (.if_icmp .gt 35, 3) := by decide +kernel
theorem dX6_takens_29 : decode cX6_takens 29 = .ok (.aload_n 0, 1) := by decide +kernel
theorem dX6_takens_30 : decode cX6_takens 30 = .ok (.getfield 35, 3) := by decide +kernel
theorem dX6_takens_33 : decode cX6_takens 33 = .ok (.iload_n 1, 1) := by decide +kernel
theorem dX6_takens_34 : decode cX6_takens 34 = .ok (.iload 4, 2) := by decide +kernel
theorem dX6_takens_36 : decode cX6_takens 36 = .ok (.iastore, 1) := by decide +kernel
theorem dX6_takens_37 : decode cX6_takens 37 = .ok (.iload_n 3, 1) := by decide +kernel
theorem dX6_takens_38 : decode cX6_takens 38 = .ok (.aload_n 0, 1) := by decide +kernel
theorem dX6_takens_39 : decode cX6_takens 39 = .ok (.invokevirtual 235, 3) := by decide +kernel
theorem dX6_takens_42 : decode cX6_takens 42 = .ok (.ifCond .eq 10, 3) := by decide +kernel
theorem dX6_takens_45 : decode cX6_takens 45 = .ok (.iconst 1, 1) := by decide +kernel
theorem dX6_takens_46 : decode cX6_takens 46 = .ok (.iload 4, 2) := by decide +kernel
theorem dX6_takens_48 : decode cX6_takens 48 = .ok (.ishl, 1) := by decide +kernel
theorem dX6_takens_49 : decode cX6_takens 49 = .ok (.goto 4, 3) := by decide +kernel
theorem dX6_takens_52 : decode cX6_takens 52 = .ok (.iconst 0, 1) := by decide +kernel
theorem dX6_takens_53 : decode cX6_takens 53 = .ok (.ior, 1) := by decide +kernel
theorem dX6_takens_54 : decode cX6_takens 54 = .ok (.istore_n 3, 1) := by decide +kernel
theorem dX6_takens_55 : decode cX6_takens 55 = .ok (.iinc 4 1, 3) := by decide +kernel
theorem dX6_takens_58 : decode cX6_takens 58 = .ok (.goto (-36), 3) := by decide +kernel
theorem dX6_takens_61 : decode cX6_takens 61 = .ok (.aload_n 0, 1) := by decide +kernel
theorem dX6_takens_62 : decode cX6_takens 62 = .ok (.getfield 35, 3) := by decide +kernel
theorem dX6_takens_65 : decode cX6_takens 65 = .ok (.iload_n 1, 1) := by decide +kernel
theorem dX6_takens_66 : decode cX6_takens 66 = .ok (.iload_n 2, 1) := by decide +kernel
theorem dX6_takens_67 : decode cX6_takens 67 = .ok (.iastore, 1) := by decide +kernel
theorem dX6_takens_68 : decode cX6_takens 68 = .ok (.iload_n 3, 1) := by decide +kernel
theorem dX6_takens_69 : decode cX6_takens 69 = .ok (.ireturn, 1) := by decide +kernel
theorem dX6_inLeastTerms_0 : decode cX6_inLeastTerms 0 = .ok (.lload_n 0, 1) := by decide +kernel
theorem dX6_inLeastTerms_1 : decode cX6_inLeastTerms 1 = .ok (.lstore 5, 2) := by decide +kernel
theorem dX6_inLeastTerms_3 : decode cX6_inLeastTerms 3 = .ok (.lload_n 2, 1) := by decide +kernel
theorem dX6_inLeastTerms_4 : decode cX6_inLeastTerms 4 = .ok (.lstore 7, 2) := by decide +kernel
theorem dX6_inLeastTerms_6 : decode cX6_inLeastTerms 6 = .ok (.lload 7, 2) := by decide +kernel
theorem dX6_inLeastTerms_8 : decode cX6_inLeastTerms 8 = .ok (.lconst 0, 1) := by decide +kernel
theorem dX6_inLeastTerms_9 : decode cX6_inLeastTerms 9 = .ok (.lcmp, 1) := by decide +kernel
theorem dX6_inLeastTerms_10 : decode cX6_inLeastTerms 10 = .ok (.ifCond .eq 21, 3) := by decide +kernel
theorem dX6_inLeastTerms_13 : decode cX6_inLeastTerms 13 = .ok (.lload 5, 2) := by decide +kernel
theorem dX6_inLeastTerms_15 : decode cX6_inLeastTerms 15 = .ok (.lload 7, 2) := by decide +kernel
theorem dX6_inLeastTerms_17 : decode cX6_inLeastTerms 17 = .ok (.lrem, 1) := by decide +kernel
theorem dX6_inLeastTerms_18 : decode cX6_inLeastTerms 18 = .ok (.lstore 9, 2) := by decide +kernel
theorem dX6_inLeastTerms_20 : decode cX6_inLeastTerms 20 = .ok (.lload 7, 2) := by decide +kernel
theorem dX6_inLeastTerms_22 : decode cX6_inLeastTerms 22 = .ok (.lstore 5, 2) := by decide +kernel
theorem dX6_inLeastTerms_24 : decode cX6_inLeastTerms 24 = .ok (.lload 9, 2) := by decide +kernel
theorem dX6_inLeastTerms_26 : decode cX6_inLeastTerms 26 = .ok (.lstore 7, 2) := by decide +kernel
theorem dX6_inLeastTerms_28 : decode cX6_inLeastTerms 28 = .ok (.goto (-22), 3) := by decide +kernel
theorem dX6_inLeastTerms_31 : decode cX6_inLeastTerms 31 = .ok (.iload 4, 2) := by decide +kernel
theorem dX6_inLeastTerms_33 : decode cX6_inLeastTerms 33 = .ok (.ifCond .ne 10, 3) := by decide +kernel
theorem dX6_inLeastTerms_36 : decode cX6_inLeastTerms 36 = .ok (.lload_n 0, 1) := by decide +kernel
theorem dX6_inLeastTerms_37 : decode cX6_inLeastTerms 37 = .ok (.lload 5, 2) := by decide +kernel
theorem dX6_inLeastTerms_39 : decode cX6_inLeastTerms 39 = .ok (.ldiv, 1) := by decide +kernel
theorem dX6_inLeastTerms_40 : decode cX6_inLeastTerms 40 = .ok (.goto 7, 3) := by decide +kernel
theorem dX6_inLeastTerms_43 : decode cX6_inLeastTerms 43 = .ok (.lload_n 2, 1) := by decide +kernel
theorem dX6_inLeastTerms_44 : decode cX6_inLeastTerms 44 = .ok (.lload 5, 2) := by decide +kernel
theorem dX6_inLeastTerms_46 : decode cX6_inLeastTerms 46 = .ok (.ldiv, 1) := by decide +kernel
theorem dX6_inLeastTerms_47 : decode cX6_inLeastTerms 47 = .ok (.lreturn, 1) := by decide +kernel
theorem dX6_odds_0 : decode cX6_odds 0 = .ok (.aload_n 0, 1) := by decide +kernel
theorem dX6_odds_1 : decode cX6_odds 1 = .ok (.iload_n 1, 1) := by decide +kernel
theorem dX6_odds_2 : decode cX6_odds 2 = .ok (.invokevirtual 159, 3) := by decide +kernel
theorem dX6_odds_5 : decode cX6_odds 5 = .ok (.ifCond .eq 22, 3) := by decide +kernel
theorem dX6_odds_8 : decode cX6_odds 8 = .ok (.iload_n 2, 1) := by decide +kernel
theorem dX6_odds_9 : decode cX6_odds 9 = .ok (.iconst 0, 1) := by decide +kernel
theorem dX6_odds_10 : decode cX6_odds 10 = .ok (.bipush 99, 2) := by decide +kernel
theorem dX6_odds_12 : decode cX6_odds 12 = .ok (.invokestatic 86, 3) := by decide +kernel
theorem dX6_odds_15 : decode cX6_odds 15 = .ok (.ifCond .eq 12, 3) := by decide +kernel
theorem dX6_odds_18 : decode cX6_odds 18 = .ok (.iload_n 3, 1) := by decide +kernel
theorem dX6_odds_19 : decode cX6_odds 19 = .ok (.iconst 0, 1) := by decide +kernel
theorem dX6_odds_20 : decode cX6_odds 20 = .ok (.iconst 1, 1) := by decide +kernel
theorem dX6_odds_21 : decode cX6_odds 21 = .ok (.invokestatic 86, 3) := by decide +kernel
theorem dX6_odds_24 : decode cX6_odds 24 = .ok (.ifCond .ne 7, 3) := by decide +kernel
theorem dX6_odds_27 : decode cX6_odds 27 = .ok (.ldc2_w 84, 3) := by decide +kernel
theorem dX6_odds_30 : decode cX6_odds 30 = .ok (.lreturn, 1) := by decide +kernel
theorem dX6_odds_31 : decode cX6_odds 31 = .ok (.aload_n 0, 1) := by decide +kernel
theorem dX6_odds_32 : decode cX6_odds 32 = .ok (.iload_n 1, 1) := by decide +kernel
theorem dX6_odds_33 : decode cX6_odds 33 = .ok (.invokevirtual 162, 3) := by decide +kernel
theorem dX6_odds_36 : decode cX6_odds 36 = .ok (.istore 4, 2) := by decide +kernel
theorem dX6_odds_38 : decode cX6_odds 38 = .ok (.iconst 0, 1) := by decide +kernel
theorem dX6_odds_39 : decode cX6_odds 39 = .ok (.istore 5, 2) := by decide +kernel
theorem dX6_odds_41 : decode cX6_odds 41 = .ok (.iconst 0, 1) := by decide +kernel
theorem dX6_odds_42 : decode cX6_odds 42 = .ok (.istore 6, 2) := by decide +kernel
theorem dX6_odds_44 : decode cX6_odds 44 = .ok (.iconst 0, 1) := by decide +kernel
theorem dX6_odds_45 : decode cX6_odds 45 = .ok (.istore 7, 2) := by decide +kernel
theorem dX6_odds_47 : decode cX6_odds 47 = .ok (.iload 7, 2) := by decide +kernel
theorem dX6_odds_49 : decode cX6_odds 49 = .ok (.iconst 1, 1) := by decide +kernel
theorem dX6_odds_50 : decode cX6_odds 50 = .ok (.aload_n 0, 1) := by decide +kernel
theorem dX6_odds_51 : decode cX6_odds 51 = .ok (.getfield 93, 3) := by decide +kernel
theorem dX6_odds_54 : decode cX6_odds 54 = .ok (.ishl, 1) := by decide +kernel
theorem dX6_odds_55 : decode cX6_odds 55 = .ok (.if_icmp .ge 43, 3) := by decide +kernel
theorem dX6_odds_58 : decode cX6_odds 58 = .ok (.iload 7, 2) := by decide +kernel
theorem dX6_odds_60 : decode cX6_odds 60 = .ok (.iload 4, 2) := by decide +kernel
theorem dX6_odds_62 : decode cX6_odds 62 = .ok (.iconst (-1), 1) := by decide +kernel
theorem dX6_odds_63 : decode cX6_odds 63 = .ok (.ixor, 1) := by decide +kernel
theorem dX6_odds_64 : decode cX6_odds 64 = .ok (.iand, 1) := by decide +kernel
theorem dX6_odds_65 : decode cX6_odds 65 = .ok (.ifCond .ne 27, 3) := by decide +kernel
theorem dX6_odds_68 : decode cX6_odds 68 = .ok (.iinc 6 1, 3) := by decide +kernel
theorem dX6_odds_71 : decode cX6_odds 71 = .ok (.iload 5, 2) := by decide +kernel
theorem dX6_odds_73 : decode cX6_odds 73 = .ok (.aload_n 0, 1) := by decide +kernel
theorem dX6_odds_74 : decode cX6_odds 74 = .ok (.iload_n 1, 1) := by decide +kernel
theorem dX6_odds_75 : decode cX6_odds 75 = .ok (.iload 7, 2) := by decide +kernel
theorem dX6_odds_77 : decode cX6_odds 77 = .ok (.invokevirtual 207, 3) := by decide +kernel
theorem dX6_odds_80 : decode cX6_odds 80 = .ok (.iload_n 2, 1) := by decide +kernel
theorem dX6_odds_81 : decode cX6_odds 81 = .ok (.if_icmp .lt 7, 3) := by decide +kernel
theorem dX6_odds_84 : decode cX6_odds 84 = .ok (.iconst 1, 1) := by decide +kernel
theorem dX6_odds_85 : decode cX6_odds 85 = .ok (.goto 4, 3) := by decide +kernel
theorem dX6_odds_88 : decode cX6_odds 88 = .ok (.iconst 0, 1) := by decide +kernel
theorem dX6_odds_89 : decode cX6_odds 89 = .ok (.iadd, 1) := by decide +kernel
theorem dX6_odds_90 : decode cX6_odds 90 = .ok (.istore 5, 2) := by decide +kernel
theorem dX6_odds_92 : decode cX6_odds 92 = .ok (.iinc 7 1, 3) := by decide +kernel
theorem dX6_odds_95 : decode cX6_odds 95 = .ok (.goto (-48), 3) := by decide +kernel
theorem dX6_odds_98 : decode cX6_odds 98 = .ok (.iload 5, 2) := by decide +kernel
theorem dX6_odds_100 : decode cX6_odds 100 = .ok (.i2l, 1) := by decide +kernel
theorem dX6_odds_101 : decode cX6_odds 101 = .ok (.iload 6, 2) := by decide +kernel
theorem dX6_odds_103 : decode cX6_odds 103 = .ok (.i2l, 1) := by decide +kernel
theorem dX6_odds_104 : decode cX6_odds 104 = .ok (.iload_n 3, 1) := by decide +kernel
theorem dX6_odds_105 : decode cX6_odds 105 = .ok (.invokestatic 239, 3) := by decide +kernel
theorem dX6_odds_108 : decode cX6_odds 108 = .ok (.lreturn, 1) := by decide +kernel
theorem dX6_sheet_0 : decode cX6_sheet 0 = .ok (.aload_n 0, 1) := by decide +kernel
theorem dX6_sheet_1 : decode cX6_sheet 1 = .ok (.iconst 0, 1) := by decide +kernel
theorem dX6_sheet_2 : decode cX6_sheet 2 = .ok (.putfield 80, 3) := by decide +kernel
theorem dX6_sheet_5 : decode cX6_sheet 5 = .ok (.iload_n 1, 1) := by decide +kernel
theorem dX6_sheet_6 : decode cX6_sheet 6 = .ok (.invokestatic 99, 3) := by decide +kernel
theorem dX6_sheet_9 : decode cX6_sheet 9 = .ok (.ifCond .ne 5, 3) := by decide +kernel
theorem dX6_sheet_12 : decode cX6_sheet 12 = .ok (.iconst (-1), 1) := by decide +kernel
theorem dX6_sheet_13 : decode cX6_sheet 13 = .ok (.ireturn, 1) := by decide +kernel
theorem dX6_sheet_14 : decode cX6_sheet 14 = .ok (.iload_n 2, 1) := by decide +kernel
theorem dX6_sheet_15 : decode cX6_sheet 15 = .ok (.invokestatic 103, 3) := by decide +kernel
theorem dX6_sheet_18 : decode cX6_sheet 18 = .ok (.ifCond .eq 9, 3) := by decide +kernel
theorem dX6_sheet_21 : decode cX6_sheet 21 = .ok (.iload_n 3, 1) := by decide +kernel
theorem dX6_sheet_22 : decode cX6_sheet 22 = .ok (.bipush 60, 2) := by decide +kernel
theorem dX6_sheet_24 : decode cX6_sheet 24 = .ok (.if_icmp .le 6, 3) := by decide +kernel
theorem dX6_sheet_27 : decode cX6_sheet 27 = .ok (.bipush (-2), 2) := by decide +kernel
theorem dX6_sheet_29 : decode cX6_sheet 29 = .ok (.ireturn, 1) := by decide +kernel
theorem dX6_sheet_30 : decode cX6_sheet 30 = .ok (.iload_n 3, 1) := by decide +kernel
theorem dX6_sheet_31 : decode cX6_sheet 31 = .ok (.ifCond .ge 9, 3) := by decide +kernel
theorem dX6_sheet_34 : decode cX6_sheet 34 = .ok (.aload_n 0, 1) := by decide +kernel
theorem dX6_sheet_35 : decode cX6_sheet 35 = .ok (.iconst 4, 1) := by decide +kernel
theorem dX6_sheet_36 : decode cX6_sheet 36 = .ok (.invokevirtual 110, 3) := by decide +kernel
theorem dX6_sheet_39 : decode cX6_sheet 39 = .ok (.ireturn, 1) := by decide +kernel
theorem dX6_sheet_40 : decode cX6_sheet 40 = .ok (.aload_n 0, 1) := by decide +kernel
theorem dX6_sheet_41 : decode cX6_sheet 41 = .ok (.getfield 9, 3) := by decide +kernel
theorem dX6_sheet_44 : decode cX6_sheet 44 = .ok (.iload_n 1, 1) := by decide +kernel
theorem dX6_sheet_45 : decode cX6_sheet 45 = .ok (.iload_n 2, 1) := by decide +kernel
theorem dX6_sheet_46 : decode cX6_sheet 46 = .ok (.iastore, 1) := by decide +kernel
theorem dX6_sheet_47 : decode cX6_sheet 47 = .ok (.aload_n 0, 1) := by decide +kernel
theorem dX6_sheet_48 : decode cX6_sheet 48 = .ok (.getfield 13, 3) := by decide +kernel
theorem dX6_sheet_51 : decode cX6_sheet 51 = .ok (.iload_n 1, 1) := by decide +kernel
theorem dX6_sheet_52 : decode cX6_sheet 52 = .ok (.iload_n 3, 1) := by decide +kernel
theorem dX6_sheet_53 : decode cX6_sheet 53 = .ok (.iastore, 1) := by decide +kernel
theorem dX6_sheet_54 : decode cX6_sheet 54 = .ok (.iconst 0, 1) := by decide +kernel
theorem dX6_sheet_55 : decode cX6_sheet 55 = .ok (.istore 4, 2) := by decide +kernel
theorem dX6_sheet_57 : decode cX6_sheet 57 = .ok (.iload 4, 2) := by decide +kernel
theorem dX6_sheet_59 : decode cX6_sheet 59 = .ok (.bipush 60, 2) := by decide +kernel
theorem dX6_sheet_61 : decode cX6_sheet 61 = .ok (.if_icmp .ge 22, 3) := by decide +kernel
theorem dX6_sheet_64 : decode cX6_sheet 64 = .ok (.aload_n 0, 1) := by decide +kernel
theorem dX6_sheet_65 : decode cX6_sheet 65 = .ok (.getfield 16, 3) := by decide +kernel
theorem dX6_sheet_68 : decode cX6_sheet 68 = .ok (.bipush 60, 2) := by decide +kernel
theorem dX6_sheet_70 : decode cX6_sheet 70 = .ok (.iload_n 1, 1) := by decide +kernel
theorem dX6_sheet_71 : decode cX6_sheet 71 = .ok (.imul, 1) := by decide +kernel
theorem dX6_sheet_72 : decode cX6_sheet 72 = .ok (.iload 4, 2) := by decide +kernel
theorem dX6_sheet_74 : decode cX6_sheet 74 = .ok (.iadd, 1) := by decide +kernel
theorem dX6_sheet_75 : decode cX6_sheet 75 = .ok (.iconst 0, 1) := by decide +kernel
theorem dX6_sheet_76 : decode cX6_sheet 76 = .ok (.iastore, 1) := by decide +kernel
theorem dX6_sheet_77 : decode cX6_sheet 77 = .ok (.iinc 4 1, 3) := by decide +kernel
theorem dX6_sheet_80 : decode cX6_sheet 80 = .ok (.goto (-23), 3) := by decide +kernel
theorem dX6_sheet_83 : decode cX6_sheet 83 = .ok (.iconst 1, 1) := by decide +kernel
theorem dX6_sheet_84 : decode cX6_sheet 84 = .ok (.ireturn, 1) := by decide +kernel
theorem dX6_lose_0 : decode cX6_lose 0 = .ok (.iload_n 1, 1) := by decide +kernel
theorem dX6_lose_1 : decode cX6_lose 1 = .ok (.invokestatic 99, 3) := by decide +kernel
theorem dX6_lose_4 : decode cX6_lose 4 = .ok (.ifCond .ne 5, 3) := by decide +kernel
theorem dX6_lose_7 : decode cX6_lose 7 = .ok (.iconst (-1), 1) := by decide +kernel
theorem dX6_lose_8 : decode cX6_lose 8 = .ok (.ireturn, 1) := by decide +kernel
theorem dX6_lose_9 : decode cX6_lose 9 = .ok (.aload_n 0, 1) := by decide +kernel
theorem dX6_lose_10 : decode cX6_lose 10 = .ok (.getfield 9, 3) := by decide +kernel
theorem dX6_lose_13 : decode cX6_lose 13 = .ok (.iload_n 1, 1) := by decide +kernel
theorem dX6_lose_14 : decode cX6_lose 14 = .ok (.iaload, 1) := by decide +kernel
theorem dX6_lose_15 : decode cX6_lose 15 = .ok (.bipush (-9), 2) := by decide +kernel
theorem dX6_lose_17 : decode cX6_lose 17 = .ok (.if_icmp .ne 7, 3) := by decide +kernel
theorem dX6_lose_20 : decode cX6_lose 20 = .ok (.iconst 0, 1) := by decide +kernel
theorem dX6_lose_21 : decode cX6_lose 21 = .ok (.goto 4, 3) := by decide +kernel
theorem dX6_lose_24 : decode cX6_lose 24 = .ok (.iconst 1, 1) := by decide +kernel
theorem dX6_lose_25 : decode cX6_lose 25 = .ok (.istore_n 2, 1) := by decide +kernel
theorem dX6_lose_26 : decode cX6_lose 26 = .ok (.aload_n 0, 1) := by decide +kernel
theorem dX6_lose_27 : decode cX6_lose 27 = .ok (.getfield 9, 3) := by decide +kernel
theorem dX6_lose_30 : decode cX6_lose 30 = .ok (.iload_n 1, 1) := by decide +kernel
theorem dX6_lose_31 : decode cX6_lose 31 = .ok (.bipush (-9), 2) := by decide +kernel
theorem dX6_lose_33 : decode cX6_lose 33 = .ok (.iastore, 1) := by decide +kernel
theorem dX6_lose_34 : decode cX6_lose 34 = .ok (.iload_n 2, 1) := by decide +kernel
theorem dX6_lose_35 : decode cX6_lose 35 = .ok (.ireturn, 1) := by decide +kernel
theorem dX6_put_0 : decode cX6_put 0 = .ok (.aload_n 0, 1) := by decide +kernel
theorem dX6_put_1 : decode cX6_put 1 = .ok (.iconst 0, 1) := by decide +kernel
theorem dX6_put_2 : decode cX6_put 2 = .ok (.putfield 80, 3) := by decide +kernel
theorem dX6_put_5 : decode cX6_put 5 = .ok (.iload_n 1, 1) := by decide +kernel
theorem dX6_put_6 : decode cX6_put 6 = .ok (.invokestatic 99, 3) := by decide +kernel
theorem dX6_put_9 : decode cX6_put 9 = .ok (.ifCond .ne 5, 3) := by decide +kernel
theorem dX6_put_12 : decode cX6_put 12 = .ok (.iconst (-1), 1) := by decide +kernel
theorem dX6_put_13 : decode cX6_put 13 = .ok (.ireturn, 1) := by decide +kernel
theorem dX6_put_14 : decode cX6_put 14 = .ok (.aload_n 0, 1) := by decide +kernel
theorem dX6_put_15 : decode cX6_put 15 = .ok (.getfield 9, 3) := by decide +kernel
theorem dX6_put_18 : decode cX6_put 18 = .ok (.iload_n 1, 1) := by decide +kernel
theorem dX6_put_19 : decode cX6_put 19 = .ok (.iaload, 1) := by decide +kernel
theorem dX6_put_20 : decode cX6_put 20 = .ok (.bipush (-9), 2) := by decide +kernel
theorem dX6_put_22 : decode cX6_put 22 = .ok (.if_icmp .ne 9, 3) := by decide +kernel
theorem dX6_put_25 : decode cX6_put 25 = .ok (.aload_n 0, 1) := by decide +kernel
theorem dX6_put_26 : decode cX6_put 26 = .ok (.iconst 1, 1) := by decide +kernel
theorem dX6_put_27 : decode cX6_put 27 = .ok (.invokevirtual 110, 3) := by decide +kernel
theorem dX6_put_30 : decode cX6_put 30 = .ok (.ireturn, 1) := by decide +kernel
theorem dX6_put_31 : decode cX6_put 31 = .ok (.iload_n 2, 1) := by decide +kernel
theorem dX6_put_32 : decode cX6_put 32 = .ok (.iconst 0, 1) := by decide +kernel
theorem dX6_put_33 : decode cX6_put 33 = .ok (.aload_n 0, 1) := by decide +kernel
theorem dX6_put_34 : decode cX6_put 34 = .ok (.getfield 13, 3) := by decide +kernel
theorem dX6_put_37 : decode cX6_put 37 = .ok (.iload_n 1, 1) := by decide +kernel
theorem dX6_put_38 : decode cX6_put 38 = .ok (.iaload, 1) := by decide +kernel
theorem dX6_put_39 : decode cX6_put 39 = .ok (.iconst 1, 1) := by decide +kernel
theorem dX6_put_40 : decode cX6_put 40 = .ok (.isub, 1) := by decide +kernel
theorem dX6_put_41 : decode cX6_put 41 = .ok (.invokestatic 86, 3) := by decide +kernel
theorem dX6_put_44 : decode cX6_put 44 = .ok (.ifCond .ne 9, 3) := by decide +kernel
theorem dX6_put_47 : decode cX6_put 47 = .ok (.aload_n 0, 1) := by decide +kernel
theorem dX6_put_48 : decode cX6_put 48 = .ok (.iconst 3, 1) := by decide +kernel
theorem dX6_put_49 : decode cX6_put 49 = .ok (.invokevirtual 110, 3) := by decide +kernel
theorem dX6_put_52 : decode cX6_put 52 = .ok (.ireturn, 1) := by decide +kernel
theorem dX6_put_53 : decode cX6_put 53 = .ok (.aload_n 0, 1) := by decide +kernel
theorem dX6_put_54 : decode cX6_put 54 = .ok (.getfield 16, 3) := by decide +kernel
theorem dX6_put_57 : decode cX6_put 57 = .ok (.bipush 60, 2) := by decide +kernel
theorem dX6_put_59 : decode cX6_put 59 = .ok (.iload_n 1, 1) := by decide +kernel
theorem dX6_put_60 : decode cX6_put 60 = .ok (.imul, 1) := by decide +kernel
theorem dX6_put_61 : decode cX6_put 61 = .ok (.iload_n 2, 1) := by decide +kernel
theorem dX6_put_62 : decode cX6_put 62 = .ok (.iadd, 1) := by decide +kernel
theorem dX6_put_63 : decode cX6_put 63 = .ok (.aload_n 0, 1) := by decide +kernel
theorem dX6_put_64 : decode cX6_put 64 = .ok (.getfield 9, 3) := by decide +kernel
theorem dX6_put_67 : decode cX6_put 67 = .ok (.iload_n 1, 1) := by decide +kernel
theorem dX6_put_68 : decode cX6_put 68 = .ok (.iaload, 1) := by decide +kernel
theorem dX6_put_69 : decode cX6_put 69 = .ok (.ifCond .ne 8, 3) := by decide +kernel
theorem dX6_put_72 : decode cX6_put 72 = .ok (.iload_n 3, 1) := by decide +kernel
theorem dX6_put_73 : decode cX6_put 73 = .ok (.i2b, 1) := by decide +kernel
theorem dX6_put_74 : decode cX6_put 74 = .ok (.goto 19, 3) := by decide +kernel
theorem dX6_put_77 : decode cX6_put 77 = .ok (.aload_n 0, 1) := by decide +kernel
theorem dX6_put_78 : decode cX6_put 78 = .ok (.getfield 9, 3) := by decide +kernel
theorem dX6_put_81 : decode cX6_put 81 = .ok (.iload_n 1, 1) := by decide +kernel
theorem dX6_put_82 : decode cX6_put 82 = .ok (.iaload, 1) := by decide +kernel
theorem dX6_put_83 : decode cX6_put 83 = .ok (.iconst 1, 1) := by decide +kernel
theorem dX6_put_84 : decode cX6_put 84 = .ok (.if_icmp .ne 8, 3) := by decide +kernel
theorem dX6_put_87 : decode cX6_put 87 = .ok (.iload_n 3, 1) := by decide +kernel
theorem dX6_put_88 : decode cX6_put 88 = .ok (.i2s, 1) := by decide +kernel
theorem dX6_put_89 : decode cX6_put 89 = .ok (.goto 4, 3) := by decide +kernel
theorem dX6_put_92 : decode cX6_put 92 = .ok (.iload_n 3, 1) := by decide +kernel
theorem dX6_put_93 : decode cX6_put 93 = .ok (.iastore, 1) := by decide +kernel
theorem dX6_put_94 : decode cX6_put 94 = .ok (.iconst 1, 1) := by decide +kernel
theorem dX6_put_95 : decode cX6_put 95 = .ok (.ireturn, 1) := by decide +kernel
theorem dX6_cell_0 : decode cX6_cell 0 = .ok (.aload_n 0, 1) := by decide +kernel
theorem dX6_cell_1 : decode cX6_cell 1 = .ok (.iconst 0, 1) := by decide +kernel
theorem dX6_cell_2 : decode cX6_cell 2 = .ok (.putfield 80, 3) := by decide +kernel
theorem dX6_cell_5 : decode cX6_cell 5 = .ok (.iload_n 1, 1) := by decide +kernel
theorem dX6_cell_6 : decode cX6_cell 6 = .ok (.invokestatic 99, 3) := by decide +kernel
theorem dX6_cell_9 : decode cX6_cell 9 = .ok (.ifCond .eq 10, 3) := by decide +kernel
theorem dX6_cell_12 : decode cX6_cell 12 = .ok (.iload_n 3, 1) := by decide +kernel
theorem dX6_cell_13 : decode cX6_cell 13 = .ok (.invokestatic 103, 3) := by decide +kernel
theorem dX6_cell_16 : decode cX6_cell 16 = .ok (.ifCond .ne 7, 3) := by decide +kernel
theorem dX6_cell_19 : decode cX6_cell 19 = .ok (.ldc2_w 84, 3) := by decide +kernel
theorem dX6_cell_22 : decode cX6_cell 22 = .ok (.lreturn, 1) := by decide +kernel
theorem dX6_cell_23 : decode cX6_cell 23 = .ok (.aload_n 0, 1) := by decide +kernel
theorem dX6_cell_24 : decode cX6_cell 24 = .ok (.getfield 9, 3) := by decide +kernel
theorem dX6_cell_27 : decode cX6_cell 27 = .ok (.iload_n 1, 1) := by decide +kernel
theorem dX6_cell_28 : decode cX6_cell 28 = .ok (.iaload, 1) := by decide +kernel
theorem dX6_cell_29 : decode cX6_cell 29 = .ok (.bipush (-9), 2) := by decide +kernel
theorem dX6_cell_31 : decode cX6_cell 31 = .ok (.if_icmp .eq 19, 3) := by decide +kernel
theorem dX6_cell_34 : decode cX6_cell 34 = .ok (.aload_n 0, 1) := by decide +kernel
theorem dX6_cell_35 : decode cX6_cell 35 = .ok (.getfield 9, 3) := by decide +kernel
theorem dX6_cell_38 : decode cX6_cell 38 = .ok (.iload_n 1, 1) := by decide +kernel
theorem dX6_cell_39 : decode cX6_cell 39 = .ok (.iaload, 1) := by decide +kernel
theorem dX6_cell_40 : decode cX6_cell 40 = .ok (.iload_n 3, 1) := by decide +kernel
theorem dX6_cell_41 : decode cX6_cell 41 = .ok (.if_icmp .eq 9, 3) := by decide +kernel
theorem dX6_cell_44 : decode cX6_cell 44 = .ok (.aload_n 0, 1) := by decide +kernel
theorem dX6_cell_45 : decode cX6_cell 45 = .ok (.iconst 2, 1) := by decide +kernel
theorem dX6_cell_46 : decode cX6_cell 46 = .ok (.invokevirtual 243, 3) := by decide +kernel
theorem dX6_cell_49 : decode cX6_cell 49 = .ok (.lreturn, 1) := by decide +kernel
theorem dX6_cell_50 : decode cX6_cell 50 = .ok (.aload_n 0, 1) := by decide +kernel
theorem dX6_cell_51 : decode cX6_cell 51 = .ok (.getfield 9, 3) := by decide +kernel
theorem dX6_cell_54 : decode cX6_cell 54 = .ok (.iload_n 1, 1) := by decide +kernel
theorem dX6_cell_55 : decode cX6_cell 55 = .ok (.iaload, 1) := by decide +kernel
theorem dX6_cell_56 : decode cX6_cell 56 = .ok (.bipush (-9), 2) := by decide +kernel
theorem dX6_cell_58 : decode cX6_cell 58 = .ok (.if_icmp .ne 9, 3) := by decide +kernel
theorem dX6_cell_61 : decode cX6_cell 61 = .ok (.aload_n 0, 1) := by decide +kernel
theorem dX6_cell_62 : decode cX6_cell 62 = .ok (.iconst 1, 1) := by decide +kernel
theorem dX6_cell_63 : decode cX6_cell 63 = .ok (.invokevirtual 243, 3) := by decide +kernel
theorem dX6_cell_66 : decode cX6_cell 66 = .ok (.lreturn, 1) := by decide +kernel
theorem dX6_cell_67 : decode cX6_cell 67 = .ok (.iload_n 2, 1) := by decide +kernel
theorem dX6_cell_68 : decode cX6_cell 68 = .ok (.iconst 0, 1) := by decide +kernel
theorem dX6_cell_69 : decode cX6_cell 69 = .ok (.aload_n 0, 1) := by decide +kernel
theorem dX6_cell_70 : decode cX6_cell 70 = .ok (.getfield 13, 3) := by decide +kernel
theorem dX6_cell_73 : decode cX6_cell 73 = .ok (.iload_n 1, 1) := by decide +kernel
theorem dX6_cell_74 : decode cX6_cell 74 = .ok (.iaload, 1) := by decide +kernel
theorem dX6_cell_75 : decode cX6_cell 75 = .ok (.iconst 1, 1) := by decide +kernel
theorem dX6_cell_76 : decode cX6_cell 76 = .ok (.isub, 1) := by decide +kernel
theorem dX6_cell_77 : decode cX6_cell 77 = .ok (.invokestatic 86, 3) := by decide +kernel
theorem dX6_cell_80 : decode cX6_cell 80 = .ok (.ifCond .ne 9, 3) := by decide +kernel
theorem dX6_cell_83 : decode cX6_cell 83 = .ok (.aload_n 0, 1) := by decide +kernel
theorem dX6_cell_84 : decode cX6_cell 84 = .ok (.iconst 3, 1) := by decide +kernel
theorem dX6_cell_85 : decode cX6_cell 85 = .ok (.invokevirtual 243, 3) := by decide +kernel
theorem dX6_cell_88 : decode cX6_cell 88 = .ok (.lreturn, 1) := by decide +kernel
theorem dX6_cell_89 : decode cX6_cell 89 = .ok (.aload_n 0, 1) := by decide +kernel
theorem dX6_cell_90 : decode cX6_cell 90 = .ok (.getfield 16, 3) := by decide +kernel
theorem dX6_cell_93 : decode cX6_cell 93 = .ok (.bipush 60, 2) := by decide +kernel
theorem dX6_cell_95 : decode cX6_cell 95 = .ok (.iload_n 1, 1) := by decide +kernel
theorem dX6_cell_96 : decode cX6_cell 96 = .ok (.imul, 1) := by decide +kernel
theorem dX6_cell_97 : decode cX6_cell 97 = .ok (.iload_n 2, 1) := by decide +kernel
theorem dX6_cell_98 : decode cX6_cell 98 = .ok (.iadd, 1) := by decide +kernel
theorem dX6_cell_99 : decode cX6_cell 99 = .ok (.iaload, 1) := by decide +kernel
theorem dX6_cell_100 : decode cX6_cell 100 = .ok (.i2l, 1) := by decide +kernel
theorem dX6_cell_101 : decode cX6_cell 101 = .ok (.lreturn, 1) := by decide +kernel
theorem dX6_copy_0 : decode cX6_copy 0 = .ok (.aload_n 0, 1) := by decide +kernel
theorem dX6_copy_1 : decode cX6_copy 1 = .ok (.iconst 0, 1) := by decide +kernel
theorem dX6_copy_2 : decode cX6_copy 2 = .ok (.putfield 80, 3) := by decide +kernel
theorem dX6_copy_5 : decode cX6_copy 5 = .ok (.iload_n 1, 1) := by decide +kernel
theorem dX6_copy_6 : decode cX6_copy 6 = .ok (.invokestatic 99, 3) := by decide +kernel
theorem dX6_copy_9 : decode cX6_copy 9 = .ok (.ifCond .eq 10, 3) := by decide +kernel
theorem dX6_copy_12 : decode cX6_copy 12 = .ok (.iload_n 3, 1) := by decide +kernel
theorem dX6_copy_13 : decode cX6_copy 13 = .ok (.invokestatic 99, 3) := by decide +kernel
theorem dX6_copy_16 : decode cX6_copy 16 = .ok (.ifCond .ne 5, 3) := by decide +kernel
theorem dX6_copy_19 : decode cX6_copy 19 = .ok (.iconst (-1), 1) := by decide +kernel
theorem dX6_copy_20 : decode cX6_copy 20 = .ok (.ireturn, 1) := by decide +kernel
theorem dX6_copy_21 : decode cX6_copy 21 = .ok (.aload_n 0, 1) := by decide +kernel
theorem dX6_copy_22 : decode cX6_copy 22 = .ok (.getfield 9, 3) := by decide +kernel
theorem dX6_copy_25 : decode cX6_copy 25 = .ok (.iload_n 1, 1) := by decide +kernel
theorem dX6_copy_26 : decode cX6_copy 26 = .ok (.iaload, 1) := by decide +kernel
theorem dX6_copy_27 : decode cX6_copy 27 = .ok (.bipush (-9), 2) := by decide +kernel
theorem dX6_copy_29 : decode cX6_copy 29 = .ok (.if_icmp .eq 14, 3) := by decide +kernel
theorem dX6_copy_32 : decode cX6_copy 32 = .ok (.aload_n 0, 1) := by decide +kernel
theorem dX6_copy_33 : decode cX6_copy 33 = .ok (.getfield 9, 3) := by decide +kernel
theorem dX6_copy_36 : decode cX6_copy 36 = .ok (.iload_n 3, 1) := by decide +kernel
theorem dX6_copy_37 : decode cX6_copy 37 = .ok (.iaload, 1) := by decide +kernel
theorem dX6_copy_38 : decode cX6_copy 38 = .ok (.bipush (-9), 2) := by decide +kernel
theorem dX6_copy_40 : decode cX6_copy 40 = .ok (.if_icmp .ne 9, 3) := by decide +kernel
theorem dX6_copy_43 : decode cX6_copy 43 = .ok (.aload_n 0, 1) := by decide +kernel
theorem dX6_copy_44 : decode cX6_copy 44 = .ok (.iconst 1, 1) := by decide +kernel
theorem dX6_copy_45 : decode cX6_copy 45 = .ok (.invokevirtual 110, 3) := by decide +kernel
theorem dX6_copy_48 : decode cX6_copy 48 = .ok (.ireturn, 1) := by decide +kernel
theorem dX6_copy_49 : decode cX6_copy 49 = .ok (.aload_n 0, 1) := by decide +kernel
theorem dX6_copy_50 : decode cX6_copy 50 = .ok (.getfield 9, 3) := by decide +kernel
theorem dX6_copy_53 : decode cX6_copy 53 = .ok (.iload_n 1, 1) := by decide +kernel
theorem dX6_copy_54 : decode cX6_copy 54 = .ok (.iaload, 1) := by decide +kernel
theorem dX6_copy_55 : decode cX6_copy 55 = .ok (.aload_n 0, 1) := by decide +kernel
theorem dX6_copy_56 : decode cX6_copy 56 = .ok (.getfield 9, 3) := by decide +kernel
theorem dX6_copy_59 : decode cX6_copy 59 = .ok (.iload_n 3, 1) := by decide +kernel
theorem dX6_copy_60 : decode cX6_copy 60 = .ok (.iaload, 1) := by decide +kernel
theorem dX6_copy_61 : decode cX6_copy 61 = .ok (.if_icmp .eq 9, 3) := by decide +kernel
theorem dX6_copy_64 : decode cX6_copy 64 = .ok (.aload_n 0, 1) := by decide +kernel
theorem dX6_copy_65 : decode cX6_copy 65 = .ok (.iconst 2, 1) := by decide +kernel
theorem dX6_copy_66 : decode cX6_copy 66 = .ok (.invokevirtual 110, 3) := by decide +kernel
theorem dX6_copy_69 : decode cX6_copy 69 = .ok (.ireturn, 1) := by decide +kernel
theorem dX6_copy_70 : decode cX6_copy 70 = .ok (.iload_n 2, 1) := by decide +kernel
theorem dX6_copy_71 : decode cX6_copy 71 = .ok (.ifCond .lt 38, 3) := by decide +kernel
theorem dX6_copy_74 : decode cX6_copy 74 = .ok (.iload 4, 2) := by decide +kernel
theorem dX6_copy_76 : decode cX6_copy 76 = .ok (.ifCond .lt 33, 3) := by decide +kernel
theorem dX6_copy_79 : decode cX6_copy 79 = .ok (.iload 5, 2) := by decide +kernel
theorem dX6_copy_81 : decode cX6_copy 81 = .ok (.ifCond .lt 28, 3) := by decide +kernel
theorem dX6_copy_84 : decode cX6_copy 84 = .ok (.iload_n 2, 1) := by decide +kernel
theorem dX6_copy_85 : decode cX6_copy 85 = .ok (.aload_n 0, 1) := by decide +kernel
theorem dX6_copy_86 : decode cX6_copy 86 = .ok (.getfield 13, 3) := by decide +kernel
theorem dX6_copy_89 : decode cX6_copy 89 = .ok (.iload_n 1, 1) := by decide +kernel
theorem dX6_copy_90 : decode cX6_copy 90 = .ok (.iaload, 1) := by decide +kernel
theorem dX6_copy_91 : decode cX6_copy 91 = .ok (.if_icmp .gt 18, 3) := by decide +kernel
theorem dX6_copy_94 : decode cX6_copy 94 = .ok (.iload 4, 2) := by decide +kernel
theorem dX6_copy_96 : decode cX6_copy 96 = .ok (.aload_n 0, 1) := by decide +kernel
theorem dX6_copy_97 : decode cX6_copy 97 = .ok (.getfield 13, 3) := by decide +kernel
theorem dX6_copy_100 : decode cX6_copy 100 = .ok (.iload_n 3, 1) := by decide +kernel
theorem dX6_copy_101 : decode cX6_copy 101 = .ok (.iaload, 1) := by decide +kernel
theorem dX6_copy_102 : decode cX6_copy 102 = .ok (.if_icmp .gt 7, 3) := by decide +kernel
theorem dX6_copy_105 : decode cX6_copy 105 = .ok (.iconst 1, 1) := by decide +kernel
theorem dX6_copy_106 : decode cX6_copy 106 = .ok (.goto 4, 3) := by decide +kernel
theorem dX6_copy_109 : decode cX6_copy 109 = .ok (.iconst 0, 1) := by decide +kernel
theorem dX6_copy_110 : decode cX6_copy 110 = .ok (.istore 6, 2) := by decide +kernel
theorem dX6_copy_112 : decode cX6_copy 112 = .ok (.iload 6, 2) := by decide +kernel
theorem dX6_copy_114 : decode cX6_copy 114 = .ok (.ifCond .eq 30, 3) := by decide +kernel
theorem dX6_copy_117 : decode cX6_copy 117 = .ok (.iload 5, 2) := by decide +kernel
theorem dX6_copy_119 : decode cX6_copy 119 = .ok (.aload_n 0, 1) := by decide +kernel
theorem dX6_copy_120 : decode cX6_copy 120 = .ok (.getfield 13, 3) := by decide +kernel
theorem dX6_copy_123 : decode cX6_copy 123 = .ok (.iload_n 1, 1) := by decide +kernel
theorem dX6_copy_124 : decode cX6_copy 124 = .ok (.iaload, 1) := by decide +kernel
theorem dX6_copy_125 : decode cX6_copy 125 = .ok (.iload_n 2, 1) := by decide +kernel
theorem dX6_copy_126 : decode cX6_copy 126 = .ok (.isub, 1) := by decide +kernel
theorem dX6_copy_127 : decode cX6_copy 127 = .ok (.if_icmp .gt 17, 3) := by decide +kernel
theorem dX6_copy_130 : decode cX6_copy 130 = .ok (.iload 5, 2) := by decide +kernel
theorem dX6_copy_132 : decode cX6_copy 132 = .ok (.aload_n 0, 1) := by decide +kernel
theorem dX6_copy_133 : decode cX6_copy 133 = .ok (.getfield 13, 3) := by decide +kernel
theorem dX6_copy_136 : decode cX6_copy 136 = .ok (.iload_n 3, 1) := by decide +kernel
theorem dX6_copy_137 : decode cX6_copy 137 = .ok (.iaload, 1) := by decide +kernel
theorem dX6_copy_138 : decode cX6_copy 138 = .ok (.iload 4, 2) := by decide +kernel
theorem dX6_copy_140 : decode cX6_copy 140 = .ok (.isub, 1) := by decide +kernel
theorem dX6_copy_141 : decode cX6_copy 141 = .ok (.if_icmp .le 9, 3) := by decide +kernel
theorem dX6_copy_144 : decode cX6_copy 144 = .ok (.aload_n 0, 1) := by decide +kernel
theorem dX6_copy_145 : decode cX6_copy 145 = .ok (.iconst 3, 1) := by decide +kernel
theorem dX6_copy_146 : decode cX6_copy 146 = .ok (.invokevirtual 110, 3) := by decide +kernel
theorem dX6_copy_149 : decode cX6_copy 149 = .ok (.ireturn, 1) := by decide +kernel
theorem dX6_copy_150 : decode cX6_copy 150 = .ok (.iload_n 2, 1) := by decide +kernel
theorem dX6_copy_151 : decode cX6_copy 151 = .ok (.iload 4, 2) := by decide +kernel
theorem dX6_copy_153 : decode cX6_copy 153 = .ok (.if_icmp .ge 7, 3) := by decide +kernel
theorem dX6_copy_156 : decode cX6_copy 156 = .ok (.iconst 1, 1) := by decide +kernel
theorem dX6_copy_157 : decode cX6_copy 157 = .ok (.goto 4, 3) := by decide +kernel
theorem dX6_copy_160 : decode cX6_copy 160 = .ok (.iconst 0, 1) := by decide +kernel
theorem dX6_copy_161 : decode cX6_copy 161 = .ok (.istore 7, 2) := by decide +kernel
theorem dX6_copy_163 : decode cX6_copy 163 = .ok (.iconst 0, 1) := by decide +kernel
theorem dX6_copy_164 : decode cX6_copy 164 = .ok (.istore 8, 2) := by decide +kernel
theorem dX6_copy_166 : decode cX6_copy 166 = .ok (.iload 8, 2) := by decide +kernel
theorem dX6_copy_168 : decode cX6_copy 168 = .ok (.iload 5, 2) := by decide +kernel
theorem dX6_copy_170 : decode cX6_copy 170 = .ok (.if_icmp .ge 57, 3) := by decide +kernel
theorem dX6_copy_173 : decode cX6_copy 173 = .ok (.iload 7, 2) := by decide +kernel
theorem dX6_copy_175 : decode cX6_copy 175 = .ok (.ifCond .eq 13, 3) := by decide +kernel
theorem dX6_copy_178 : decode cX6_copy 178 = .ok (.iload 5, 2) := by decide +kernel
theorem dX6_copy_180 : decode cX6_copy 180 = .ok (.iconst 1, 1) := by decide +kernel
theorem dX6_copy_181 : decode cX6_copy 181 = .ok (.isub, 1) := by decide +kernel
theorem dX6_copy_182 : decode cX6_copy 182 = .ok (.iload 8, 2) := by decide +kernel
theorem dX6_copy_184 : decode cX6_copy 184 = .ok (.isub, 1) := by decide +kernel
theorem dX6_copy_185 : decode cX6_copy 185 = .ok (.goto 5, 3) := by decide +kernel
theorem dX6_copy_188 : decode cX6_copy 188 = .ok (.iload 8, 2) := by decide +kernel
theorem dX6_copy_190 : decode cX6_copy 190 = .ok (.istore 9, 2) := by decide +kernel
theorem dX6_copy_192 : decode cX6_copy 192 = .ok (.aload_n 0, 1) := by decide +kernel
theorem dX6_copy_193 : decode cX6_copy 193 = .ok (.getfield 16, 3) := by decide +kernel
theorem dX6_copy_196 : decode cX6_copy 196 = .ok (.bipush 60, 2) := by decide +kernel
theorem dX6_copy_198 : decode cX6_copy 198 = .ok (.iload_n 3, 1) := by decide +kernel
theorem dX6_copy_199 : decode cX6_copy 199 = .ok (.imul, 1) := by decide +kernel
theorem dX6_copy_200 : decode cX6_copy 200 = .ok (.iload 4, 2) := by decide +kernel
theorem dX6_copy_202 : decode cX6_copy 202 = .ok (.iadd, 1) := by decide +kernel
theorem dX6_copy_203 : decode cX6_copy 203 = .ok (.iload 9, 2) := by decide +kernel
theorem dX6_copy_205 : decode cX6_copy 205 = .ok (.iadd, 1) := by decide +kernel
theorem dX6_copy_206 : decode cX6_copy 206 = .ok (.aload_n 0, 1) := by decide +kernel
theorem dX6_copy_207 : decode cX6_copy 207 = .ok (.getfield 16, 3) := by decide +kernel
theorem dX6_copy_210 : decode cX6_copy 210 = .ok (.bipush 60, 2) := by decide +kernel
theorem dX6_copy_212 : decode cX6_copy 212 = .ok (.iload_n 1, 1) := by decide +kernel
theorem dX6_copy_213 : decode cX6_copy 213 = .ok (.imul, 1) := by decide +kernel
theorem dX6_copy_214 : decode cX6_copy 214 = .ok (.iload_n 2, 1) := by decide +kernel
theorem dX6_copy_215 : decode cX6_copy 215 = .ok (.iadd, 1) := by decide +kernel
theorem dX6_copy_216 : decode cX6_copy 216 = .ok (.iload 9, 2) := by decide +kernel
theorem dX6_copy_218 : decode cX6_copy 218 = .ok (.iadd, 1) := by decide +kernel
theorem dX6_copy_219 : decode cX6_copy 219 = .ok (.iaload, 1) := by decide +kernel
theorem dX6_copy_220 : decode cX6_copy 220 = .ok (.iastore, 1) := by decide +kernel
theorem dX6_copy_221 : decode cX6_copy 221 = .ok (.iinc 8 1, 3) := by decide +kernel
theorem dX6_copy_224 : decode cX6_copy 224 = .ok (.goto (-58), 3) := by decide +kernel
theorem dX6_copy_227 : decode cX6_copy 227 = .ok (.iload 5, 2) := by decide +kernel
theorem dX6_copy_229 : decode cX6_copy 229 = .ok (.ireturn, 1) := by decide +kernel
theorem dX6_begins_0 : decode cX6_begins 0 = .ok (.aload_n 0, 1) := by decide +kernel
theorem dX6_begins_1 : decode cX6_begins 1 = .ok (.bipush 31, 2) := by decide +kernel
theorem dX6_begins_3 : decode cX6_begins 3 = .ok (.aload_n 0, 1) := by decide +kernel
theorem dX6_begins_4 : decode cX6_begins 4 = .ok (.getfield 247, 3) := by decide +kernel
theorem dX6_begins_7 : decode cX6_begins 7 = .ok (.imul, 1) := by decide +kernel
theorem dX6_begins_8 : decode cX6_begins 8 = .ok (.iload_n 1, 1) := by decide +kernel
theorem dX6_begins_9 : decode cX6_begins 9 = .ok (.iadd, 1) := by decide +kernel
theorem dX6_begins_10 : decode cX6_begins 10 = .ok (.putfield 247, 3) := by decide +kernel
theorem dX6_begins_13 : decode cX6_begins 13 = .ok (.return_, 1) := by decide +kernel
theorem dX6_tell_0 : decode cX6_tell 0 = .ok (.aload_n 0, 1) := by decide +kernel
theorem dX6_tell_1 : decode cX6_tell 1 = .ok (.iload_n 1, 1) := by decide +kernel
theorem dX6_tell_2 : decode cX6_tell 2 = .ok (.invokevirtual 156, 3) := by decide +kernel
theorem dX6_tell_5 : decode cX6_tell 5 = .ok (.ifCond .ne 5, 3) := by decide +kernel
theorem dX6_tell_8 : decode cX6_tell 8 = .ok (.iconst (-1), 1) := by decide +kernel
theorem dX6_tell_9 : decode cX6_tell 9 = .ok (.ireturn, 1) := by decide +kernel
theorem dX6_tell_10 : decode cX6_tell 10 = .ok (.aload_n 0, 1) := by decide +kernel
theorem dX6_tell_11 : decode cX6_tell 11 = .ok (.getfield 38, 3) := by decide +kernel
theorem dX6_tell_14 : decode cX6_tell 14 = .ok (.iload_n 1, 1) := by decide +kernel
theorem dX6_tell_15 : decode cX6_tell 15 = .ok (.iaload, 1) := by decide +kernel
theorem dX6_tell_16 : decode cX6_tell 16 = .ok (.istore_n 2, 1) := by decide +kernel
theorem dX6_tell_17 : decode cX6_tell 17 = .ok (.aload_n 0, 1) := by decide +kernel
theorem dX6_tell_18 : decode cX6_tell 18 = .ok (.getfield 29, 3) := by decide +kernel
theorem dX6_tell_21 : decode cX6_tell 21 = .ok (.iload_n 1, 1) := by decide +kernel
theorem dX6_tell_22 : decode cX6_tell 22 = .ok (.iaload, 1) := by decide +kernel
theorem dX6_tell_23 : decode cX6_tell 23 = .ok (.lookupswitch 67 #[(1, 25), (2, 40)], 25) := by decide +kernel
theorem dX6_tell_48 : decode cX6_tell 48 = .ok (.aload_n 0, 1) := by decide +kernel
theorem dX6_tell_49 : decode cX6_tell 49 = .ok (.iconst 2, 1) := by decide +kernel
theorem dX6_tell_50 : decode cX6_tell 50 = .ok (.invokevirtual 250, 3) := by decide +kernel
theorem dX6_tell_53 : decode cX6_tell 53 = .ok (.aload_n 0, 1) := by decide +kernel
theorem dX6_tell_54 : decode cX6_tell 54 = .ok (.iconst 1, 1) := by decide +kernel
theorem dX6_tell_55 : decode cX6_tell 55 = .ok (.invokevirtual 250, 3) := by decide +kernel
theorem dX6_tell_58 : decode cX6_tell 58 = .ok (.iload_n 2, 1) := by decide +kernel
theorem dX6_tell_59 : decode cX6_tell 59 = .ok (.bipush 100, 2) := by decide +kernel
theorem dX6_tell_61 : decode cX6_tell 61 = .ok (.iadd, 1) := by decide +kernel
theorem dX6_tell_62 : decode cX6_tell 62 = .ok (.ireturn, 1) := by decide +kernel
theorem dX6_tell_63 : decode cX6_tell 63 = .ok (.aload_n 0, 1) := by decide +kernel
theorem dX6_tell_64 : decode cX6_tell 64 = .ok (.iconst 3, 1) := by decide +kernel
theorem dX6_tell_65 : decode cX6_tell 65 = .ok (.invokevirtual 250, 3) := by decide +kernel
theorem dX6_tell_68 : decode cX6_tell 68 = .ok (.aload_n 0, 1) := by decide +kernel
theorem dX6_tell_69 : decode cX6_tell 69 = .ok (.iconst 2, 1) := by decide +kernel
theorem dX6_tell_70 : decode cX6_tell 70 = .ok (.invokevirtual 250, 3) := by decide +kernel
theorem dX6_tell_73 : decode cX6_tell 73 = .ok (.aload_n 0, 1) := by decide +kernel
theorem dX6_tell_74 : decode cX6_tell 74 = .ok (.iconst 1, 1) := by decide +kernel
theorem dX6_tell_75 : decode cX6_tell 75 = .ok (.invokevirtual 250, 3) := by decide +kernel
theorem dX6_tell_78 : decode cX6_tell 78 = .ok (.aload_n 0, 1) := by decide +kernel
theorem dX6_tell_79 : decode cX6_tell 79 = .ok (.iconst 1, 1) := by decide +kernel
theorem dX6_tell_80 : decode cX6_tell 80 = .ok (.invokevirtual 250, 3) := by decide +kernel
theorem dX6_tell_83 : decode cX6_tell 83 = .ok (.iconst 2, 1) := by decide +kernel
theorem dX6_tell_84 : decode cX6_tell 84 = .ok (.iload_n 2, 1) := by decide +kernel
theorem dX6_tell_85 : decode cX6_tell 85 = .ok (.imul, 1) := by decide +kernel
theorem dX6_tell_86 : decode cX6_tell 86 = .ok (.bipush 100, 2) := by decide +kernel
theorem dX6_tell_88 : decode cX6_tell 88 = .ok (.iadd, 1) := by decide +kernel
theorem dX6_tell_89 : decode cX6_tell 89 = .ok (.ireturn, 1) := by decide +kernel
theorem dX6_tell_90 : decode cX6_tell 90 = .ok (.aload_n 0, 1) := by decide +kernel
theorem dX6_tell_91 : decode cX6_tell 91 = .ok (.iconst 1, 1) := by decide +kernel
theorem dX6_tell_92 : decode cX6_tell 92 = .ok (.invokevirtual 250, 3) := by decide +kernel
theorem dX6_tell_95 : decode cX6_tell 95 = .ok (.iload_n 2, 1) := by decide +kernel
theorem dX6_tell_96 : decode cX6_tell 96 = .ok (.ireturn, 1) := by decide +kernel
theorem dX6_crow_0 : decode cX6_crow 0 = .ok (.aload_n 0, 1) := by decide +kernel
theorem dX6_crow_1 : decode cX6_crow 1 = .ok (.iload_n 1, 1) := by decide +kernel
theorem dX6_crow_2 : decode cX6_crow 2 = .ok (.invokevirtual 156, 3) := by decide +kernel
theorem dX6_crow_5 : decode cX6_crow 5 = .ok (.ifCond .ne 5, 3) := by decide +kernel
theorem dX6_crow_8 : decode cX6_crow 8 = .ok (.iconst (-1), 1) := by decide +kernel
theorem dX6_crow_9 : decode cX6_crow 9 = .ok (.ireturn, 1) := by decide +kernel
theorem dX6_crow_10 : decode cX6_crow 10 = .ok (.aload_n 0, 1) := by decide +kernel
theorem dX6_crow_11 : decode cX6_crow 11 = .ok (.aload_n 0, 1) := by decide +kernel
theorem dX6_crow_12 : decode cX6_crow 12 = .ok (.getfield 29, 3) := by decide +kernel
theorem dX6_crow_15 : decode cX6_crow 15 = .ok (.iload_n 1, 1) := by decide +kernel
theorem dX6_crow_16 : decode cX6_crow 16 = .ok (.iaload, 1) := by decide +kernel
theorem dX6_crow_17 : decode cX6_crow 17 = .ok (.iconst 2, 1) := by decide +kernel
theorem dX6_crow_18 : decode cX6_crow 18 = .ok (.if_icmp .ne 7, 3) := by decide +kernel
theorem dX6_crow_21 : decode cX6_crow 21 = .ok (.iconst 5, 1) := by decide +kernel
theorem dX6_crow_22 : decode cX6_crow 22 = .ok (.goto 4, 3) := by decide +kernel
theorem dX6_crow_25 : decode cX6_crow 25 = .ok (.iconst 4, 1) := by decide +kernel
theorem dX6_crow_26 : decode cX6_crow 26 = .ok (.invokevirtual 250, 3) := by decide +kernel
theorem dX6_crow_29 : decode cX6_crow 29 = .ok (.aload_n 0, 1) := by decide +kernel
theorem dX6_crow_30 : decode cX6_crow 30 = .ok (.getfield 29, 3) := by decide +kernel
theorem dX6_crow_33 : decode cX6_crow 33 = .ok (.iload_n 1, 1) := by decide +kernel
theorem dX6_crow_34 : decode cX6_crow 34 = .ok (.iaload, 1) := by decide +kernel
theorem dX6_crow_35 : decode cX6_crow 35 = .ok (.iconst 2, 1) := by decide +kernel
theorem dX6_crow_36 : decode cX6_crow 36 = .ok (.if_icmp .ne 8, 3) := by decide +kernel
theorem dX6_crow_39 : decode cX6_crow 39 = .ok (.bipush 70, 2) := by decide +kernel
theorem dX6_crow_41 : decode cX6_crow 41 = .ok (.goto 4, 3) := by decide +kernel
theorem dX6_crow_44 : decode cX6_crow 44 = .ok (.iload_n 1, 1) := by decide +kernel
theorem dX6_crow_45 : decode cX6_crow 45 = .ok (.ireturn, 1) := by decide +kernel
theorem dX6_as_0 : decode cX6_as 0 = .ok (.aload_n 0, 1) := by decide +kernel
theorem dX6_as_1 : decode cX6_as 1 = .ok (.iconst 0, 1) := by decide +kernel
theorem dX6_as_2 : decode cX6_as 2 = .ok (.putfield 80, 3) := by decide +kernel
theorem dX6_as_5 : decode cX6_as 5 = .ok (.aload_n 0, 1) := by decide +kernel
theorem dX6_as_6 : decode cX6_as 6 = .ok (.iload_n 1, 1) := by decide +kernel
theorem dX6_as_7 : decode cX6_as 7 = .ok (.invokevirtual 156, 3) := by decide +kernel
theorem dX6_as_10 : decode cX6_as 10 = .ok (.ifCond .ne 5, 3) := by decide +kernel
theorem dX6_as_13 : decode cX6_as 13 = .ok (.iconst (-1), 1) := by decide +kernel
theorem dX6_as_14 : decode cX6_as 14 = .ok (.ireturn, 1) := by decide +kernel
theorem dX6_as_15 : decode cX6_as 15 = .ok (.iload_n 2, 1) := by decide +kernel
theorem dX6_as_16 : decode cX6_as 16 = .ok (.iconst 0, 1) := by decide +kernel
theorem dX6_as_17 : decode cX6_as 17 = .ok (.iconst 2, 1) := by decide +kernel
theorem dX6_as_18 : decode cX6_as 18 = .ok (.invokestatic 86, 3) := by decide +kernel
theorem dX6_as_21 : decode cX6_as 21 = .ok (.ifCond .ne 6, 3) := by decide +kernel
theorem dX6_as_24 : decode cX6_as 24 = .ok (.bipush (-2), 2) := by decide +kernel
theorem dX6_as_26 : decode cX6_as 26 = .ok (.ireturn, 1) := by decide +kernel
theorem dX6_as_27 : decode cX6_as 27 = .ok (.aload_n 0, 1) := by decide +kernel
theorem dX6_as_28 : decode cX6_as 28 = .ok (.getfield 29, 3) := by decide +kernel
theorem dX6_as_31 : decode cX6_as 31 = .ok (.iload_n 1, 1) := by decide +kernel
theorem dX6_as_32 : decode cX6_as 32 = .ok (.iaload, 1) := by decide +kernel
theorem dX6_as_33 : decode cX6_as 33 = .ok (.iload_n 2, 1) := by decide +kernel
theorem dX6_as_34 : decode cX6_as 34 = .ok (.if_icmp .lt 7, 3) := by decide +kernel
theorem dX6_as_37 : decode cX6_as 37 = .ok (.iconst 1, 1) := by decide +kernel
theorem dX6_as_38 : decode cX6_as 38 = .ok (.goto 8, 3) := by decide +kernel
theorem dX6_as_41 : decode cX6_as 41 = .ok (.aload_n 0, 1) := by decide +kernel
theorem dX6_as_42 : decode cX6_as 42 = .ok (.iconst 2, 1) := by decide +kernel
theorem dX6_as_43 : decode cX6_as 43 = .ok (.invokevirtual 110, 3) := by decide +kernel
theorem dX6_as_46 : decode cX6_as 46 = .ok (.ireturn, 1) := by decide +kernel
theorem dX6_trace_0 : decode cX6_trace 0 = .ok (.aload_n 0, 1) := by decide +kernel
theorem dX6_trace_1 : decode cX6_trace 1 = .ok (.getfield 247, 3) := by decide +kernel
theorem dX6_trace_4 : decode cX6_trace 4 = .ok (.ireturn, 1) := by decide +kernel
theorem dX6_fault_0 : decode cX6_fault 0 = .ok (.aload_n 0, 1) := by decide +kernel
theorem dX6_fault_1 : decode cX6_fault 1 = .ok (.getfield 80, 3) := by decide +kernel
theorem dX6_fault_4 : decode cX6_fault 4 = .ok (.ireturn, 1) := by decide +kernel
theorem dX6_many_0 : decode cX6_many 0 = .ok (.iload_n 1, 1) := by decide +kernel
theorem dX6_many_1 : decode cX6_many 1 = .ok (.tableswitch 60 0 4 #[35, 40, 45, 50, 55], 35) := by decide +kernel
theorem dX6_many_36 : decode cX6_many 36 = .ok (.aload_n 0, 1) := by decide +kernel
theorem dX6_many_37 : decode cX6_many 37 = .ok (.getfield 93, 3) := by decide +kernel
theorem dX6_many_40 : decode cX6_many 40 = .ok (.ireturn, 1) := by decide +kernel
theorem dX6_many_41 : decode cX6_many 41 = .ok (.aload_n 0, 1) := by decide +kernel
theorem dX6_many_42 : decode cX6_many 42 = .ok (.getfield 90, 3) := by decide +kernel
theorem dX6_many_45 : decode cX6_many 45 = .ok (.ireturn, 1) := by decide +kernel
theorem dX6_many_46 : decode cX6_many 46 = .ok (.aload_n 0, 1) := by decide +kernel
theorem dX6_many_47 : decode cX6_many 47 = .ok (.getfield 129, 3) := by decide +kernel
theorem dX6_many_50 : decode cX6_many 50 = .ok (.ireturn, 1) := by decide +kernel
theorem dX6_many_51 : decode cX6_many 51 = .ok (.aload_n 0, 1) := by decide +kernel
theorem dX6_many_52 : decode cX6_many 52 = .ok (.getfield 123, 3) := by decide +kernel
theorem dX6_many_55 : decode cX6_many 55 = .ok (.ireturn, 1) := by decide +kernel
theorem dX6_many_56 : decode cX6_many 56 = .ok (.aload_n 0, 1) := by decide +kernel
theorem dX6_many_57 : decode cX6_many 57 = .ok (.getfield 135, 3) := by decide +kernel
theorem dX6_many_60 : decode cX6_many 60 = .ok (.ireturn, 1) := by decide +kernel
theorem dX6_many_61 : decode cX6_many 61 = .ok (.bipush (-2), 2) := by decide +kernel
theorem dX6_many_63 : decode cX6_many 63 = .ok (.ireturn, 1) := by decide +kernel
end
section
/-! the words of every method: those of the tables that are kept; where each stands -/
def bigW : List Cond := lw_tbl.filter goodWord
theorem bigW_tbl : ∀ w ∈ bigW, w ∈ lw_tbl := fun _ h => (List.mem_filter.mp h).1
theorem bigW_in {ws : List Cond} (h : ∀ w ∈ ws, w ∈ bigW) : GoodIn bigW ws := fun w hw => ⟨h w hw, good_of_word (List.mem_filter.mp (h w hw)).2⟩
theorem bw {w : Cond} (i : Nat) (h : lw_tbl[i]? = some w) (g : goodWord w = true) : w ∈ bigW := List.mem_filter.mpr ⟨List.mem_of_getElem? h, g⟩
theorem wI_MornMarketLaw : Cond.initialized RL ∈ bigW := bw 48 (by decide +kernel) (by decide +kernel)
theorem wI_MornMarket : Cond.initialized RX5 ∈ bigW := bw 49 (by decide +kernel) (by decide +kernel)
theorem wI_MornMarket_Market : Cond.initialized RX1 ∈ bigW := bw 50 (by decide +kernel) (by decide +kernel)
theorem wI_MornMarket_TextReader : Cond.initialized RX4 ∈ bigW := bw 51 (by decide +kernel) (by decide +kernel)
theorem wI_MornMarket_Keeping : Cond.initialized RX0 ∈ bigW := bw 52 (by decide +kernel) (by decide +kernel)
theorem wI_MornMarket_Readings : Cond.initialized RX2 ∈ bigW := bw 53 (by decide +kernel) (by decide +kernel)
theorem wI_MornMarket_Sheet : Cond.initialized RX3 ∈ bigW := bw 54 (by decide +kernel) (by decide +kernel)
theorem wI_MornMarketModel : Cond.initialized RX6 ∈ bigW := bw 55 (by decide +kernel) (by decide +kernel)
theorem wI_java_lang_System : Cond.initialized RJ10 ∈ bigW := bw 56 (by decide +kernel) (by decide +kernel)
theorem wI_java_util_Arrays : Cond.initialized RJ7 ∈ bigW := bw 57 (by decide +kernel) (by decide +kernel)
theorem wI_java_lang_Integer : Cond.initialized RJ6 ∈ bigW := bw 58 (by decide +kernel) (by decide +kernel)
theorem wC_J6_265 : Cond.constant RJ6 265 (1431655765) ∈ bigW := bw 327 (by decide +kernel) (by decide +kernel)
theorem wC_J6_266 : Cond.constant RJ6 266 (858993459) ∈ bigW := bw 328 (by decide +kernel) (by decide +kernel)
theorem wC_J6_267 : Cond.constant RJ6 267 (252645135) ∈ bigW := bw 329 (by decide +kernel) (by decide +kernel)
theorem wC_X5_209 : Cond.constantLong RX5 209 (-9223372036854775808) ∈ bigW := bw 539 (by decide +kernel) (by decide +kernel)
theorem wC_X6_84 : Cond.constantLong RX6 84 (-9223372036854775808) ∈ bigW := bw 965 (by decide +kernel) (by decide +kernel)
/-! the fields of a class -/
theorem inX0 : ∀ w ∈ u_ws RX0 TX0 3, w ∈ bigW := by
  intro w hw
  have e : u_ws RX0 TX0 3 = ([162, 164, 166] : List Nat).filterMap (fun i => lw_tbl[i]?) := by decide +kernel
  have g : (u_ws RX0 TX0 3).all goodWord = true := by decide +kernel
  refine List.mem_filter.mpr ⟨?_, List.all_eq_true.mp g w hw⟩
  rw [e] at hw
  obtain ⟨i, -, hi⟩ := List.mem_filterMap.mp hw
  exact List.mem_of_getElem? hi
theorem inX1 : ∀ w ∈ u_ws RX1 TX1 12, w ∈ bigW := by
  intro w hw
  have e : u_ws RX1 TX1 12 = ([107, 109, 111, 113, 115, 117, 119, 121, 123, 125, 127, 129] : List Nat).filterMap (fun i => lw_tbl[i]?) := by decide +kernel
  have g : (u_ws RX1 TX1 12).all goodWord = true := by decide +kernel
  refine List.mem_filter.mpr ⟨?_, List.all_eq_true.mp g w hw⟩
  rw [e] at hw
  obtain ⟨i, -, hi⟩ := List.mem_filterMap.mp hw
  exact List.mem_of_getElem? hi
theorem inX2 : ∀ w ∈ u_ws RX2 TX2 4, w ∈ bigW := by
  intro w hw
  have e : u_ws RX2 TX2 4 = ([180, 182, 184, 186] : List Nat).filterMap (fun i => lw_tbl[i]?) := by decide +kernel
  have g : (u_ws RX2 TX2 4).all goodWord = true := by decide +kernel
  refine List.mem_filter.mpr ⟨?_, List.all_eq_true.mp g w hw⟩
  rw [e] at hw
  obtain ⟨i, -, hi⟩ := List.mem_filterMap.mp hw
  exact List.mem_of_getElem? hi
theorem inX3 : ∀ w ∈ u_ws RX3 TX3 3, w ∈ bigW := by
  intro w hw
  have e : u_ws RX3 TX3 3 = ([201, 203, 205] : List Nat).filterMap (fun i => lw_tbl[i]?) := by decide +kernel
  have g : (u_ws RX3 TX3 3).all goodWord = true := by decide +kernel
  refine List.mem_filter.mpr ⟨?_, List.all_eq_true.mp g w hw⟩
  rw [e] at hw
  obtain ⟨i, -, hi⟩ := List.mem_filterMap.mp hw
  exact List.mem_of_getElem? hi
theorem inX4 : ∀ w ∈ u_ws RX4 TX4 4, w ∈ bigW := by
  intro w hw
  have e : u_ws RX4 TX4 4 = ([143, 145, 147, 149] : List Nat).filterMap (fun i => lw_tbl[i]?) := by decide +kernel
  have g : (u_ws RX4 TX4 4).all goodWord = true := by decide +kernel
  refine List.mem_filter.mpr ⟨?_, List.all_eq_true.mp g w hw⟩
  rw [e] at hw
  obtain ⟨i, -, hi⟩ := List.mem_filterMap.mp hw
  exact List.mem_of_getElem? hi
theorem inX5 : ∀ w ∈ u_ws RX5 TX5 8, w ∈ bigW := by
  intro w hw
  have e : u_ws RX5 TX5 8 = ([216, 218, 220, 222, 224, 226, 228, 230] : List Nat).filterMap (fun i => lw_tbl[i]?) := by decide +kernel
  have g : (u_ws RX5 TX5 8).all goodWord = true := by decide +kernel
  refine List.mem_filter.mpr ⟨?_, List.all_eq_true.mp g w hw⟩
  rw [e] at hw
  obtain ⟨i, -, hi⟩ := List.mem_filterMap.mp hw
  exact List.mem_of_getElem? hi
theorem inX6 : ∀ w ∈ u_ws RX6 TX6 37, w ∈ bigW := by
  intro w hw
  have e : u_ws RX6 TX6 37 = ([665, 667, 669, 671, 673, 675, 677, 679, 681, 683, 685, 687, 689, 691, 693, 695, 697, 699, 701, 703, 705, 707, 709, 711, 713, 715, 717, 719, 721, 723, 725, 727, 729, 731, 733, 735, 737] : List Nat).filterMap (fun i => lw_tbl[i]?) := by decide +kernel
  have g : (u_ws RX6 TX6 37).all goodWord = true := by decide +kernel
  refine List.mem_filter.mpr ⟨?_, List.all_eq_true.mp g w hw⟩
  rw [e] at hw
  obtain ⟨i, -, hi⟩ := List.mem_filterMap.mp hw
  exact List.mem_of_getElem? hi
end
section
/-! THE CORE: a judgement V that hides the machine (context X), with a row an instruction; contracts Ok. -/
/-- the links to a nest mate's own methods -/
def nstW : List (String × Nat × MethodName) := [(RX5, 19, yX1_init), (RX5, 29, yX4_init), (RX5, 36, yX0_init), (RX5, 43, yX2_init), (RX5, 55, yX3_init), (RX0, 32, yX5_isIn), (RX0, 48, yX5_isWithin), (RX1, 64, yX5_isIn), (RX1, 72, yX5_freshBy), (RX2, 25, yX5_freshBy)]
def Nst (U : State) : Prop := ∀ q ∈ nstW, va_Nw (.methodLinkNest q.1 q.2.1 q.2.2 RX5) U
theorem Nst.warm {s U : State} (hW : s.WarmedH U.vm) (h : Nst s) : Nst U := fun q hq => va_Nw.warmM hW (h q hq)
theorem Nst.call {U : State} {g : JFrame} {mk : MethodId} {a : Array Value} (h : Nst U) : Nst (U.calling g mk a) := fun q hq => va_Nw.same rfl rfl (h q hq)
/-- the classes of arrays -/
abbrev TY (t : ClassId × ClassId × ClassId) : List (ClassId × FieldType) := [(t.1, .int), (t.2.1, .boolean), (t.2.2, .object RX3)]
abbrev Tc : Type := ClassId × ClassId × ClassId
/-- the room at depth d -/
def rmD (d : Nat) : Room := { frames := d, cells := 0, slots := 0, locals := 35 * d }
/-- program, launch, env, room, state; method, args, below, meth, code; free, aim, return type; depth, cells, slots -/
abbrev Cx : Type := (Program × Launch × Env × Room × State) × (MethodId × Array Value × List Frame × Method × Code) × ((Nat → Prop) × (State → Prop) × Option FieldType) × (Nat × Nat × Nat)
def WW (X : Cx) (H : Heap) (locs : List Loc) (g : JFrame) : Prop := W X.1.1 X.1.2.1 X.1.2.2.1 X.1.2.2.2.1 X.1.2.2.2.2 X.2.1.1 X.2.1.2.1 X.2.1.2.2.1 X.2.1.2.2.2.1 X.2.1.2.2.2.2 H locs X.2.2.2.2.1 X.2.2.2.2.2 X.2.2.1.2.1 g
def Fx (X : Cx) (D : va_G) (tc : Tc) (cc : ByteArray) (own : String) (nL : Nat) : Prop := X.1.1.tables.exec = Jvm.exec ∧ X.2.1.2.2.2.2.code = cc ∧ X.2.1.2.2.2.2.maxLocals = nL ∧ X.1.2.2.2.2.vm.findClass own = some X.2.1.1.cls ∧ (∀ w ∈ bigW, w.before X.2.1.2.1 X.1.2.2.2.2 = true) ∧ va_K D vwCl (TY tc) X.1.2.2.2.2 ∧ Nst X.1.2.2.2.2 ∧ (∀ q : Nat, X.1.2.2.2.2.heap.size ≤ q → X.2.2.1.1 q) ∧ X.2.1.2.2.2.1.sig.returnType = X.2.2.1.2.2 ∧ X.2.1.2.2.2.1.locks = false ∧ (X.2.2.2.1 ≤ X.1.2.2.2.1.frames ∧ 35 * X.2.2.2.1 ≤ X.1.2.2.2.1.locals) ∧ X.2.2.2.2.1 ≤ X.1.2.2.2.1.cells ∧ X.2.2.2.2.2 ≤ X.1.2.2.2.1.slots
def lget : List (Option Value) → Nat → Option Value
  | [], _ => none
  | a :: _, 0 => a
  | _ :: t, n + 1 => lget t n
def lset : List (Option Value) → Nat → Value → List (Option Value)
  | [], _, _ => []
  | _ :: t, 0, v => some v :: t
  | a :: t, n + 1, v => a :: lset t n v
def lflat (L : List (Option Value)) : Bool := L.all fun o => match o with
  | some v => v.category == 1
  | none => true
def lvp : Nat → List (Option Value) → List (Nat × Value)
  | _, [] => []
  | k, some v :: t => (k, v) :: lvp (k + 1) t
  | k, none :: t => lvp (k + 1) t
theorem lvp_mem (L : List (Option Value)) : ∀ (k i : Nat) (v : Value), (k + i, v) ∈ lvp k L ↔ lget L i = some v := by
  induction L with
  | nil => intro k i v; simp [lvp, lget]
  | cons a t ih =>
    intro k i v
    have hlow : ∀ (k j : Nat) (w : Value), (j, w) ∈ lvp k t → k ≤ j := by
      clear ih
      induction t with
      | nil => intro k j w h; simp [lvp] at h
      | cons b t ih2 =>
        intro k j w h
        cases b with
        | none => have := ih2 (k + 1) j w (by simpa [lvp] using h); omega
        | some u =>
          simp only [lvp, List.mem_cons, Prod.mk.injEq] at h
          rcases h with h | h
          · omega
          · have := ih2 (k + 1) j w h; omega
    cases i with
    | zero =>
      cases a with
      | none =>
        simp only [lvp, lget, Nat.add_zero]
        constructor
        · intro h; have := hlow (k + 1) k v h; omega
        · intro h; cases h
      | some u =>
        simp only [lvp, lget, Nat.add_zero, List.mem_cons, Prod.mk.injEq, true_and, Option.some.injEq]
        constructor
        · rintro (h | h)
          · exact h.symm
          · have := hlow (k + 1) k v h; omega
        · intro h; exact Or.inl h.symm
    | succ i =>
      have e : k + (i + 1) = (k + 1) + i := by omega
      have ih' := ih (k + 1) i v
      rw [e]
      cases a with
      | none => simpa [lvp, lget] using ih'
      | some u =>
        simp only [lvp, lget, List.mem_cons, Prod.mk.injEq]
        constructor
        · rintro (h | h)
          · omega
          · exact ih'.mp h
        · intro h; exact Or.inr (ih'.mpr h)
def lvH (ls : Array Slot) (nL : Nat) (L : List (Option Value)) : Prop := ls.size = nL ∧ lv_wf ls ∧ ∀ (i : Nat) (v : Value), lget L i = some v → ls[i]? = some (.val v)
theorem lvH.has {ls : Array Slot} {nL : Nat} {L : List (Option Value)} (h : lvH ls nL L) : lv_has ls nL (lvp 0 L) := ⟨h.1, h.2.1, fun q hq => h.2.2 q.1 q.2 ((lvp_mem L 0 q.1 q.2).mp (by simpa using hq))⟩
theorem lvH.of {ls : Array Slot} {nL : Nat} {L : List (Option Value)} {l : List (Nat × Value)} (h : lv_has ls nL l) (e : lvp 0 L = l) : lvH ls nL L := ⟨h.1, h.2.1, fun i v hi => h.2.2 (i, v) (by rw [← e]; have := (lvp_mem L 0 i v).mpr hi; simpa using this)⟩
theorem lget_lset (L : List (Option Value)) : ∀ (i j : Nat) (v w : Value), lget (lset L i v) j = some w → (j = i ∧ w = v) ∨ (j ≠ i ∧ lget L j = some w) := by
  induction L with
  | nil => intro i j v w h; simp [lset, lget] at h
  | cons a t ih =>
    intro i j v w h
    cases i with
    | zero =>
      cases j with
      | zero => simp [lset, lget] at h; exact Or.inl ⟨rfl, h.symm⟩
      | succ j => simp [lset, lget] at h; exact Or.inr ⟨by omega, h⟩
    | succ i =>
      cases j with
      | zero => simp [lset, lget] at h; exact Or.inr ⟨by omega, h⟩
      | succ j =>
        simp [lset, lget] at h
        rcases ih i j v w h with q | q
        · exact Or.inl ⟨by omega, q.2⟩
        · exact Or.inr ⟨by omega, by simpa [lget] using q.2⟩
theorem lflat_get {L : List (Option Value)} (h : lflat L = true) : ∀ (i : Nat) (w : Value), lget L i = some w → w.category = 1 := by
  induction L with
  | nil => intro i w h; simp [lget] at h
  | cons a t ih =>
    intro i w hi
    simp only [lflat, List.all_cons, Bool.and_eq_true] at h
    cases i with
    | zero =>
      simp only [lget] at hi
      subst hi
      simpa using h.1
    | succ i => exact ih h.2 i w (by simpa [lget] using hi)
/-- a value of one slot is stored -/
theorem lvH.store {ls' : Array Slot} {nL i : Nat} {v : Value} {L : List (Option Value)} (hf : lflat L = true) (h : lv_has ls' nL ((i, v) :: (lvp 0 L).filter (fun q => !(q.1 == i) && !(q.1 + 1 == i && q.2.category == 2)))) : lvH ls' nL (lset L i v) := by
  refine ⟨h.1, h.2.1, fun j w hj => ?_⟩
  rcases lget_lset L i j v w hj with ⟨rfl, rfl⟩ | ⟨hne, hw⟩
  · exact h.2.2 _ List.mem_cons_self
  · refine h.2.2 (j, w) (List.mem_cons_of_mem _ (List.mem_filter.mpr ⟨by have := (lvp_mem L 0 j w).mpr hw; simpa using this, ?_⟩))
    have := lflat_get hf j w hw
    simp [hne, this]
/-- THE JUDGEMENT: from here, with these locals, this stack and these cells, the machine comes to its aim -/
def V (X : Cx) (D : va_G) (tc : Tc) (cc : ByteArray) (own : String) (nL pc : Nat) (L : List (Option Value)) (st : List Value) (ws : va_W) : Prop :=
  Fx X D tc cc own nL → ∀ (H : Heap) (locs : List Loc) (ls : Array Slot), va_P D vwCl ws H → va_D X.2.2.1.1 ws → va_S X.2.2.1.1 X.1.2.2.2.2.heap H locs → lvH ls nL L → WW X H locs (F0 X.2.1.1 pc ls st)
section VROWS
variable {X : Cx} {D : va_G} {tc : Tc} {cc : ByteArray} {own : String} {nL pc : Nat} {L : List (Option Value)} {st : List Value} {ws : va_W}
theorem V_w {ws2 : va_W} (h : ws2 = ws) (k : V X D tc cc own nL pc L st ws2) : V X D tc cc own nL pc L st ws := h ▸ k
theorem V_iconst {n : Int} (v : Int32) (hd : decode cc pc = .ok (.iconst n, 1)) (hv : Int32.ofInt n = v) (k : V X D tc cc own nL (pc + 1) L (.int v :: st) ws) : V X D tc cc own nL pc L (st) ws := by
  intro F H locs ls hP hD hS hl
  exact lv_iconst F.1 F.2.1 hd hv (k F H locs ls hP hD hS hl)
theorem V_bipush {n : Int} (v : Int32) (hd : decode cc pc = .ok (.bipush n, 2)) (hv : (Int8.ofInt n).toInt32 = v) (k : V X D tc cc own nL (pc + 2) L (.int v :: st) ws) : V X D tc cc own nL pc L (st) ws := by
  intro F H locs ls hP hD hS hl
  exact lv_bipush F.1 F.2.1 hd hv (k F H locs ls hP hD hS hl)
theorem V_sipush {n : Int} (v : Int32) (hd : decode cc pc = .ok (.sipush n, 3)) (hv : (Int16.ofInt n).toInt32 = v) (k : V X D tc cc own nL (pc + 3) L (.int v :: st) ws) : V X D tc cc own nL pc L (st) ws := by
  intro F H locs ls hP hD hS hl
  exact lv_sipush F.1 F.2.1 hd hv (k F H locs ls hP hD hS hl)
theorem V_lconst {n : Fin 2} (v : Int64) (hd : decode cc pc = .ok (.lconst n, 1)) (hv : Int64.ofNat (n : Nat) = v) (k : V X D tc cc own nL (pc + 1) L (.long v :: st) ws) : V X D tc cc own nL pc L (st) ws := by
  intro F H locs ls hP hD hS hl
  exact lv_lconst F.1 F.2.1 hd hv (k F H locs ls hP hD hS hl)
theorem V_null (hd : decode cc pc = .ok (.aconst_null, 1)) (k : V X D tc cc own nL (pc + 1) L (.null :: st) ws) : V X D tc cc own nL pc L (st) ws := by
  intro F H locs ls hP hD hS hl
  exact lv_null F.1 F.2.1 hd (k F H locs ls hP hD hS hl)
theorem V_iadd {x y : Int32} (hd : decode cc pc = .ok (.iadd, 1)) (k : V X D tc cc own nL (pc + 1) L (.int (x + y) :: st) ws) : V X D tc cc own nL pc L (.int y :: .int x :: st) ws := by
  intro F H locs ls hP hD hS hl
  exact lv_iadd F.1 F.2.1 hd (k F H locs ls hP hD hS hl)
theorem V_isub {x y : Int32} (hd : decode cc pc = .ok (.isub, 1)) (k : V X D tc cc own nL (pc + 1) L (.int (x - y) :: st) ws) : V X D tc cc own nL pc L (.int y :: .int x :: st) ws := by
  intro F H locs ls hP hD hS hl
  exact lv_isub F.1 F.2.1 hd (k F H locs ls hP hD hS hl)
theorem V_imul {x y : Int32} (hd : decode cc pc = .ok (.imul, 1)) (k : V X D tc cc own nL (pc + 1) L (.int (x * y) :: st) ws) : V X D tc cc own nL pc L (.int y :: .int x :: st) ws := by
  intro F H locs ls hP hD hS hl
  exact lv_imul F.1 F.2.1 hd (k F H locs ls hP hD hS hl)
theorem V_iand {x y : Int32} (hd : decode cc pc = .ok (.iand, 1)) (k : V X D tc cc own nL (pc + 1) L (.int (x &&& y) :: st) ws) : V X D tc cc own nL pc L (.int y :: .int x :: st) ws := by
  intro F H locs ls hP hD hS hl
  exact lv_iand F.1 F.2.1 hd (k F H locs ls hP hD hS hl)
theorem V_ior {x y : Int32} (hd : decode cc pc = .ok (.ior, 1)) (k : V X D tc cc own nL (pc + 1) L (.int (x ||| y) :: st) ws) : V X D tc cc own nL pc L (.int y :: .int x :: st) ws := by
  intro F H locs ls hP hD hS hl
  exact lv_ior F.1 F.2.1 hd (k F H locs ls hP hD hS hl)
theorem V_ixor {x y : Int32} (hd : decode cc pc = .ok (.ixor, 1)) (k : V X D tc cc own nL (pc + 1) L (.int (x ^^^ y) :: st) ws) : V X D tc cc own nL pc L (.int y :: .int x :: st) ws := by
  intro F H locs ls hP hD hS hl
  exact lv_ixor F.1 F.2.1 hd (k F H locs ls hP hD hS hl)
theorem V_ishl {x y : Int32} (hd : decode cc pc = .ok (.ishl, 1)) (k : V X D tc cc own nL (pc + 1) L (.int (x <<< (y &&& 31)) :: st) ws) : V X D tc cc own nL pc L (.int y :: .int x :: st) ws := by
  intro F H locs ls hP hD hS hl
  exact lv_ishl F.1 F.2.1 hd (k F H locs ls hP hD hS hl)
theorem V_ishr {x y : Int32} (hd : decode cc pc = .ok (.ishr, 1)) (k : V X D tc cc own nL (pc + 1) L (.int (x >>> (y &&& 31)) :: st) ws) : V X D tc cc own nL pc L (.int y :: .int x :: st) ws := by
  intro F H locs ls hP hD hS hl
  exact lv_ishr F.1 F.2.1 hd (k F H locs ls hP hD hS hl)
theorem V_idiv {x y : Int32} (hd : decode cc pc = .ok (.idiv, 1)) (hne : ¬ y = 0) (k : V X D tc cc own nL (pc + 1) L (.int (x / y) :: st) ws) : V X D tc cc own nL pc L (.int y :: .int x :: st) ws := by
  intro F H locs ls hP hD hS hl
  exact lv_idiv F.1 F.2.1 hd hne (k F H locs ls hP hD hS hl)
theorem V_irem {x y : Int32} (hd : decode cc pc = .ok (.irem, 1)) (hne : ¬ y = 0) (k : V X D tc cc own nL (pc + 1) L (.int (x - x / y * y) :: st) ws) : V X D tc cc own nL pc L (.int y :: .int x :: st) ws := by
  intro F H locs ls hP hD hS hl
  exact lv_irem F.1 F.2.1 hd hne (k F H locs ls hP hD hS hl)
theorem V_ldiv {x y : Int64} (hd : decode cc pc = .ok (.ldiv, 1)) (hne : ¬ y = 0) (k : V X D tc cc own nL (pc + 1) L (.long (x / y) :: st) ws) : V X D tc cc own nL pc L (.long y :: .long x :: st) ws := by
  intro F H locs ls hP hD hS hl
  exact lv_ldiv F.1 F.2.1 hd hne (k F H locs ls hP hD hS hl)
theorem V_lrem {x y : Int64} (hd : decode cc pc = .ok (.lrem, 1)) (hne : ¬ y = 0) (k : V X D tc cc own nL (pc + 1) L (.long (x - x / y * y) :: st) ws) : V X D tc cc own nL pc L (.long y :: .long x :: st) ws := by
  intro F H locs ls hP hD hS hl
  exact lv_lrem F.1 F.2.1 hd hne (k F H locs ls hP hD hS hl)
theorem V_iushr {x y : Int32} (hd : decode cc pc = .ok (.iushr, 1)) (k : V X D tc cc own nL (pc + 1) L (.int ((x.toUInt32 >>> (y.toUInt32 &&& Int32.toUInt32 31)).toInt32) :: st) ws) : V X D tc cc own nL pc L (.int y :: .int x :: st) ws := by
  intro F H locs ls hP hD hS hl
  exact lv_iushr F.1 F.2.1 hd rfl (k F H locs ls hP hD hS hl)
theorem V_i2l {x : Int32} (hd : decode cc pc = .ok (.i2l, 1)) (k : V X D tc cc own nL (pc + 1) L (.long x.toInt64 :: st) ws) : V X D tc cc own nL pc L (.int x :: st) ws := by
  intro F H locs ls hP hD hS hl
  exact lv_i2l F.1 F.2.1 hd rfl (k F H locs ls hP hD hS hl)
theorem V_i2b {x : Int32} (hd : decode cc pc = .ok (.i2b, 1)) (k : V X D tc cc own nL (pc + 1) L (.int x.toInt8.toInt32 :: st) ws) : V X D tc cc own nL pc L (.int x :: st) ws := by
  intro F H locs ls hP hD hS hl
  exact lv_i2b F.1 F.2.1 hd rfl (k F H locs ls hP hD hS hl)
theorem V_i2s {x : Int32} (hd : decode cc pc = .ok (.i2s, 1)) (k : V X D tc cc own nL (pc + 1) L (.int x.toInt16.toInt32 :: st) ws) : V X D tc cc own nL pc L (.int x :: st) ws := by
  intro F H locs ls hP hD hS hl
  exact lv_i2s F.1 F.2.1 hd rfl (k F H locs ls hP hD hS hl)
theorem V_dupi {x : Int32} (hd : decode cc pc = .ok (.dup, 1)) (k : V X D tc cc own nL (pc + 1) L (.int x :: .int x :: st) ws) : V X D tc cc own nL pc L (.int x :: st) ws := by
  intro F H locs ls hP hD hS hl
  exact lv_dup F.1 F.2.1 hd rfl (k F H locs ls hP hD hS hl)
theorem V_dupa {x : Nat} (hd : decode cc pc = .ok (.dup, 1)) (k : V X D tc cc own nL (pc + 1) L (.ref x :: .ref x :: st) ws) : V X D tc cc own nL pc L (.ref x :: st) ws := by
  intro F H locs ls hP hD hS hl
  exact lv_dup F.1 F.2.1 hd rfl (k F H locs ls hP hD hS hl)
theorem V_popi {x : Int32} (hd : decode cc pc = .ok (.pop, 1)) (k : V X D tc cc own nL (pc + 1) L (st) ws) : V X D tc cc own nL pc L (.int x :: st) ws := by
  intro F H locs ls hP hD hS hl
  exact lv_pop F.1 F.2.1 hd rfl (k F H locs ls hP hD hS hl)
theorem V_dup2 {x : Int32} {a : Nat} (hd : decode cc pc = .ok (.dup2, 1)) (k : V X D tc cc own nL (pc + 1) L (.int x :: .ref a :: .int x :: .ref a :: st) ws) : V X D tc cc own nL pc L (.int x :: .ref a :: st) ws := by
  intro F H locs ls hP hD hS hl
  exact lv_dup2_11 F.1 F.2.1 hd rfl rfl (k F H locs ls hP hD hS hl)
theorem V_iloadG {i : Nat} {x : Int32} (hd : decode cc pc = .ok (.iload i, 2)) (hg : lget L i = some (.int x)) (k : V X D tc cc own nL (pc + 2) L (.int x :: st) ws) : V X D tc cc own nL pc L st ws := by
  intro F H locs ls hP hD hS hl
  exact lv_iload F.1 F.2.1 hd (hl.2.2 _ _ hg) (k F H locs ls hP hD hS hl)
theorem V_iloadnG {i : Fin 4} {x : Int32} (hd : decode cc pc = .ok (.iload_n i, 1)) (hg : lget L i = some (.int x)) (k : V X D tc cc own nL (pc + 1) L (.int x :: st) ws) : V X D tc cc own nL pc L st ws := by
  intro F H locs ls hP hD hS hl
  exact lv_iload_n F.1 F.2.1 hd rfl (hl.2.2 _ _ hg) (k F H locs ls hP hD hS hl)
theorem V_aloadG {i : Nat} {x : Nat} (hd : decode cc pc = .ok (.aload i, 2)) (hg : lget L i = some (.ref x)) (k : V X D tc cc own nL (pc + 2) L (.ref x :: st) ws) : V X D tc cc own nL pc L st ws := by
  intro F H locs ls hP hD hS hl
  exact lv_aload F.1 F.2.1 hd (hl.2.2 _ _ hg) (k F H locs ls hP hD hS hl)
theorem V_aloadnG {i : Fin 4} {x : Nat} (hd : decode cc pc = .ok (.aload_n i, 1)) (hg : lget L i = some (.ref x)) (k : V X D tc cc own nL (pc + 1) L (.ref x :: st) ws) : V X D tc cc own nL pc L st ws := by
  intro F H locs ls hP hD hS hl
  exact lv_aload_n F.1 F.2.1 hd rfl (hl.2.2 _ _ hg) (k F H locs ls hP hD hS hl)
theorem V_istoreG {i : Nat} {x : Int32} (hd : decode cc pc = .ok (.istore i, 2)) (hf : lflat L = true) (hn : i < nL) (k : V X D tc cc own nL (pc + 2) (lset L i (.int x)) st ws) : V X D tc cc own nL pc L (.int x :: st) ws := by
  intro F H locs ls hP hD hS hl
  exact lv_istore F.1 F.2.1 hd hl.has hn rfl (fun ls' hl' => k F H locs ls' hP hD hS (lvH.store hf hl'))
theorem V_istorenG {i : Fin 4} {x : Int32} (hd : decode cc pc = .ok (.istore_n i, 1)) (hf : lflat L = true) (hn : (i : Nat) < nL) (k : V X D tc cc own nL (pc + 1) (lset L i (.int x)) st ws) : V X D tc cc own nL pc L (.int x :: st) ws := by
  intro F H locs ls hP hD hS hl
  exact lv_istore_n F.1 F.2.1 hd rfl hl.has hn rfl (fun ls' hl' => k F H locs ls' hP hD hS (lvH.store hf hl'))
theorem V_astoreG {i : Nat} {x : Nat} (hd : decode cc pc = .ok (.astore i, 2)) (hf : lflat L = true) (hn : i < nL) (k : V X D tc cc own nL (pc + 2) (lset L i (.ref x)) st ws) : V X D tc cc own nL pc L (.ref x :: st) ws := by
  intro F H locs ls hP hD hS hl
  exact lv_astore F.1 F.2.1 hd hl.has hn rfl (fun ls' hl' => k F H locs ls' hP hD hS (lvH.store hf hl'))
theorem V_astorenG {i : Fin 4} {x : Nat} (hd : decode cc pc = .ok (.astore_n i, 1)) (hf : lflat L = true) (hn : (i : Nat) < nL) (k : V X D tc cc own nL (pc + 1) (lset L i (.ref x)) st ws) : V X D tc cc own nL pc L (.ref x :: st) ws := by
  intro F H locs ls hP hD hS hl
  exact lv_astore_n F.1 F.2.1 hd rfl hl.has hn rfl (fun ls' hl' => k F H locs ls' hP hD hS (lvH.store hf hl'))
theorem V_astoreNG {i : Nat} (hd : decode cc pc = .ok (.astore i, 2)) (hf : lflat L = true) (hn : i < nL) (k : V X D tc cc own nL (pc + 2) (lset L i .null) st ws) : V X D tc cc own nL pc L (.null :: st) ws := by
  intro F H locs ls hP hD hS hl
  exact lv_astoreN F.1 F.2.1 hd hl.has hn rfl (fun ls' hl' => k F H locs ls' hP hD hS (lvH.store hf hl'))
theorem V_astorenNG {i : Fin 4} (hd : decode cc pc = .ok (.astore_n i, 1)) (hf : lflat L = true) (hn : (i : Nat) < nL) (k : V X D tc cc own nL (pc + 1) (lset L i .null) st ws) : V X D tc cc own nL pc L (.null :: st) ws := by
  intro F H locs ls hP hD hS hl
  exact lv_astore_nN F.1 F.2.1 hd rfl hl.has hn rfl (fun ls' hl' => k F H locs ls' hP hD hS (lvH.store hf hl'))
theorem V_aloadNG {i : Nat} (hd : decode cc pc = .ok (.aload i, 2)) (hg : lget L i = some .null) (k : V X D tc cc own nL (pc + 2) L (.null :: st) ws) : V X D tc cc own nL pc L st ws := by
  intro F H locs ls hP hD hS hl
  exact lv_aloadN F.1 F.2.1 hd (hl.2.2 _ _ hg) (k F H locs ls hP hD hS hl)
theorem V_aloadnNG {i : Fin 4} (hd : decode cc pc = .ok (.aload_n i, 1)) (hg : lget L i = some .null) (k : V X D tc cc own nL (pc + 1) L (.null :: st) ws) : V X D tc cc own nL pc L st ws := by
  intro F H locs ls hP hD hS hl
  exact lv_aload_nN F.1 F.2.1 hd rfl (hl.2.2 _ _ hg) (k F H locs ls hP hD hS hl)
theorem lget_pos {L : List (Option Value)} : ∀ (i : Nat) {v : Value}, lget L i = some v → ∃ k : Nat, (lvp 0 L)[k]? = some (i, v) := fun i v h => List.getElem?_of_mem (by have := (lvp_mem L 0 i v).mpr h; simpa using this)
theorem V_iincG {i : Nat} {n : Int} {x : Int32} (v : Int32) (hd : decode cc pc = .ok (.iinc i n, 3)) (hg : lget L i = some (.int x)) (hv : x + Int32.ofInt n = v) (hf : lflat L = true) (hn : i < nL) (k : V X D tc cc own nL (pc + 3) (lset L i (.int v)) st ws) : V X D tc cc own nL pc L st ws := by
  intro F H locs ls hP hD hS hl
  obtain ⟨q, hq⟩ := lget_pos i hg
  exact lv_iinc F.1 F.2.1 hd hl.has hq hv hn rfl (fun ls' hl' => k F H locs ls' hP hD hS (lvH.store hf hl'))
theorem V_goto {off : Int} (tgt : Nat) (hd : decode cc pc = .ok (.goto off, 3)) (ht : (pc : Int) + off = (tgt : Int)) (k : V X D tc cc own nL tgt L st ws) : V X D tc cc own nL pc L st ws := by
  intro F H locs ls hP hD hS hl
  exact lv_goto F.1 F.2.1 hd ht (k F H locs ls hP hD hS hl)
theorem V_if_eq {x : Int32} {off : Int} (tgt : Nat) (hd : decode cc pc = .ok (.ifCond .eq off, 3)) (ht : (pc : Int) + off = (tgt : Int)) (kt : x = 0 → V X D tc cc own nL tgt L st ws) (kf : ¬ x = 0 → V X D tc cc own nL (pc + 3) L st ws) : V X D tc cc own nL pc L (.int x :: st) ws := by
  intro F H locs ls hP hD hS hl
  exact lv_if_eq F.1 F.2.1 hd ht (fun h => kt h F H locs ls hP hD hS hl) (fun h => kf h F H locs ls hP hD hS hl)
theorem V_icmp_eq {x y : Int32} {off : Int} (tgt : Nat) (hd : decode cc pc = .ok (.if_icmp .eq off, 3)) (ht : (pc : Int) + off = (tgt : Int)) (kt : x = y → V X D tc cc own nL tgt L st ws) (kf : ¬ x = y → V X D tc cc own nL (pc + 3) L st ws) : V X D tc cc own nL pc L (.int y :: .int x :: st) ws := by
  intro F H locs ls hP hD hS hl
  exact lv_icmp_eq F.1 F.2.1 hd ht (fun h => kt h F H locs ls hP hD hS hl) (fun h => kf h F H locs ls hP hD hS hl)
theorem V_if_ne {x : Int32} {off : Int} (tgt : Nat) (hd : decode cc pc = .ok (.ifCond .ne off, 3)) (ht : (pc : Int) + off = (tgt : Int)) (kt : ¬ x = 0 → V X D tc cc own nL tgt L st ws) (kf : x = 0 → V X D tc cc own nL (pc + 3) L st ws) : V X D tc cc own nL pc L (.int x :: st) ws := by
  intro F H locs ls hP hD hS hl
  exact lv_if_ne F.1 F.2.1 hd ht (fun h => kt h F H locs ls hP hD hS hl) (fun h => kf h F H locs ls hP hD hS hl)
theorem V_icmp_ne {x y : Int32} {off : Int} (tgt : Nat) (hd : decode cc pc = .ok (.if_icmp .ne off, 3)) (ht : (pc : Int) + off = (tgt : Int)) (kt : ¬ x = y → V X D tc cc own nL tgt L st ws) (kf : x = y → V X D tc cc own nL (pc + 3) L st ws) : V X D tc cc own nL pc L (.int y :: .int x :: st) ws := by
  intro F H locs ls hP hD hS hl
  exact lv_icmp_ne F.1 F.2.1 hd ht (fun h => kt h F H locs ls hP hD hS hl) (fun h => kf h F H locs ls hP hD hS hl)
theorem V_if_lt {x : Int32} {off : Int} (tgt : Nat) (hd : decode cc pc = .ok (.ifCond .lt off, 3)) (ht : (pc : Int) + off = (tgt : Int)) (kt : x < 0 → V X D tc cc own nL tgt L st ws) (kf : ¬ x < 0 → V X D tc cc own nL (pc + 3) L st ws) : V X D tc cc own nL pc L (.int x :: st) ws := by
  intro F H locs ls hP hD hS hl
  exact lv_if_lt F.1 F.2.1 hd ht (fun h => kt h F H locs ls hP hD hS hl) (fun h => kf h F H locs ls hP hD hS hl)
theorem V_icmp_lt {x y : Int32} {off : Int} (tgt : Nat) (hd : decode cc pc = .ok (.if_icmp .lt off, 3)) (ht : (pc : Int) + off = (tgt : Int)) (kt : x < y → V X D tc cc own nL tgt L st ws) (kf : ¬ x < y → V X D tc cc own nL (pc + 3) L st ws) : V X D tc cc own nL pc L (.int y :: .int x :: st) ws := by
  intro F H locs ls hP hD hS hl
  exact lv_icmp_lt F.1 F.2.1 hd ht (fun h => kt h F H locs ls hP hD hS hl) (fun h => kf h F H locs ls hP hD hS hl)
theorem V_if_ge {x : Int32} {off : Int} (tgt : Nat) (hd : decode cc pc = .ok (.ifCond .ge off, 3)) (ht : (pc : Int) + off = (tgt : Int)) (kt : 0 ≤ x → V X D tc cc own nL tgt L st ws) (kf : ¬ 0 ≤ x → V X D tc cc own nL (pc + 3) L st ws) : V X D tc cc own nL pc L (.int x :: st) ws := by
  intro F H locs ls hP hD hS hl
  exact lv_if_ge F.1 F.2.1 hd ht (fun h => kt h F H locs ls hP hD hS hl) (fun h => kf h F H locs ls hP hD hS hl)
theorem V_icmp_ge {x y : Int32} {off : Int} (tgt : Nat) (hd : decode cc pc = .ok (.if_icmp .ge off, 3)) (ht : (pc : Int) + off = (tgt : Int)) (kt : y ≤ x → V X D tc cc own nL tgt L st ws) (kf : ¬ y ≤ x → V X D tc cc own nL (pc + 3) L st ws) : V X D tc cc own nL pc L (.int y :: .int x :: st) ws := by
  intro F H locs ls hP hD hS hl
  exact lv_icmp_ge F.1 F.2.1 hd ht (fun h => kt h F H locs ls hP hD hS hl) (fun h => kf h F H locs ls hP hD hS hl)
theorem V_if_gt {x : Int32} {off : Int} (tgt : Nat) (hd : decode cc pc = .ok (.ifCond .gt off, 3)) (ht : (pc : Int) + off = (tgt : Int)) (kt : 0 < x → V X D tc cc own nL tgt L st ws) (kf : ¬ 0 < x → V X D tc cc own nL (pc + 3) L st ws) : V X D tc cc own nL pc L (.int x :: st) ws := by
  intro F H locs ls hP hD hS hl
  exact lv_if_gt F.1 F.2.1 hd ht (fun h => kt h F H locs ls hP hD hS hl) (fun h => kf h F H locs ls hP hD hS hl)
theorem V_icmp_gt {x y : Int32} {off : Int} (tgt : Nat) (hd : decode cc pc = .ok (.if_icmp .gt off, 3)) (ht : (pc : Int) + off = (tgt : Int)) (kt : y < x → V X D tc cc own nL tgt L st ws) (kf : ¬ y < x → V X D tc cc own nL (pc + 3) L st ws) : V X D tc cc own nL pc L (.int y :: .int x :: st) ws := by
  intro F H locs ls hP hD hS hl
  exact lv_icmp_gt F.1 F.2.1 hd ht (fun h => kt h F H locs ls hP hD hS hl) (fun h => kf h F H locs ls hP hD hS hl)
theorem V_if_le {x : Int32} {off : Int} (tgt : Nat) (hd : decode cc pc = .ok (.ifCond .le off, 3)) (ht : (pc : Int) + off = (tgt : Int)) (kt : x ≤ 0 → V X D tc cc own nL tgt L st ws) (kf : ¬ x ≤ 0 → V X D tc cc own nL (pc + 3) L st ws) : V X D tc cc own nL pc L (.int x :: st) ws := by
  intro F H locs ls hP hD hS hl
  exact lv_if_le F.1 F.2.1 hd ht (fun h => kt h F H locs ls hP hD hS hl) (fun h => kf h F H locs ls hP hD hS hl)
theorem V_icmp_le {x y : Int32} {off : Int} (tgt : Nat) (hd : decode cc pc = .ok (.if_icmp .le off, 3)) (ht : (pc : Int) + off = (tgt : Int)) (kt : x ≤ y → V X D tc cc own nL tgt L st ws) (kf : ¬ x ≤ y → V X D tc cc own nL (pc + 3) L st ws) : V X D tc cc own nL pc L (.int y :: .int x :: st) ws := by
  intro F H locs ls hP hD hS hl
  exact lv_icmp_le F.1 F.2.1 hd ht (fun h => kt h F H locs ls hP hD hS hl) (fun h => kf h F H locs ls hP hD hS hl)
theorem V_ifnonnull {x : Nat} {off : Int} (tgt : Nat) (hd : decode cc pc = .ok (.ifnonnull off, 3)) (ht : (pc : Int) + off = (tgt : Int)) (k : V X D tc cc own nL tgt L st ws) : V X D tc cc own nL pc L (.ref x :: st) ws := by
  intro F H locs ls hP hD hS hl
  exact lv_ifnonnull F.1 F.2.1 hd ht (k F H locs ls hP hD hS hl)
theorem V_ifnonnullN {off : Int} (hd : decode cc pc = .ok (.ifnonnull off, 3)) (k : V X D tc cc own nL (pc + 3) L st ws) : V X D tc cc own nL pc L (.null :: st) ws := by
  intro F H locs ls hP hD hS hl
  exact lv_ifnonnullN F.1 F.2.1 hd (k F H locs ls hP hD hS hl)
theorem V_ifnull {x : Nat} {off : Int} (hd : decode cc pc = .ok (.ifnull off, 3)) (k : V X D tc cc own nL (pc + 3) L st ws) : V X D tc cc own nL pc L (.ref x :: st) ws := by
  intro F H locs ls hP hD hS hl
  exact lv_ifnull F.1 F.2.1 hd (k F H locs ls hP hD hS hl)
theorem V_ifnullN {off : Int} (tgt : Nat) (hd : decode cc pc = .ok (.ifnull off, 3)) (ht : (pc : Int) + off = (tgt : Int)) (k : V X D tc cc own nL tgt L st ws) : V X D tc cc own nL pc L (.null :: st) ws := by
  intro F H locs ls hP hD hS hl
  exact lv_ifnullN F.1 F.2.1 hd ht (k F H locs ls hP hD hS hl)
theorem V_tableOut {dflt lo hi : Int} {offs : Array Int} {len : Nat} {x : Int32} (tgt : Nat) (hd : decode cc pc = .ok (.tableswitch dflt lo hi offs, len)) (h : x.toInt < lo ∨ hi < x.toInt) (ht : (pc : Int) + dflt = (tgt : Int)) (k : V X D tc cc own nL tgt L st ws) : V X D tc cc own nL pc L (.int x :: st) ws := by
  intro F H locs ls hP hD hS hl
  exact lv_tableOut F.1 F.2.1 hd h ht (k F H locs ls hP hD hS hl)
theorem V_tableIn {dflt lo hi : Int} {offs : Array Int} {len : Nat} {x : Int32} {off : Int} (tgt : Nat) (hd : decode cc pc = .ok (.tableswitch dflt lo hi offs, len)) (h1 : ¬ x.toInt < lo) (h2 : ¬ hi < x.toInt) (ho : offs[(x.toInt - lo).toNat]? = some off) (ht : (pc : Int) + off = (tgt : Int)) (k : V X D tc cc own nL tgt L st ws) : V X D tc cc own nL pc L (.int x :: st) ws := by
  intro F H locs ls hP hD hS hl
  exact lv_tableIn F.1 F.2.1 hd h1 h2 ho ht (k F H locs ls hP hD hS hl)
theorem V_lookup {dflt : Int} {ps : Array (Int × Int)} {len : Nat} {x : Int32} {off : Int} (tgt : Nat) (hd : decode cc pc = .ok (.lookupswitch dflt ps, len)) (hp : (ps.toList.zip (ps.toList.drop 1)).all (fun (a, next) => a.1 < next.1) = true) (ho : Op.lookupswitch.offset ps.toList dflt x.toInt = off) (ht : (pc : Int) + off = (tgt : Int)) (k : V X D tc cc own nL tgt L st ws) : V X D tc cc own nL pc L (.int x :: st) ws := by
  intro F H locs ls hP hD hS hl
  exact lv_lookup F.1 F.2.1 hd hp ho ht (k F H locs ls hP hD hS hl)
theorem V_ldc2 {index : Nat} (v : Int64) (hc : Cond.constantLong own index v ∈ bigW) (hd : decode cc pc = .ok (.ldc2_w index, 3)) (k : V X D tc cc own nL (pc + 3) L (.long v :: st) ws) : V X D tc cc own nL pc L st ws := by
  intro F H locs ls hP hD hS hl
  exact lv_ldc2 F.1 F.2.1 F.2.2.2.1 (F.2.2.2.2.1 _ hc) hd (k F H locs ls hP hD hS hl)
theorem V_ldcw {index : Nat} (v : Int32) (hc : Cond.constant own index v ∈ bigW) (hd : decode cc pc = .ok (.ldc_w index, 3)) (k : V X D tc cc own nL (pc + 3) L (.int v :: st) ws) : V X D tc cc own nL pc L st ws := by
  intro F H locs ls hP hD hS hl
  exact lv_ldcw F.1 F.2.1 F.2.2.2.1 (F.2.2.2.2.1 _ hc) hd (k F H locs ls hP hD hS hl)
theorem V_lcmp {x y : Int64} (hd : decode cc pc = .ok (.lcmp, 1)) (k : V X D tc cc own nL (pc + 1) L (.int (lg_cmp x y) :: st) ws) : V X D tc cc own nL pc L (.long y :: .long x :: st) ws := by
  intro F H locs ls hP hD hS hl
  exact W.lcmp F.1 F.2.1 hd (k F H locs ls hP hD hS hl)
/-- a field's link: the words that a read of field k of class ci at this constant needs -/
def LinkF (own : String) (idx : Nat) (C : String) (T : u_T) (N ci k : Nat) : Prop := vwCl[ci]? = some (C, T, N) ∧ k < N ∧ (∀ w ∈ u_ws C T N, w ∈ bigW) ∧ Cond.fieldLink own idx (T k).1 (T k).2.1 (T k).2.2.1 ∈ bigW
/-- and a write of an int field -/
def LinkP (own : String) (idx : Nat) (C : String) (T : u_T) (N ci k : Nat) : Prop := LinkF own idx C T N ci k ∧ (T k).2.2.2 = false ∧ parseFieldDescriptor (T k).2.2.1 = some .int ∧ (∀ a, a < N → ∀ b, b < N → a ≠ b → (T a).2.1 ≠ (T b).2.1) ∧ ∃ ty0 : Nat → FieldType, ∀ k, k < N → parseFieldDescriptor (T k).2.2.1 = some (ty0 k)
theorem V_get {idx ci k : Nat} {C : String} {T : u_T} {N a : Nat} {fs : List Value} {v : Value} (hl : LinkF own idx C T N ci k) (hd : decode cc pc = .ok (.getfield idx, 3)) {q0 : Nat} (he : ws[q0]? = some (a, .inr (ci, fs))) (hv : fs[k]? = some v) (kk : V X D tc cc own nL (pc + 3) L (v :: st) ws) : V X D tc cc own nL pc L (.ref a :: st) ws := by
  intro F H locs ls hP hD hS hlv
  exact va_get F.1 F.2.1 F.2.2.2.2.1 hl.2.2.1 F.2.2.2.1 F.2.2.2.2.2.1 hP q0 he hl.1 k hl.2.1 (F.2.2.2.2.1 _ hl.2.2.2) (fun _ h9 => h9) hv hd (kk F H locs ls hP hD hS hlv)
theorem V_puti {idx ci k : Nat} {C : String} {T : u_T} {N a : Nat} {fs : List Value} {v : Int32} (hl : LinkP own idx C T N ci k) (hd : decode cc pc = .ok (.putfield idx, 3)) {q0 : Nat} (he : ws[q0]? = some (a, .inr (ci, fs))) (hk : k < fs.length) {ws' : va_W} (hw : ws.set q0 (a, .inr (ci, fs.set k (.int v))) = ws') (kk : V X D tc cc own nL (pc + 3) L st ws') : V X D tc cc own nL pc L (.int v :: .ref a :: st) ws := by
  intro F H locs ls hP hD hS hlv
  obtain ⟨hf, hfin, hty, hnm, ty0, ht0⟩ := hl
  exact va_put F.1 F.2.1 F.2.2.2.2.1 hf.2.2.1 ty0 ht0 hnm F.2.2.2.1 F.2.2.2.2.2.1 hP hD hS q0 he hf.1 k hf.2.1 (F.2.2.2.2.1 _ hf.2.2.2) (fun _ h9 => h9) hfin hty rfl rfl hk hd (fun H1 locs1 hP1 hD1 hS1 => kk F H1 locs1 ls (hw ▸ hP1) (hw ▸ hD1) hS1 hlv)
theorem V_iald {a n : Nat} {f : Nat → Int32} {i : Int32} (hd : decode cc pc = .ok (.iaload, 1)) {q0 : Nat} (he : ws[q0]? = some (a, .inl (tc.1, n, .inl f))) (hin : vp_in i n) (kk : V X D tc cc own nL (pc + 1) L (.int (f i.toNatClampNeg) :: st) ws) : V X D tc cc own nL pc L (.int i :: .ref a :: st) ws := by
  intro F H locs ls hP hD hS hlv
  exact va_iald F.1 F.2.1 F.2.2.2.2.2.1 hP q0 0 he rfl hin hd (kk F H locs ls hP hD hS hlv)
theorem V_zald {a n : Nat} {f : Nat → Int32} {i : Int32} (hd : decode cc pc = .ok (.baload, 1)) {q0 : Nat} (he : ws[q0]? = some (a, .inl (tc.2.1, n, .inl f))) (hin : vp_in i n) (kk : V X D tc cc own nL (pc + 1) L (.int (f i.toNatClampNeg) :: st) ws) : V X D tc cc own nL pc L (.int i :: .ref a :: st) ws := by
  intro F H locs ls hP hD hS hlv
  exact va_zald F.1 F.2.1 F.2.2.2.2.2.1 hP q0 1 he rfl hin hd (kk F H locs ls hP hD hS hlv)
theorem V_aald {a n b : Nat} {f : Nat → Option Nat} {i : Int32} (hd : decode cc pc = .ok (.aaload, 1)) {q0 : Nat} (he : ws[q0]? = some (a, .inl (tc.2.2, n, .inr (.inr (.inr (.inr f)))))) (hin : vp_in i n) (hb : f i.toNatClampNeg = some b) (kk : V X D tc cc own nL (pc + 1) L (.ref b :: st) ws) : V X D tc cc own nL pc L (.int i :: .ref a :: st) ws := by
  intro F H locs ls hP hD hS hlv
  refine va_aldq F.1 F.2.1 F.2.2.2.2.2.1 hP q0 2 he rfl hin hd ?_
  rw [hb]
  exact kk F H locs ls hP hD hS hlv
theorem V_alen {a n : Nat} {f : Nat → Int32} (hd : decode cc pc = .ok (.arraylength, 1)) {q0 : Nat} (he : ws[q0]? = some (a, .inl (tc.1, n, .inl f))) (kk : V X D tc cc own nL (pc + 1) L (.int (nI n) :: st) ws) : V X D tc cc own nL pc L (.ref a :: st) ws := by
  intro F H locs ls hP hD hS hlv
  exact va_alen F.1 F.2.1 F.2.2.2.2.2.1 hP q0 0 he rfl rfl hd (kk F H locs ls hP hD hS hlv)
theorem V_alenS {a n : Nat} {f : Nat → Option Nat} (hd : decode cc pc = .ok (.arraylength, 1)) {q0 : Nat} (he : ws[q0]? = some (a, .inl (tc.2.2, n, .inr (.inr (.inr (.inr f)))))) (kk : V X D tc cc own nL (pc + 1) L (.int (nI n) :: st) ws) : V X D tc cc own nL pc L (.ref a :: st) ws := by
  intro F H locs ls hP hD hS hlv
  exact va_alen F.1 F.2.1 F.2.2.2.2.2.1 hP q0 2 he rfl rfl hd (kk F H locs ls hP hD hS hlv)
theorem V_iast {a n : Nat} {f : Nat → Int32} {i x : Int32} (hd : decode cc pc = .ok (.iastore, 1)) {q0 : Nat} (he : ws[q0]? = some (a, .inl (tc.1, n, .inl f))) (hin : vp_in i n) {ws' : va_W} (hw : ws.set q0 (a, .inl (tc.1, n, .inl (upd f i.toNatClampNeg x))) = ws') (kk : V X D tc cc own nL (pc + 1) L st ws') : V X D tc cc own nL pc L (.int x :: .int i :: .ref a :: st) ws := by
  intro F H locs ls hP hD hS hlv
  exact va_iast F.1 F.2.1 F.2.2.2.2.2.1 hP hD hS q0 0 he rfl hin hd (fun H1 locs1 hP1 hD1 hS1 => kk F H1 locs1 ls (hw ▸ hP1) (hw ▸ hD1) hS1 hlv)
theorem V_zast {a n : Nat} {f : Nat → Int32} {i x : Int32} (hd : decode cc pc = .ok (.bastore, 1)) {q0 : Nat} (he : ws[q0]? = some (a, .inl (tc.2.1, n, .inl f))) (hin : vp_in i n) {ws' : va_W} (hw : ws.set q0 (a, .inl (tc.2.1, n, .inl (upd f i.toNatClampNeg (vp_nar .boolean x)))) = ws') (kk : V X D tc cc own nL (pc + 1) L st ws') : V X D tc cc own nL pc L (.int x :: .int i :: .ref a :: st) ws := by
  intro F H locs ls hP hD hS hlv
  exact va_zast F.1 F.2.1 F.2.2.2.2.2.1 hP hD hS q0 1 he rfl hin hd (fun H1 locs1 hP1 hD1 hS1 => kk F H1 locs1 ls (hw ▸ hP1) (hw ▸ hD1) hS1 hlv)
theorem V_copy {index a0 a n0 n1 : Nat} {f g : Nat → Int32} {sp dp n : Int32} (hm : Cond.methodLink own index arraycopyName ∈ bigW) (hm2 : Cond.native arraycopyName ∈ bigW ∧ Cond.static arraycopyName ∈ bigW ∧ Cond.initialized "java/lang/System" ∈ bigW) (hdep : 1 ≤ X.2.2.2.1) (hroom : (st.map fun v => v.category).sum + (nativeFrameWords "java/lang/System" "arraycopy" 5 + 11) ≤ 35) (hd : decode cc pc = .ok (.invokestatic index, 3)) {q0 q1 : Nat} (he0 : ws[q0]? = some (a0, .inl (tc.1, n0, .inl f))) (he1 : ws[q1]? = some (a, .inl (tc.1, n1, .inl g))) (h1 : ¬ sp < 0) (h2 : ¬ dp < 0) (h3 : ¬ n < 0) (h4 : sp.toNatClampNeg + n.toNatClampNeg ≤ n0) (h5 : dp.toNatClampNeg + n.toNatClampNeg ≤ n1) {ws' : va_W} (hw : ws.set q1 (a, .inl (tc.1, n1, .inl (va_cpy f g sp.toNatClampNeg dp.toNatClampNeg n.toNatClampNeg))) = ws') (kk : V X D tc cc own nL (pc + 3) L st ws') : V X D tc cc own nL pc L (.int n :: .int dp :: .ref a :: .int sp :: .ref a0 :: st) ws := by
  intro F H locs ls hP hD hS hlv
  have hr := F.2.2.2.2.2.2.2.2.2.2.1
  exact va_copyi F.1 F.2.1 (F.2.2.1.trans hlv.1.symm) F.2.2.2.1 (F.2.2.2.2.1 _ hm) (F.2.2.2.2.1 _ hm2.1) (F.2.2.2.2.1 _ hm2.2.1) (F.2.2.2.2.1 _ hm2.2.2) F.2.2.2.2.2.1 hP hD hS q0 q1 0 0 he0 he1 rfl rfl rfl h1 h2 h3 h4 h5 (fun _ _ => rfl) (by omega) (by omega) hd (fun H1 locs1 hP1 hD1 hS1 => kk F H1 locs1 ls (hw ▸ hP1) (hw ▸ hD1) hS1 hlv)
end VROWS
section VIX
variable {X : Cx} {D : va_G} {tc : Tc} {cc : ByteArray} {own : String} {nL pc : Nat} {t : List (Option Value)} {st : List Value} {ws : va_W}
theorem V_ild0 {x : Int32} (hd : decode cc pc = .ok (.iload_n 0, 1)) (k : V X D tc cc own nL (pc + 1) (some (.int x) :: t) (.int x :: st) ws) : V X D tc cc own nL pc (some (.int x) :: t) st ws := V_iloadnG hd rfl k
theorem V_ald0 {x : Nat} (hd : decode cc pc = .ok (.aload_n 0, 1)) (k : V X D tc cc own nL (pc + 1) (some (.ref x) :: t) (.ref x :: st) ws) : V X D tc cc own nL pc (some (.ref x) :: t) st ws := V_aloadnG hd rfl k
theorem V_aldN0 (hd : decode cc pc = .ok (.aload_n 0, 1)) (k : V X D tc cc own nL (pc + 1) (some .null :: t) (.null :: st) ws) : V X D tc cc own nL pc (some .null :: t) st ws := V_aloadnNG hd rfl k
theorem V_ist0 {a0 : Option Value} {x : Int32} (hd : decode cc pc = .ok (.istore_n 0, 1)) (hf : lflat (a0 :: t) = true) (hn : 0 < nL) (k : V X D tc cc own nL (pc + 1) (some (.int x) :: t) st ws) : V X D tc cc own nL pc (a0 :: t) (.int x :: st) ws := V_istorenG hd hf hn k
theorem V_ast0 {a0 : Option Value} {x : Nat} (hd : decode cc pc = .ok (.astore_n 0, 1)) (hf : lflat (a0 :: t) = true) (hn : 0 < nL) (k : V X D tc cc own nL (pc + 1) (some (.ref x) :: t) st ws) : V X D tc cc own nL pc (a0 :: t) (.ref x :: st) ws := V_astorenG hd hf hn k
theorem V_astN0 {a0 : Option Value} (hd : decode cc pc = .ok (.astore_n 0, 1)) (hf : lflat (a0 :: t) = true) (hn : 0 < nL) (k : V X D tc cc own nL (pc + 1) (some .null :: t) st ws) : V X D tc cc own nL pc (a0 :: t) (.null :: st) ws := V_astorenNG hd hf hn k
theorem V_inc0 {n : Int} {x : Int32} (v : Int32) (hd : decode cc pc = .ok (.iinc 0 n, 3)) (hv : x + Int32.ofInt n = v) (hf : lflat (some (.int x) :: t) = true) (hn : 0 < nL) (k : V X D tc cc own nL (pc + 3) (some (.int v) :: t) st ws) : V X D tc cc own nL pc (some (.int x) :: t) st ws := V_iincG v hd rfl hv hf hn k
theorem V_ild1 {a0 : Option Value} {x : Int32} (hd : decode cc pc = .ok (.iload_n 1, 1)) (k : V X D tc cc own nL (pc + 1) (a0 :: some (.int x) :: t) (.int x :: st) ws) : V X D tc cc own nL pc (a0 :: some (.int x) :: t) st ws := V_iloadnG hd rfl k
theorem V_ald1 {a0 : Option Value} {x : Nat} (hd : decode cc pc = .ok (.aload_n 1, 1)) (k : V X D tc cc own nL (pc + 1) (a0 :: some (.ref x) :: t) (.ref x :: st) ws) : V X D tc cc own nL pc (a0 :: some (.ref x) :: t) st ws := V_aloadnG hd rfl k
theorem V_aldN1 {a0 : Option Value} (hd : decode cc pc = .ok (.aload_n 1, 1)) (k : V X D tc cc own nL (pc + 1) (a0 :: some .null :: t) (.null :: st) ws) : V X D tc cc own nL pc (a0 :: some .null :: t) st ws := V_aloadnNG hd rfl k
theorem V_ist1 {a0 a1 : Option Value} {x : Int32} (hd : decode cc pc = .ok (.istore_n 1, 1)) (hf : lflat (a0 :: a1 :: t) = true) (hn : 1 < nL) (k : V X D tc cc own nL (pc + 1) (a0 :: some (.int x) :: t) st ws) : V X D tc cc own nL pc (a0 :: a1 :: t) (.int x :: st) ws := V_istorenG hd hf hn k
theorem V_ast1 {a0 a1 : Option Value} {x : Nat} (hd : decode cc pc = .ok (.astore_n 1, 1)) (hf : lflat (a0 :: a1 :: t) = true) (hn : 1 < nL) (k : V X D tc cc own nL (pc + 1) (a0 :: some (.ref x) :: t) st ws) : V X D tc cc own nL pc (a0 :: a1 :: t) (.ref x :: st) ws := V_astorenG hd hf hn k
theorem V_astN1 {a0 a1 : Option Value} (hd : decode cc pc = .ok (.astore_n 1, 1)) (hf : lflat (a0 :: a1 :: t) = true) (hn : 1 < nL) (k : V X D tc cc own nL (pc + 1) (a0 :: some .null :: t) st ws) : V X D tc cc own nL pc (a0 :: a1 :: t) (.null :: st) ws := V_astorenNG hd hf hn k
theorem V_inc1 {a0 : Option Value} {n : Int} {x : Int32} (v : Int32) (hd : decode cc pc = .ok (.iinc 1 n, 3)) (hv : x + Int32.ofInt n = v) (hf : lflat (a0 :: some (.int x) :: t) = true) (hn : 1 < nL) (k : V X D tc cc own nL (pc + 3) (a0 :: some (.int v) :: t) st ws) : V X D tc cc own nL pc (a0 :: some (.int x) :: t) st ws := V_iincG v hd rfl hv hf hn k
theorem V_ild2 {a0 a1 : Option Value} {x : Int32} (hd : decode cc pc = .ok (.iload_n 2, 1)) (k : V X D tc cc own nL (pc + 1) (a0 :: a1 :: some (.int x) :: t) (.int x :: st) ws) : V X D tc cc own nL pc (a0 :: a1 :: some (.int x) :: t) st ws := V_iloadnG hd rfl k
theorem V_ald2 {a0 a1 : Option Value} {x : Nat} (hd : decode cc pc = .ok (.aload_n 2, 1)) (k : V X D tc cc own nL (pc + 1) (a0 :: a1 :: some (.ref x) :: t) (.ref x :: st) ws) : V X D tc cc own nL pc (a0 :: a1 :: some (.ref x) :: t) st ws := V_aloadnG hd rfl k
theorem V_aldN2 {a0 a1 : Option Value} (hd : decode cc pc = .ok (.aload_n 2, 1)) (k : V X D tc cc own nL (pc + 1) (a0 :: a1 :: some .null :: t) (.null :: st) ws) : V X D tc cc own nL pc (a0 :: a1 :: some .null :: t) st ws := V_aloadnNG hd rfl k
theorem V_ist2 {a0 a1 a2 : Option Value} {x : Int32} (hd : decode cc pc = .ok (.istore_n 2, 1)) (hf : lflat (a0 :: a1 :: a2 :: t) = true) (hn : 2 < nL) (k : V X D tc cc own nL (pc + 1) (a0 :: a1 :: some (.int x) :: t) st ws) : V X D tc cc own nL pc (a0 :: a1 :: a2 :: t) (.int x :: st) ws := V_istorenG hd hf hn k
theorem V_ast2 {a0 a1 a2 : Option Value} {x : Nat} (hd : decode cc pc = .ok (.astore_n 2, 1)) (hf : lflat (a0 :: a1 :: a2 :: t) = true) (hn : 2 < nL) (k : V X D tc cc own nL (pc + 1) (a0 :: a1 :: some (.ref x) :: t) st ws) : V X D tc cc own nL pc (a0 :: a1 :: a2 :: t) (.ref x :: st) ws := V_astorenG hd hf hn k
theorem V_astN2 {a0 a1 a2 : Option Value} (hd : decode cc pc = .ok (.astore_n 2, 1)) (hf : lflat (a0 :: a1 :: a2 :: t) = true) (hn : 2 < nL) (k : V X D tc cc own nL (pc + 1) (a0 :: a1 :: some .null :: t) st ws) : V X D tc cc own nL pc (a0 :: a1 :: a2 :: t) (.null :: st) ws := V_astorenNG hd hf hn k
theorem V_inc2 {a0 a1 : Option Value} {n : Int} {x : Int32} (v : Int32) (hd : decode cc pc = .ok (.iinc 2 n, 3)) (hv : x + Int32.ofInt n = v) (hf : lflat (a0 :: a1 :: some (.int x) :: t) = true) (hn : 2 < nL) (k : V X D tc cc own nL (pc + 3) (a0 :: a1 :: some (.int v) :: t) st ws) : V X D tc cc own nL pc (a0 :: a1 :: some (.int x) :: t) st ws := V_iincG v hd rfl hv hf hn k
theorem V_ild3 {a0 a1 a2 : Option Value} {x : Int32} (hd : decode cc pc = .ok (.iload_n 3, 1)) (k : V X D tc cc own nL (pc + 1) (a0 :: a1 :: a2 :: some (.int x) :: t) (.int x :: st) ws) : V X D tc cc own nL pc (a0 :: a1 :: a2 :: some (.int x) :: t) st ws := V_iloadnG hd rfl k
theorem V_ald3 {a0 a1 a2 : Option Value} {x : Nat} (hd : decode cc pc = .ok (.aload_n 3, 1)) (k : V X D tc cc own nL (pc + 1) (a0 :: a1 :: a2 :: some (.ref x) :: t) (.ref x :: st) ws) : V X D tc cc own nL pc (a0 :: a1 :: a2 :: some (.ref x) :: t) st ws := V_aloadnG hd rfl k
theorem V_aldN3 {a0 a1 a2 : Option Value} (hd : decode cc pc = .ok (.aload_n 3, 1)) (k : V X D tc cc own nL (pc + 1) (a0 :: a1 :: a2 :: some .null :: t) (.null :: st) ws) : V X D tc cc own nL pc (a0 :: a1 :: a2 :: some .null :: t) st ws := V_aloadnNG hd rfl k
theorem V_ist3 {a0 a1 a2 a3 : Option Value} {x : Int32} (hd : decode cc pc = .ok (.istore_n 3, 1)) (hf : lflat (a0 :: a1 :: a2 :: a3 :: t) = true) (hn : 3 < nL) (k : V X D tc cc own nL (pc + 1) (a0 :: a1 :: a2 :: some (.int x) :: t) st ws) : V X D tc cc own nL pc (a0 :: a1 :: a2 :: a3 :: t) (.int x :: st) ws := V_istorenG hd hf hn k
theorem V_ast3 {a0 a1 a2 a3 : Option Value} {x : Nat} (hd : decode cc pc = .ok (.astore_n 3, 1)) (hf : lflat (a0 :: a1 :: a2 :: a3 :: t) = true) (hn : 3 < nL) (k : V X D tc cc own nL (pc + 1) (a0 :: a1 :: a2 :: some (.ref x) :: t) st ws) : V X D tc cc own nL pc (a0 :: a1 :: a2 :: a3 :: t) (.ref x :: st) ws := V_astorenG hd hf hn k
theorem V_astN3 {a0 a1 a2 a3 : Option Value} (hd : decode cc pc = .ok (.astore_n 3, 1)) (hf : lflat (a0 :: a1 :: a2 :: a3 :: t) = true) (hn : 3 < nL) (k : V X D tc cc own nL (pc + 1) (a0 :: a1 :: a2 :: some .null :: t) st ws) : V X D tc cc own nL pc (a0 :: a1 :: a2 :: a3 :: t) (.null :: st) ws := V_astorenNG hd hf hn k
theorem V_inc3 {a0 a1 a2 : Option Value} {n : Int} {x : Int32} (v : Int32) (hd : decode cc pc = .ok (.iinc 3 n, 3)) (hv : x + Int32.ofInt n = v) (hf : lflat (a0 :: a1 :: a2 :: some (.int x) :: t) = true) (hn : 3 < nL) (k : V X D tc cc own nL (pc + 3) (a0 :: a1 :: a2 :: some (.int v) :: t) st ws) : V X D tc cc own nL pc (a0 :: a1 :: a2 :: some (.int x) :: t) st ws := V_iincG v hd rfl hv hf hn k
theorem V_ild4 {a0 a1 a2 a3 : Option Value} {x : Int32} (hd : decode cc pc = .ok (.iload 4, 2)) (k : V X D tc cc own nL (pc + 2) (a0 :: a1 :: a2 :: a3 :: some (.int x) :: t) (.int x :: st) ws) : V X D tc cc own nL pc (a0 :: a1 :: a2 :: a3 :: some (.int x) :: t) st ws := V_iloadG hd rfl k
theorem V_ald4 {a0 a1 a2 a3 : Option Value} {x : Nat} (hd : decode cc pc = .ok (.aload 4, 2)) (k : V X D tc cc own nL (pc + 2) (a0 :: a1 :: a2 :: a3 :: some (.ref x) :: t) (.ref x :: st) ws) : V X D tc cc own nL pc (a0 :: a1 :: a2 :: a3 :: some (.ref x) :: t) st ws := V_aloadG hd rfl k
theorem V_aldN4 {a0 a1 a2 a3 : Option Value} (hd : decode cc pc = .ok (.aload 4, 2)) (k : V X D tc cc own nL (pc + 2) (a0 :: a1 :: a2 :: a3 :: some .null :: t) (.null :: st) ws) : V X D tc cc own nL pc (a0 :: a1 :: a2 :: a3 :: some .null :: t) st ws := V_aloadNG hd rfl k
theorem V_ist4 {a0 a1 a2 a3 a4 : Option Value} {x : Int32} (hd : decode cc pc = .ok (.istore 4, 2)) (hf : lflat (a0 :: a1 :: a2 :: a3 :: a4 :: t) = true) (hn : 4 < nL) (k : V X D tc cc own nL (pc + 2) (a0 :: a1 :: a2 :: a3 :: some (.int x) :: t) st ws) : V X D tc cc own nL pc (a0 :: a1 :: a2 :: a3 :: a4 :: t) (.int x :: st) ws := V_istoreG hd hf hn k
theorem V_ast4 {a0 a1 a2 a3 a4 : Option Value} {x : Nat} (hd : decode cc pc = .ok (.astore 4, 2)) (hf : lflat (a0 :: a1 :: a2 :: a3 :: a4 :: t) = true) (hn : 4 < nL) (k : V X D tc cc own nL (pc + 2) (a0 :: a1 :: a2 :: a3 :: some (.ref x) :: t) st ws) : V X D tc cc own nL pc (a0 :: a1 :: a2 :: a3 :: a4 :: t) (.ref x :: st) ws := V_astoreG hd hf hn k
theorem V_astN4 {a0 a1 a2 a3 a4 : Option Value} (hd : decode cc pc = .ok (.astore 4, 2)) (hf : lflat (a0 :: a1 :: a2 :: a3 :: a4 :: t) = true) (hn : 4 < nL) (k : V X D tc cc own nL (pc + 2) (a0 :: a1 :: a2 :: a3 :: some .null :: t) st ws) : V X D tc cc own nL pc (a0 :: a1 :: a2 :: a3 :: a4 :: t) (.null :: st) ws := V_astoreNG hd hf hn k
theorem V_inc4 {a0 a1 a2 a3 : Option Value} {n : Int} {x : Int32} (v : Int32) (hd : decode cc pc = .ok (.iinc 4 n, 3)) (hv : x + Int32.ofInt n = v) (hf : lflat (a0 :: a1 :: a2 :: a3 :: some (.int x) :: t) = true) (hn : 4 < nL) (k : V X D tc cc own nL (pc + 3) (a0 :: a1 :: a2 :: a3 :: some (.int v) :: t) st ws) : V X D tc cc own nL pc (a0 :: a1 :: a2 :: a3 :: some (.int x) :: t) st ws := V_iincG v hd rfl hv hf hn k
theorem V_ild5 {a0 a1 a2 a3 a4 : Option Value} {x : Int32} (hd : decode cc pc = .ok (.iload 5, 2)) (k : V X D tc cc own nL (pc + 2) (a0 :: a1 :: a2 :: a3 :: a4 :: some (.int x) :: t) (.int x :: st) ws) : V X D tc cc own nL pc (a0 :: a1 :: a2 :: a3 :: a4 :: some (.int x) :: t) st ws := V_iloadG hd rfl k
theorem V_ald5 {a0 a1 a2 a3 a4 : Option Value} {x : Nat} (hd : decode cc pc = .ok (.aload 5, 2)) (k : V X D tc cc own nL (pc + 2) (a0 :: a1 :: a2 :: a3 :: a4 :: some (.ref x) :: t) (.ref x :: st) ws) : V X D tc cc own nL pc (a0 :: a1 :: a2 :: a3 :: a4 :: some (.ref x) :: t) st ws := V_aloadG hd rfl k
theorem V_aldN5 {a0 a1 a2 a3 a4 : Option Value} (hd : decode cc pc = .ok (.aload 5, 2)) (k : V X D tc cc own nL (pc + 2) (a0 :: a1 :: a2 :: a3 :: a4 :: some .null :: t) (.null :: st) ws) : V X D tc cc own nL pc (a0 :: a1 :: a2 :: a3 :: a4 :: some .null :: t) st ws := V_aloadNG hd rfl k
theorem V_ist5 {a0 a1 a2 a3 a4 a5 : Option Value} {x : Int32} (hd : decode cc pc = .ok (.istore 5, 2)) (hf : lflat (a0 :: a1 :: a2 :: a3 :: a4 :: a5 :: t) = true) (hn : 5 < nL) (k : V X D tc cc own nL (pc + 2) (a0 :: a1 :: a2 :: a3 :: a4 :: some (.int x) :: t) st ws) : V X D tc cc own nL pc (a0 :: a1 :: a2 :: a3 :: a4 :: a5 :: t) (.int x :: st) ws := V_istoreG hd hf hn k
theorem V_ast5 {a0 a1 a2 a3 a4 a5 : Option Value} {x : Nat} (hd : decode cc pc = .ok (.astore 5, 2)) (hf : lflat (a0 :: a1 :: a2 :: a3 :: a4 :: a5 :: t) = true) (hn : 5 < nL) (k : V X D tc cc own nL (pc + 2) (a0 :: a1 :: a2 :: a3 :: a4 :: some (.ref x) :: t) st ws) : V X D tc cc own nL pc (a0 :: a1 :: a2 :: a3 :: a4 :: a5 :: t) (.ref x :: st) ws := V_astoreG hd hf hn k
theorem V_astN5 {a0 a1 a2 a3 a4 a5 : Option Value} (hd : decode cc pc = .ok (.astore 5, 2)) (hf : lflat (a0 :: a1 :: a2 :: a3 :: a4 :: a5 :: t) = true) (hn : 5 < nL) (k : V X D tc cc own nL (pc + 2) (a0 :: a1 :: a2 :: a3 :: a4 :: some .null :: t) st ws) : V X D tc cc own nL pc (a0 :: a1 :: a2 :: a3 :: a4 :: a5 :: t) (.null :: st) ws := V_astoreNG hd hf hn k
theorem V_inc5 {a0 a1 a2 a3 a4 : Option Value} {n : Int} {x : Int32} (v : Int32) (hd : decode cc pc = .ok (.iinc 5 n, 3)) (hv : x + Int32.ofInt n = v) (hf : lflat (a0 :: a1 :: a2 :: a3 :: a4 :: some (.int x) :: t) = true) (hn : 5 < nL) (k : V X D tc cc own nL (pc + 3) (a0 :: a1 :: a2 :: a3 :: a4 :: some (.int v) :: t) st ws) : V X D tc cc own nL pc (a0 :: a1 :: a2 :: a3 :: a4 :: some (.int x) :: t) st ws := V_iincG v hd rfl hv hf hn k
theorem V_ild6 {a0 a1 a2 a3 a4 a5 : Option Value} {x : Int32} (hd : decode cc pc = .ok (.iload 6, 2)) (k : V X D tc cc own nL (pc + 2) (a0 :: a1 :: a2 :: a3 :: a4 :: a5 :: some (.int x) :: t) (.int x :: st) ws) : V X D tc cc own nL pc (a0 :: a1 :: a2 :: a3 :: a4 :: a5 :: some (.int x) :: t) st ws := V_iloadG hd rfl k
theorem V_ald6 {a0 a1 a2 a3 a4 a5 : Option Value} {x : Nat} (hd : decode cc pc = .ok (.aload 6, 2)) (k : V X D tc cc own nL (pc + 2) (a0 :: a1 :: a2 :: a3 :: a4 :: a5 :: some (.ref x) :: t) (.ref x :: st) ws) : V X D tc cc own nL pc (a0 :: a1 :: a2 :: a3 :: a4 :: a5 :: some (.ref x) :: t) st ws := V_aloadG hd rfl k
theorem V_aldN6 {a0 a1 a2 a3 a4 a5 : Option Value} (hd : decode cc pc = .ok (.aload 6, 2)) (k : V X D tc cc own nL (pc + 2) (a0 :: a1 :: a2 :: a3 :: a4 :: a5 :: some .null :: t) (.null :: st) ws) : V X D tc cc own nL pc (a0 :: a1 :: a2 :: a3 :: a4 :: a5 :: some .null :: t) st ws := V_aloadNG hd rfl k
theorem V_ist6 {a0 a1 a2 a3 a4 a5 a6 : Option Value} {x : Int32} (hd : decode cc pc = .ok (.istore 6, 2)) (hf : lflat (a0 :: a1 :: a2 :: a3 :: a4 :: a5 :: a6 :: t) = true) (hn : 6 < nL) (k : V X D tc cc own nL (pc + 2) (a0 :: a1 :: a2 :: a3 :: a4 :: a5 :: some (.int x) :: t) st ws) : V X D tc cc own nL pc (a0 :: a1 :: a2 :: a3 :: a4 :: a5 :: a6 :: t) (.int x :: st) ws := V_istoreG hd hf hn k
theorem V_ast6 {a0 a1 a2 a3 a4 a5 a6 : Option Value} {x : Nat} (hd : decode cc pc = .ok (.astore 6, 2)) (hf : lflat (a0 :: a1 :: a2 :: a3 :: a4 :: a5 :: a6 :: t) = true) (hn : 6 < nL) (k : V X D tc cc own nL (pc + 2) (a0 :: a1 :: a2 :: a3 :: a4 :: a5 :: some (.ref x) :: t) st ws) : V X D tc cc own nL pc (a0 :: a1 :: a2 :: a3 :: a4 :: a5 :: a6 :: t) (.ref x :: st) ws := V_astoreG hd hf hn k
theorem V_astN6 {a0 a1 a2 a3 a4 a5 a6 : Option Value} (hd : decode cc pc = .ok (.astore 6, 2)) (hf : lflat (a0 :: a1 :: a2 :: a3 :: a4 :: a5 :: a6 :: t) = true) (hn : 6 < nL) (k : V X D tc cc own nL (pc + 2) (a0 :: a1 :: a2 :: a3 :: a4 :: a5 :: some .null :: t) st ws) : V X D tc cc own nL pc (a0 :: a1 :: a2 :: a3 :: a4 :: a5 :: a6 :: t) (.null :: st) ws := V_astoreNG hd hf hn k
theorem V_inc6 {a0 a1 a2 a3 a4 a5 : Option Value} {n : Int} {x : Int32} (v : Int32) (hd : decode cc pc = .ok (.iinc 6 n, 3)) (hv : x + Int32.ofInt n = v) (hf : lflat (a0 :: a1 :: a2 :: a3 :: a4 :: a5 :: some (.int x) :: t) = true) (hn : 6 < nL) (k : V X D tc cc own nL (pc + 3) (a0 :: a1 :: a2 :: a3 :: a4 :: a5 :: some (.int v) :: t) st ws) : V X D tc cc own nL pc (a0 :: a1 :: a2 :: a3 :: a4 :: a5 :: some (.int x) :: t) st ws := V_iincG v hd rfl hv hf hn k
theorem V_ild7 {a0 a1 a2 a3 a4 a5 a6 : Option Value} {x : Int32} (hd : decode cc pc = .ok (.iload 7, 2)) (k : V X D tc cc own nL (pc + 2) (a0 :: a1 :: a2 :: a3 :: a4 :: a5 :: a6 :: some (.int x) :: t) (.int x :: st) ws) : V X D tc cc own nL pc (a0 :: a1 :: a2 :: a3 :: a4 :: a5 :: a6 :: some (.int x) :: t) st ws := V_iloadG hd rfl k
theorem V_ald7 {a0 a1 a2 a3 a4 a5 a6 : Option Value} {x : Nat} (hd : decode cc pc = .ok (.aload 7, 2)) (k : V X D tc cc own nL (pc + 2) (a0 :: a1 :: a2 :: a3 :: a4 :: a5 :: a6 :: some (.ref x) :: t) (.ref x :: st) ws) : V X D tc cc own nL pc (a0 :: a1 :: a2 :: a3 :: a4 :: a5 :: a6 :: some (.ref x) :: t) st ws := V_aloadG hd rfl k
theorem V_aldN7 {a0 a1 a2 a3 a4 a5 a6 : Option Value} (hd : decode cc pc = .ok (.aload 7, 2)) (k : V X D tc cc own nL (pc + 2) (a0 :: a1 :: a2 :: a3 :: a4 :: a5 :: a6 :: some .null :: t) (.null :: st) ws) : V X D tc cc own nL pc (a0 :: a1 :: a2 :: a3 :: a4 :: a5 :: a6 :: some .null :: t) st ws := V_aloadNG hd rfl k
theorem V_ist7 {a0 a1 a2 a3 a4 a5 a6 a7 : Option Value} {x : Int32} (hd : decode cc pc = .ok (.istore 7, 2)) (hf : lflat (a0 :: a1 :: a2 :: a3 :: a4 :: a5 :: a6 :: a7 :: t) = true) (hn : 7 < nL) (k : V X D tc cc own nL (pc + 2) (a0 :: a1 :: a2 :: a3 :: a4 :: a5 :: a6 :: some (.int x) :: t) st ws) : V X D tc cc own nL pc (a0 :: a1 :: a2 :: a3 :: a4 :: a5 :: a6 :: a7 :: t) (.int x :: st) ws := V_istoreG hd hf hn k
theorem V_ast7 {a0 a1 a2 a3 a4 a5 a6 a7 : Option Value} {x : Nat} (hd : decode cc pc = .ok (.astore 7, 2)) (hf : lflat (a0 :: a1 :: a2 :: a3 :: a4 :: a5 :: a6 :: a7 :: t) = true) (hn : 7 < nL) (k : V X D tc cc own nL (pc + 2) (a0 :: a1 :: a2 :: a3 :: a4 :: a5 :: a6 :: some (.ref x) :: t) st ws) : V X D tc cc own nL pc (a0 :: a1 :: a2 :: a3 :: a4 :: a5 :: a6 :: a7 :: t) (.ref x :: st) ws := V_astoreG hd hf hn k
theorem V_astN7 {a0 a1 a2 a3 a4 a5 a6 a7 : Option Value} (hd : decode cc pc = .ok (.astore 7, 2)) (hf : lflat (a0 :: a1 :: a2 :: a3 :: a4 :: a5 :: a6 :: a7 :: t) = true) (hn : 7 < nL) (k : V X D tc cc own nL (pc + 2) (a0 :: a1 :: a2 :: a3 :: a4 :: a5 :: a6 :: some .null :: t) st ws) : V X D tc cc own nL pc (a0 :: a1 :: a2 :: a3 :: a4 :: a5 :: a6 :: a7 :: t) (.null :: st) ws := V_astoreNG hd hf hn k
theorem V_inc7 {a0 a1 a2 a3 a4 a5 a6 : Option Value} {n : Int} {x : Int32} (v : Int32) (hd : decode cc pc = .ok (.iinc 7 n, 3)) (hv : x + Int32.ofInt n = v) (hf : lflat (a0 :: a1 :: a2 :: a3 :: a4 :: a5 :: a6 :: some (.int x) :: t) = true) (hn : 7 < nL) (k : V X D tc cc own nL (pc + 3) (a0 :: a1 :: a2 :: a3 :: a4 :: a5 :: a6 :: some (.int v) :: t) st ws) : V X D tc cc own nL pc (a0 :: a1 :: a2 :: a3 :: a4 :: a5 :: a6 :: some (.int x) :: t) st ws := V_iincG v hd rfl hv hf hn k
theorem V_ild8 {a0 a1 a2 a3 a4 a5 a6 a7 : Option Value} {x : Int32} (hd : decode cc pc = .ok (.iload 8, 2)) (k : V X D tc cc own nL (pc + 2) (a0 :: a1 :: a2 :: a3 :: a4 :: a5 :: a6 :: a7 :: some (.int x) :: t) (.int x :: st) ws) : V X D tc cc own nL pc (a0 :: a1 :: a2 :: a3 :: a4 :: a5 :: a6 :: a7 :: some (.int x) :: t) st ws := V_iloadG hd rfl k
theorem V_ald8 {a0 a1 a2 a3 a4 a5 a6 a7 : Option Value} {x : Nat} (hd : decode cc pc = .ok (.aload 8, 2)) (k : V X D tc cc own nL (pc + 2) (a0 :: a1 :: a2 :: a3 :: a4 :: a5 :: a6 :: a7 :: some (.ref x) :: t) (.ref x :: st) ws) : V X D tc cc own nL pc (a0 :: a1 :: a2 :: a3 :: a4 :: a5 :: a6 :: a7 :: some (.ref x) :: t) st ws := V_aloadG hd rfl k
theorem V_aldN8 {a0 a1 a2 a3 a4 a5 a6 a7 : Option Value} (hd : decode cc pc = .ok (.aload 8, 2)) (k : V X D tc cc own nL (pc + 2) (a0 :: a1 :: a2 :: a3 :: a4 :: a5 :: a6 :: a7 :: some .null :: t) (.null :: st) ws) : V X D tc cc own nL pc (a0 :: a1 :: a2 :: a3 :: a4 :: a5 :: a6 :: a7 :: some .null :: t) st ws := V_aloadNG hd rfl k
theorem V_ist8 {a0 a1 a2 a3 a4 a5 a6 a7 a8 : Option Value} {x : Int32} (hd : decode cc pc = .ok (.istore 8, 2)) (hf : lflat (a0 :: a1 :: a2 :: a3 :: a4 :: a5 :: a6 :: a7 :: a8 :: t) = true) (hn : 8 < nL) (k : V X D tc cc own nL (pc + 2) (a0 :: a1 :: a2 :: a3 :: a4 :: a5 :: a6 :: a7 :: some (.int x) :: t) st ws) : V X D tc cc own nL pc (a0 :: a1 :: a2 :: a3 :: a4 :: a5 :: a6 :: a7 :: a8 :: t) (.int x :: st) ws := V_istoreG hd hf hn k
theorem V_ast8 {a0 a1 a2 a3 a4 a5 a6 a7 a8 : Option Value} {x : Nat} (hd : decode cc pc = .ok (.astore 8, 2)) (hf : lflat (a0 :: a1 :: a2 :: a3 :: a4 :: a5 :: a6 :: a7 :: a8 :: t) = true) (hn : 8 < nL) (k : V X D tc cc own nL (pc + 2) (a0 :: a1 :: a2 :: a3 :: a4 :: a5 :: a6 :: a7 :: some (.ref x) :: t) st ws) : V X D tc cc own nL pc (a0 :: a1 :: a2 :: a3 :: a4 :: a5 :: a6 :: a7 :: a8 :: t) (.ref x :: st) ws := V_astoreG hd hf hn k
theorem V_astN8 {a0 a1 a2 a3 a4 a5 a6 a7 a8 : Option Value} (hd : decode cc pc = .ok (.astore 8, 2)) (hf : lflat (a0 :: a1 :: a2 :: a3 :: a4 :: a5 :: a6 :: a7 :: a8 :: t) = true) (hn : 8 < nL) (k : V X D tc cc own nL (pc + 2) (a0 :: a1 :: a2 :: a3 :: a4 :: a5 :: a6 :: a7 :: some .null :: t) st ws) : V X D tc cc own nL pc (a0 :: a1 :: a2 :: a3 :: a4 :: a5 :: a6 :: a7 :: a8 :: t) (.null :: st) ws := V_astoreNG hd hf hn k
theorem V_inc8 {a0 a1 a2 a3 a4 a5 a6 a7 : Option Value} {n : Int} {x : Int32} (v : Int32) (hd : decode cc pc = .ok (.iinc 8 n, 3)) (hv : x + Int32.ofInt n = v) (hf : lflat (a0 :: a1 :: a2 :: a3 :: a4 :: a5 :: a6 :: a7 :: some (.int x) :: t) = true) (hn : 8 < nL) (k : V X D tc cc own nL (pc + 3) (a0 :: a1 :: a2 :: a3 :: a4 :: a5 :: a6 :: a7 :: some (.int v) :: t) st ws) : V X D tc cc own nL pc (a0 :: a1 :: a2 :: a3 :: a4 :: a5 :: a6 :: a7 :: some (.int x) :: t) st ws := V_iincG v hd rfl hv hf hn k
theorem V_ild9 {a0 a1 a2 a3 a4 a5 a6 a7 a8 : Option Value} {x : Int32} (hd : decode cc pc = .ok (.iload 9, 2)) (k : V X D tc cc own nL (pc + 2) (a0 :: a1 :: a2 :: a3 :: a4 :: a5 :: a6 :: a7 :: a8 :: some (.int x) :: t) (.int x :: st) ws) : V X D tc cc own nL pc (a0 :: a1 :: a2 :: a3 :: a4 :: a5 :: a6 :: a7 :: a8 :: some (.int x) :: t) st ws := V_iloadG hd rfl k
theorem V_ald9 {a0 a1 a2 a3 a4 a5 a6 a7 a8 : Option Value} {x : Nat} (hd : decode cc pc = .ok (.aload 9, 2)) (k : V X D tc cc own nL (pc + 2) (a0 :: a1 :: a2 :: a3 :: a4 :: a5 :: a6 :: a7 :: a8 :: some (.ref x) :: t) (.ref x :: st) ws) : V X D tc cc own nL pc (a0 :: a1 :: a2 :: a3 :: a4 :: a5 :: a6 :: a7 :: a8 :: some (.ref x) :: t) st ws := V_aloadG hd rfl k
theorem V_aldN9 {a0 a1 a2 a3 a4 a5 a6 a7 a8 : Option Value} (hd : decode cc pc = .ok (.aload 9, 2)) (k : V X D tc cc own nL (pc + 2) (a0 :: a1 :: a2 :: a3 :: a4 :: a5 :: a6 :: a7 :: a8 :: some .null :: t) (.null :: st) ws) : V X D tc cc own nL pc (a0 :: a1 :: a2 :: a3 :: a4 :: a5 :: a6 :: a7 :: a8 :: some .null :: t) st ws := V_aloadNG hd rfl k
theorem V_ist9 {a0 a1 a2 a3 a4 a5 a6 a7 a8 a9 : Option Value} {x : Int32} (hd : decode cc pc = .ok (.istore 9, 2)) (hf : lflat (a0 :: a1 :: a2 :: a3 :: a4 :: a5 :: a6 :: a7 :: a8 :: a9 :: t) = true) (hn : 9 < nL) (k : V X D tc cc own nL (pc + 2) (a0 :: a1 :: a2 :: a3 :: a4 :: a5 :: a6 :: a7 :: a8 :: some (.int x) :: t) st ws) : V X D tc cc own nL pc (a0 :: a1 :: a2 :: a3 :: a4 :: a5 :: a6 :: a7 :: a8 :: a9 :: t) (.int x :: st) ws := V_istoreG hd hf hn k
theorem V_ast9 {a0 a1 a2 a3 a4 a5 a6 a7 a8 a9 : Option Value} {x : Nat} (hd : decode cc pc = .ok (.astore 9, 2)) (hf : lflat (a0 :: a1 :: a2 :: a3 :: a4 :: a5 :: a6 :: a7 :: a8 :: a9 :: t) = true) (hn : 9 < nL) (k : V X D tc cc own nL (pc + 2) (a0 :: a1 :: a2 :: a3 :: a4 :: a5 :: a6 :: a7 :: a8 :: some (.ref x) :: t) st ws) : V X D tc cc own nL pc (a0 :: a1 :: a2 :: a3 :: a4 :: a5 :: a6 :: a7 :: a8 :: a9 :: t) (.ref x :: st) ws := V_astoreG hd hf hn k
theorem V_astN9 {a0 a1 a2 a3 a4 a5 a6 a7 a8 a9 : Option Value} (hd : decode cc pc = .ok (.astore 9, 2)) (hf : lflat (a0 :: a1 :: a2 :: a3 :: a4 :: a5 :: a6 :: a7 :: a8 :: a9 :: t) = true) (hn : 9 < nL) (k : V X D tc cc own nL (pc + 2) (a0 :: a1 :: a2 :: a3 :: a4 :: a5 :: a6 :: a7 :: a8 :: some .null :: t) st ws) : V X D tc cc own nL pc (a0 :: a1 :: a2 :: a3 :: a4 :: a5 :: a6 :: a7 :: a8 :: a9 :: t) (.null :: st) ws := V_astoreNG hd hf hn k
theorem V_inc9 {a0 a1 a2 a3 a4 a5 a6 a7 a8 : Option Value} {n : Int} {x : Int32} (v : Int32) (hd : decode cc pc = .ok (.iinc 9 n, 3)) (hv : x + Int32.ofInt n = v) (hf : lflat (a0 :: a1 :: a2 :: a3 :: a4 :: a5 :: a6 :: a7 :: a8 :: some (.int x) :: t) = true) (hn : 9 < nL) (k : V X D tc cc own nL (pc + 3) (a0 :: a1 :: a2 :: a3 :: a4 :: a5 :: a6 :: a7 :: a8 :: some (.int v) :: t) st ws) : V X D tc cc own nL pc (a0 :: a1 :: a2 :: a3 :: a4 :: a5 :: a6 :: a7 :: a8 :: some (.int x) :: t) st ws := V_iincG v hd rfl hv hf hn k
theorem V_ild10 {a0 a1 a2 a3 a4 a5 a6 a7 a8 a9 : Option Value} {x : Int32} (hd : decode cc pc = .ok (.iload 10, 2)) (k : V X D tc cc own nL (pc + 2) (a0 :: a1 :: a2 :: a3 :: a4 :: a5 :: a6 :: a7 :: a8 :: a9 :: some (.int x) :: t) (.int x :: st) ws) : V X D tc cc own nL pc (a0 :: a1 :: a2 :: a3 :: a4 :: a5 :: a6 :: a7 :: a8 :: a9 :: some (.int x) :: t) st ws := V_iloadG hd rfl k
theorem V_ald10 {a0 a1 a2 a3 a4 a5 a6 a7 a8 a9 : Option Value} {x : Nat} (hd : decode cc pc = .ok (.aload 10, 2)) (k : V X D tc cc own nL (pc + 2) (a0 :: a1 :: a2 :: a3 :: a4 :: a5 :: a6 :: a7 :: a8 :: a9 :: some (.ref x) :: t) (.ref x :: st) ws) : V X D tc cc own nL pc (a0 :: a1 :: a2 :: a3 :: a4 :: a5 :: a6 :: a7 :: a8 :: a9 :: some (.ref x) :: t) st ws := V_aloadG hd rfl k
theorem V_aldN10 {a0 a1 a2 a3 a4 a5 a6 a7 a8 a9 : Option Value} (hd : decode cc pc = .ok (.aload 10, 2)) (k : V X D tc cc own nL (pc + 2) (a0 :: a1 :: a2 :: a3 :: a4 :: a5 :: a6 :: a7 :: a8 :: a9 :: some .null :: t) (.null :: st) ws) : V X D tc cc own nL pc (a0 :: a1 :: a2 :: a3 :: a4 :: a5 :: a6 :: a7 :: a8 :: a9 :: some .null :: t) st ws := V_aloadNG hd rfl k
theorem V_ist10 {a0 a1 a2 a3 a4 a5 a6 a7 a8 a9 a10 : Option Value} {x : Int32} (hd : decode cc pc = .ok (.istore 10, 2)) (hf : lflat (a0 :: a1 :: a2 :: a3 :: a4 :: a5 :: a6 :: a7 :: a8 :: a9 :: a10 :: t) = true) (hn : 10 < nL) (k : V X D tc cc own nL (pc + 2) (a0 :: a1 :: a2 :: a3 :: a4 :: a5 :: a6 :: a7 :: a8 :: a9 :: some (.int x) :: t) st ws) : V X D tc cc own nL pc (a0 :: a1 :: a2 :: a3 :: a4 :: a5 :: a6 :: a7 :: a8 :: a9 :: a10 :: t) (.int x :: st) ws := V_istoreG hd hf hn k
theorem V_ast10 {a0 a1 a2 a3 a4 a5 a6 a7 a8 a9 a10 : Option Value} {x : Nat} (hd : decode cc pc = .ok (.astore 10, 2)) (hf : lflat (a0 :: a1 :: a2 :: a3 :: a4 :: a5 :: a6 :: a7 :: a8 :: a9 :: a10 :: t) = true) (hn : 10 < nL) (k : V X D tc cc own nL (pc + 2) (a0 :: a1 :: a2 :: a3 :: a4 :: a5 :: a6 :: a7 :: a8 :: a9 :: some (.ref x) :: t) st ws) : V X D tc cc own nL pc (a0 :: a1 :: a2 :: a3 :: a4 :: a5 :: a6 :: a7 :: a8 :: a9 :: a10 :: t) (.ref x :: st) ws := V_astoreG hd hf hn k
theorem V_astN10 {a0 a1 a2 a3 a4 a5 a6 a7 a8 a9 a10 : Option Value} (hd : decode cc pc = .ok (.astore 10, 2)) (hf : lflat (a0 :: a1 :: a2 :: a3 :: a4 :: a5 :: a6 :: a7 :: a8 :: a9 :: a10 :: t) = true) (hn : 10 < nL) (k : V X D tc cc own nL (pc + 2) (a0 :: a1 :: a2 :: a3 :: a4 :: a5 :: a6 :: a7 :: a8 :: a9 :: some .null :: t) st ws) : V X D tc cc own nL pc (a0 :: a1 :: a2 :: a3 :: a4 :: a5 :: a6 :: a7 :: a8 :: a9 :: a10 :: t) (.null :: st) ws := V_astoreNG hd hf hn k
theorem V_inc10 {a0 a1 a2 a3 a4 a5 a6 a7 a8 a9 : Option Value} {n : Int} {x : Int32} (v : Int32) (hd : decode cc pc = .ok (.iinc 10 n, 3)) (hv : x + Int32.ofInt n = v) (hf : lflat (a0 :: a1 :: a2 :: a3 :: a4 :: a5 :: a6 :: a7 :: a8 :: a9 :: some (.int x) :: t) = true) (hn : 10 < nL) (k : V X D tc cc own nL (pc + 3) (a0 :: a1 :: a2 :: a3 :: a4 :: a5 :: a6 :: a7 :: a8 :: a9 :: some (.int v) :: t) st ws) : V X D tc cc own nL pc (a0 :: a1 :: a2 :: a3 :: a4 :: a5 :: a6 :: a7 :: a8 :: a9 :: some (.int x) :: t) st ws := V_iincG v hd rfl hv hf hn k
end VIX
end
section
/-! CONTRACTS: Ok d y .. av ws r ws': called with av over the cells ws, the method y returns r and leaves ws'; d frames are enough below it -/
def PreK (D : va_G) (tc : Tc) (ws : va_W) (sz : Nat) (U : State) : Prop := U.heap.size = sz ∧ va_P D vwCl ws U.heap ∧ va_K D vwCl (TY tc) U ∧ va_D (fun _ => True) ws ∧ Nst U
def QK (D : va_G) (r : Option Value) (ws' : va_W) (A : Nat → Prop) : Array Value → State → Outcome → State → Prop := fun _ st oc t => (oc = .returned r ∧ va_P D vwCl ws' t.heap ∧ va_D A ws') ∧ va_F A st t
def Ok (d : Nat) (y : MethodName) (cc : ByteArray) (maxL : Nat) (ret : Option FieldType) (D : va_G) (tc : Tc) (av : List Value) (ws : va_W) (r : Option Value) (ws' : va_W) : Prop :=
  ∀ (l : Launch) (sz : Nat), Met l y (.code y cc maxL ret :: bigW) (rmD d) (va_Pc av (PreK D tc ws sz)) (QK D r ws' (va_A ws sz)) 0 0 (va_A ws sz)
/-- what a body's context aims at -/
def Aim (X : Cx) (D : va_G) (ret : Option FieldType) (d : Nat) (r : Option Value) (ws' : va_W) : Prop := X.2.2.1.2.1 = MQ X.2.1.2.2.1 (QK D r ws' X.2.2.1.1) X.2.1.2.1 X.1.2.2.2.2 0 0 X.2.2.1.1 ∧ X.2.2.1.2.2 = ret ∧ X.2.2.2 = (d, 0, 0)
theorem Ok_of {d : Nat} {y : MethodName} {cc : ByteArray} {maxL : Nat} {ret : Option FieldType} {D : va_G} {tc : Tc} {av : List Value} {ws : va_W} {r : Option Value} {ws' : va_W} (own : String) (hown : y.cls = own) (hy : plainName y.cls = true) (L0 : List (Option Value)) (hL : lvp 0 L0 = lv_args 0 av) (hlen : (lg_sl av).length ≤ maxL)
    (body : ∀ X : Cx, Aim X D ret d r ws' → V X D tc cc own maxL 0 L0 [] ws) : Ok d y cc maxL ret D tc av ws r ws' := by
  intro l sz
  refine Met.ofW (cc := cc) (maxL := maxL) (ret := ret) hy rfl ?_
  intro p e s m args below meth c s₁ B hml hv
  obtain ⟨rfl, hsz, hP, hK, hD0, hN⟩ := hv
  have hts := atoms_spec (ws := .code y cc maxL ret :: bigW) B.pre
  have ho : s.vm.findClass own = some m.cls := hown ▸ findClass_of_methodNamed B.named
  subst hsz
  have hD := hD0.self (sz := s.heap.size)
  have hl := lv_entry av (n := maxL) hlen
  rw [lg_entry_eq]
  exact body ((p, l, e, (headSpec (.code y cc maxL ret :: bigW) (rmD d)).room, s), (m, av.toArray, below, meth, c), (va_A ws s.heap.size, _, ret), (d, 0, 0)) ⟨rfl, rfl, rfl⟩
    ⟨B.exec, B.bytes, hml, ho, fun w hw => hts w (List.mem_cons_of_mem _ hw), hK, hN, fun q h => Or.inr h, B.returns, B.notSynchronized, ⟨Nat.le_refl _, Nat.le_refl _⟩, Nat.zero_le _, Nat.zero_le _⟩ s.heap [] _ hP hD va_S.rf (lvH.of hl hL)
section VRET
variable {X : Cx} {D : va_G} {tc : Tc} {cc : ByteArray} {own : String} {nL pc : Nat} {L : List (Option Value)} {st : List Value} {ws : va_W} {ret : Option FieldType} {d : Nat} {r : Option Value} {ws' : va_W}
theorem V_iret {v : Int32} (hX : Aim X D ret d r ws') (hd : decode cc pc = .ok (.ireturn, 1)) (hret : ret = some .int) (hr : r = some (.int v)) (hw : ws' = ws) : V X D tc cc own nL pc L [.int v] ws := by
  intro F H locs ls hP hD hS hl
  subst hr; subst hw
  obtain ⟨h1, h2, h3⟩ := hX
  unfold WW
  rw [h1, h3]
  exact W.iret F.1 F.2.1 (by rw [F.2.2.2.2.2.2.2.2.1, h2, hret]) (fun t ht hW => ⟨⟨rfl, by rw [ht]; exact hP, hD⟩, hS.F ht⟩) hS.2.2 hd F.2.2.2.2.2.2.2.2.2.1
theorem V_zret {v : Int32} (hX : Aim X D ret d r ws') (hd : decode cc pc = .ok (.ireturn, 1)) (hret : ret = some .boolean) (hn : v = 0 ∨ v = 1) (hr : r = some (.int v)) (hw : ws' = ws) : V X D tc cc own nL pc L [.int v] ws := by
  intro F H locs ls hP hD hS hl
  subst hr; subst hw
  obtain ⟨h1, h2, h3⟩ := hX
  unfold WW
  rw [h1, h3]
  exact W.zret (ty := .boolean) F.1 F.2.1 (by rw [F.2.2.2.2.2.2.2.2.1, h2, hret]) (by rcases hn with rfl | rfl <;> rfl) (fun t ht hW => ⟨⟨rfl, by rw [ht]; exact hP, hD⟩, hS.F ht⟩) hS.2.2 hd F.2.2.2.2.2.2.2.2.2.1
theorem V_lret {v : Int64} (hX : Aim X D ret d r ws') (hd : decode cc pc = .ok (.lreturn, 1)) (hret : ret = some .long) (hr : r = some (.long v)) (hw : ws' = ws) : V X D tc cc own nL pc L [.long v] ws := by
  intro F H locs ls hP hD hS hl
  subst hr; subst hw
  obtain ⟨h1, h2, h3⟩ := hX
  unfold WW
  rw [h1, h3]
  exact W.lret F.1 F.2.1 (by rw [F.2.2.2.2.2.2.2.2.1, h2, hret]) (fun t ht hW => ⟨⟨rfl, by rw [ht]; exact hP, hD⟩, hS.F ht⟩) hS.2.2 hd F.2.2.2.2.2.2.2.2.2.1
theorem V_vret (hX : Aim X D ret d r ws') (hd : decode cc pc = .ok (.return_, 1)) (hret : ret = none) (hr : r = none) (hw : ws' = ws) : V X D tc cc own nL pc L [] ws := by
  intro F H locs ls hP hD hS hl
  subst hr; subst hw
  obtain ⟨h1, h2, h3⟩ := hX
  unfold WW
  rw [h1, h3]
  exact W.vret F.1 F.2.1 (by rw [F.2.2.2.2.2.2.2.2.1, h2, hret]) (fun t ht hW => ⟨⟨rfl, by rw [ht]; exact hP, hD⟩, hS.F ht⟩) hS.2.2 hd F.2.2.2.2.2.2.2.2.2.1
theorem V_aret {v : Value} {n : String} (hX : Aim X D ret d r ws') (hd : decode cc pc = .ok (.areturn, 1)) (hret : ret = some (.object n)) (hv : v = .null ∨ ∃ a, v = .ref a) (hr : r = some v) (hw : ws' = ws) : V X D tc cc own nL pc L [v] ws := by
  intro F H locs ls hP hD hS hl
  subst hr; subst hw
  obtain ⟨h1, h2, h3⟩ := hX
  unfold WW
  rw [h1, h3]
  exact W.aret (rt := .object n) F.1 F.2.1 (by rw [F.2.2.2.2.2.2.2.2.1, h2, hret]) (Or.inl ⟨n, rfl⟩) hv (fun t ht hW => ⟨⟨rfl, by rw [ht]; exact hP, hD⟩, hS.F ht⟩) hS.2.2 hd F.2.2.2.2.2.2.2.2.2.1
end VRET
def okN (y : MethodName) (n : Nat) : Prop := y.cls ≠ "java/lang/invoke/MethodHandle" ∧ y.cls ≠ "java/lang/invoke/VarHandle" ∧ (parseMethodDescriptor y.desc).map (fun d => d.parameters.length) = some n
def LinkV (own : String) (idx : Nat) (C : String) (y : MethodName) (cc : ByteArray) (maxL : Nat) (ret : Option FieldType) (n : Nat) : Prop := Cond.methodLink own idx y ∈ bigW ∧ Cond.instanceMethod y ∈ bigW ∧ Cond.selects C y y ∈ bigW ∧ Cond.initialized C ∈ bigW ∧ Cond.code y cc maxL ret ∈ bigW ∧ y.cls = C ∧ okN y n
def LinkS (own : String) (idx : Nat) (y : MethodName) (cc : ByteArray) (maxL : Nat) (ret : Option FieldType) (n : Nat) : Prop := Cond.methodLink own idx y ∈ bigW ∧ Cond.static y ∈ bigW ∧ Cond.initialized y.cls ∈ bigW ∧ Cond.code y cc maxL ret ∈ bigW ∧ okN y n
def LinkN (own : String) (idx : Nat) (y : MethodName) (cc : ByteArray) (maxL : Nat) (ret : Option FieldType) (n : Nat) : Prop := (own, idx, y) ∈ nstW ∧ Cond.static y ∈ bigW ∧ Cond.initialized y.cls ∈ bigW ∧ Cond.code y cc maxL ret ∈ bigW ∧ okN y n
theorem goodY {y : MethodName} {cc : ByteArray} {maxL : Nat} {ret : Option FieldType} (h : Cond.code y cc maxL ret ∈ bigW) : ∀ w ∈ (Cond.code y cc maxL ret :: bigW), w ∈ bigW := fun w hw => by
  rcases List.mem_cons.mp hw with rfl | hw
  · exact h
  · exact hw
theorem PreK.blind {D : va_G} {tc : Tc} {av : List Value} {ws : va_W} {sz : Nat} : FrameBlind (va_Pc av (PreK D tc ws sz)) := fun a U g mk q => by
  obtain ⟨q0, q1, qP, qK, qD, qN⟩ := q
  exact ⟨q0, q1, qP, va_K.moved (u := U) (U := U.calling g mk a) (Vm.Alike.refl U.vm) qK, qD, qN.call⟩
section VCALL
variable {X : Cx} {D : va_G} {tc : Tc} {cc : ByteArray} {own : String} {nL pc : Nat} {L : List (Option Value)} {st : List Value} {ws : va_W}
/-- behind a call -/
theorem V_back {p : Program} {d' : Nat} {r : Option Value} {ws' : va_W} {rest : List Value} {a : Array Value} (F : Fx X D tc cc own nL) {H : Heap} {locs : List Loc} {ls : Array Slot} (hP : va_P D vwCl ws H) (hD : va_D X.2.2.1.1 ws) (hS : va_S X.2.2.1.1 X.1.2.2.2.2.heap H locs) (hl : lvH ls nL L)
    (run : va_Run X.1.1 X.1.2.1 X.1.2.2.1 X.1.2.2.2.1 X.1.2.2.2.2 X.2.1.1 X.2.1.2.1 X.2.1.2.2.1 X.2.1.2.2.2.1 X.2.1.2.2.2.2 H locs X.2.2.2.2.1 X.2.2.2.2.2 0 0 (F0 X.2.1.1 pc ls st) rest (QK D r ws' (va_A ws H.size) a) (va_A ws H.size))
    (k : V X D tc cc own nL (pc + 3) L (r.toList ++ rest) ws') : WW X H locs (F0 X.2.1.1 pc ls st) := by
  have hfree : ∀ q, va_A ws H.size q → X.2.2.1.1 q := by
    rintro q (⟨j, e, h⟩ | h)
    · exact hD.2 j _ h
    · exact F.2.2.2.2.2.2.2.1 q (Nat.le_trans hS.1 h)
  intro T hT St
  obtain ⟨v, st₀, t, T', L', h0, X', hL, e1, e2, ⟨⟨hv, hP', hD'⟩, hz, hk⟩, go⟩ := run T hT St
  cases hv
  rw [h0] at hz hk
  obtain ⟨t2, a1, b1⟩ := k F T'.heap (locs ++ L') ls (by rw [e1]; exact hP') (hD'.weaken (fun _ _ _ h => hfree _ h))
    ⟨Nat.le_trans hS.1 (by rw [e1]; exact hz), fun q h1 h2 => by rw [e1, hk q (Nat.lt_of_lt_of_le h1 hS.1) (fun z => h2 (hfree q z))]; exact hS.2.1 q h1 h2, fun q hq => by
      rcases List.mem_append.mp hq with h | h
      · exact hS.2.2 q h
      · exact hfree _ (hL q h)⟩ hl T' rfl X'
  exact ⟨t2, go t2 a1, b1⟩
theorem V_callVG {d' idx maxL ci N b : Nat} {C : String} {T : u_T} {y : MethodName} {cc' : ByteArray} {ret : Option FieldType} {As rest : List Value} {r : Option Value} {ws' : va_W} {fs : List Value} (hl : LinkV own idx C y cc' maxL ret As.length) (hok : Ok d' y cc' maxL ret D tc (.ref b :: As) ws r ws') (hd : decode cc pc = .ok (.invokevirtual idx, 3)) {q0 : Nat} (he : ws[q0]? = some (b, .inr (ci, fs))) (hc : vwCl[ci]? = some (C, T, N)) (hdep : d' + 1 ≤ X.2.2.2.1 ∧ maxL ≤ 16) (hst : st = As.reverse ++ .ref b :: rest) (hcat : (rest.map fun v => v.category).sum ≤ 8) (k : V X D tc cc own nL (pc + 3) L (r.toList ++ rest) ws') : V X D tc cc own nL pc L st ws := by
  intro F H locs ls hP hD hS hlv
  obtain ⟨m1, m2, m3, m4, m5, m6, m7⟩ := hl
  have hR := F.2.2.2.2.2.2.2.2.2.2.1
  refine V_back (p := X.1.1) (d' := d') F hP hD hS hlv (va_runV (As := As) (rest := rest) (C := C) (b := b) (n := As.length) ⟨F.1, F.2.1, F.2.2.1, F.2.2.2.1, F.2.2.2.2.1⟩ (hok X.1.2.1 H.size) (cwV As.length F.2.2.2.2.1 (bigW_in (fun w hw => ?_)) rfl rfl rfl ⟨m6, m7⟩ ⟨by show d' + 1 ≤ _; omega, by show 8 + (maxL + 11) + 35 * d' ≤ _; omega⟩) ⟨PreK.blind, va_recv F.2.2.2.2.2.1 hP hc he, fun U hU hW => ⟨rfl, by rw [hU], by rw [hU]; exact hP, va_K.moved hW.alike F.2.2.2.2.2.1, hD.weaken (fun _ _ _ _ => trivial), F.2.2.2.2.2.2.1.warm hW⟩⟩ rfl rfl hlv.1 hst (lv_room hcat) hd ⟨F.2.2.2.2.2.2.2.2.2.2.2.1, F.2.2.2.2.2.2.2.2.2.2.2.2⟩) k
  rcases List.mem_append.mp hw with h | h
  · simp only [List.mem_cons, List.not_mem_nil, or_false] at h
    rcases h with rfl | rfl | rfl | rfl
    · exact m1
    · exact m2
    · exact m3
    · exact m4
  · exact goodY m5 w h
theorem V_callSG {d' idx maxL : Nat} {y : MethodName} {cc' : ByteArray} {ret : Option FieldType} {As rest : List Value} {r : Option Value} {ws' : va_W} (hl : LinkS own idx y cc' maxL ret As.length) (hok : Ok d' y cc' maxL ret D tc As ws r ws') (hd : decode cc pc = .ok (.invokestatic idx, 3)) (hdep : d' + 1 ≤ X.2.2.2.1 ∧ maxL ≤ 16) (hst : st = As.reverse ++ rest) (hcat : (rest.map fun v => v.category).sum ≤ 8) (k : V X D tc cc own nL (pc + 3) L (r.toList ++ rest) ws') : V X D tc cc own nL pc L st ws := by
  intro F H locs ls hP hD hS hlv
  obtain ⟨m1, m2, m3, m5, m7⟩ := hl
  have hR := F.2.2.2.2.2.2.2.2.2.2.1
  have ht := F.2.2.2.2.1
  exact V_back (p := X.1.1) (d' := d') F hP hD hS hlv (va_runS (As := As) (rest := rest) (n := As.length) ⟨F.1, F.2.1, F.2.2.1, F.2.2.2.1, F.2.2.2.2.1⟩ (hok X.1.2.1 H.size) ⟨callB_of As.length ht (bigW_in (goodY m5)) rfl rfl rfl (ht _ m3) (ht _ m1) m7 ⟨by show d' + 1 ≤ _; omega, by show 8 + (maxL + 11) + 35 * d' ≤ _; omega⟩, ht _ m2⟩ ⟨PreK.blind, fun U hU hW => ⟨rfl, by rw [hU], by rw [hU]; exact hP, va_K.moved hW.alike F.2.2.2.2.2.1, hD.weaken (fun _ _ _ _ => trivial), F.2.2.2.2.2.2.1.warm hW⟩⟩ rfl rfl hlv.1 hst (lv_room hcat) hd ⟨F.2.2.2.2.2.2.2.2.2.2.2.1, F.2.2.2.2.2.2.2.2.2.2.2.2⟩) k
theorem V_callNG {d' idx maxL : Nat} {y : MethodName} {cc' : ByteArray} {ret : Option FieldType} {As rest : List Value} {r : Option Value} {ws' : va_W} (hl : LinkN own idx y cc' maxL ret As.length) (hok : Ok d' y cc' maxL ret D tc As ws r ws') (hd : decode cc pc = .ok (.invokestatic idx, 3)) (hdep : d' + 1 ≤ X.2.2.2.1 ∧ maxL ≤ 16) (hst : st = As.reverse ++ rest) (hcat : (rest.map fun v => v.category).sum ≤ 8) (k : V X D tc cc own nL (pc + 3) L (r.toList ++ rest) ws') : V X D tc cc own nL pc L st ws := by
  intro F H locs ls hP hD hS hlv
  obtain ⟨m1, m2, m3, m5, m7⟩ := hl
  have hR := F.2.2.2.2.2.2.2.2.2.2.1
  have ht := F.2.2.2.2.1
  exact V_back (p := X.1.1) (d' := d') F hP hD hS hlv (va_runSN (As := As) (rest := rest) (n := As.length) (host := RX5) ⟨F.1, F.2.1, F.2.2.1, F.2.2.2.1, F.2.2.2.2.1⟩ (hok X.1.2.1 H.size) ⟨va_cnB As.length ht (bigW_in (goodY m5)) rfl rfl rfl (F.2.2.2.2.2.2.1 _ m1) (ht _ m3) m7 ⟨by show d' + 1 ≤ _; omega, by show 8 + (maxL + 11) + 35 * d' ≤ _; omega⟩, ht _ m2, trivial⟩ ⟨PreK.blind, fun U hU hW => ⟨rfl, by rw [hU], by rw [hU]; exact hP, va_K.moved hW.alike F.2.2.2.2.2.1, hD.weaken (fun _ _ _ _ => trivial), F.2.2.2.2.2.2.1.warm hW⟩⟩ rfl rfl hlv.1 hst (lv_room hcat) hd ⟨F.2.2.2.2.2.2.2.2.2.2.2.1, F.2.2.2.2.2.2.2.2.2.2.2.2⟩) k
end VCALL
end
section
theorem lf_X1_9 : LinkF RX1 9 RX1 TX1 12 1 0 := ⟨rfl, by decide, inX1, bw 75 (by decide +kernel) (by decide +kernel)⟩
theorem lf_X4_61 : LinkF RX4 61 RX1 TX1 12 1 0 := ⟨rfl, by decide, inX1, bw 76 (by decide +kernel) (by decide +kernel)⟩
theorem lf_X5_115 : LinkF RX5 115 RX1 TX1 12 1 0 := ⟨rfl, by decide, inX1, bw 77 (by decide +kernel) (by decide +kernel)⟩
theorem lf_X1_15 : LinkF RX1 15 RX1 TX1 12 1 1 := ⟨rfl, by decide, inX1, bw 78 (by decide +kernel) (by decide +kernel)⟩
theorem lf_X5_118 : LinkF RX5 118 RX1 TX1 12 1 1 := ⟨rfl, by decide, inX1, bw 79 (by decide +kernel) (by decide +kernel)⟩
theorem lf_X1_18 : LinkF RX1 18 RX1 TX1 12 1 2 := ⟨rfl, by decide, inX1, bw 80 (by decide +kernel) (by decide +kernel)⟩
theorem lf_X1_21 : LinkF RX1 21 RX1 TX1 12 1 3 := ⟨rfl, by decide, inX1, bw 81 (by decide +kernel) (by decide +kernel)⟩
theorem lf_X5_96 : LinkF RX5 96 RX1 TX1 12 1 3 := ⟨rfl, by decide, inX1, bw 82 (by decide +kernel) (by decide +kernel)⟩
theorem lf_X4_64 : LinkF RX4 64 RX1 TX1 12 1 3 := ⟨rfl, by decide, inX1, bw 83 (by decide +kernel) (by decide +kernel)⟩
theorem lf_X1_24 : LinkF RX1 24 RX1 TX1 12 1 4 := ⟨rfl, by decide, inX1, bw 84 (by decide +kernel) (by decide +kernel)⟩
theorem lf_X5_100 : LinkF RX5 100 RX1 TX1 12 1 4 := ⟨rfl, by decide, inX1, bw 85 (by decide +kernel) (by decide +kernel)⟩
theorem lf_X4_67 : LinkF RX4 67 RX1 TX1 12 1 4 := ⟨rfl, by decide, inX1, bw 86 (by decide +kernel) (by decide +kernel)⟩
theorem lf_X1_27 : LinkF RX1 27 RX1 TX1 12 1 5 := ⟨rfl, by decide, inX1, bw 87 (by decide +kernel) (by decide +kernel)⟩
theorem lf_X5_103 : LinkF RX5 103 RX1 TX1 12 1 5 := ⟨rfl, by decide, inX1, bw 88 (by decide +kernel) (by decide +kernel)⟩
theorem lf_X4_70 : LinkF RX4 70 RX1 TX1 12 1 5 := ⟨rfl, by decide, inX1, bw 89 (by decide +kernel) (by decide +kernel)⟩
theorem lf_X1_30 : LinkF RX1 30 RX1 TX1 12 1 6 := ⟨rfl, by decide, inX1, bw 90 (by decide +kernel) (by decide +kernel)⟩
theorem lf_X5_106 : LinkF RX5 106 RX1 TX1 12 1 6 := ⟨rfl, by decide, inX1, bw 91 (by decide +kernel) (by decide +kernel)⟩
theorem lf_X4_73 : LinkF RX4 73 RX1 TX1 12 1 6 := ⟨rfl, by decide, inX1, bw 92 (by decide +kernel) (by decide +kernel)⟩
theorem lf_X1_33 : LinkF RX1 33 RX1 TX1 12 1 7 := ⟨rfl, by decide, inX1, bw 93 (by decide +kernel) (by decide +kernel)⟩
theorem lp_X1_33 : LinkP RX1 33 RX1 TX1 12 1 7 := ⟨lf_X1_33, rfl, by decide +kernel, nmX1, tyX1, tyX1_ok⟩
theorem lf_X4_45 : LinkF RX4 45 RX1 TX1 12 1 7 := ⟨rfl, by decide, inX1, bw 94 (by decide +kernel) (by decide +kernel)⟩
theorem lp_X4_45 : LinkP RX4 45 RX1 TX1 12 1 7 := ⟨lf_X4_45, rfl, by decide +kernel, nmX1, tyX1, tyX1_ok⟩
theorem lf_X5_135 : LinkF RX5 135 RX1 TX1 12 1 7 := ⟨rfl, by decide, inX1, bw 95 (by decide +kernel) (by decide +kernel)⟩
theorem lp_X5_135 : LinkP RX5 135 RX1 TX1 12 1 7 := ⟨lf_X5_135, rfl, by decide +kernel, nmX1, tyX1, tyX1_ok⟩
theorem lf_X1_37 : LinkF RX1 37 RX1 TX1 12 1 8 := ⟨rfl, by decide, inX1, bw 96 (by decide +kernel) (by decide +kernel)⟩
theorem lp_X1_37 : LinkP RX1 37 RX1 TX1 12 1 8 := ⟨lf_X1_37, rfl, by decide +kernel, nmX1, tyX1, tyX1_ok⟩
theorem lf_X0_51 : LinkF RX0 51 RX1 TX1 12 1 8 := ⟨rfl, by decide, inX1, bw 97 (by decide +kernel) (by decide +kernel)⟩
theorem lp_X0_51 : LinkP RX0 51 RX1 TX1 12 1 8 := ⟨lf_X0_51, rfl, by decide +kernel, nmX1, tyX1, tyX1_ok⟩
theorem lf_X5_157 : LinkF RX5 157 RX1 TX1 12 1 8 := ⟨rfl, by decide, inX1, bw 98 (by decide +kernel) (by decide +kernel)⟩
theorem lp_X5_157 : LinkP RX5 157 RX1 TX1 12 1 8 := ⟨lf_X5_157, rfl, by decide +kernel, nmX1, tyX1, tyX1_ok⟩
theorem lf_X1_40 : LinkF RX1 40 RX1 TX1 12 1 9 := ⟨rfl, by decide, inX1, bw 99 (by decide +kernel) (by decide +kernel)⟩
theorem lp_X1_40 : LinkP RX1 40 RX1 TX1 12 1 9 := ⟨lf_X1_40, rfl, by decide +kernel, nmX1, tyX1, tyX1_ok⟩
theorem lf_X4_52 : LinkF RX4 52 RX1 TX1 12 1 9 := ⟨rfl, by decide, inX1, bw 100 (by decide +kernel) (by decide +kernel)⟩
theorem lp_X4_52 : LinkP RX4 52 RX1 TX1 12 1 9 := ⟨lf_X4_52, rfl, by decide +kernel, nmX1, tyX1, tyX1_ok⟩
theorem lf_X5_256 : LinkF RX5 256 RX1 TX1 12 1 9 := ⟨rfl, by decide, inX1, bw 101 (by decide +kernel) (by decide +kernel)⟩
theorem lp_X5_256 : LinkP RX5 256 RX1 TX1 12 1 9 := ⟨lf_X5_256, rfl, by decide +kernel, nmX1, tyX1, tyX1_ok⟩
theorem lf_X1_43 : LinkF RX1 43 RX1 TX1 12 1 10 := ⟨rfl, by decide, inX1, bw 102 (by decide +kernel) (by decide +kernel)⟩
theorem lp_X1_43 : LinkP RX1 43 RX1 TX1 12 1 10 := ⟨lf_X1_43, rfl, by decide +kernel, nmX1, tyX1, tyX1_ok⟩
theorem lf_X5_90 : LinkF RX5 90 RX1 TX1 12 1 10 := ⟨rfl, by decide, inX1, bw 103 (by decide +kernel) (by decide +kernel)⟩
theorem lp_X5_90 : LinkP RX5 90 RX1 TX1 12 1 10 := ⟨lf_X5_90, rfl, by decide +kernel, nmX1, tyX1, tyX1_ok⟩
theorem lf_X4_58 : LinkF RX4 58 RX1 TX1 12 1 10 := ⟨rfl, by decide, inX1, bw 104 (by decide +kernel) (by decide +kernel)⟩
theorem lp_X4_58 : LinkP RX4 58 RX1 TX1 12 1 10 := ⟨lf_X4_58, rfl, by decide +kernel, nmX1, tyX1, tyX1_ok⟩
theorem lf_X1_46 : LinkF RX1 46 RX1 TX1 12 1 11 := ⟨rfl, by decide, inX1, bw 105 (by decide +kernel) (by decide +kernel)⟩
theorem lp_X1_46 : LinkP RX1 46 RX1 TX1 12 1 11 := ⟨lf_X1_46, rfl, by decide +kernel, nmX1, tyX1, tyX1_ok⟩
theorem lf_X5_262 : LinkF RX5 262 RX1 TX1 12 1 11 := ⟨rfl, by decide, inX1, bw 106 (by decide +kernel) (by decide +kernel)⟩
theorem lp_X5_262 : LinkP RX5 262 RX1 TX1 12 1 11 := ⟨lf_X5_262, rfl, by decide +kernel, nmX1, tyX1, tyX1_ok⟩
theorem lf_X4_9 : LinkF RX4 9 RX4 TX4 4 4 0 := ⟨rfl, by decide, inX4, bw 139 (by decide +kernel) (by decide +kernel)⟩
theorem lf_X4_15 : LinkF RX4 15 RX4 TX4 4 4 1 := ⟨rfl, by decide, inX4, bw 140 (by decide +kernel) (by decide +kernel)⟩
theorem lp_X4_15 : LinkP RX4 15 RX4 TX4 4 4 1 := ⟨lf_X4_15, rfl, by decide +kernel, nmX4, tyX4, tyX4_ok⟩
theorem lf_X4_19 : LinkF RX4 19 RX4 TX4 4 4 2 := ⟨rfl, by decide, inX4, bw 141 (by decide +kernel) (by decide +kernel)⟩
theorem lp_X4_19 : LinkP RX4 19 RX4 TX4 4 4 2 := ⟨lf_X4_19, rfl, by decide +kernel, nmX4, tyX4, tyX4_ok⟩
theorem lf_X4_22 : LinkF RX4 22 RX4 TX4 4 4 3 := ⟨rfl, by decide, inX4, bw 142 (by decide +kernel) (by decide +kernel)⟩
theorem lp_X4_22 : LinkP RX4 22 RX4 TX4 4 4 3 := ⟨lf_X4_22, rfl, by decide +kernel, nmX4, tyX4, tyX4_ok⟩
theorem lf_X0_9 : LinkF RX0 9 RX0 TX0 3 0 0 := ⟨rfl, by decide, inX0, bw 158 (by decide +kernel) (by decide +kernel)⟩
theorem lf_X0_15 : LinkF RX0 15 RX0 TX0 3 0 1 := ⟨rfl, by decide, inX0, bw 159 (by decide +kernel) (by decide +kernel)⟩
theorem lp_X0_15 : LinkP RX0 15 RX0 TX0 3 0 1 := ⟨lf_X0_15, rfl, by decide +kernel, nmX0, tyX0, tyX0_ok⟩
theorem lf_X5_183 : LinkF RX5 183 RX0 TX0 3 0 1 := ⟨rfl, by decide, inX0, bw 160 (by decide +kernel) (by decide +kernel)⟩
theorem lp_X5_183 : LinkP RX5 183 RX0 TX0 3 0 1 := ⟨lf_X5_183, rfl, by decide +kernel, nmX0, tyX0, tyX0_ok⟩
theorem lf_X0_19 : LinkF RX0 19 RX0 TX0 3 0 2 := ⟨rfl, by decide, inX0, bw 161 (by decide +kernel) (by decide +kernel)⟩
theorem lp_X0_19 : LinkP RX0 19 RX0 TX0 3 0 2 := ⟨lf_X0_19, rfl, by decide +kernel, nmX0, tyX0, tyX0_ok⟩
theorem lf_X2_9 : LinkF RX2 9 RX2 TX2 4 2 0 := ⟨rfl, by decide, inX2, bw 175 (by decide +kernel) (by decide +kernel)⟩
theorem lf_X2_15 : LinkF RX2 15 RX2 TX2 4 2 1 := ⟨rfl, by decide, inX2, bw 176 (by decide +kernel) (by decide +kernel)⟩
theorem lf_X2_18 : LinkF RX2 18 RX2 TX2 4 2 2 := ⟨rfl, by decide, inX2, bw 177 (by decide +kernel) (by decide +kernel)⟩
theorem lf_X2_21 : LinkF RX2 21 RX2 TX2 4 2 3 := ⟨rfl, by decide, inX2, bw 178 (by decide +kernel) (by decide +kernel)⟩
theorem lp_X2_21 : LinkP RX2 21 RX2 TX2 4 2 3 := ⟨lf_X2_21, rfl, by decide +kernel, nmX2, tyX2, tyX2_ok⟩
theorem lf_X5_87 : LinkF RX5 87 RX2 TX2 4 2 3 := ⟨rfl, by decide, inX2, bw 179 (by decide +kernel) (by decide +kernel)⟩
theorem lp_X5_87 : LinkP RX5 87 RX2 TX2 4 2 3 := ⟨lf_X5_87, rfl, by decide +kernel, nmX2, tyX2, tyX2_ok⟩
theorem lf_X3_9 : LinkF RX3 9 RX3 TX3 3 3 0 := ⟨rfl, by decide, inX3, bw 194 (by decide +kernel) (by decide +kernel)⟩
theorem lf_X4_25 : LinkF RX4 25 RX3 TX3 3 3 0 := ⟨rfl, by decide, inX3, bw 195 (by decide +kernel) (by decide +kernel)⟩
theorem lf_X5_221 : LinkF RX5 221 RX3 TX3 3 3 0 := ⟨rfl, by decide, inX3, bw 196 (by decide +kernel) (by decide +kernel)⟩
theorem lf_X3_15 : LinkF RX3 15 RX3 TX3 3 3 1 := ⟨rfl, by decide, inX3, bw 197 (by decide +kernel) (by decide +kernel)⟩
theorem lp_X3_15 : LinkP RX3 15 RX3 TX3 3 3 1 := ⟨lf_X3_15, rfl, by decide +kernel, nmX3, tyX3, tyX3_ok⟩
theorem lf_X5_218 : LinkF RX5 218 RX3 TX3 3 3 1 := ⟨rfl, by decide, inX3, bw 198 (by decide +kernel) (by decide +kernel)⟩
theorem lp_X5_218 : LinkP RX5 218 RX3 TX3 3 3 1 := ⟨lf_X5_218, rfl, by decide +kernel, nmX3, tyX3, tyX3_ok⟩
theorem lf_X3_19 : LinkF RX3 19 RX3 TX3 3 3 2 := ⟨rfl, by decide, inX3, bw 199 (by decide +kernel) (by decide +kernel)⟩
theorem lp_X3_19 : LinkP RX3 19 RX3 TX3 3 3 2 := ⟨lf_X3_19, rfl, by decide +kernel, nmX3, tyX3, tyX3_ok⟩
theorem lf_X5_231 : LinkF RX5 231 RX3 TX3 3 3 2 := ⟨rfl, by decide, inX3, bw 200 (by decide +kernel) (by decide +kernel)⟩
theorem lp_X5_231 : LinkP RX5 231 RX3 TX3 3 3 2 := ⟨lf_X5_231, rfl, by decide +kernel, nmX3, tyX3, tyX3_ok⟩
theorem lf_X5_13 : LinkF RX5 13 RX5 TX5 8 5 0 := ⟨rfl, by decide, inX5, bw 208 (by decide +kernel) (by decide +kernel)⟩
theorem lf_X5_20 : LinkF RX5 20 RX5 TX5 8 5 1 := ⟨rfl, by decide, inX5, bw 209 (by decide +kernel) (by decide +kernel)⟩
theorem lf_X5_24 : LinkF RX5 24 RX5 TX5 8 5 2 := ⟨rfl, by decide, inX5, bw 210 (by decide +kernel) (by decide +kernel)⟩
theorem lf_X5_30 : LinkF RX5 30 RX5 TX5 8 5 3 := ⟨rfl, by decide, inX5, bw 211 (by decide +kernel) (by decide +kernel)⟩
theorem lf_X5_37 : LinkF RX5 37 RX5 TX5 8 5 4 := ⟨rfl, by decide, inX5, bw 212 (by decide +kernel) (by decide +kernel)⟩
theorem lf_X5_44 : LinkF RX5 44 RX5 TX5 8 5 5 := ⟨rfl, by decide, inX5, bw 213 (by decide +kernel) (by decide +kernel)⟩
theorem lf_X5_48 : LinkF RX5 48 RX5 TX5 8 5 6 := ⟨rfl, by decide, inX5, bw 214 (by decide +kernel) (by decide +kernel)⟩
theorem lp_X5_48 : LinkP RX5 48 RX5 TX5 8 5 6 := ⟨lf_X5_48, rfl, by decide +kernel, nmX5, tyX5, tyX5_ok⟩
theorem lf_X5_52 : LinkF RX5 52 RX5 TX5 8 5 7 := ⟨rfl, by decide, inX5, bw 215 (by decide +kernel) (by decide +kernel)⟩
theorem lp_X5_52 : LinkP RX5 52 RX5 TX5 8 5 7 := ⟨lf_X5_52, rfl, by decide +kernel, nmX5, tyX5, tyX5_ok⟩
theorem lf_X6_80 : LinkF RX6 80 RX6 TX6 37 6 0 := ⟨rfl, by decide, inX6, bw 628 (by decide +kernel) (by decide +kernel)⟩
theorem lp_X6_80 : LinkP RX6 80 RX6 TX6 37 6 0 := ⟨lf_X6_80, rfl, by decide +kernel, nmX6, tyX6, tyX6_ok⟩
theorem lf_X6_247 : LinkF RX6 247 RX6 TX6 37 6 1 := ⟨rfl, by decide, inX6, bw 629 (by decide +kernel) (by decide +kernel)⟩
theorem lp_X6_247 : LinkP RX6 247 RX6 TX6 37 6 1 := ⟨lf_X6_247, rfl, by decide +kernel, nmX6, tyX6, tyX6_ok⟩
theorem lf_X6_9 : LinkF RX6 9 RX6 TX6 37 6 2 := ⟨rfl, by decide, inX6, bw 630 (by decide +kernel) (by decide +kernel)⟩
theorem lf_X6_13 : LinkF RX6 13 RX6 TX6 37 6 3 := ⟨rfl, by decide, inX6, bw 631 (by decide +kernel) (by decide +kernel)⟩
theorem lf_X6_16 : LinkF RX6 16 RX6 TX6 37 6 4 := ⟨rfl, by decide, inX6, bw 632 (by decide +kernel) (by decide +kernel)⟩
theorem lf_X6_90 : LinkF RX6 90 RX6 TX6 37 6 5 := ⟨rfl, by decide, inX6, bw 633 (by decide +kernel) (by decide +kernel)⟩
theorem lp_X6_90 : LinkP RX6 90 RX6 TX6 37 6 5 := ⟨lf_X6_90, rfl, by decide +kernel, nmX6, tyX6, tyX6_ok⟩
theorem lf_X6_93 : LinkF RX6 93 RX6 TX6 37 6 6 := ⟨rfl, by decide, inX6, bw 634 (by decide +kernel) (by decide +kernel)⟩
theorem lp_X6_93 : LinkP RX6 93 RX6 TX6 37 6 6 := ⟨lf_X6_93, rfl, by decide +kernel, nmX6, tyX6, tyX6_ok⟩
theorem lf_X6_123 : LinkF RX6 123 RX6 TX6 37 6 7 := ⟨rfl, by decide, inX6, bw 635 (by decide +kernel) (by decide +kernel)⟩
theorem lp_X6_123 : LinkP RX6 123 RX6 TX6 37 6 7 := ⟨lf_X6_123, rfl, by decide +kernel, nmX6, tyX6, tyX6_ok⟩
theorem lf_X6_129 : LinkF RX6 129 RX6 TX6 37 6 8 := ⟨rfl, by decide, inX6, bw 636 (by decide +kernel) (by decide +kernel)⟩
theorem lp_X6_129 : LinkP RX6 129 RX6 TX6 37 6 8 := ⟨lf_X6_129, rfl, by decide +kernel, nmX6, tyX6, tyX6_ok⟩
theorem lf_X6_19 : LinkF RX6 19 RX6 TX6 37 6 9 := ⟨rfl, by decide, inX6, bw 637 (by decide +kernel) (by decide +kernel)⟩
theorem lf_X6_22 : LinkF RX6 22 RX6 TX6 37 6 10 := ⟨rfl, by decide, inX6, bw 638 (by decide +kernel) (by decide +kernel)⟩
theorem lf_X6_25 : LinkF RX6 25 RX6 TX6 37 6 11 := ⟨rfl, by decide, inX6, bw 639 (by decide +kernel) (by decide +kernel)⟩
theorem lf_X6_29 : LinkF RX6 29 RX6 TX6 37 6 12 := ⟨rfl, by decide, inX6, bw 640 (by decide +kernel) (by decide +kernel)⟩
theorem lf_X6_32 : LinkF RX6 32 RX6 TX6 37 6 13 := ⟨rfl, by decide, inX6, bw 641 (by decide +kernel) (by decide +kernel)⟩
theorem lf_X6_35 : LinkF RX6 35 RX6 TX6 37 6 14 := ⟨rfl, by decide, inX6, bw 642 (by decide +kernel) (by decide +kernel)⟩
theorem lf_X6_38 : LinkF RX6 38 RX6 TX6 37 6 15 := ⟨rfl, by decide, inX6, bw 643 (by decide +kernel) (by decide +kernel)⟩
theorem lf_X6_41 : LinkF RX6 41 RX6 TX6 37 6 16 := ⟨rfl, by decide, inX6, bw 644 (by decide +kernel) (by decide +kernel)⟩
theorem lf_X6_96 : LinkF RX6 96 RX6 TX6 37 6 17 := ⟨rfl, by decide, inX6, bw 645 (by decide +kernel) (by decide +kernel)⟩
theorem lp_X6_96 : LinkP RX6 96 RX6 TX6 37 6 17 := ⟨lf_X6_96, rfl, by decide +kernel, nmX6, tyX6, tyX6_ok⟩
theorem lf_X6_120 : LinkF RX6 120 RX6 TX6 37 6 18 := ⟨rfl, by decide, inX6, bw 646 (by decide +kernel) (by decide +kernel)⟩
theorem lp_X6_120 : LinkP RX6 120 RX6 TX6 37 6 18 := ⟨lf_X6_120, rfl, by decide +kernel, nmX6, tyX6, tyX6_ok⟩
theorem lf_X6_126 : LinkF RX6 126 RX6 TX6 37 6 19 := ⟨rfl, by decide, inX6, bw 647 (by decide +kernel) (by decide +kernel)⟩
theorem lp_X6_126 : LinkP RX6 126 RX6 TX6 37 6 19 := ⟨lf_X6_126, rfl, by decide +kernel, nmX6, tyX6, tyX6_ok⟩
theorem lf_X6_132 : LinkF RX6 132 RX6 TX6 37 6 20 := ⟨rfl, by decide, inX6, bw 648 (by decide +kernel) (by decide +kernel)⟩
theorem lp_X6_132 : LinkP RX6 132 RX6 TX6 37 6 20 := ⟨lf_X6_132, rfl, by decide +kernel, nmX6, tyX6, tyX6_ok⟩
theorem lf_X6_44 : LinkF RX6 44 RX6 TX6 37 6 21 := ⟨rfl, by decide, inX6, bw 649 (by decide +kernel) (by decide +kernel)⟩
theorem lf_X6_47 : LinkF RX6 47 RX6 TX6 37 6 22 := ⟨rfl, by decide, inX6, bw 650 (by decide +kernel) (by decide +kernel)⟩
theorem lf_X6_185 : LinkF RX6 185 RX6 TX6 37 6 23 := ⟨rfl, by decide, inX6, bw 651 (by decide +kernel) (by decide +kernel)⟩
theorem lp_X6_185 : LinkP RX6 185 RX6 TX6 37 6 23 := ⟨lf_X6_185, rfl, by decide +kernel, nmX6, tyX6, tyX6_ok⟩
theorem lf_X6_50 : LinkF RX6 50 RX6 TX6 37 6 24 := ⟨rfl, by decide, inX6, bw 652 (by decide +kernel) (by decide +kernel)⟩
theorem lf_X6_53 : LinkF RX6 53 RX6 TX6 37 6 25 := ⟨rfl, by decide, inX6, bw 653 (by decide +kernel) (by decide +kernel)⟩
theorem lf_X6_56 : LinkF RX6 56 RX6 TX6 37 6 26 := ⟨rfl, by decide, inX6, bw 654 (by decide +kernel) (by decide +kernel)⟩
theorem lf_X6_59 : LinkF RX6 59 RX6 TX6 37 6 27 := ⟨rfl, by decide, inX6, bw 655 (by decide +kernel) (by decide +kernel)⟩
theorem lf_X6_62 : LinkF RX6 62 RX6 TX6 37 6 28 := ⟨rfl, by decide, inX6, bw 656 (by decide +kernel) (by decide +kernel)⟩
theorem lf_X6_65 : LinkF RX6 65 RX6 TX6 37 6 29 := ⟨rfl, by decide, inX6, bw 657 (by decide +kernel) (by decide +kernel)⟩
theorem lf_X6_68 : LinkF RX6 68 RX6 TX6 37 6 30 := ⟨rfl, by decide, inX6, bw 658 (by decide +kernel) (by decide +kernel)⟩
theorem lf_X6_222 : LinkF RX6 222 RX6 TX6 37 6 31 := ⟨rfl, by decide, inX6, bw 659 (by decide +kernel) (by decide +kernel)⟩
theorem lp_X6_222 : LinkP RX6 222 RX6 TX6 37 6 31 := ⟨lf_X6_222, rfl, by decide +kernel, nmX6, tyX6, tyX6_ok⟩
theorem lf_X6_225 : LinkF RX6 225 RX6 TX6 37 6 32 := ⟨rfl, by decide, inX6, bw 660 (by decide +kernel) (by decide +kernel)⟩
theorem lp_X6_225 : LinkP RX6 225 RX6 TX6 37 6 32 := ⟨lf_X6_225, rfl, by decide +kernel, nmX6, tyX6, tyX6_ok⟩
theorem lf_X6_135 : LinkF RX6 135 RX6 TX6 37 6 33 := ⟨rfl, by decide, inX6, bw 661 (by decide +kernel) (by decide +kernel)⟩
theorem lp_X6_135 : LinkP RX6 135 RX6 TX6 37 6 33 := ⟨lf_X6_135, rfl, by decide +kernel, nmX6, tyX6, tyX6_ok⟩
theorem lf_X6_71 : LinkF RX6 71 RX6 TX6 37 6 34 := ⟨rfl, by decide, inX6, bw 662 (by decide +kernel) (by decide +kernel)⟩
theorem lf_X6_74 : LinkF RX6 74 RX6 TX6 37 6 35 := ⟨rfl, by decide, inX6, bw 663 (by decide +kernel) (by decide +kernel)⟩
theorem lf_X6_77 : LinkF RX6 77 RX6 TX6 37 6 36 := ⟨rfl, by decide, inX6, bw 664 (by decide +kernel) (by decide +kernel)⟩
theorem lm_L_13 : LinkV RL 13 RX5 yX5_market cX5_market 7 (some .int) 4 := ⟨bw 233 (by decide +kernel) (by decide +kernel), bw 234 (by decide +kernel) (by decide +kernel), bw 235 (by decide +kernel) (by decide +kernel), bw 49 (by decide +kernel) (by decide +kernel), bw 236 (by decide +kernel) (by decide +kernel), rfl, by decide +kernel, by decide +kernel, by decide +kernel⟩
theorem lm_X5_56 : LinkV RX5 56 RX5 yX5_sheetAt cX5_sheetAt 2 (some (.object "MornMarket$Sheet")) 1 := ⟨bw 237 (by decide +kernel) (by decide +kernel), bw 239 (by decide +kernel) (by decide +kernel), bw 0 (by decide +kernel) (by decide +kernel), bw 49 (by decide +kernel) (by decide +kernel), bw 240 (by decide +kernel) (by decide +kernel), rfl, by decide +kernel, by decide +kernel, by decide +kernel⟩
theorem ls_X5_60 : LinkS RX5 60 yX5_isLane cX5_isLane 1 (some .boolean) 1 := ⟨bw 241 (by decide +kernel) (by decide +kernel), bw 242 (by decide +kernel) (by decide +kernel), bw 49 (by decide +kernel) (by decide +kernel), bw 243 (by decide +kernel) (by decide +kernel), by decide +kernel, by decide +kernel, by decide +kernel⟩
theorem lm_X5_64 : LinkV RX5 64 RX3 yX3_isOfAnotherLane cX3_isOfAnotherLane 2 (some .boolean) 1 := ⟨bw 244 (by decide +kernel) (by decide +kernel), bw 245 (by decide +kernel) (by decide +kernel), bw 246 (by decide +kernel) (by decide +kernel), bw 54 (by decide +kernel) (by decide +kernel), bw 247 (by decide +kernel) (by decide +kernel), rfl, by decide +kernel, by decide +kernel, by decide +kernel⟩
theorem lm_X3_28 : LinkV RX3 28 RX3 yX3_hasRow cX3_hasRow 1 (some .boolean) 0 := ⟨bw 248 (by decide +kernel) (by decide +kernel), bw 249 (by decide +kernel) (by decide +kernel), bw 250 (by decide +kernel) (by decide +kernel), bw 54 (by decide +kernel) (by decide +kernel), bw 251 (by decide +kernel) (by decide +kernel), rfl, by decide +kernel, by decide +kernel, by decide +kernel⟩
theorem lm_X5_67 : LinkV RX5 67 RX5 yX5_faulted cX5_faulted 2 (some .int) 1 := ⟨bw 252 (by decide +kernel) (by decide +kernel), bw 254 (by decide +kernel) (by decide +kernel), bw 1 (by decide +kernel) (by decide +kernel), bw 49 (by decide +kernel) (by decide +kernel), bw 255 (by decide +kernel) (by decide +kernel), rfl, by decide +kernel, by decide +kernel, by decide +kernel⟩
theorem lm_X5_71 : LinkV RX5 71 RX3 yX3_hasRow cX3_hasRow 1 (some .boolean) 0 := ⟨bw 256 (by decide +kernel) (by decide +kernel), bw 249 (by decide +kernel) (by decide +kernel), bw 250 (by decide +kernel) (by decide +kernel), bw 54 (by decide +kernel) (by decide +kernel), bw 251 (by decide +kernel) (by decide +kernel), rfl, by decide +kernel, by decide +kernel, by decide +kernel⟩
theorem lm_X5_75 : LinkV RX5 75 RX3 yX3_hasCells cX3_hasCells 3 (some .boolean) 2 := ⟨bw 257 (by decide +kernel) (by decide +kernel), bw 258 (by decide +kernel) (by decide +kernel), bw 259 (by decide +kernel) (by decide +kernel), bw 54 (by decide +kernel) (by decide +kernel), bw 260 (by decide +kernel) (by decide +kernel), rfl, by decide +kernel, by decide +kernel, by decide +kernel⟩
theorem lm_X5_79 : LinkV RX5 79 RX4 yX4_firstFaultOf cX4_firstFaultOf 6 (some .int) 4 := ⟨bw 261 (by decide +kernel) (by decide +kernel), bw 262 (by decide +kernel) (by decide +kernel), bw 263 (by decide +kernel) (by decide +kernel), bw 51 (by decide +kernel) (by decide +kernel), bw 264 (by decide +kernel) (by decide +kernel), rfl, by decide +kernel, by decide +kernel, by decide +kernel⟩
theorem lm_X4_36 : LinkV RX4 36 RX1 yX1_beginAnew cX1_beginAnew 1 none 0 := ⟨bw 268 (by decide +kernel) (by decide +kernel), bw 269 (by decide +kernel) (by decide +kernel), bw 270 (by decide +kernel) (by decide +kernel), bw 50 (by decide +kernel) (by decide +kernel), bw 271 (by decide +kernel) (by decide +kernel), rfl, by decide +kernel, by decide +kernel, by decide +kernel⟩
theorem lm_X1_49 : LinkV RX1 49 RX1 yX1_forgetJoy cX1_forgetJoy 1 none 0 := ⟨bw 272 (by decide +kernel) (by decide +kernel), bw 273 (by decide +kernel) (by decide +kernel), bw 274 (by decide +kernel) (by decide +kernel), bw 50 (by decide +kernel) (by decide +kernel), bw 275 (by decide +kernel) (by decide +kernel), rfl, by decide +kernel, by decide +kernel, by decide +kernel⟩
theorem ls_X1_52 : LinkS RX1 52 yJ7_fill_53178 cJ7_fill_53178 4 none 2 := ⟨bw 276 (by decide +kernel) (by decide +kernel), bw 277 (by decide +kernel) (by decide +kernel), bw 57 (by decide +kernel) (by decide +kernel), bw 278 (by decide +kernel) (by decide +kernel), by decide +kernel, by decide +kernel, by decide +kernel⟩
theorem lm_X4_41 : LinkV RX4 41 RX4 yX4_takes cX4_takes 3 (some .boolean) 2 := ⟨bw 279 (by decide +kernel) (by decide +kernel), bw 280 (by decide +kernel) (by decide +kernel), bw 281 (by decide +kernel) (by decide +kernel), bw 51 (by decide +kernel) (by decide +kernel), bw 282 (by decide +kernel) (by decide +kernel), rfl, by decide +kernel, by decide +kernel, by decide +kernel⟩
theorem lm_X4_48 : LinkV RX4 48 RX4 yX4_takesPerson cX4_takesPerson 4 (some .boolean) 2 := ⟨bw 283 (by decide +kernel) (by decide +kernel), bw 284 (by decide +kernel) (by decide +kernel), bw 285 (by decide +kernel) (by decide +kernel), bw 51 (by decide +kernel) (by decide +kernel), bw 286 (by decide +kernel) (by decide +kernel), rfl, by decide +kernel, by decide +kernel, by decide +kernel⟩
theorem lm_X4_55 : LinkV RX4 55 RX4 yX4_takesMorning cX4_takesMorning 3 (some .boolean) 2 := ⟨bw 287 (by decide +kernel) (by decide +kernel), bw 288 (by decide +kernel) (by decide +kernel), bw 289 (by decide +kernel) (by decide +kernel), bw 51 (by decide +kernel) (by decide +kernel), bw 290 (by decide +kernel) (by decide +kernel), rfl, by decide +kernel, by decide +kernel, by decide +kernel⟩
theorem lm_X5_83 : LinkV RX5 83 RX1 yX1_becomeLike cX1_becomeLike 2 none 1 := ⟨bw 291 (by decide +kernel) (by decide +kernel), bw 292 (by decide +kernel) (by decide +kernel), bw 293 (by decide +kernel) (by decide +kernel), bw 50 (by decide +kernel) (by decide +kernel), bw 294 (by decide +kernel) (by decide +kernel), rfl, by decide +kernel, by decide +kernel, by decide +kernel⟩
theorem lm_L_18 : LinkV RL 18 RX5 yX5_ofMorning cX5_ofMorning 3 (some .int) 2 := ⟨bw 296 (by decide +kernel) (by decide +kernel), bw 297 (by decide +kernel) (by decide +kernel), bw 298 (by decide +kernel) (by decide +kernel), bw 49 (by decide +kernel) (by decide +kernel), bw 299 (by decide +kernel) (by decide +kernel), rfl, by decide +kernel, by decide +kernel, by decide +kernel⟩
theorem lm_X5_93 : LinkV RX5 93 RX1 yX1_isMorning cX1_isMorning 2 (some .boolean) 1 := ⟨bw 300 (by decide +kernel) (by decide +kernel), bw 301 (by decide +kernel) (by decide +kernel), bw 302 (by decide +kernel) (by decide +kernel), bw 50 (by decide +kernel) (by decide +kernel), bw 303 (by decide +kernel) (by decide +kernel), rfl, by decide +kernel, by decide +kernel, by decide +kernel⟩
theorem lm_X5_109 : LinkV RX5 109 RX1 yX1_isOpened cX1_isOpened 2 (some .boolean) 1 := ⟨bw 304 (by decide +kernel) (by decide +kernel), bw 305 (by decide +kernel) (by decide +kernel), bw 306 (by decide +kernel) (by decide +kernel), bw 50 (by decide +kernel) (by decide +kernel), bw 307 (by decide +kernel) (by decide +kernel), rfl, by decide +kernel, by decide +kernel, by decide +kernel⟩
theorem lm_L_23 : LinkV RL 23 RX5 yX5_ofPerson cX5_ofPerson 3 (some .int) 2 := ⟨bw 311 (by decide +kernel) (by decide +kernel), bw 312 (by decide +kernel) (by decide +kernel), bw 313 (by decide +kernel) (by decide +kernel), bw 49 (by decide +kernel) (by decide +kernel), bw 314 (by decide +kernel) (by decide +kernel), rfl, by decide +kernel, by decide +kernel, by decide +kernel⟩
theorem lm_X5_112 : LinkV RX5 112 RX1 yX1_isPerson cX1_isPerson 2 (some .boolean) 1 := ⟨bw 315 (by decide +kernel) (by decide +kernel), bw 316 (by decide +kernel) (by decide +kernel), bw 317 (by decide +kernel) (by decide +kernel), bw 50 (by decide +kernel) (by decide +kernel), bw 318 (by decide +kernel) (by decide +kernel), rfl, by decide +kernel, by decide +kernel, by decide +kernel⟩
theorem lm_X5_121 : LinkV RX5 121 RX1 yX1_closedOf cX1_closedOf 4 (some .int) 1 := ⟨bw 319 (by decide +kernel) (by decide +kernel), bw 320 (by decide +kernel) (by decide +kernel), bw 321 (by decide +kernel) (by decide +kernel), bw 50 (by decide +kernel) (by decide +kernel), bw 322 (by decide +kernel) (by decide +kernel), rfl, by decide +kernel, by decide +kernel, by decide +kernel⟩
theorem lm_X1_68 : LinkV RX1 68 RX1 yX1_isOpened cX1_isOpened 2 (some .boolean) 1 := ⟨bw 323 (by decide +kernel) (by decide +kernel), bw 305 (by decide +kernel) (by decide +kernel), bw 306 (by decide +kernel) (by decide +kernel), bw 50 (by decide +kernel) (by decide +kernel), bw 307 (by decide +kernel) (by decide +kernel), rfl, by decide +kernel, by decide +kernel, by decide +kernel⟩
theorem ls_X5_124 : LinkS RX5 124 yJ6_bitCount_0f7a4 cJ6_bitCount_0f7a4 1 (some .int) 1 := ⟨bw 324 (by decide +kernel) (by decide +kernel), bw 325 (by decide +kernel) (by decide +kernel), bw 58 (by decide +kernel) (by decide +kernel), bw 326 (by decide +kernel) (by decide +kernel), by decide +kernel, by decide +kernel, by decide +kernel⟩
theorem lm_X5_129 : LinkV RX5 129 RX1 yX1_openedToday cX1_openedToday 2 (some .boolean) 1 := ⟨bw 330 (by decide +kernel) (by decide +kernel), bw 331 (by decide +kernel) (by decide +kernel), bw 332 (by decide +kernel) (by decide +kernel), bw 50 (by decide +kernel) (by decide +kernel), bw 333 (by decide +kernel) (by decide +kernel), rfl, by decide +kernel, by decide +kernel, by decide +kernel⟩
theorem lm_L_27 : LinkV RL 27 RX5 yX5_fill cX5_fill 4 (some .int) 2 := ⟨bw 334 (by decide +kernel) (by decide +kernel), bw 335 (by decide +kernel) (by decide +kernel), bw 336 (by decide +kernel) (by decide +kernel), bw 49 (by decide +kernel) (by decide +kernel), bw 337 (by decide +kernel) (by decide +kernel), rfl, by decide +kernel, by decide +kernel, by decide +kernel⟩
theorem lm_L_31 : LinkV RL 31 RX5 yX5_rate cX5_rate 3 (some .int) 1 := ⟨bw 338 (by decide +kernel) (by decide +kernel), bw 339 (by decide +kernel) (by decide +kernel), bw 340 (by decide +kernel) (by decide +kernel), bw 49 (by decide +kernel) (by decide +kernel), bw 341 (by decide +kernel) (by decide +kernel), rfl, by decide +kernel, by decide +kernel, by decide +kernel⟩
theorem lm_X5_132 : LinkV RX5 132 RX1 yX1_isThere cX1_isThere 1 (some .boolean) 0 := ⟨bw 342 (by decide +kernel) (by decide +kernel), bw 343 (by decide +kernel) (by decide +kernel), bw 344 (by decide +kernel) (by decide +kernel), bw 50 (by decide +kernel) (by decide +kernel), bw 345 (by decide +kernel) (by decide +kernel), rfl, by decide +kernel, by decide +kernel, by decide +kernel⟩
theorem lm_L_36 : LinkV RL 36 RX5 yX5_fresh cX5_fresh 3 (some .int) 2 := ⟨bw 346 (by decide +kernel) (by decide +kernel), bw 347 (by decide +kernel) (by decide +kernel), bw 348 (by decide +kernel) (by decide +kernel), bw 49 (by decide +kernel) (by decide +kernel), bw 349 (by decide +kernel) (by decide +kernel), rfl, by decide +kernel, by decide +kernel, by decide +kernel⟩
theorem lm_X5_138 : LinkV RX5 138 RX1 yX1_freshOn cX1_freshOn 3 (some .int) 2 := ⟨bw 350 (by decide +kernel) (by decide +kernel), bw 351 (by decide +kernel) (by decide +kernel), bw 352 (by decide +kernel) (by decide +kernel), bw 50 (by decide +kernel) (by decide +kernel), bw 353 (by decide +kernel) (by decide +kernel), rfl, by decide +kernel, by decide +kernel, by decide +kernel⟩
theorem lm_L_40 : LinkV RL 40 RX5 yX5_price cX5_price 2 (some .int) 1 := ⟨bw 357 (by decide +kernel) (by decide +kernel), bw 358 (by decide +kernel) (by decide +kernel), bw 359 (by decide +kernel) (by decide +kernel), bw 49 (by decide +kernel) (by decide +kernel), bw 360 (by decide +kernel) (by decide +kernel), rfl, by decide +kernel, by decide +kernel, by decide +kernel⟩
theorem lm_X5_142 : LinkV RX5 142 RX1 yX1_priceOf cX1_priceOf 2 (some .int) 1 := ⟨bw 361 (by decide +kernel) (by decide +kernel), bw 362 (by decide +kernel) (by decide +kernel), bw 363 (by decide +kernel) (by decide +kernel), bw 50 (by decide +kernel) (by decide +kernel), bw 364 (by decide +kernel) (by decide +kernel), rfl, by decide +kernel, by decide +kernel, by decide +kernel⟩
theorem lm_X1_76 : LinkV RX1 76 RX1 yX1_freshOn cX1_freshOn 3 (some .int) 2 := ⟨bw 365 (by decide +kernel) (by decide +kernel), bw 351 (by decide +kernel) (by decide +kernel), bw 352 (by decide +kernel) (by decide +kernel), bw 50 (by decide +kernel) (by decide +kernel), bw 353 (by decide +kernel) (by decide +kernel), rfl, by decide +kernel, by decide +kernel, by decide +kernel⟩
theorem lm_L_44 : LinkV RL 44 RX5 yX5_sell cX5_sell 3 (some .int) 2 := ⟨bw 366 (by decide +kernel) (by decide +kernel), bw 367 (by decide +kernel) (by decide +kernel), bw 368 (by decide +kernel) (by decide +kernel), bw 49 (by decide +kernel) (by decide +kernel), bw 369 (by decide +kernel) (by decide +kernel), rfl, by decide +kernel, by decide +kernel, by decide +kernel⟩
theorem lm_X5_145 : LinkV RX5 145 RX1 yX1_canBeSold cX1_canBeSold 3 (some .boolean) 2 := ⟨bw 370 (by decide +kernel) (by decide +kernel), bw 371 (by decide +kernel) (by decide +kernel), bw 372 (by decide +kernel) (by decide +kernel), bw 50 (by decide +kernel) (by decide +kernel), bw 373 (by decide +kernel) (by decide +kernel), rfl, by decide +kernel, by decide +kernel, by decide +kernel⟩
theorem lm_X1_91 : LinkV RX1 91 RX1 yX1_isPerson cX1_isPerson 2 (some .boolean) 1 := ⟨bw 374 (by decide +kernel) (by decide +kernel), bw 316 (by decide +kernel) (by decide +kernel), bw 317 (by decide +kernel) (by decide +kernel), bw 50 (by decide +kernel) (by decide +kernel), bw 318 (by decide +kernel) (by decide +kernel), rfl, by decide +kernel, by decide +kernel, by decide +kernel⟩
theorem lm_X1_80 : LinkV RX1 80 RX1 yX1_priceOf cX1_priceOf 2 (some .int) 1 := ⟨bw 375 (by decide +kernel) (by decide +kernel), bw 362 (by decide +kernel) (by decide +kernel), bw 363 (by decide +kernel) (by decide +kernel), bw 50 (by decide +kernel) (by decide +kernel), bw 364 (by decide +kernel) (by decide +kernel), rfl, by decide +kernel, by decide +kernel, by decide +kernel⟩
theorem lm_X5_148 : LinkV RX5 148 RX1 yX1_handOver cX1_handOver 4 (some .int) 2 := ⟨bw 376 (by decide +kernel) (by decide +kernel), bw 377 (by decide +kernel) (by decide +kernel), bw 378 (by decide +kernel) (by decide +kernel), bw 50 (by decide +kernel) (by decide +kernel), bw 379 (by decide +kernel) (by decide +kernel), rfl, by decide +kernel, by decide +kernel, by decide +kernel⟩
theorem lm_L_48 : LinkV RL 48 RX5 yX5_open cX5_open 2 (some .int) 1 := ⟨bw 380 (by decide +kernel) (by decide +kernel), bw 381 (by decide +kernel) (by decide +kernel), bw 382 (by decide +kernel) (by decide +kernel), bw 49 (by decide +kernel) (by decide +kernel), bw 383 (by decide +kernel) (by decide +kernel), rfl, by decide +kernel, by decide +kernel, by decide +kernel⟩
theorem lm_X5_151 : LinkV RX5 151 RX1 yX1_unseal cX1_unseal 5 (some .int) 1 := ⟨bw 384 (by decide +kernel) (by decide +kernel), bw 385 (by decide +kernel) (by decide +kernel), bw 386 (by decide +kernel) (by decide +kernel), bw 50 (by decide +kernel) (by decide +kernel), bw 387 (by decide +kernel) (by decide +kernel), rfl, by decide +kernel, by decide +kernel, by decide +kernel⟩
theorem lm_X1_84 : LinkV RX1 84 RX1 yX1_openedToday cX1_openedToday 2 (some .boolean) 1 := ⟨bw 388 (by decide +kernel) (by decide +kernel), bw 331 (by decide +kernel) (by decide +kernel), bw 332 (by decide +kernel) (by decide +kernel), bw 50 (by decide +kernel) (by decide +kernel), bw 333 (by decide +kernel) (by decide +kernel), rfl, by decide +kernel, by decide +kernel, by decide +kernel⟩
theorem lm_L_52 : LinkV RL 52 RX5 yX5_sleep cX5_sleep 2 (some .int) 1 := ⟨bw 389 (by decide +kernel) (by decide +kernel), bw 390 (by decide +kernel) (by decide +kernel), bw 391 (by decide +kernel) (by decide +kernel), bw 49 (by decide +kernel) (by decide +kernel), bw 392 (by decide +kernel) (by decide +kernel), rfl, by decide +kernel, by decide +kernel, by decide +kernel⟩
theorem lm_X5_154 : LinkV RX5 154 RX1 yX1_canGoBy cX1_canGoBy 2 (some .boolean) 1 := ⟨bw 393 (by decide +kernel) (by decide +kernel), bw 394 (by decide +kernel) (by decide +kernel), bw 395 (by decide +kernel) (by decide +kernel), bw 50 (by decide +kernel) (by decide +kernel), bw 396 (by decide +kernel) (by decide +kernel), rfl, by decide +kernel, by decide +kernel, by decide +kernel⟩
theorem lm_L_56 : LinkV RL 56 RX5 yX5_year cX5_year 9 (some .int) 5 := ⟨bw 397 (by decide +kernel) (by decide +kernel), bw 398 (by decide +kernel) (by decide +kernel), bw 399 (by decide +kernel) (by decide +kernel), bw 49 (by decide +kernel) (by decide +kernel), bw 400 (by decide +kernel) (by decide +kernel), rfl, by decide +kernel, by decide +kernel, by decide +kernel⟩
theorem ls_X5_160 : LinkS RX5 160 yX5_canBeAskedOfYear cX5_canBeAskedOfYear 1 (some .boolean) 1 := ⟨bw 401 (by decide +kernel) (by decide +kernel), bw 402 (by decide +kernel) (by decide +kernel), bw 49 (by decide +kernel) (by decide +kernel), bw 403 (by decide +kernel) (by decide +kernel), by decide +kernel, by decide +kernel, by decide +kernel⟩
theorem lm_X5_163 : LinkV RX5 163 RX5 yX5_refusalOfPairs cX5_refusalOfPairs 7 (some .int) 3 := ⟨bw 404 (by decide +kernel) (by decide +kernel), bw 406 (by decide +kernel) (by decide +kernel), bw 2 (by decide +kernel) (by decide +kernel), bw 49 (by decide +kernel) (by decide +kernel), bw 407 (by decide +kernel) (by decide +kernel), rfl, by decide +kernel, by decide +kernel, by decide +kernel⟩
theorem lm_X5_167 : LinkV RX5 167 RX1 yX1_forgetJoy cX1_forgetJoy 1 none 0 := ⟨bw 408 (by decide +kernel) (by decide +kernel), bw 273 (by decide +kernel) (by decide +kernel), bw 274 (by decide +kernel) (by decide +kernel), bw 50 (by decide +kernel) (by decide +kernel), bw 275 (by decide +kernel) (by decide +kernel), rfl, by decide +kernel, by decide +kernel, by decide +kernel⟩
theorem lm_X5_170 : LinkV RX5 170 RX5 yX5_firstWrongIn cX5_firstWrongIn 5 (some .int) 3 := ⟨bw 409 (by decide +kernel) (by decide +kernel), bw 411 (by decide +kernel) (by decide +kernel), bw 3 (by decide +kernel) (by decide +kernel), bw 49 (by decide +kernel) (by decide +kernel), bw 412 (by decide +kernel) (by decide +kernel), rfl, by decide +kernel, by decide +kernel, by decide +kernel⟩
theorem lm_X5_259 : LinkV RX5 259 RX1 yX1_acts cX1_acts 3 (some .boolean) 2 := ⟨bw 413 (by decide +kernel) (by decide +kernel), bw 414 (by decide +kernel) (by decide +kernel), bw 415 (by decide +kernel) (by decide +kernel), bw 50 (by decide +kernel) (by decide +kernel), bw 416 (by decide +kernel) (by decide +kernel), rfl, by decide +kernel, by decide +kernel, by decide +kernel⟩
theorem lm_X1_94 : LinkV RX1 94 RX1 yX1_canGoBy cX1_canGoBy 2 (some .boolean) 1 := ⟨bw 417 (by decide +kernel) (by decide +kernel), bw 394 (by decide +kernel) (by decide +kernel), bw 395 (by decide +kernel) (by decide +kernel), bw 50 (by decide +kernel) (by decide +kernel), bw 396 (by decide +kernel) (by decide +kernel), rfl, by decide +kernel, by decide +kernel, by decide +kernel⟩
theorem lm_X1_97 : LinkV RX1 97 RX1 yX1_unseal cX1_unseal 5 (some .int) 1 := ⟨bw 418 (by decide +kernel) (by decide +kernel), bw 385 (by decide +kernel) (by decide +kernel), bw 386 (by decide +kernel) (by decide +kernel), bw 50 (by decide +kernel) (by decide +kernel), bw 387 (by decide +kernel) (by decide +kernel), rfl, by decide +kernel, by decide +kernel, by decide +kernel⟩
theorem lm_X1_100 : LinkV RX1 100 RX1 yX1_canBeSold cX1_canBeSold 3 (some .boolean) 2 := ⟨bw 419 (by decide +kernel) (by decide +kernel), bw 371 (by decide +kernel) (by decide +kernel), bw 372 (by decide +kernel) (by decide +kernel), bw 50 (by decide +kernel) (by decide +kernel), bw 373 (by decide +kernel) (by decide +kernel), rfl, by decide +kernel, by decide +kernel, by decide +kernel⟩
theorem lm_X1_103 : LinkV RX1 103 RX1 yX1_handOver cX1_handOver 4 (some .int) 2 := ⟨bw 420 (by decide +kernel) (by decide +kernel), bw 377 (by decide +kernel) (by decide +kernel), bw 378 (by decide +kernel) (by decide +kernel), bw 50 (by decide +kernel) (by decide +kernel), bw 379 (by decide +kernel) (by decide +kernel), rfl, by decide +kernel, by decide +kernel, by decide +kernel⟩
theorem lm_X5_173 : LinkV RX5 173 RX5 yX5_behindYear cX5_behindYear 2 (some .int) 1 := ⟨bw 421 (by decide +kernel) (by decide +kernel), bw 423 (by decide +kernel) (by decide +kernel), bw 4 (by decide +kernel) (by decide +kernel), bw 49 (by decide +kernel) (by decide +kernel), bw 424 (by decide +kernel) (by decide +kernel), rfl, by decide +kernel, by decide +kernel, by decide +kernel⟩
theorem lm_X5_265 : LinkV RX5 265 RX1 yX1_joyOfAll cX1_joyOfAll 3 (some .int) 0 := ⟨bw 425 (by decide +kernel) (by decide +kernel), bw 426 (by decide +kernel) (by decide +kernel), bw 427 (by decide +kernel) (by decide +kernel), bw 50 (by decide +kernel) (by decide +kernel), bw 428 (by decide +kernel) (by decide +kernel), rfl, by decide +kernel, by decide +kernel, by decide +kernel⟩
theorem lm_L_61 : LinkV RL 61 RX5 yX5_feast cX5_feast 2 (some .int) 1 := ⟨bw 429 (by decide +kernel) (by decide +kernel), bw 430 (by decide +kernel) (by decide +kernel), bw 431 (by decide +kernel) (by decide +kernel), bw 49 (by decide +kernel) (by decide +kernel), bw 432 (by decide +kernel) (by decide +kernel), rfl, by decide +kernel, by decide +kernel, by decide +kernel⟩
theorem lm_X5_176 : LinkV RX5 176 RX1 yX1_feastWith cX1_feastWith 3 (some .int) 2 := ⟨bw 433 (by decide +kernel) (by decide +kernel), bw 434 (by decide +kernel) (by decide +kernel), bw 435 (by decide +kernel) (by decide +kernel), bw 50 (by decide +kernel) (by decide +kernel), bw 436 (by decide +kernel) (by decide +kernel), rfl, by decide +kernel, by decide +kernel, by decide +kernel⟩
theorem lm_X1_87 : LinkV RX1 87 RX1 yX1_joyOfSet cX1_joyOfSet 8 (some .int) 3 := ⟨bw 437 (by decide +kernel) (by decide +kernel), bw 438 (by decide +kernel) (by decide +kernel), bw 439 (by decide +kernel) (by decide +kernel), bw 50 (by decide +kernel) (by decide +kernel), bw 440 (by decide +kernel) (by decide +kernel), rfl, by decide +kernel, by decide +kernel, by decide +kernel⟩
theorem lm_L_65 : LinkV RL 65 RX5 yX5_keep cX5_keep 4 (some .int) 3 := ⟨bw 441 (by decide +kernel) (by decide +kernel), bw 442 (by decide +kernel) (by decide +kernel), bw 443 (by decide +kernel) (by decide +kernel), bw 49 (by decide +kernel) (by decide +kernel), bw 444 (by decide +kernel) (by decide +kernel), rfl, by decide +kernel, by decide +kernel, by decide +kernel⟩
theorem lm_X5_179 : LinkV RX5 179 RX0 yX0_findBest cX0_findBest 9 none 3 := ⟨bw 445 (by decide +kernel) (by decide +kernel), bw 446 (by decide +kernel) (by decide +kernel), bw 447 (by decide +kernel) (by decide +kernel), bw 52 (by decide +kernel) (by decide +kernel), bw 448 (by decide +kernel) (by decide +kernel), rfl, by decide +kernel, by decide +kernel, by decide +kernel⟩
theorem lm_X0_22 : LinkV RX0 22 RX1 yX1_closedOf cX1_closedOf 4 (some .int) 1 := ⟨bw 449 (by decide +kernel) (by decide +kernel), bw 320 (by decide +kernel) (by decide +kernel), bw 321 (by decide +kernel) (by decide +kernel), bw 50 (by decide +kernel) (by decide +kernel), bw 322 (by decide +kernel) (by decide +kernel), rfl, by decide +kernel, by decide +kernel, by decide +kernel⟩
theorem lm_X0_28 : LinkV RX0 28 RX0 yX0_weighDays cX0_weighDays 8 none 4 := ⟨bw 450 (by decide +kernel) (by decide +kernel), bw 451 (by decide +kernel) (by decide +kernel), bw 452 (by decide +kernel) (by decide +kernel), bw 52 (by decide +kernel) (by decide +kernel), bw 453 (by decide +kernel) (by decide +kernel), rfl, by decide +kernel, by decide +kernel, by decide +kernel⟩
theorem lm_X0_44 : LinkV RX0 44 RX1 yX1_openedToday cX1_openedToday 2 (some .boolean) 1 := ⟨bw 454 (by decide +kernel) (by decide +kernel), bw 331 (by decide +kernel) (by decide +kernel), bw 332 (by decide +kernel) (by decide +kernel), bw 50 (by decide +kernel) (by decide +kernel), bw 333 (by decide +kernel) (by decide +kernel), rfl, by decide +kernel, by decide +kernel, by decide +kernel⟩
theorem lm_X0_54 : LinkV RX0 54 RX1 yX1_joyOfSet cX1_joyOfSet 8 (some .int) 3 := ⟨bw 458 (by decide +kernel) (by decide +kernel), bw 438 (by decide +kernel) (by decide +kernel), bw 439 (by decide +kernel) (by decide +kernel), bw 50 (by decide +kernel) (by decide +kernel), bw 440 (by decide +kernel) (by decide +kernel), rfl, by decide +kernel, by decide +kernel, by decide +kernel⟩
theorem lm_X0_36 : LinkV RX0 36 RX0 yX0_setsOfDays cX0_setsOfDays 7 (some .int) 3 := ⟨bw 460 (by decide +kernel) (by decide +kernel), bw 461 (by decide +kernel) (by decide +kernel), bw 462 (by decide +kernel) (by decide +kernel), bw 52 (by decide +kernel) (by decide +kernel), bw 463 (by decide +kernel) (by decide +kernel), rfl, by decide +kernel, by decide +kernel, by decide +kernel⟩
theorem lm_X0_40 : LinkV RX0 40 RX0 yX0_joyOfDays cX0_joyOfDays 6 (some .int) 2 := ⟨bw 464 (by decide +kernel) (by decide +kernel), bw 465 (by decide +kernel) (by decide +kernel), bw 466 (by decide +kernel) (by decide +kernel), bw 52 (by decide +kernel) (by decide +kernel), bw 467 (by decide +kernel) (by decide +kernel), rfl, by decide +kernel, by decide +kernel, by decide +kernel⟩
theorem lm_X5_186 : LinkV RX5 186 RX0 yX0_dayOf cX0_dayOf 3 (some .int) 1 := ⟨bw 468 (by decide +kernel) (by decide +kernel), bw 469 (by decide +kernel) (by decide +kernel), bw 470 (by decide +kernel) (by decide +kernel), bw 52 (by decide +kernel) (by decide +kernel), bw 471 (by decide +kernel) (by decide +kernel), rfl, by decide +kernel, by decide +kernel, by decide +kernel⟩
theorem lm_L_70 : LinkV RL 70 RX5 yX5_buy cX5_buy 5 (some .int) 3 := ⟨bw 472 (by decide +kernel) (by decide +kernel), bw 473 (by decide +kernel) (by decide +kernel), bw 474 (by decide +kernel) (by decide +kernel), bw 49 (by decide +kernel) (by decide +kernel), bw 475 (by decide +kernel) (by decide +kernel), rfl, by decide +kernel, by decide +kernel, by decide +kernel⟩
theorem lm_X5_189 : LinkV RX5 189 RX5 yX5_setToBuy cX5_setToBuy 11 (some .int) 2 := ⟨bw 476 (by decide +kernel) (by decide +kernel), bw 478 (by decide +kernel) (by decide +kernel), bw 5 (by decide +kernel) (by decide +kernel), bw 49 (by decide +kernel) (by decide +kernel), bw 479 (by decide +kernel) (by decide +kernel), rfl, by decide +kernel, by decide +kernel, by decide +kernel⟩
theorem lm_X5_268 : LinkV RX5 268 RX1 yX1_closed cX1_closed 1 (some .int) 0 := ⟨bw 480 (by decide +kernel) (by decide +kernel), bw 481 (by decide +kernel) (by decide +kernel), bw 482 (by decide +kernel) (by decide +kernel), bw 50 (by decide +kernel) (by decide +kernel), bw 483 (by decide +kernel) (by decide +kernel), rfl, by decide +kernel, by decide +kernel, by decide +kernel⟩
theorem ls_X5_211 : LinkS RX5 211 yX5_isWithin cX5_isWithin 2 (some .boolean) 2 := ⟨bw 484 (by decide +kernel) (by decide +kernel), bw 456 (by decide +kernel) (by decide +kernel), bw 49 (by decide +kernel) (by decide +kernel), bw 457 (by decide +kernel) (by decide +kernel), by decide +kernel, by decide +kernel, by decide +kernel⟩
theorem lm_X5_192 : LinkV RX5 192 RX1 yX1_priceOfSet cX1_priceOfSet 4 (some .int) 1 := ⟨bw 485 (by decide +kernel) (by decide +kernel), bw 486 (by decide +kernel) (by decide +kernel), bw 487 (by decide +kernel) (by decide +kernel), bw 50 (by decide +kernel) (by decide +kernel), bw 488 (by decide +kernel) (by decide +kernel), rfl, by decide +kernel, by decide +kernel, by decide +kernel⟩
theorem lm_L_74 : LinkV RL 74 RX5 yX5_debt cX5_debt 5 (some .int) 3 := ⟨bw 489 (by decide +kernel) (by decide +kernel), bw 490 (by decide +kernel) (by decide +kernel), bw 491 (by decide +kernel) (by decide +kernel), bw 49 (by decide +kernel) (by decide +kernel), bw 492 (by decide +kernel) (by decide +kernel), rfl, by decide +kernel, by decide +kernel, by decide +kernel⟩
theorem lm_X5_195 : LinkV RX5 195 RX5 yX5_setToSell cX5_setToSell 10 (some .int) 2 := ⟨bw 493 (by decide +kernel) (by decide +kernel), bw 495 (by decide +kernel) (by decide +kernel), bw 6 (by decide +kernel) (by decide +kernel), bw 49 (by decide +kernel) (by decide +kernel), bw 496 (by decide +kernel) (by decide +kernel), rfl, by decide +kernel, by decide +kernel, by decide +kernel⟩
theorem lm_L_78 : LinkV RL 78 RX5 yX5_swap cX5_swap 8 (some .int) 1 := ⟨bw 497 (by decide +kernel) (by decide +kernel), bw 498 (by decide +kernel) (by decide +kernel), bw 499 (by decide +kernel) (by decide +kernel), bw 49 (by decide +kernel) (by decide +kernel), bw 500 (by decide +kernel) (by decide +kernel), rfl, by decide +kernel, by decide +kernel, by decide +kernel⟩
theorem lm_X5_198 : LinkV RX5 198 RX5 yX5_gainOfExchange cX5_gainOfExchange 8 (some .int) 2 := ⟨bw 501 (by decide +kernel) (by decide +kernel), bw 503 (by decide +kernel) (by decide +kernel), bw 7 (by decide +kernel) (by decide +kernel), bw 49 (by decide +kernel) (by decide +kernel), bw 504 (by decide +kernel) (by decide +kernel), rfl, by decide +kernel, by decide +kernel, by decide +kernel⟩
theorem lm_L_82 : LinkV RL 82 RX5 yX5_reading cX5_reading 4 (some .int) 3 := ⟨bw 505 (by decide +kernel) (by decide +kernel), bw 506 (by decide +kernel) (by decide +kernel), bw 507 (by decide +kernel) (by decide +kernel), bw 49 (by decide +kernel) (by decide +kernel), bw 508 (by decide +kernel) (by decide +kernel), rfl, by decide +kernel, by decide +kernel, by decide +kernel⟩
theorem lm_X5_201 : LinkV RX5 201 RX2 yX2_append cX2_append 5 (some .int) 3 := ⟨bw 509 (by decide +kernel) (by decide +kernel), bw 510 (by decide +kernel) (by decide +kernel), bw 511 (by decide +kernel) (by decide +kernel), bw 53 (by decide +kernel) (by decide +kernel), bw 512 (by decide +kernel) (by decide +kernel), rfl, by decide +kernel, by decide +kernel, by decide +kernel⟩
theorem lm_L_86 : LinkV RL 86 RX5 yX5_back cX5_back 2 (some .int) 1 := ⟨bw 513 (by decide +kernel) (by decide +kernel), bw 514 (by decide +kernel) (by decide +kernel), bw 515 (by decide +kernel) (by decide +kernel), bw 49 (by decide +kernel) (by decide +kernel), bw 516 (by decide +kernel) (by decide +kernel), rfl, by decide +kernel, by decide +kernel, by decide +kernel⟩
theorem lm_L_90 : LinkV RL 90 RX5 yX5_dews cX5_dews 4 (some .int) 1 := ⟨bw 517 (by decide +kernel) (by decide +kernel), bw 518 (by decide +kernel) (by decide +kernel), bw 519 (by decide +kernel) (by decide +kernel), bw 49 (by decide +kernel) (by decide +kernel), bw 520 (by decide +kernel) (by decide +kernel), rfl, by decide +kernel, by decide +kernel, by decide +kernel⟩
theorem lm_X5_205 : LinkV RX5 205 RX2 yX2_areSoWith cX2_areSoWith 8 (some .boolean) 5 := ⟨bw 521 (by decide +kernel) (by decide +kernel), bw 522 (by decide +kernel) (by decide +kernel), bw 523 (by decide +kernel) (by decide +kernel), bw 53 (by decide +kernel) (by decide +kernel), bw 524 (by decide +kernel) (by decide +kernel), rfl, by decide +kernel, by decide +kernel, by decide +kernel⟩
theorem lm_X2_29 : LinkV RX2 29 RX1 yX1_freshOn cX1_freshOn 3 (some .int) 2 := ⟨bw 526 (by decide +kernel) (by decide +kernel), bw 351 (by decide +kernel) (by decide +kernel), bw 352 (by decide +kernel) (by decide +kernel), bw 50 (by decide +kernel) (by decide +kernel), bw 353 (by decide +kernel) (by decide +kernel), rfl, by decide +kernel, by decide +kernel, by decide +kernel⟩
theorem lm_L_94 : LinkV RL 94 RX5 yX5_kinds cX5_kinds 4 (some .int) 1 := ⟨bw 527 (by decide +kernel) (by decide +kernel), bw 528 (by decide +kernel) (by decide +kernel), bw 529 (by decide +kernel) (by decide +kernel), bw 49 (by decide +kernel) (by decide +kernel), bw 530 (by decide +kernel) (by decide +kernel), rfl, by decide +kernel, by decide +kernel, by decide +kernel⟩
theorem lm_L_98 : LinkV RL 98 RX5 yX5_takens cX5_takens 4 (some .int) 1 := ⟨bw 531 (by decide +kernel) (by decide +kernel), bw 532 (by decide +kernel) (by decide +kernel), bw 533 (by decide +kernel) (by decide +kernel), bw 49 (by decide +kernel) (by decide +kernel), bw 534 (by decide +kernel) (by decide +kernel), rfl, by decide +kernel, by decide +kernel, by decide +kernel⟩
theorem lm_L_102 : LinkV RL 102 RX5 yX5_odds cX5_odds 8 (some .long) 3 := ⟨bw 535 (by decide +kernel) (by decide +kernel), bw 536 (by decide +kernel) (by decide +kernel), bw 537 (by decide +kernel) (by decide +kernel), bw 49 (by decide +kernel) (by decide +kernel), bw 538 (by decide +kernel) (by decide +kernel), rfl, by decide +kernel, by decide +kernel, by decide +kernel⟩
theorem lm_L_107 : LinkV RL 107 RX5 yX5_sheet cX5_sheet 5 (some .int) 3 := ⟨bw 540 (by decide +kernel) (by decide +kernel), bw 541 (by decide +kernel) (by decide +kernel), bw 542 (by decide +kernel) (by decide +kernel), bw 49 (by decide +kernel) (by decide +kernel), bw 543 (by decide +kernel) (by decide +kernel), rfl, by decide +kernel, by decide +kernel, by decide +kernel⟩
theorem lm_X5_214 : LinkV RX5 214 RX3 yX3_getRow cX3_getRow 3 none 2 := ⟨bw 544 (by decide +kernel) (by decide +kernel), bw 545 (by decide +kernel) (by decide +kernel), bw 546 (by decide +kernel) (by decide +kernel), bw 54 (by decide +kernel) (by decide +kernel), bw 547 (by decide +kernel) (by decide +kernel), rfl, by decide +kernel, by decide +kernel, by decide +kernel⟩
theorem ls_X3_22 : LinkS RX3 22 yJ7_fill_53178 cJ7_fill_53178 4 none 2 := ⟨bw 548 (by decide +kernel) (by decide +kernel), bw 277 (by decide +kernel) (by decide +kernel), bw 57 (by decide +kernel) (by decide +kernel), bw 278 (by decide +kernel) (by decide +kernel), by decide +kernel, by decide +kernel, by decide +kernel⟩
theorem lm_L_111 : LinkV RL 111 RX5 yX5_lose cX5_lose 4 (some .int) 1 := ⟨bw 549 (by decide +kernel) (by decide +kernel), bw 550 (by decide +kernel) (by decide +kernel), bw 551 (by decide +kernel) (by decide +kernel), bw 49 (by decide +kernel) (by decide +kernel), bw 552 (by decide +kernel) (by decide +kernel), rfl, by decide +kernel, by decide +kernel, by decide +kernel⟩
theorem lm_L_115 : LinkV RL 115 RX5 yX5_put cX5_put 5 (some .int) 3 := ⟨bw 553 (by decide +kernel) (by decide +kernel), bw 554 (by decide +kernel) (by decide +kernel), bw 555 (by decide +kernel) (by decide +kernel), bw 49 (by decide +kernel) (by decide +kernel), bw 556 (by decide +kernel) (by decide +kernel), rfl, by decide +kernel, by decide +kernel, by decide +kernel⟩
theorem lm_X5_224 : LinkV RX5 224 RX3 yX3_cutToLane cX3_cutToLane 2 (some .int) 1 := ⟨bw 557 (by decide +kernel) (by decide +kernel), bw 558 (by decide +kernel) (by decide +kernel), bw 559 (by decide +kernel) (by decide +kernel), bw 54 (by decide +kernel) (by decide +kernel), bw 560 (by decide +kernel) (by decide +kernel), rfl, by decide +kernel, by decide +kernel, by decide +kernel⟩
theorem lm_L_119 : LinkV RL 119 RX5 yX5_cell cX5_cell 5 (some .long) 3 := ⟨bw 561 (by decide +kernel) (by decide +kernel), bw 562 (by decide +kernel) (by decide +kernel), bw 563 (by decide +kernel) (by decide +kernel), bw 49 (by decide +kernel) (by decide +kernel), bw 564 (by decide +kernel) (by decide +kernel), rfl, by decide +kernel, by decide +kernel, by decide +kernel⟩
theorem lm_X5_227 : LinkV RX5 227 RX5 yX5_lostBy cX5_lostBy 2 (some .long) 1 := ⟨bw 565 (by decide +kernel) (by decide +kernel), bw 567 (by decide +kernel) (by decide +kernel), bw 8 (by decide +kernel) (by decide +kernel), bw 49 (by decide +kernel) (by decide +kernel), bw 568 (by decide +kernel) (by decide +kernel), rfl, by decide +kernel, by decide +kernel, by decide +kernel⟩
theorem lm_L_123 : LinkV RL 123 RX5 yX5_copy cX5_copy 8 (some .int) 5 := ⟨bw 569 (by decide +kernel) (by decide +kernel), bw 570 (by decide +kernel) (by decide +kernel), bw 571 (by decide +kernel) (by decide +kernel), bw 49 (by decide +kernel) (by decide +kernel), bw 572 (by decide +kernel) (by decide +kernel), rfl, by decide +kernel, by decide +kernel, by decide +kernel⟩
theorem lm_L_127 : LinkV RL 127 RX5 yX5_tell cX5_tell 2 (some .int) 1 := ⟨bw 574 (by decide +kernel) (by decide +kernel), bw 575 (by decide +kernel) (by decide +kernel), bw 576 (by decide +kernel) (by decide +kernel), bw 49 (by decide +kernel) (by decide +kernel), bw 577 (by decide +kernel) (by decide +kernel), rfl, by decide +kernel, by decide +kernel, by decide +kernel⟩
theorem lm_X5_240 : LinkV RX5 240 RX5 yX5_toldByFrost cX5_toldByFrost 2 (some .int) 1 := ⟨bw 578 (by decide +kernel) (by decide +kernel), bw 580 (by decide +kernel) (by decide +kernel), bw 9 (by decide +kernel) (by decide +kernel), bw 49 (by decide +kernel) (by decide +kernel), bw 581 (by decide +kernel) (by decide +kernel), rfl, by decide +kernel, by decide +kernel, by decide +kernel⟩
theorem lm_X5_271 : LinkV RX5 271 RX5 yX5_begins cX5_begins 2 none 1 := ⟨bw 582 (by decide +kernel) (by decide +kernel), bw 584 (by decide +kernel) (by decide +kernel), bw 10 (by decide +kernel) (by decide +kernel), bw 49 (by decide +kernel) (by decide +kernel), bw 585 (by decide +kernel) (by decide +kernel), rfl, by decide +kernel, by decide +kernel, by decide +kernel⟩
theorem lm_X5_246 : LinkV RX5 246 RX5 yX5_toldByClear cX5_toldByClear 2 (some .int) 1 := ⟨bw 586 (by decide +kernel) (by decide +kernel), bw 588 (by decide +kernel) (by decide +kernel), bw 11 (by decide +kernel) (by decide +kernel), bw 49 (by decide +kernel) (by decide +kernel), bw 589 (by decide +kernel) (by decide +kernel), rfl, by decide +kernel, by decide +kernel, by decide +kernel⟩
theorem lm_X5_243 : LinkV RX5 243 RX5 yX5_toldByPainted cX5_toldByPainted 3 (some .int) 1 := ⟨bw 590 (by decide +kernel) (by decide +kernel), bw 592 (by decide +kernel) (by decide +kernel), bw 12 (by decide +kernel) (by decide +kernel), bw 49 (by decide +kernel) (by decide +kernel), bw 593 (by decide +kernel) (by decide +kernel), rfl, by decide +kernel, by decide +kernel, by decide +kernel⟩
theorem lm_L_131 : LinkV RL 131 RX5 yX5_crow cX5_crow 2 (some .int) 1 := ⟨bw 594 (by decide +kernel) (by decide +kernel), bw 595 (by decide +kernel) (by decide +kernel), bw 596 (by decide +kernel) (by decide +kernel), bw 49 (by decide +kernel) (by decide +kernel), bw 597 (by decide +kernel) (by decide +kernel), rfl, by decide +kernel, by decide +kernel, by decide +kernel⟩
theorem lm_X5_249 : LinkV RX5 249 RX5 yX5_crowedByPainted cX5_crowedByPainted 1 (some .int) 0 := ⟨bw 598 (by decide +kernel) (by decide +kernel), bw 600 (by decide +kernel) (by decide +kernel), bw 13 (by decide +kernel) (by decide +kernel), bw 49 (by decide +kernel) (by decide +kernel), bw 601 (by decide +kernel) (by decide +kernel), rfl, by decide +kernel, by decide +kernel, by decide +kernel⟩
theorem lm_X5_253 : LinkV RX5 253 RX5 yX5_crowedByLent cX5_crowedByLent 2 (some .int) 1 := ⟨bw 602 (by decide +kernel) (by decide +kernel), bw 604 (by decide +kernel) (by decide +kernel), bw 14 (by decide +kernel) (by decide +kernel), bw 49 (by decide +kernel) (by decide +kernel), bw 605 (by decide +kernel) (by decide +kernel), rfl, by decide +kernel, by decide +kernel, by decide +kernel⟩
theorem lm_L_135 : LinkV RL 135 RX5 yX5_as cX5_as 3 (some .int) 2 := ⟨bw 606 (by decide +kernel) (by decide +kernel), bw 607 (by decide +kernel) (by decide +kernel), bw 608 (by decide +kernel) (by decide +kernel), bw 49 (by decide +kernel) (by decide +kernel), bw 609 (by decide +kernel) (by decide +kernel), rfl, by decide +kernel, by decide +kernel, by decide +kernel⟩
theorem lm_L_139 : LinkV RL 139 RX5 yX5_trace cX5_trace 1 (some .int) 0 := ⟨bw 610 (by decide +kernel) (by decide +kernel), bw 611 (by decide +kernel) (by decide +kernel), bw 612 (by decide +kernel) (by decide +kernel), bw 49 (by decide +kernel) (by decide +kernel), bw 613 (by decide +kernel) (by decide +kernel), rfl, by decide +kernel, by decide +kernel, by decide +kernel⟩
theorem lm_L_144 : LinkV RL 144 RX5 yX5_fault cX5_fault 1 (some .int) 0 := ⟨bw 614 (by decide +kernel) (by decide +kernel), bw 615 (by decide +kernel) (by decide +kernel), bw 616 (by decide +kernel) (by decide +kernel), bw 49 (by decide +kernel) (by decide +kernel), bw 617 (by decide +kernel) (by decide +kernel), rfl, by decide +kernel, by decide +kernel, by decide +kernel⟩
theorem lm_L_148 : LinkV RL 148 RX5 yX5_many cX5_many 2 (some .int) 1 := ⟨bw 618 (by decide +kernel) (by decide +kernel), bw 619 (by decide +kernel) (by decide +kernel), bw 620 (by decide +kernel) (by decide +kernel), bw 49 (by decide +kernel) (by decide +kernel), bw 621 (by decide +kernel) (by decide +kernel), rfl, by decide +kernel, by decide +kernel, by decide +kernel⟩
theorem lm_L_17 : LinkV RL 17 RX6 yX6_market cX6_market 7 (some .int) 4 := ⟨bw 741 (by decide +kernel) (by decide +kernel), bw 742 (by decide +kernel) (by decide +kernel), bw 743 (by decide +kernel) (by decide +kernel), bw 55 (by decide +kernel) (by decide +kernel), bw 744 (by decide +kernel) (by decide +kernel), rfl, by decide +kernel, by decide +kernel, by decide +kernel⟩
theorem ls_X6_99 : LinkS RX6 99 yX6_isSheet cX6_isSheet 1 (some .boolean) 1 := ⟨bw 745 (by decide +kernel) (by decide +kernel), bw 746 (by decide +kernel) (by decide +kernel), bw 55 (by decide +kernel) (by decide +kernel), bw 747 (by decide +kernel) (by decide +kernel), by decide +kernel, by decide +kernel, by decide +kernel⟩
theorem ls_X6_86 : LinkS RX6 86 yX6_within cX6_within 3 (some .boolean) 3 := ⟨bw 748 (by decide +kernel) (by decide +kernel), bw 749 (by decide +kernel) (by decide +kernel), bw 55 (by decide +kernel) (by decide +kernel), bw 750 (by decide +kernel) (by decide +kernel), by decide +kernel, by decide +kernel, by decide +kernel⟩
theorem ls_X6_103 : LinkS RX6 103 yX6_isSort cX6_isSort 1 (some .boolean) 1 := ⟨bw 751 (by decide +kernel) (by decide +kernel), bw 752 (by decide +kernel) (by decide +kernel), bw 55 (by decide +kernel) (by decide +kernel), bw 753 (by decide +kernel) (by decide +kernel), by decide +kernel, by decide +kernel, by decide +kernel⟩
theorem lm_X6_106 : LinkV RX6 106 RX6 yX6_against cX6_against 5 (some .int) 4 := ⟨bw 754 (by decide +kernel) (by decide +kernel), bw 756 (by decide +kernel) (by decide +kernel), bw 15 (by decide +kernel) (by decide +kernel), bw 55 (by decide +kernel) (by decide +kernel), bw 757 (by decide +kernel) (by decide +kernel), rfl, by decide +kernel, by decide +kernel, by decide +kernel⟩
theorem lm_X6_110 : LinkV RX6 110 RX6 yX6_fails cX6_fails 2 (some .int) 1 := ⟨bw 758 (by decide +kernel) (by decide +kernel), bw 760 (by decide +kernel) (by decide +kernel), bw 16 (by decide +kernel) (by decide +kernel), bw 55 (by decide +kernel) (by decide +kernel), bw 761 (by decide +kernel) (by decide +kernel), rfl, by decide +kernel, by decide +kernel, by decide +kernel⟩
theorem lm_X6_114 : LinkV RX6 114 RX6 yX6_readMarket cX6_readMarket 2 (some .boolean) 1 := ⟨bw 762 (by decide +kernel) (by decide +kernel), bw 764 (by decide +kernel) (by decide +kernel), bw 17 (by decide +kernel) (by decide +kernel), bw 55 (by decide +kernel) (by decide +kernel), bw 765 (by decide +kernel) (by decide +kernel), rfl, by decide +kernel, by decide +kernel, by decide +kernel⟩
theorem lm_X6_138 : LinkV RX6 138 RX6 yX6_isSign cX6_isSign 3 (some .boolean) 2 := ⟨bw 766 (by decide +kernel) (by decide +kernel), bw 768 (by decide +kernel) (by decide +kernel), bw 18 (by decide +kernel) (by decide +kernel), bw 55 (by decide +kernel) (by decide +kernel), bw 769 (by decide +kernel) (by decide +kernel), rfl, by decide +kernel, by decide +kernel, by decide +kernel⟩
theorem lm_X6_142 : LinkV RX6 142 RX6 yX6_digit cX6_digit 4 (some .int) 3 := ⟨bw 770 (by decide +kernel) (by decide +kernel), bw 772 (by decide +kernel) (by decide +kernel), bw 19 (by decide +kernel) (by decide +kernel), bw 55 (by decide +kernel) (by decide +kernel), bw 773 (by decide +kernel) (by decide +kernel), rfl, by decide +kernel, by decide +kernel, by decide +kernel⟩
theorem lm_X6_146 : LinkV RX6 146 RX6 yX6_readPerson cX6_readPerson 4 (some .boolean) 1 := ⟨bw 774 (by decide +kernel) (by decide +kernel), bw 776 (by decide +kernel) (by decide +kernel), bw 20 (by decide +kernel) (by decide +kernel), bw 55 (by decide +kernel) (by decide +kernel), bw 777 (by decide +kernel) (by decide +kernel), rfl, by decide +kernel, by decide +kernel, by decide +kernel⟩
theorem lm_X6_149 : LinkV RX6 149 RX6 yX6_readMorning cX6_readMorning 5 (some .boolean) 1 := ⟨bw 778 (by decide +kernel) (by decide +kernel), bw 780 (by decide +kernel) (by decide +kernel), bw 21 (by decide +kernel) (by decide +kernel), bw 55 (by decide +kernel) (by decide +kernel), bw 781 (by decide +kernel) (by decide +kernel), rfl, by decide +kernel, by decide +kernel, by decide +kernel⟩
theorem lm_X6_117 : LinkV RX6 117 RX6 yX6_takeMarket cX6_takeMarket 2 none 0 := ⟨bw 782 (by decide +kernel) (by decide +kernel), bw 784 (by decide +kernel) (by decide +kernel), bw 22 (by decide +kernel) (by decide +kernel), bw 55 (by decide +kernel) (by decide +kernel), bw 785 (by decide +kernel) (by decide +kernel), rfl, by decide +kernel, by decide +kernel, by decide +kernel⟩
theorem lm_L_22 : LinkV RL 22 RX6 yX6_ofMorning cX6_ofMorning 3 (some .int) 2 := ⟨bw 786 (by decide +kernel) (by decide +kernel), bw 787 (by decide +kernel) (by decide +kernel), bw 788 (by decide +kernel) (by decide +kernel), bw 55 (by decide +kernel) (by decide +kernel), bw 789 (by decide +kernel) (by decide +kernel), rfl, by decide +kernel, by decide +kernel, by decide +kernel⟩
theorem lm_X6_156 : LinkV RX6 156 RX6 yX6_isMorning cX6_isMorning 2 (some .boolean) 1 := ⟨bw 790 (by decide +kernel) (by decide +kernel), bw 792 (by decide +kernel) (by decide +kernel), bw 23 (by decide +kernel) (by decide +kernel), bw 55 (by decide +kernel) (by decide +kernel), bw 793 (by decide +kernel) (by decide +kernel), rfl, by decide +kernel, by decide +kernel, by decide +kernel⟩
theorem lm_L_26 : LinkV RL 26 RX6 yX6_ofPerson cX6_ofPerson 3 (some .int) 2 := ⟨bw 794 (by decide +kernel) (by decide +kernel), bw 795 (by decide +kernel) (by decide +kernel), bw 796 (by decide +kernel) (by decide +kernel), bw 55 (by decide +kernel) (by decide +kernel), bw 797 (by decide +kernel) (by decide +kernel), rfl, by decide +kernel, by decide +kernel, by decide +kernel⟩
theorem lm_X6_159 : LinkV RX6 159 RX6 yX6_isPerson cX6_isPerson 2 (some .boolean) 1 := ⟨bw 798 (by decide +kernel) (by decide +kernel), bw 800 (by decide +kernel) (by decide +kernel), bw 24 (by decide +kernel) (by decide +kernel), bw 55 (by decide +kernel) (by decide +kernel), bw 801 (by decide +kernel) (by decide +kernel), rfl, by decide +kernel, by decide +kernel, by decide +kernel⟩
theorem lm_X6_162 : LinkV RX6 162 RX6 yX6_ownOf cX6_ownOf 4 (some .int) 1 := ⟨bw 802 (by decide +kernel) (by decide +kernel), bw 804 (by decide +kernel) (by decide +kernel), bw 25 (by decide +kernel) (by decide +kernel), bw 55 (by decide +kernel) (by decide +kernel), bw 805 (by decide +kernel) (by decide +kernel), rfl, by decide +kernel, by decide +kernel, by decide +kernel⟩
theorem ls_X6_165 : LinkS RX6 165 yX6_size cX6_size 3 (some .int) 1 := ⟨bw 806 (by decide +kernel) (by decide +kernel), bw 807 (by decide +kernel) (by decide +kernel), bw 55 (by decide +kernel) (by decide +kernel), bw 808 (by decide +kernel) (by decide +kernel), by decide +kernel, by decide +kernel, by decide +kernel⟩
theorem lm_L_30 : LinkV RL 30 RX6 yX6_fill cX6_fill 4 (some .int) 2 := ⟨bw 809 (by decide +kernel) (by decide +kernel), bw 810 (by decide +kernel) (by decide +kernel), bw 811 (by decide +kernel) (by decide +kernel), bw 55 (by decide +kernel) (by decide +kernel), bw 812 (by decide +kernel) (by decide +kernel), rfl, by decide +kernel, by decide +kernel, by decide +kernel⟩
theorem lm_L_35 : LinkV RL 35 RX6 yX6_rate cX6_rate 3 (some .int) 1 := ⟨bw 813 (by decide +kernel) (by decide +kernel), bw 814 (by decide +kernel) (by decide +kernel), bw 815 (by decide +kernel) (by decide +kernel), bw 55 (by decide +kernel) (by decide +kernel), bw 816 (by decide +kernel) (by decide +kernel), rfl, by decide +kernel, by decide +kernel, by decide +kernel⟩
theorem lm_L_39 : LinkV RL 39 RX6 yX6_fresh cX6_fresh 3 (some .int) 2 := ⟨bw 817 (by decide +kernel) (by decide +kernel), bw 818 (by decide +kernel) (by decide +kernel), bw 819 (by decide +kernel) (by decide +kernel), bw 55 (by decide +kernel) (by decide +kernel), bw 820 (by decide +kernel) (by decide +kernel), rfl, by decide +kernel, by decide +kernel, by decide +kernel⟩
theorem lm_X6_152 : LinkV RX6 152 RX6 yX6_freshOn cX6_freshOn 5 (some .int) 2 := ⟨bw 821 (by decide +kernel) (by decide +kernel), bw 823 (by decide +kernel) (by decide +kernel), bw 26 (by decide +kernel) (by decide +kernel), bw 55 (by decide +kernel) (by decide +kernel), bw 824 (by decide +kernel) (by decide +kernel), rfl, by decide +kernel, by decide +kernel, by decide +kernel⟩
theorem lm_L_43 : LinkV RL 43 RX6 yX6_price cX6_price 2 (some .int) 1 := ⟨bw 825 (by decide +kernel) (by decide +kernel), bw 826 (by decide +kernel) (by decide +kernel), bw 827 (by decide +kernel) (by decide +kernel), bw 55 (by decide +kernel) (by decide +kernel), bw 828 (by decide +kernel) (by decide +kernel), rfl, by decide +kernel, by decide +kernel, by decide +kernel⟩
theorem lm_X6_168 : LinkV RX6 168 RX6 yX6_priceOf cX6_priceOf 2 (some .int) 1 := ⟨bw 829 (by decide +kernel) (by decide +kernel), bw 831 (by decide +kernel) (by decide +kernel), bw 27 (by decide +kernel) (by decide +kernel), bw 55 (by decide +kernel) (by decide +kernel), bw 832 (by decide +kernel) (by decide +kernel), rfl, by decide +kernel, by decide +kernel, by decide +kernel⟩
theorem lm_L_47 : LinkV RL 47 RX6 yX6_sell cX6_sell 4 (some .int) 2 := ⟨bw 833 (by decide +kernel) (by decide +kernel), bw 834 (by decide +kernel) (by decide +kernel), bw 835 (by decide +kernel) (by decide +kernel), bw 55 (by decide +kernel) (by decide +kernel), bw 836 (by decide +kernel) (by decide +kernel), rfl, by decide +kernel, by decide +kernel, by decide +kernel⟩
theorem lm_X6_171 : LinkV RX6 171 RX6 yX6_maySell cX6_maySell 3 (some .boolean) 2 := ⟨bw 837 (by decide +kernel) (by decide +kernel), bw 839 (by decide +kernel) (by decide +kernel), bw 28 (by decide +kernel) (by decide +kernel), bw 55 (by decide +kernel) (by decide +kernel), bw 840 (by decide +kernel) (by decide +kernel), rfl, by decide +kernel, by decide +kernel, by decide +kernel⟩
theorem lm_X6_174 : LinkV RX6 174 RX6 yX6_doSell cX6_doSell 3 none 2 := ⟨bw 841 (by decide +kernel) (by decide +kernel), bw 843 (by decide +kernel) (by decide +kernel), bw 29 (by decide +kernel) (by decide +kernel), bw 55 (by decide +kernel) (by decide +kernel), bw 844 (by decide +kernel) (by decide +kernel), rfl, by decide +kernel, by decide +kernel, by decide +kernel⟩
theorem lm_L_51 : LinkV RL 51 RX6 yX6_open cX6_open 2 (some .int) 1 := ⟨bw 845 (by decide +kernel) (by decide +kernel), bw 846 (by decide +kernel) (by decide +kernel), bw 847 (by decide +kernel) (by decide +kernel), bw 55 (by decide +kernel) (by decide +kernel), bw 848 (by decide +kernel) (by decide +kernel), rfl, by decide +kernel, by decide +kernel, by decide +kernel⟩
theorem lm_X6_178 : LinkV RX6 178 RX6 yX6_doOpen cX6_doOpen 4 (some .int) 1 := ⟨bw 849 (by decide +kernel) (by decide +kernel), bw 851 (by decide +kernel) (by decide +kernel), bw 30 (by decide +kernel) (by decide +kernel), bw 55 (by decide +kernel) (by decide +kernel), bw 852 (by decide +kernel) (by decide +kernel), rfl, by decide +kernel, by decide +kernel, by decide +kernel⟩
theorem lm_L_55 : LinkV RL 55 RX6 yX6_sleep cX6_sleep 2 (some .int) 1 := ⟨bw 853 (by decide +kernel) (by decide +kernel), bw 854 (by decide +kernel) (by decide +kernel), bw 855 (by decide +kernel) (by decide +kernel), bw 55 (by decide +kernel) (by decide +kernel), bw 856 (by decide +kernel) (by decide +kernel), rfl, by decide +kernel, by decide +kernel, by decide +kernel⟩
theorem lm_X6_181 : LinkV RX6 181 RX6 yX6_doSleep cX6_doSleep 3 none 1 := ⟨bw 857 (by decide +kernel) (by decide +kernel), bw 859 (by decide +kernel) (by decide +kernel), bw 31 (by decide +kernel) (by decide +kernel), bw 55 (by decide +kernel) (by decide +kernel), bw 860 (by decide +kernel) (by decide +kernel), rfl, by decide +kernel, by decide +kernel, by decide +kernel⟩
theorem lm_L_60 : LinkV RL 60 RX6 yX6_year cX6_year 11 (some .int) 5 := ⟨bw 861 (by decide +kernel) (by decide +kernel), bw 862 (by decide +kernel) (by decide +kernel), bw 863 (by decide +kernel) (by decide +kernel), bw 55 (by decide +kernel) (by decide +kernel), bw 864 (by decide +kernel) (by decide +kernel), rfl, by decide +kernel, by decide +kernel, by decide +kernel⟩
theorem lm_X6_188 : LinkV RX6 188 RX6 yX6_refusesPair cX6_refusesPair 3 (some .int) 2 := ⟨bw 865 (by decide +kernel) (by decide +kernel), bw 867 (by decide +kernel) (by decide +kernel), bw 32 (by decide +kernel) (by decide +kernel), bw 55 (by decide +kernel) (by decide +kernel), bw 868 (by decide +kernel) (by decide +kernel), rfl, by decide +kernel, by decide +kernel, by decide +kernel⟩
theorem lm_X6_191 : LinkV RX6 191 RX6 yX6_keepAll cX6_keepAll 2 none 0 := ⟨bw 869 (by decide +kernel) (by decide +kernel), bw 871 (by decide +kernel) (by decide +kernel), bw 33 (by decide +kernel) (by decide +kernel), bw 55 (by decide +kernel) (by decide +kernel), bw 872 (by decide +kernel) (by decide +kernel), rfl, by decide +kernel, by decide +kernel, by decide +kernel⟩
theorem lm_X6_194 : LinkV RX6 194 RX6 yX6_goes cX6_goes 3 (some .boolean) 2 := ⟨bw 873 (by decide +kernel) (by decide +kernel), bw 875 (by decide +kernel) (by decide +kernel), bw 34 (by decide +kernel) (by decide +kernel), bw 55 (by decide +kernel) (by decide +kernel), bw 876 (by decide +kernel) (by decide +kernel), rfl, by decide +kernel, by decide +kernel, by decide +kernel⟩
theorem lm_X6_197 : LinkV RX6 197 RX6 yX6_tellYear cX6_tellYear 5 (some .int) 1 := ⟨bw 877 (by decide +kernel) (by decide +kernel), bw 879 (by decide +kernel) (by decide +kernel), bw 35 (by decide +kernel) (by decide +kernel), bw 55 (by decide +kernel) (by decide +kernel), bw 880 (by decide +kernel) (by decide +kernel), rfl, by decide +kernel, by decide +kernel, by decide +kernel⟩
theorem lm_X6_200 : LinkV RX6 200 RX6 yX6_putBack cX6_putBack 2 none 0 := ⟨bw 881 (by decide +kernel) (by decide +kernel), bw 883 (by decide +kernel) (by decide +kernel), bw 36 (by decide +kernel) (by decide +kernel), bw 55 (by decide +kernel) (by decide +kernel), bw 884 (by decide +kernel) (by decide +kernel), rfl, by decide +kernel, by decide +kernel, by decide +kernel⟩
theorem lm_L_64 : LinkV RL 64 RX6 yX6_feast cX6_feast 2 (some .int) 1 := ⟨bw 885 (by decide +kernel) (by decide +kernel), bw 886 (by decide +kernel) (by decide +kernel), bw 887 (by decide +kernel) (by decide +kernel), bw 55 (by decide +kernel) (by decide +kernel), bw 888 (by decide +kernel) (by decide +kernel), rfl, by decide +kernel, by decide +kernel, by decide +kernel⟩
theorem lm_X6_207 : LinkV RX6 207 RX6 yX6_feastBy cX6_feastBy 3 (some .int) 2 := ⟨bw 889 (by decide +kernel) (by decide +kernel), bw 891 (by decide +kernel) (by decide +kernel), bw 37 (by decide +kernel) (by decide +kernel), bw 55 (by decide +kernel) (by decide +kernel), bw 892 (by decide +kernel) (by decide +kernel), rfl, by decide +kernel, by decide +kernel, by decide +kernel⟩
theorem lm_X6_203 : LinkV RX6 203 RX6 yX6_joyBy cX6_joyBy 8 (some .int) 3 := ⟨bw 893 (by decide +kernel) (by decide +kernel), bw 895 (by decide +kernel) (by decide +kernel), bw 38 (by decide +kernel) (by decide +kernel), bw 55 (by decide +kernel) (by decide +kernel), bw 896 (by decide +kernel) (by decide +kernel), rfl, by decide +kernel, by decide +kernel, by decide +kernel⟩
theorem lm_L_69 : LinkV RL 69 RX6 yX6_keep cX6_keep 5 (some .int) 3 := ⟨bw 897 (by decide +kernel) (by decide +kernel), bw 898 (by decide +kernel) (by decide +kernel), bw 899 (by decide +kernel) (by decide +kernel), bw 55 (by decide +kernel) (by decide +kernel), bw 900 (by decide +kernel) (by decide +kernel), rfl, by decide +kernel, by decide +kernel, by decide +kernel⟩
theorem lm_X6_213 : LinkV RX6 213 RX6 yX6_findKeep cX6_findKeep 10 (some .int) 2 := ⟨bw 901 (by decide +kernel) (by decide +kernel), bw 903 (by decide +kernel) (by decide +kernel), bw 39 (by decide +kernel) (by decide +kernel), bw 55 (by decide +kernel) (by decide +kernel), bw 904 (by decide +kernel) (by decide +kernel), rfl, by decide +kernel, by decide +kernel, by decide +kernel⟩
theorem lm_X6_210 : LinkV RX6 210 RX6 yX6_joyOfRow cX6_joyOfRow 8 (some .int) 3 := ⟨bw 905 (by decide +kernel) (by decide +kernel), bw 907 (by decide +kernel) (by decide +kernel), bw 40 (by decide +kernel) (by decide +kernel), bw 55 (by decide +kernel) (by decide +kernel), bw 908 (by decide +kernel) (by decide +kernel), rfl, by decide +kernel, by decide +kernel, by decide +kernel⟩
theorem lm_L_73 : LinkV RL 73 RX6 yX6_buy cX6_buy 8 (some .int) 3 := ⟨bw 909 (by decide +kernel) (by decide +kernel), bw 910 (by decide +kernel) (by decide +kernel), bw 911 (by decide +kernel) (by decide +kernel), bw 55 (by decide +kernel) (by decide +kernel), bw 912 (by decide +kernel) (by decide +kernel), rfl, by decide +kernel, by decide +kernel, by decide +kernel⟩
theorem lm_X6_216 : LinkV RX6 216 RX6 yX6_pricesOf cX6_pricesOf 4 (some .int) 1 := ⟨bw 913 (by decide +kernel) (by decide +kernel), bw 915 (by decide +kernel) (by decide +kernel), bw 41 (by decide +kernel) (by decide +kernel), bw 55 (by decide +kernel) (by decide +kernel), bw 916 (by decide +kernel) (by decide +kernel), rfl, by decide +kernel, by decide +kernel, by decide +kernel⟩
theorem lm_X6_219 : LinkV RX6 219 RX6 yX6_isCheaper cX6_isCheaper 3 (some .boolean) 2 := ⟨bw 917 (by decide +kernel) (by decide +kernel), bw 919 (by decide +kernel) (by decide +kernel), bw 42 (by decide +kernel) (by decide +kernel), bw 55 (by decide +kernel) (by decide +kernel), bw 920 (by decide +kernel) (by decide +kernel), rfl, by decide +kernel, by decide +kernel, by decide +kernel⟩
theorem lm_L_77 : LinkV RL 77 RX6 yX6_debt cX6_debt 10 (some .int) 3 := ⟨bw 921 (by decide +kernel) (by decide +kernel), bw 922 (by decide +kernel) (by decide +kernel), bw 923 (by decide +kernel) (by decide +kernel), bw 55 (by decide +kernel) (by decide +kernel), bw 924 (by decide +kernel) (by decide +kernel), rfl, by decide +kernel, by decide +kernel, by decide +kernel⟩
theorem lm_L_81 : LinkV RL 81 RX6 yX6_swap cX6_swap 3 (some .int) 1 := ⟨bw 925 (by decide +kernel) (by decide +kernel), bw 926 (by decide +kernel) (by decide +kernel), bw 927 (by decide +kernel) (by decide +kernel), bw 55 (by decide +kernel) (by decide +kernel), bw 928 (by decide +kernel) (by decide +kernel), rfl, by decide +kernel, by decide +kernel, by decide +kernel⟩
theorem lm_X6_231 : LinkV RX6 231 RX6 yX6_findSwap cX6_findSwap 5 (some .int) 0 := ⟨bw 929 (by decide +kernel) (by decide +kernel), bw 931 (by decide +kernel) (by decide +kernel), bw 43 (by decide +kernel) (by decide +kernel), bw 55 (by decide +kernel) (by decide +kernel), bw 932 (by decide +kernel) (by decide +kernel), rfl, by decide +kernel, by decide +kernel, by decide +kernel⟩
theorem lm_X6_228 : LinkV RX6 228 RX6 yX6_gainBy cX6_gainBy 8 (some .int) 2 := ⟨bw 933 (by decide +kernel) (by decide +kernel), bw 935 (by decide +kernel) (by decide +kernel), bw 44 (by decide +kernel) (by decide +kernel), bw 55 (by decide +kernel) (by decide +kernel), bw 936 (by decide +kernel) (by decide +kernel), rfl, by decide +kernel, by decide +kernel, by decide +kernel⟩
theorem lm_L_85 : LinkV RL 85 RX6 yX6_reading cX6_reading 4 (some .int) 3 := ⟨bw 937 (by decide +kernel) (by decide +kernel), bw 938 (by decide +kernel) (by decide +kernel), bw 939 (by decide +kernel) (by decide +kernel), bw 55 (by decide +kernel) (by decide +kernel), bw 940 (by decide +kernel) (by decide +kernel), rfl, by decide +kernel, by decide +kernel, by decide +kernel⟩
theorem lm_L_89 : LinkV RL 89 RX6 yX6_back cX6_back 2 (some .int) 1 := ⟨bw 941 (by decide +kernel) (by decide +kernel), bw 942 (by decide +kernel) (by decide +kernel), bw 943 (by decide +kernel) (by decide +kernel), bw 55 (by decide +kernel) (by decide +kernel), bw 944 (by decide +kernel) (by decide +kernel), rfl, by decide +kernel, by decide +kernel, by decide +kernel⟩
theorem lm_L_93 : LinkV RL 93 RX6 yX6_dews cX6_dews 5 (some .int) 1 := ⟨bw 945 (by decide +kernel) (by decide +kernel), bw 946 (by decide +kernel) (by decide +kernel), bw 947 (by decide +kernel) (by decide +kernel), bw 55 (by decide +kernel) (by decide +kernel), bw 948 (by decide +kernel) (by decide +kernel), rfl, by decide +kernel, by decide +kernel, by decide +kernel⟩
theorem lm_X6_235 : LinkV RX6 235 RX6 yX6_areSo cX6_areSo 2 (some .boolean) 0 := ⟨bw 949 (by decide +kernel) (by decide +kernel), bw 951 (by decide +kernel) (by decide +kernel), bw 45 (by decide +kernel) (by decide +kernel), bw 55 (by decide +kernel) (by decide +kernel), bw 952 (by decide +kernel) (by decide +kernel), rfl, by decide +kernel, by decide +kernel, by decide +kernel⟩
theorem lm_L_97 : LinkV RL 97 RX6 yX6_kinds cX6_kinds 5 (some .int) 1 := ⟨bw 953 (by decide +kernel) (by decide +kernel), bw 954 (by decide +kernel) (by decide +kernel), bw 955 (by decide +kernel) (by decide +kernel), bw 55 (by decide +kernel) (by decide +kernel), bw 956 (by decide +kernel) (by decide +kernel), rfl, by decide +kernel, by decide +kernel, by decide +kernel⟩
theorem lm_L_101 : LinkV RL 101 RX6 yX6_takens cX6_takens 5 (some .int) 1 := ⟨bw 957 (by decide +kernel) (by decide +kernel), bw 958 (by decide +kernel) (by decide +kernel), bw 959 (by decide +kernel) (by decide +kernel), bw 55 (by decide +kernel) (by decide +kernel), bw 960 (by decide +kernel) (by decide +kernel), rfl, by decide +kernel, by decide +kernel, by decide +kernel⟩
theorem lm_L_106 : LinkV RL 106 RX6 yX6_odds cX6_odds 8 (some .long) 3 := ⟨bw 961 (by decide +kernel) (by decide +kernel), bw 962 (by decide +kernel) (by decide +kernel), bw 963 (by decide +kernel) (by decide +kernel), bw 55 (by decide +kernel) (by decide +kernel), bw 964 (by decide +kernel) (by decide +kernel), rfl, by decide +kernel, by decide +kernel, by decide +kernel⟩
theorem ls_X6_239 : LinkS RX6 239 yX6_inLeastTerms cX6_inLeastTerms 11 (some .long) 3 := ⟨bw 966 (by decide +kernel) (by decide +kernel), bw 967 (by decide +kernel) (by decide +kernel), bw 55 (by decide +kernel) (by decide +kernel), bw 968 (by decide +kernel) (by decide +kernel), by decide +kernel, by decide +kernel, by decide +kernel⟩
theorem lm_L_110 : LinkV RL 110 RX6 yX6_sheet cX6_sheet 5 (some .int) 3 := ⟨bw 969 (by decide +kernel) (by decide +kernel), bw 970 (by decide +kernel) (by decide +kernel), bw 971 (by decide +kernel) (by decide +kernel), bw 55 (by decide +kernel) (by decide +kernel), bw 972 (by decide +kernel) (by decide +kernel), rfl, by decide +kernel, by decide +kernel, by decide +kernel⟩
theorem lm_L_114 : LinkV RL 114 RX6 yX6_lose cX6_lose 3 (some .int) 1 := ⟨bw 973 (by decide +kernel) (by decide +kernel), bw 974 (by decide +kernel) (by decide +kernel), bw 975 (by decide +kernel) (by decide +kernel), bw 55 (by decide +kernel) (by decide +kernel), bw 976 (by decide +kernel) (by decide +kernel), rfl, by decide +kernel, by decide +kernel, by decide +kernel⟩
theorem lm_L_118 : LinkV RL 118 RX6 yX6_put cX6_put 4 (some .int) 3 := ⟨bw 977 (by decide +kernel) (by decide +kernel), bw 978 (by decide +kernel) (by decide +kernel), bw 979 (by decide +kernel) (by decide +kernel), bw 55 (by decide +kernel) (by decide +kernel), bw 980 (by decide +kernel) (by decide +kernel), rfl, by decide +kernel, by decide +kernel, by decide +kernel⟩
theorem lm_L_122 : LinkV RL 122 RX6 yX6_cell cX6_cell 4 (some .long) 3 := ⟨bw 981 (by decide +kernel) (by decide +kernel), bw 982 (by decide +kernel) (by decide +kernel), bw 983 (by decide +kernel) (by decide +kernel), bw 55 (by decide +kernel) (by decide +kernel), bw 984 (by decide +kernel) (by decide +kernel), rfl, by decide +kernel, by decide +kernel, by decide +kernel⟩
theorem lm_X6_243 : LinkV RX6 243 RX6 yX6_lost cX6_lost 2 (some .long) 1 := ⟨bw 985 (by decide +kernel) (by decide +kernel), bw 987 (by decide +kernel) (by decide +kernel), bw 46 (by decide +kernel) (by decide +kernel), bw 55 (by decide +kernel) (by decide +kernel), bw 988 (by decide +kernel) (by decide +kernel), rfl, by decide +kernel, by decide +kernel, by decide +kernel⟩
theorem lm_L_126 : LinkV RL 126 RX6 yX6_copy cX6_copy 10 (some .int) 5 := ⟨bw 989 (by decide +kernel) (by decide +kernel), bw 990 (by decide +kernel) (by decide +kernel), bw 991 (by decide +kernel) (by decide +kernel), bw 55 (by decide +kernel) (by decide +kernel), bw 992 (by decide +kernel) (by decide +kernel), rfl, by decide +kernel, by decide +kernel, by decide +kernel⟩
theorem lm_L_130 : LinkV RL 130 RX6 yX6_tell cX6_tell 3 (some .int) 1 := ⟨bw 993 (by decide +kernel) (by decide +kernel), bw 994 (by decide +kernel) (by decide +kernel), bw 995 (by decide +kernel) (by decide +kernel), bw 55 (by decide +kernel) (by decide +kernel), bw 996 (by decide +kernel) (by decide +kernel), rfl, by decide +kernel, by decide +kernel, by decide +kernel⟩
theorem lm_X6_250 : LinkV RX6 250 RX6 yX6_begins cX6_begins 2 none 1 := ⟨bw 997 (by decide +kernel) (by decide +kernel), bw 999 (by decide +kernel) (by decide +kernel), bw 47 (by decide +kernel) (by decide +kernel), bw 55 (by decide +kernel) (by decide +kernel), bw 1000 (by decide +kernel) (by decide +kernel), rfl, by decide +kernel, by decide +kernel, by decide +kernel⟩
theorem lm_L_134 : LinkV RL 134 RX6 yX6_crow cX6_crow 2 (some .int) 1 := ⟨bw 1001 (by decide +kernel) (by decide +kernel), bw 1002 (by decide +kernel) (by decide +kernel), bw 1003 (by decide +kernel) (by decide +kernel), bw 55 (by decide +kernel) (by decide +kernel), bw 1004 (by decide +kernel) (by decide +kernel), rfl, by decide +kernel, by decide +kernel, by decide +kernel⟩
theorem lm_L_138 : LinkV RL 138 RX6 yX6_as cX6_as 3 (some .int) 2 := ⟨bw 1005 (by decide +kernel) (by decide +kernel), bw 1006 (by decide +kernel) (by decide +kernel), bw 1007 (by decide +kernel) (by decide +kernel), bw 55 (by decide +kernel) (by decide +kernel), bw 1008 (by decide +kernel) (by decide +kernel), rfl, by decide +kernel, by decide +kernel, by decide +kernel⟩
theorem lm_L_143 : LinkV RL 143 RX6 yX6_trace cX6_trace 1 (some .int) 0 := ⟨bw 1009 (by decide +kernel) (by decide +kernel), bw 1010 (by decide +kernel) (by decide +kernel), bw 1011 (by decide +kernel) (by decide +kernel), bw 55 (by decide +kernel) (by decide +kernel), bw 1012 (by decide +kernel) (by decide +kernel), rfl, by decide +kernel, by decide +kernel, by decide +kernel⟩
theorem lm_L_147 : LinkV RL 147 RX6 yX6_fault cX6_fault 1 (some .int) 0 := ⟨bw 1013 (by decide +kernel) (by decide +kernel), bw 1014 (by decide +kernel) (by decide +kernel), bw 1015 (by decide +kernel) (by decide +kernel), bw 55 (by decide +kernel) (by decide +kernel), bw 1016 (by decide +kernel) (by decide +kernel), rfl, by decide +kernel, by decide +kernel, by decide +kernel⟩
theorem lm_L_151 : LinkV RL 151 RX6 yX6_many cX6_many 2 (some .int) 1 := ⟨bw 1017 (by decide +kernel) (by decide +kernel), bw 1018 (by decide +kernel) (by decide +kernel), bw 1019 (by decide +kernel) (by decide +kernel), bw 55 (by decide +kernel) (by decide +kernel), bw 1020 (by decide +kernel) (by decide +kernel), rfl, by decide +kernel, by decide +kernel, by decide +kernel⟩
theorem ln_X1_64 : LinkN RX1 64 yX5_isIn cX5_isIn 2 (some .boolean) 2 := ⟨by decide +kernel, bw 309 (by decide +kernel) (by decide +kernel), wI_MornMarket, bw 310 (by decide +kernel) (by decide +kernel), by decide +kernel, by decide +kernel, by decide +kernel⟩
theorem ln_X1_72 : LinkN RX1 72 yX5_freshBy cX5_freshBy 6 (some .int) 4 := ⟨by decide +kernel, bw 355 (by decide +kernel) (by decide +kernel), wI_MornMarket, bw 356 (by decide +kernel) (by decide +kernel), by decide +kernel, by decide +kernel, by decide +kernel⟩
theorem ln_X0_48 : LinkN RX0 48 yX5_isWithin cX5_isWithin 2 (some .boolean) 2 := ⟨by decide +kernel, bw 456 (by decide +kernel) (by decide +kernel), wI_MornMarket, bw 457 (by decide +kernel) (by decide +kernel), by decide +kernel, by decide +kernel, by decide +kernel⟩
theorem ln_X0_32 : LinkN RX0 32 yX5_isIn cX5_isIn 2 (some .boolean) 2 := ⟨by decide +kernel, bw 309 (by decide +kernel) (by decide +kernel), wI_MornMarket, bw 310 (by decide +kernel) (by decide +kernel), by decide +kernel, by decide +kernel, by decide +kernel⟩
theorem ln_X2_25 : LinkN RX2 25 yX5_freshBy cX5_freshBy 6 (some .int) 4 := ⟨by decide +kernel, bw 355 (by decide +kernel) (by decide +kernel), wI_MornMarket, bw 356 (by decide +kernel) (by decide +kernel), by decide +kernel, by decide +kernel, by decide +kernel⟩
end
section
/-! THE WORLDS: cW A tc σ, the 34 cells of a MornMarket (σ object field index), mW B tc τ, the cells of the reference (τ field index) -/
abbrev St : Type := Nat → Nat → Nat → Int32
abbrev Sm : Type := Nat → Nat → Int32
def up (σ : St) (o k i : Nat) (v : Int32) : St := fun o' k' i' => if o' = o then (if k' = k then (if i' = i then v else σ o' k' i') else σ o' k' i') else σ o' k' i'
def um (τ : Sm) (k i : Nat) (v : Int32) : Sm := fun k' i' => if k' = k then (if i' = i then v else τ k' i') else τ k' i'
def mb (o : Nat) : Nat := 8 * o - 30
def sb (j : Nat) : Nat := 2 + 2 * j
theorem up_eq {σ : St} {o k i : Nat} {v : Int32} : up σ o k i v o k i = v := by simp [up]
theorem up_ne {σ : St} {o k i o' k' i' : Nat} {v : Int32} (h : ¬ (o' = o ∧ k' = k ∧ i' = i)) : up σ o k i v o' k' i' = σ o' k' i' := by
  unfold up
  by_cases h1 : o' = o <;> by_cases h2 : k' = k <;> by_cases h3 : i' = i <;> simp [h1, h2, h3] <;> exact absurd ⟨h1, h2, h3⟩ h
theorem um_eq {τ : Sm} {k i : Nat} {v : Int32} : um τ k i v k i = v := by simp [um]
theorem um_ne {τ : Sm} {k i k' i' : Nat} {v : Int32} (h : ¬ (k' = k ∧ i' = i)) : um τ k i v k' i' = τ k' i' := by
  unfold um
  by_cases h2 : k' = k <;> by_cases h3 : i' = i <;> simp [h2, h3] <;> exact absurd ⟨h2, h3⟩ h
def cW (A : Nat → Nat) (tc : Tc) (σ : St) : va_W := [(A 0, .inr (5, [.ref (A 1), .ref (A 10), .ref (A 18), .ref (A 26), .ref (A 28), .ref (A 30), .int (σ 0 6 0), .int (σ 0 7 0)])),
  (A 1, .inl (tc.2.2, 4, .inr (.inr (.inr (.inr (fun k => some (A (2 + 2 * k)))))))),
  (A 2, .inr (3, [.ref (A 3), .int (σ 1 1 0), .int (σ 1 2 0)])),
  (A 3, .inl (tc.1, 60, .inl (σ 1 0))),
  (A 4, .inr (3, [.ref (A 5), .int (σ 2 1 0), .int (σ 2 2 0)])),
  (A 5, .inl (tc.1, 60, .inl (σ 2 0))),
  (A 6, .inr (3, [.ref (A 7), .int (σ 3 1 0), .int (σ 3 2 0)])),
  (A 7, .inl (tc.1, 60, .inl (σ 3 0))),
  (A 8, .inr (3, [.ref (A 9), .int (σ 4 1 0), .int (σ 4 2 0)])),
  (A 9, .inl (tc.1, 60, .inl (σ 4 0))),
  (A 10, .inr (1, [.ref (A 11), .ref (A 12), .ref (A 13), .ref (A 14), .ref (A 15), .ref (A 16), .ref (A 17), .int (σ 5 7 0), .int (σ 5 8 0), .int (σ 5 9 0), .int (σ 5 10 0), .int (σ 5 11 0)])),
  (A 11, .inl (tc.1, 4, .inl (σ 5 0))),
  (A 12, .inl (tc.1, 4, .inl (σ 5 1))),
  (A 13, .inl (tc.1, 4, .inl (σ 5 2))),
  (A 14, .inl (tc.1, 6, .inl (σ 5 3))),
  (A 15, .inl (tc.1, 6, .inl (σ 5 4))),
  (A 16, .inl (tc.1, 6, .inl (σ 5 5))),
  (A 17, .inl (tc.1, 6, .inl (σ 5 6))),
  (A 18, .inr (1, [.ref (A 19), .ref (A 20), .ref (A 21), .ref (A 22), .ref (A 23), .ref (A 24), .ref (A 25), .int (σ 6 7 0), .int (σ 6 8 0), .int (σ 6 9 0), .int (σ 6 10 0), .int (σ 6 11 0)])),
  (A 19, .inl (tc.1, 4, .inl (σ 6 0))),
  (A 20, .inl (tc.1, 4, .inl (σ 6 1))),
  (A 21, .inl (tc.1, 4, .inl (σ 6 2))),
  (A 22, .inl (tc.1, 6, .inl (σ 6 3))),
  (A 23, .inl (tc.1, 6, .inl (σ 6 4))),
  (A 24, .inl (tc.1, 6, .inl (σ 6 5))),
  (A 25, .inl (tc.1, 6, .inl (σ 6 6))),
  (A 26, .inr (4, [.ref (A 27), .int (σ 7 1 0), .int (σ 7 2 0), .int (σ 7 3 0)])),
  (A 27, .inl (tc.1, 60, .inl (σ 7 0))),
  (A 28, .inr (0, [.ref (A 29), .int (σ 8 1 0), .int (σ 8 2 0)])),
  (A 29, .inl (tc.1, 192, .inl (σ 8 0))),
  (A 30, .inr (2, [.ref (A 31), .ref (A 32), .ref (A 33), .int (σ 9 3 0)])),
  (A 31, .inl (tc.1, 8, .inl (σ 9 0))),
  (A 32, .inl (tc.1, 8, .inl (σ 9 1))),
  (A 33, .inl (tc.1, 8, .inl (σ 9 2)))]
def mW (B : Nat → Nat) (tc : Tc) (τ : Sm) : va_W := [(B 0, .inr (6, [.int (τ 0 0), .int (τ 1 0), .ref (B 1), .ref (B 2), .ref (B 3), .int (τ 5 0), .int (τ 6 0), .int (τ 7 0), .int (τ 8 0), .ref (B 4), .ref (B 5), .ref (B 6), .ref (B 7), .ref (B 8), .ref (B 9), .ref (B 10), .ref (B 11), .int (τ 17 0), .int (τ 18 0), .int (τ 19 0), .int (τ 20 0), .ref (B 12), .ref (B 13), .int (τ 23 0), .ref (B 14), .ref (B 15), .ref (B 16), .ref (B 17), .ref (B 18), .ref (B 19), .ref (B 20), .int (τ 31 0), .int (τ 32 0), .int (τ 33 0), .ref (B 21), .ref (B 22), .ref (B 23)])),
  (B 1, .inl (tc.1, 4, .inl (τ 2))),
  (B 2, .inl (tc.1, 4, .inl (τ 3))),
  (B 3, .inl (tc.1, 240, .inl (τ 4))),
  (B 4, .inl (tc.1, 4, .inl (τ 9))),
  (B 5, .inl (tc.1, 4, .inl (τ 10))),
  (B 6, .inl (tc.2.1, 4, .inl (τ 11))),
  (B 7, .inl (tc.1, 6, .inl (τ 12))),
  (B 8, .inl (tc.1, 6, .inl (τ 13))),
  (B 9, .inl (tc.1, 6, .inl (τ 14))),
  (B 10, .inl (tc.1, 6, .inl (τ 15))),
  (B 11, .inl (tc.2.1, 6, .inl (τ 16))),
  (B 12, .inl (tc.1, 4, .inl (τ 21))),
  (B 13, .inl (tc.1, 24, .inl (τ 22))),
  (B 14, .inl (tc.1, 4, .inl (τ 24))),
  (B 15, .inl (tc.1, 4, .inl (τ 25))),
  (B 16, .inl (tc.2.1, 4, .inl (τ 26))),
  (B 17, .inl (tc.1, 6, .inl (τ 27))),
  (B 18, .inl (tc.2.1, 6, .inl (τ 28))),
  (B 19, .inl (tc.1, 6, .inl (τ 29))),
  (B 20, .inl (tc.1, 6, .inl (τ 30))),
  (B 21, .inl (tc.1, 8, .inl (τ 34))),
  (B 22, .inl (tc.1, 8, .inl (τ 35))),
  (B 23, .inl (tc.1, 8, .inl (τ 36)))]
section WORLD
variable {A B : Nat → Nat} {tc : Tc} {σ : St} {τ : Sm} {o j : Nat}
theorem cW_main : (cW A tc σ)[0]? = some (A 0, .inr (5, [.ref (A 1), .ref (A 10), .ref (A 18), .ref (A 26), .ref (A 28), .ref (A 30), .int (σ 0 6 0), .int (σ 0 7 0)])) := rfl
theorem cW_mainp6 (v : Int32) : (cW A tc σ).set (0) (A 0, .inr (5, [.ref (A 1), .ref (A 10), .ref (A 18), .ref (A 26), .ref (A 28), .ref (A 30), .int (σ 0 6 0), .int (σ 0 7 0)].set 6 (.int v))) = cW A tc (up σ 0 6 0 v) := rfl
theorem cW_mainp7 (v : Int32) : (cW A tc σ).set (0) (A 0, .inr (5, [.ref (A 1), .ref (A 10), .ref (A 18), .ref (A 26), .ref (A 28), .ref (A 30), .int (σ 0 6 0), .int (σ 0 7 0)].set 7 (.int v))) = cW A tc (up σ 0 7 0 v) := rfl
theorem cW_sheets : (cW A tc σ)[1]? = some (A 1, .inl (tc.2.2, 4, .inr (.inr (.inr (.inr (fun k => some (A (2 + 2 * k)))))))) := rfl
theorem cW_sh (hj : j < 4) : (cW A tc σ)[sb j]? = some (A (sb j), .inr (3, [.ref (A (sb j + 1)), .int (σ (1 + j) 1 0), .int (σ (1 + j) 2 0)])) := by
  rcases (show j = 0 ∨ j = 1 ∨ j = 2 ∨ j = 3 by omega) with rfl | rfl | rfl | rfl <;> rfl
theorem cW_shp1 (hj : j < 4) (v : Int32) : (cW A tc σ).set (sb j) (A (sb j), .inr (3, [.ref (A (sb j + 1)), .int (σ (1 + j) 1 0), .int (σ (1 + j) 2 0)].set 1 (.int v))) = cW A tc (up σ (1 + j) 1 0 v) := by
  rcases (show j = 0 ∨ j = 1 ∨ j = 2 ∨ j = 3 by omega) with rfl | rfl | rfl | rfl <;> rfl
theorem cW_shp2 (hj : j < 4) (v : Int32) : (cW A tc σ).set (sb j) (A (sb j), .inr (3, [.ref (A (sb j + 1)), .int (σ (1 + j) 1 0), .int (σ (1 + j) 2 0)].set 2 (.int v))) = cW A tc (up σ (1 + j) 2 0 v) := by
  rcases (show j = 0 ∨ j = 1 ∨ j = 2 ∨ j = 3 by omega) with rfl | rfl | rfl | rfl <;> rfl
theorem cW_sha (hj : j < 4) : (cW A tc σ)[sb j + 1]? = some (A (sb j + 1), .inl (tc.1, 60, .inl (σ (1 + j) 0))) := by
  rcases (show j = 0 ∨ j = 1 ∨ j = 2 ∨ j = 3 by omega) with rfl | rfl | rfl | rfl <;> rfl
theorem cW_shas (hj : j < 4) (i : Nat) (v : Int32) : (cW A tc σ).set (sb j + 1) (A (sb j + 1), .inl (tc.1, 60, .inl (upd (σ (1 + j) 0) i v))) = cW A tc (up σ (1 + j) 0 i v) := by
  rcases (show j = 0 ∨ j = 1 ∨ j = 2 ∨ j = 3 by omega) with rfl | rfl | rfl | rfl <;> rfl
theorem cW_mkt (ho : o = 5 ∨ o = 6) : (cW A tc σ)[mb o]? = some (A (mb o), .inr (1, [.ref (A (mb o + 1)), .ref (A (mb o + 2)), .ref (A (mb o + 3)), .ref (A (mb o + 4)), .ref (A (mb o + 5)), .ref (A (mb o + 6)), .ref (A (mb o + 7)), .int (σ o 7 0), .int (σ o 8 0), .int (σ o 9 0), .int (σ o 10 0), .int (σ o 11 0)])) := by rcases ho with rfl | rfl <;> rfl
theorem cW_mktp7 (ho : o = 5 ∨ o = 6) (v : Int32) : (cW A tc σ).set (mb o) (A (mb o), .inr (1, [.ref (A (mb o + 1)), .ref (A (mb o + 2)), .ref (A (mb o + 3)), .ref (A (mb o + 4)), .ref (A (mb o + 5)), .ref (A (mb o + 6)), .ref (A (mb o + 7)), .int (σ o 7 0), .int (σ o 8 0), .int (σ o 9 0), .int (σ o 10 0), .int (σ o 11 0)].set 7 (.int v))) = cW A tc (up σ o 7 0 v) := by rcases ho with rfl | rfl <;> rfl
theorem cW_mktp8 (ho : o = 5 ∨ o = 6) (v : Int32) : (cW A tc σ).set (mb o) (A (mb o), .inr (1, [.ref (A (mb o + 1)), .ref (A (mb o + 2)), .ref (A (mb o + 3)), .ref (A (mb o + 4)), .ref (A (mb o + 5)), .ref (A (mb o + 6)), .ref (A (mb o + 7)), .int (σ o 7 0), .int (σ o 8 0), .int (σ o 9 0), .int (σ o 10 0), .int (σ o 11 0)].set 8 (.int v))) = cW A tc (up σ o 8 0 v) := by rcases ho with rfl | rfl <;> rfl
theorem cW_mktp9 (ho : o = 5 ∨ o = 6) (v : Int32) : (cW A tc σ).set (mb o) (A (mb o), .inr (1, [.ref (A (mb o + 1)), .ref (A (mb o + 2)), .ref (A (mb o + 3)), .ref (A (mb o + 4)), .ref (A (mb o + 5)), .ref (A (mb o + 6)), .ref (A (mb o + 7)), .int (σ o 7 0), .int (σ o 8 0), .int (σ o 9 0), .int (σ o 10 0), .int (σ o 11 0)].set 9 (.int v))) = cW A tc (up σ o 9 0 v) := by rcases ho with rfl | rfl <;> rfl
theorem cW_mktp10 (ho : o = 5 ∨ o = 6) (v : Int32) : (cW A tc σ).set (mb o) (A (mb o), .inr (1, [.ref (A (mb o + 1)), .ref (A (mb o + 2)), .ref (A (mb o + 3)), .ref (A (mb o + 4)), .ref (A (mb o + 5)), .ref (A (mb o + 6)), .ref (A (mb o + 7)), .int (σ o 7 0), .int (σ o 8 0), .int (σ o 9 0), .int (σ o 10 0), .int (σ o 11 0)].set 10 (.int v))) = cW A tc (up σ o 10 0 v) := by rcases ho with rfl | rfl <;> rfl
theorem cW_mktp11 (ho : o = 5 ∨ o = 6) (v : Int32) : (cW A tc σ).set (mb o) (A (mb o), .inr (1, [.ref (A (mb o + 1)), .ref (A (mb o + 2)), .ref (A (mb o + 3)), .ref (A (mb o + 4)), .ref (A (mb o + 5)), .ref (A (mb o + 6)), .ref (A (mb o + 7)), .int (σ o 7 0), .int (σ o 8 0), .int (σ o 9 0), .int (σ o 10 0), .int (σ o 11 0)].set 11 (.int v))) = cW A tc (up σ o 11 0 v) := by rcases ho with rfl | rfl <;> rfl
theorem cW_ma0 (ho : o = 5 ∨ o = 6) : (cW A tc σ)[mb o + 1]? = some (A (mb o + 1), .inl (tc.1, 4, .inl (σ o 0))) := by rcases ho with rfl | rfl <;> rfl
theorem cW_ma0s (ho : o = 5 ∨ o = 6) (i : Nat) (v : Int32) : (cW A tc σ).set (mb o + 1) (A (mb o + 1), .inl (tc.1, 4, .inl (upd (σ o 0) i v))) = cW A tc (up σ o 0 i v) := by rcases ho with rfl | rfl <;> rfl
theorem cW_ma1 (ho : o = 5 ∨ o = 6) : (cW A tc σ)[mb o + 2]? = some (A (mb o + 2), .inl (tc.1, 4, .inl (σ o 1))) := by rcases ho with rfl | rfl <;> rfl
theorem cW_ma1s (ho : o = 5 ∨ o = 6) (i : Nat) (v : Int32) : (cW A tc σ).set (mb o + 2) (A (mb o + 2), .inl (tc.1, 4, .inl (upd (σ o 1) i v))) = cW A tc (up σ o 1 i v) := by rcases ho with rfl | rfl <;> rfl
theorem cW_ma2 (ho : o = 5 ∨ o = 6) : (cW A tc σ)[mb o + 3]? = some (A (mb o + 3), .inl (tc.1, 4, .inl (σ o 2))) := by rcases ho with rfl | rfl <;> rfl
theorem cW_ma2s (ho : o = 5 ∨ o = 6) (i : Nat) (v : Int32) : (cW A tc σ).set (mb o + 3) (A (mb o + 3), .inl (tc.1, 4, .inl (upd (σ o 2) i v))) = cW A tc (up σ o 2 i v) := by rcases ho with rfl | rfl <;> rfl
theorem cW_ma3 (ho : o = 5 ∨ o = 6) : (cW A tc σ)[mb o + 4]? = some (A (mb o + 4), .inl (tc.1, 6, .inl (σ o 3))) := by rcases ho with rfl | rfl <;> rfl
theorem cW_ma3s (ho : o = 5 ∨ o = 6) (i : Nat) (v : Int32) : (cW A tc σ).set (mb o + 4) (A (mb o + 4), .inl (tc.1, 6, .inl (upd (σ o 3) i v))) = cW A tc (up σ o 3 i v) := by rcases ho with rfl | rfl <;> rfl
theorem cW_ma4 (ho : o = 5 ∨ o = 6) : (cW A tc σ)[mb o + 5]? = some (A (mb o + 5), .inl (tc.1, 6, .inl (σ o 4))) := by rcases ho with rfl | rfl <;> rfl
theorem cW_ma4s (ho : o = 5 ∨ o = 6) (i : Nat) (v : Int32) : (cW A tc σ).set (mb o + 5) (A (mb o + 5), .inl (tc.1, 6, .inl (upd (σ o 4) i v))) = cW A tc (up σ o 4 i v) := by rcases ho with rfl | rfl <;> rfl
theorem cW_ma5 (ho : o = 5 ∨ o = 6) : (cW A tc σ)[mb o + 6]? = some (A (mb o + 6), .inl (tc.1, 6, .inl (σ o 5))) := by rcases ho with rfl | rfl <;> rfl
theorem cW_ma5s (ho : o = 5 ∨ o = 6) (i : Nat) (v : Int32) : (cW A tc σ).set (mb o + 6) (A (mb o + 6), .inl (tc.1, 6, .inl (upd (σ o 5) i v))) = cW A tc (up σ o 5 i v) := by rcases ho with rfl | rfl <;> rfl
theorem cW_ma6 (ho : o = 5 ∨ o = 6) : (cW A tc σ)[mb o + 7]? = some (A (mb o + 7), .inl (tc.1, 6, .inl (σ o 6))) := by rcases ho with rfl | rfl <;> rfl
theorem cW_ma6s (ho : o = 5 ∨ o = 6) (i : Nat) (v : Int32) : (cW A tc σ).set (mb o + 7) (A (mb o + 7), .inl (tc.1, 6, .inl (upd (σ o 6) i v))) = cW A tc (up σ o 6 i v) := by rcases ho with rfl | rfl <;> rfl
theorem cW_rd : (cW A tc σ)[26]? = some (A 26, .inr (4, [.ref (A 27), .int (σ 7 1 0), .int (σ 7 2 0), .int (σ 7 3 0)])) := rfl
theorem cW_rdp1 (v : Int32) : (cW A tc σ).set (26) (A 26, .inr (4, [.ref (A 27), .int (σ 7 1 0), .int (σ 7 2 0), .int (σ 7 3 0)].set 1 (.int v))) = cW A tc (up σ 7 1 0 v) := rfl
theorem cW_rdp2 (v : Int32) : (cW A tc σ).set (26) (A 26, .inr (4, [.ref (A 27), .int (σ 7 1 0), .int (σ 7 2 0), .int (σ 7 3 0)].set 2 (.int v))) = cW A tc (up σ 7 2 0 v) := rfl
theorem cW_rdp3 (v : Int32) : (cW A tc σ).set (26) (A 26, .inr (4, [.ref (A 27), .int (σ 7 1 0), .int (σ 7 2 0), .int (σ 7 3 0)].set 3 (.int v))) = cW A tc (up σ 7 3 0 v) := rfl
theorem cW_rda : (cW A tc σ)[27]? = some (A 27, .inl (tc.1, 60, .inl (σ 7 0))) := rfl
theorem cW_rdas (i : Nat) (v : Int32) : (cW A tc σ).set (27) (A 27, .inl (tc.1, 60, .inl (upd (σ 7 0) i v))) = cW A tc (up σ 7 0 i v) := rfl
theorem cW_ke : (cW A tc σ)[28]? = some (A 28, .inr (0, [.ref (A 29), .int (σ 8 1 0), .int (σ 8 2 0)])) := rfl
theorem cW_kep1 (v : Int32) : (cW A tc σ).set (28) (A 28, .inr (0, [.ref (A 29), .int (σ 8 1 0), .int (σ 8 2 0)].set 1 (.int v))) = cW A tc (up σ 8 1 0 v) := rfl
theorem cW_kep2 (v : Int32) : (cW A tc σ).set (28) (A 28, .inr (0, [.ref (A 29), .int (σ 8 1 0), .int (σ 8 2 0)].set 2 (.int v))) = cW A tc (up σ 8 2 0 v) := rfl
theorem cW_kea : (cW A tc σ)[29]? = some (A 29, .inl (tc.1, 192, .inl (σ 8 0))) := rfl
theorem cW_keas (i : Nat) (v : Int32) : (cW A tc σ).set (29) (A 29, .inl (tc.1, 192, .inl (upd (σ 8 0) i v))) = cW A tc (up σ 8 0 i v) := rfl
theorem cW_re : (cW A tc σ)[30]? = some (A 30, .inr (2, [.ref (A 31), .ref (A 32), .ref (A 33), .int (σ 9 3 0)])) := rfl
theorem cW_rep3 (v : Int32) : (cW A tc σ).set (30) (A 30, .inr (2, [.ref (A 31), .ref (A 32), .ref (A 33), .int (σ 9 3 0)].set 3 (.int v))) = cW A tc (up σ 9 3 0 v) := rfl
theorem cW_rea0 : (cW A tc σ)[31]? = some (A 31, .inl (tc.1, 8, .inl (σ 9 0))) := rfl
theorem cW_rea0s (i : Nat) (v : Int32) : (cW A tc σ).set (31) (A 31, .inl (tc.1, 8, .inl (upd (σ 9 0) i v))) = cW A tc (up σ 9 0 i v) := rfl
theorem cW_rea1 : (cW A tc σ)[32]? = some (A 32, .inl (tc.1, 8, .inl (σ 9 1))) := rfl
theorem cW_rea1s (i : Nat) (v : Int32) : (cW A tc σ).set (32) (A 32, .inl (tc.1, 8, .inl (upd (σ 9 1) i v))) = cW A tc (up σ 9 1 i v) := rfl
theorem cW_rea2 : (cW A tc σ)[33]? = some (A 33, .inl (tc.1, 8, .inl (σ 9 2))) := rfl
theorem cW_rea2s (i : Nat) (v : Int32) : (cW A tc σ).set (33) (A 33, .inl (tc.1, 8, .inl (upd (σ 9 2) i v))) = cW A tc (up σ 9 2 i v) := rfl
theorem mW_obj : (mW B tc τ)[0]? = some (B 0, .inr (6, [.int (τ 0 0), .int (τ 1 0), .ref (B 1), .ref (B 2), .ref (B 3), .int (τ 5 0), .int (τ 6 0), .int (τ 7 0), .int (τ 8 0), .ref (B 4), .ref (B 5), .ref (B 6), .ref (B 7), .ref (B 8), .ref (B 9), .ref (B 10), .ref (B 11), .int (τ 17 0), .int (τ 18 0), .int (τ 19 0), .int (τ 20 0), .ref (B 12), .ref (B 13), .int (τ 23 0), .ref (B 14), .ref (B 15), .ref (B 16), .ref (B 17), .ref (B 18), .ref (B 19), .ref (B 20), .int (τ 31 0), .int (τ 32 0), .int (τ 33 0), .ref (B 21), .ref (B 22), .ref (B 23)])) := rfl
theorem mW_p0 (v : Int32) : (mW B tc τ).set 0 (B 0, .inr (6, [.int (τ 0 0), .int (τ 1 0), .ref (B 1), .ref (B 2), .ref (B 3), .int (τ 5 0), .int (τ 6 0), .int (τ 7 0), .int (τ 8 0), .ref (B 4), .ref (B 5), .ref (B 6), .ref (B 7), .ref (B 8), .ref (B 9), .ref (B 10), .ref (B 11), .int (τ 17 0), .int (τ 18 0), .int (τ 19 0), .int (τ 20 0), .ref (B 12), .ref (B 13), .int (τ 23 0), .ref (B 14), .ref (B 15), .ref (B 16), .ref (B 17), .ref (B 18), .ref (B 19), .ref (B 20), .int (τ 31 0), .int (τ 32 0), .int (τ 33 0), .ref (B 21), .ref (B 22), .ref (B 23)].set 0 (.int v))) = mW B tc (um τ 0 0 v) := rfl
theorem mW_p1 (v : Int32) : (mW B tc τ).set 0 (B 0, .inr (6, [.int (τ 0 0), .int (τ 1 0), .ref (B 1), .ref (B 2), .ref (B 3), .int (τ 5 0), .int (τ 6 0), .int (τ 7 0), .int (τ 8 0), .ref (B 4), .ref (B 5), .ref (B 6), .ref (B 7), .ref (B 8), .ref (B 9), .ref (B 10), .ref (B 11), .int (τ 17 0), .int (τ 18 0), .int (τ 19 0), .int (τ 20 0), .ref (B 12), .ref (B 13), .int (τ 23 0), .ref (B 14), .ref (B 15), .ref (B 16), .ref (B 17), .ref (B 18), .ref (B 19), .ref (B 20), .int (τ 31 0), .int (τ 32 0), .int (τ 33 0), .ref (B 21), .ref (B 22), .ref (B 23)].set 1 (.int v))) = mW B tc (um τ 1 0 v) := rfl
theorem mW_a2 : (mW B tc τ)[1]? = some (B 1, .inl (tc.1, 4, .inl (τ 2))) := rfl
theorem mW_a2s (i : Nat) (v : Int32) : (mW B tc τ).set 1 (B 1, .inl (tc.1, 4, .inl (upd (τ 2) i v))) = mW B tc (um τ 2 i v) := rfl
theorem mW_a3 : (mW B tc τ)[2]? = some (B 2, .inl (tc.1, 4, .inl (τ 3))) := rfl
theorem mW_a3s (i : Nat) (v : Int32) : (mW B tc τ).set 2 (B 2, .inl (tc.1, 4, .inl (upd (τ 3) i v))) = mW B tc (um τ 3 i v) := rfl
theorem mW_a4 : (mW B tc τ)[3]? = some (B 3, .inl (tc.1, 240, .inl (τ 4))) := rfl
theorem mW_a4s (i : Nat) (v : Int32) : (mW B tc τ).set 3 (B 3, .inl (tc.1, 240, .inl (upd (τ 4) i v))) = mW B tc (um τ 4 i v) := rfl
theorem mW_p5 (v : Int32) : (mW B tc τ).set 0 (B 0, .inr (6, [.int (τ 0 0), .int (τ 1 0), .ref (B 1), .ref (B 2), .ref (B 3), .int (τ 5 0), .int (τ 6 0), .int (τ 7 0), .int (τ 8 0), .ref (B 4), .ref (B 5), .ref (B 6), .ref (B 7), .ref (B 8), .ref (B 9), .ref (B 10), .ref (B 11), .int (τ 17 0), .int (τ 18 0), .int (τ 19 0), .int (τ 20 0), .ref (B 12), .ref (B 13), .int (τ 23 0), .ref (B 14), .ref (B 15), .ref (B 16), .ref (B 17), .ref (B 18), .ref (B 19), .ref (B 20), .int (τ 31 0), .int (τ 32 0), .int (τ 33 0), .ref (B 21), .ref (B 22), .ref (B 23)].set 5 (.int v))) = mW B tc (um τ 5 0 v) := rfl
theorem mW_p6 (v : Int32) : (mW B tc τ).set 0 (B 0, .inr (6, [.int (τ 0 0), .int (τ 1 0), .ref (B 1), .ref (B 2), .ref (B 3), .int (τ 5 0), .int (τ 6 0), .int (τ 7 0), .int (τ 8 0), .ref (B 4), .ref (B 5), .ref (B 6), .ref (B 7), .ref (B 8), .ref (B 9), .ref (B 10), .ref (B 11), .int (τ 17 0), .int (τ 18 0), .int (τ 19 0), .int (τ 20 0), .ref (B 12), .ref (B 13), .int (τ 23 0), .ref (B 14), .ref (B 15), .ref (B 16), .ref (B 17), .ref (B 18), .ref (B 19), .ref (B 20), .int (τ 31 0), .int (τ 32 0), .int (τ 33 0), .ref (B 21), .ref (B 22), .ref (B 23)].set 6 (.int v))) = mW B tc (um τ 6 0 v) := rfl
theorem mW_p7 (v : Int32) : (mW B tc τ).set 0 (B 0, .inr (6, [.int (τ 0 0), .int (τ 1 0), .ref (B 1), .ref (B 2), .ref (B 3), .int (τ 5 0), .int (τ 6 0), .int (τ 7 0), .int (τ 8 0), .ref (B 4), .ref (B 5), .ref (B 6), .ref (B 7), .ref (B 8), .ref (B 9), .ref (B 10), .ref (B 11), .int (τ 17 0), .int (τ 18 0), .int (τ 19 0), .int (τ 20 0), .ref (B 12), .ref (B 13), .int (τ 23 0), .ref (B 14), .ref (B 15), .ref (B 16), .ref (B 17), .ref (B 18), .ref (B 19), .ref (B 20), .int (τ 31 0), .int (τ 32 0), .int (τ 33 0), .ref (B 21), .ref (B 22), .ref (B 23)].set 7 (.int v))) = mW B tc (um τ 7 0 v) := rfl
theorem mW_p8 (v : Int32) : (mW B tc τ).set 0 (B 0, .inr (6, [.int (τ 0 0), .int (τ 1 0), .ref (B 1), .ref (B 2), .ref (B 3), .int (τ 5 0), .int (τ 6 0), .int (τ 7 0), .int (τ 8 0), .ref (B 4), .ref (B 5), .ref (B 6), .ref (B 7), .ref (B 8), .ref (B 9), .ref (B 10), .ref (B 11), .int (τ 17 0), .int (τ 18 0), .int (τ 19 0), .int (τ 20 0), .ref (B 12), .ref (B 13), .int (τ 23 0), .ref (B 14), .ref (B 15), .ref (B 16), .ref (B 17), .ref (B 18), .ref (B 19), .ref (B 20), .int (τ 31 0), .int (τ 32 0), .int (τ 33 0), .ref (B 21), .ref (B 22), .ref (B 23)].set 8 (.int v))) = mW B tc (um τ 8 0 v) := rfl
theorem mW_a9 : (mW B tc τ)[4]? = some (B 4, .inl (tc.1, 4, .inl (τ 9))) := rfl
theorem mW_a9s (i : Nat) (v : Int32) : (mW B tc τ).set 4 (B 4, .inl (tc.1, 4, .inl (upd (τ 9) i v))) = mW B tc (um τ 9 i v) := rfl
theorem mW_a10 : (mW B tc τ)[5]? = some (B 5, .inl (tc.1, 4, .inl (τ 10))) := rfl
theorem mW_a10s (i : Nat) (v : Int32) : (mW B tc τ).set 5 (B 5, .inl (tc.1, 4, .inl (upd (τ 10) i v))) = mW B tc (um τ 10 i v) := rfl
theorem mW_a11 : (mW B tc τ)[6]? = some (B 6, .inl (tc.2.1, 4, .inl (τ 11))) := rfl
theorem mW_a11s (i : Nat) (v : Int32) : (mW B tc τ).set 6 (B 6, .inl (tc.2.1, 4, .inl (upd (τ 11) i v))) = mW B tc (um τ 11 i v) := rfl
theorem mW_a12 : (mW B tc τ)[7]? = some (B 7, .inl (tc.1, 6, .inl (τ 12))) := rfl
theorem mW_a12s (i : Nat) (v : Int32) : (mW B tc τ).set 7 (B 7, .inl (tc.1, 6, .inl (upd (τ 12) i v))) = mW B tc (um τ 12 i v) := rfl
theorem mW_a13 : (mW B tc τ)[8]? = some (B 8, .inl (tc.1, 6, .inl (τ 13))) := rfl
theorem mW_a13s (i : Nat) (v : Int32) : (mW B tc τ).set 8 (B 8, .inl (tc.1, 6, .inl (upd (τ 13) i v))) = mW B tc (um τ 13 i v) := rfl
theorem mW_a14 : (mW B tc τ)[9]? = some (B 9, .inl (tc.1, 6, .inl (τ 14))) := rfl
theorem mW_a14s (i : Nat) (v : Int32) : (mW B tc τ).set 9 (B 9, .inl (tc.1, 6, .inl (upd (τ 14) i v))) = mW B tc (um τ 14 i v) := rfl
theorem mW_a15 : (mW B tc τ)[10]? = some (B 10, .inl (tc.1, 6, .inl (τ 15))) := rfl
theorem mW_a15s (i : Nat) (v : Int32) : (mW B tc τ).set 10 (B 10, .inl (tc.1, 6, .inl (upd (τ 15) i v))) = mW B tc (um τ 15 i v) := rfl
theorem mW_a16 : (mW B tc τ)[11]? = some (B 11, .inl (tc.2.1, 6, .inl (τ 16))) := rfl
theorem mW_a16s (i : Nat) (v : Int32) : (mW B tc τ).set 11 (B 11, .inl (tc.2.1, 6, .inl (upd (τ 16) i v))) = mW B tc (um τ 16 i v) := rfl
theorem mW_p17 (v : Int32) : (mW B tc τ).set 0 (B 0, .inr (6, [.int (τ 0 0), .int (τ 1 0), .ref (B 1), .ref (B 2), .ref (B 3), .int (τ 5 0), .int (τ 6 0), .int (τ 7 0), .int (τ 8 0), .ref (B 4), .ref (B 5), .ref (B 6), .ref (B 7), .ref (B 8), .ref (B 9), .ref (B 10), .ref (B 11), .int (τ 17 0), .int (τ 18 0), .int (τ 19 0), .int (τ 20 0), .ref (B 12), .ref (B 13), .int (τ 23 0), .ref (B 14), .ref (B 15), .ref (B 16), .ref (B 17), .ref (B 18), .ref (B 19), .ref (B 20), .int (τ 31 0), .int (τ 32 0), .int (τ 33 0), .ref (B 21), .ref (B 22), .ref (B 23)].set 17 (.int v))) = mW B tc (um τ 17 0 v) := rfl
theorem mW_p18 (v : Int32) : (mW B tc τ).set 0 (B 0, .inr (6, [.int (τ 0 0), .int (τ 1 0), .ref (B 1), .ref (B 2), .ref (B 3), .int (τ 5 0), .int (τ 6 0), .int (τ 7 0), .int (τ 8 0), .ref (B 4), .ref (B 5), .ref (B 6), .ref (B 7), .ref (B 8), .ref (B 9), .ref (B 10), .ref (B 11), .int (τ 17 0), .int (τ 18 0), .int (τ 19 0), .int (τ 20 0), .ref (B 12), .ref (B 13), .int (τ 23 0), .ref (B 14), .ref (B 15), .ref (B 16), .ref (B 17), .ref (B 18), .ref (B 19), .ref (B 20), .int (τ 31 0), .int (τ 32 0), .int (τ 33 0), .ref (B 21), .ref (B 22), .ref (B 23)].set 18 (.int v))) = mW B tc (um τ 18 0 v) := rfl
theorem mW_p19 (v : Int32) : (mW B tc τ).set 0 (B 0, .inr (6, [.int (τ 0 0), .int (τ 1 0), .ref (B 1), .ref (B 2), .ref (B 3), .int (τ 5 0), .int (τ 6 0), .int (τ 7 0), .int (τ 8 0), .ref (B 4), .ref (B 5), .ref (B 6), .ref (B 7), .ref (B 8), .ref (B 9), .ref (B 10), .ref (B 11), .int (τ 17 0), .int (τ 18 0), .int (τ 19 0), .int (τ 20 0), .ref (B 12), .ref (B 13), .int (τ 23 0), .ref (B 14), .ref (B 15), .ref (B 16), .ref (B 17), .ref (B 18), .ref (B 19), .ref (B 20), .int (τ 31 0), .int (τ 32 0), .int (τ 33 0), .ref (B 21), .ref (B 22), .ref (B 23)].set 19 (.int v))) = mW B tc (um τ 19 0 v) := rfl
theorem mW_p20 (v : Int32) : (mW B tc τ).set 0 (B 0, .inr (6, [.int (τ 0 0), .int (τ 1 0), .ref (B 1), .ref (B 2), .ref (B 3), .int (τ 5 0), .int (τ 6 0), .int (τ 7 0), .int (τ 8 0), .ref (B 4), .ref (B 5), .ref (B 6), .ref (B 7), .ref (B 8), .ref (B 9), .ref (B 10), .ref (B 11), .int (τ 17 0), .int (τ 18 0), .int (τ 19 0), .int (τ 20 0), .ref (B 12), .ref (B 13), .int (τ 23 0), .ref (B 14), .ref (B 15), .ref (B 16), .ref (B 17), .ref (B 18), .ref (B 19), .ref (B 20), .int (τ 31 0), .int (τ 32 0), .int (τ 33 0), .ref (B 21), .ref (B 22), .ref (B 23)].set 20 (.int v))) = mW B tc (um τ 20 0 v) := rfl
theorem mW_a21 : (mW B tc τ)[12]? = some (B 12, .inl (tc.1, 4, .inl (τ 21))) := rfl
theorem mW_a21s (i : Nat) (v : Int32) : (mW B tc τ).set 12 (B 12, .inl (tc.1, 4, .inl (upd (τ 21) i v))) = mW B tc (um τ 21 i v) := rfl
theorem mW_a22 : (mW B tc τ)[13]? = some (B 13, .inl (tc.1, 24, .inl (τ 22))) := rfl
theorem mW_a22s (i : Nat) (v : Int32) : (mW B tc τ).set 13 (B 13, .inl (tc.1, 24, .inl (upd (τ 22) i v))) = mW B tc (um τ 22 i v) := rfl
theorem mW_p23 (v : Int32) : (mW B tc τ).set 0 (B 0, .inr (6, [.int (τ 0 0), .int (τ 1 0), .ref (B 1), .ref (B 2), .ref (B 3), .int (τ 5 0), .int (τ 6 0), .int (τ 7 0), .int (τ 8 0), .ref (B 4), .ref (B 5), .ref (B 6), .ref (B 7), .ref (B 8), .ref (B 9), .ref (B 10), .ref (B 11), .int (τ 17 0), .int (τ 18 0), .int (τ 19 0), .int (τ 20 0), .ref (B 12), .ref (B 13), .int (τ 23 0), .ref (B 14), .ref (B 15), .ref (B 16), .ref (B 17), .ref (B 18), .ref (B 19), .ref (B 20), .int (τ 31 0), .int (τ 32 0), .int (τ 33 0), .ref (B 21), .ref (B 22), .ref (B 23)].set 23 (.int v))) = mW B tc (um τ 23 0 v) := rfl
theorem mW_a24 : (mW B tc τ)[14]? = some (B 14, .inl (tc.1, 4, .inl (τ 24))) := rfl
theorem mW_a24s (i : Nat) (v : Int32) : (mW B tc τ).set 14 (B 14, .inl (tc.1, 4, .inl (upd (τ 24) i v))) = mW B tc (um τ 24 i v) := rfl
theorem mW_a25 : (mW B tc τ)[15]? = some (B 15, .inl (tc.1, 4, .inl (τ 25))) := rfl
theorem mW_a25s (i : Nat) (v : Int32) : (mW B tc τ).set 15 (B 15, .inl (tc.1, 4, .inl (upd (τ 25) i v))) = mW B tc (um τ 25 i v) := rfl
theorem mW_a26 : (mW B tc τ)[16]? = some (B 16, .inl (tc.2.1, 4, .inl (τ 26))) := rfl
theorem mW_a26s (i : Nat) (v : Int32) : (mW B tc τ).set 16 (B 16, .inl (tc.2.1, 4, .inl (upd (τ 26) i v))) = mW B tc (um τ 26 i v) := rfl
theorem mW_a27 : (mW B tc τ)[17]? = some (B 17, .inl (tc.1, 6, .inl (τ 27))) := rfl
theorem mW_a27s (i : Nat) (v : Int32) : (mW B tc τ).set 17 (B 17, .inl (tc.1, 6, .inl (upd (τ 27) i v))) = mW B tc (um τ 27 i v) := rfl
theorem mW_a28 : (mW B tc τ)[18]? = some (B 18, .inl (tc.2.1, 6, .inl (τ 28))) := rfl
theorem mW_a28s (i : Nat) (v : Int32) : (mW B tc τ).set 18 (B 18, .inl (tc.2.1, 6, .inl (upd (τ 28) i v))) = mW B tc (um τ 28 i v) := rfl
theorem mW_a29 : (mW B tc τ)[19]? = some (B 19, .inl (tc.1, 6, .inl (τ 29))) := rfl
theorem mW_a29s (i : Nat) (v : Int32) : (mW B tc τ).set 19 (B 19, .inl (tc.1, 6, .inl (upd (τ 29) i v))) = mW B tc (um τ 29 i v) := rfl
theorem mW_a30 : (mW B tc τ)[20]? = some (B 20, .inl (tc.1, 6, .inl (τ 30))) := rfl
theorem mW_a30s (i : Nat) (v : Int32) : (mW B tc τ).set 20 (B 20, .inl (tc.1, 6, .inl (upd (τ 30) i v))) = mW B tc (um τ 30 i v) := rfl
theorem mW_p31 (v : Int32) : (mW B tc τ).set 0 (B 0, .inr (6, [.int (τ 0 0), .int (τ 1 0), .ref (B 1), .ref (B 2), .ref (B 3), .int (τ 5 0), .int (τ 6 0), .int (τ 7 0), .int (τ 8 0), .ref (B 4), .ref (B 5), .ref (B 6), .ref (B 7), .ref (B 8), .ref (B 9), .ref (B 10), .ref (B 11), .int (τ 17 0), .int (τ 18 0), .int (τ 19 0), .int (τ 20 0), .ref (B 12), .ref (B 13), .int (τ 23 0), .ref (B 14), .ref (B 15), .ref (B 16), .ref (B 17), .ref (B 18), .ref (B 19), .ref (B 20), .int (τ 31 0), .int (τ 32 0), .int (τ 33 0), .ref (B 21), .ref (B 22), .ref (B 23)].set 31 (.int v))) = mW B tc (um τ 31 0 v) := rfl
theorem mW_p32 (v : Int32) : (mW B tc τ).set 0 (B 0, .inr (6, [.int (τ 0 0), .int (τ 1 0), .ref (B 1), .ref (B 2), .ref (B 3), .int (τ 5 0), .int (τ 6 0), .int (τ 7 0), .int (τ 8 0), .ref (B 4), .ref (B 5), .ref (B 6), .ref (B 7), .ref (B 8), .ref (B 9), .ref (B 10), .ref (B 11), .int (τ 17 0), .int (τ 18 0), .int (τ 19 0), .int (τ 20 0), .ref (B 12), .ref (B 13), .int (τ 23 0), .ref (B 14), .ref (B 15), .ref (B 16), .ref (B 17), .ref (B 18), .ref (B 19), .ref (B 20), .int (τ 31 0), .int (τ 32 0), .int (τ 33 0), .ref (B 21), .ref (B 22), .ref (B 23)].set 32 (.int v))) = mW B tc (um τ 32 0 v) := rfl
theorem mW_p33 (v : Int32) : (mW B tc τ).set 0 (B 0, .inr (6, [.int (τ 0 0), .int (τ 1 0), .ref (B 1), .ref (B 2), .ref (B 3), .int (τ 5 0), .int (τ 6 0), .int (τ 7 0), .int (τ 8 0), .ref (B 4), .ref (B 5), .ref (B 6), .ref (B 7), .ref (B 8), .ref (B 9), .ref (B 10), .ref (B 11), .int (τ 17 0), .int (τ 18 0), .int (τ 19 0), .int (τ 20 0), .ref (B 12), .ref (B 13), .int (τ 23 0), .ref (B 14), .ref (B 15), .ref (B 16), .ref (B 17), .ref (B 18), .ref (B 19), .ref (B 20), .int (τ 31 0), .int (τ 32 0), .int (τ 33 0), .ref (B 21), .ref (B 22), .ref (B 23)].set 33 (.int v))) = mW B tc (um τ 33 0 v) := rfl
theorem mW_a34 : (mW B tc τ)[21]? = some (B 21, .inl (tc.1, 8, .inl (τ 34))) := rfl
theorem mW_a34s (i : Nat) (v : Int32) : (mW B tc τ).set 21 (B 21, .inl (tc.1, 8, .inl (upd (τ 34) i v))) = mW B tc (um τ 34 i v) := rfl
theorem mW_a35 : (mW B tc τ)[22]? = some (B 22, .inl (tc.1, 8, .inl (τ 35))) := rfl
theorem mW_a35s (i : Nat) (v : Int32) : (mW B tc τ).set 22 (B 22, .inl (tc.1, 8, .inl (upd (τ 35) i v))) = mW B tc (um τ 35 i v) := rfl
theorem mW_a36 : (mW B tc τ)[23]? = some (B 23, .inl (tc.1, 8, .inl (τ 36))) := rfl
theorem mW_a36s (i : Nat) (v : Int32) : (mW B tc τ).set 23 (B 23, .inl (tc.1, 8, .inl (upd (τ 36) i v))) = mW B tc (um τ 36 i v) := rfl
end WORLD
end
section
/-! more rows: calls by what they answer, arrays at a known place, small helps -/
def b2i (P : Prop) [Decidable P] : Int32 := if P then 1 else 0
theorem b2i_t {P : Prop} [Decidable P] (h : P) : b2i P = 1 := if_pos h
theorem b2i_f {P : Prop} [Decidable P] (h : ¬ P) : b2i P = 0 := if_neg h
theorem b2i_ne {P : Prop} [Decidable P] : ¬ b2i P = 0 ↔ P := by unfold b2i; by_cases h : P <;> simp [h]
theorem b2i_eq {P : Prop} [Decidable P] : b2i P = 0 ↔ ¬ P := by unfold b2i; by_cases h : P <;> simp [h]
theorem b2i_01 {P : Prop} [Decidable P] : b2i P = 0 ∨ b2i P = 1 := by unfold b2i; by_cases h : P <;> simp [h]
theorem b2i_congr {P Q : Prop} [Decidable P] [Decidable Q] (h : P ↔ Q) : b2i P = b2i Q := by unfold b2i; by_cases hq : Q <;> simp [h, hq]
theorem now5 : (5 : Nat) = 5 ∨ (5 : Nat) = 6 := Or.inl rfl
theorem dra6 : (6 : Nat) = 5 ∨ (6 : Nat) = 6 := Or.inr rfl
theorem dep {X : Cx} {D : va_G} {ret : Option FieldType} {d d' mx : Nat} {r : Option Value} {ws' : va_W} (hX : Aim X D ret d r ws') (h : d' + 1 ≤ d ∧ mx ≤ 16) : d' + 1 ≤ X.2.2.2.1 ∧ mx ≤ 16 := by rw [hX.2.2]; exact h
theorem dep1 {X : Cx} {D : va_G} {ret : Option FieldType} {d : Nat} {r : Option Value} {ws' : va_W} (hX : Aim X D ret d r ws') (h : 1 ≤ d) : 1 ≤ X.2.2.2.1 := by rw [hX.2.2]; exact h
section VMORE
variable {X : Cx} {D : va_G} {tc : Tc} {cc : ByteArray} {own : String} {nL pc : Nat} {L : List (Option Value)} {st : List Value} {ws : va_W}
theorem V_callV {d' idx maxL ci N b : Nat} {C : String} {T : u_T} {y : MethodName} {cc' : ByteArray} {ret : Option FieldType} {As rest : List Value} {v : Value} {ws' : va_W} {fs : List Value} (hl : LinkV own idx C y cc' maxL ret As.length) (hok : Ok d' y cc' maxL ret D tc (.ref b :: As) ws (some v) ws') (hd : decode cc pc = .ok (.invokevirtual idx, 3)) {q0 : Nat} (he : ws[q0]? = some (b, .inr (ci, fs))) (hc : vwCl[ci]? = some (C, T, N)) (hdep : d' + 1 ≤ X.2.2.2.1 ∧ maxL ≤ 16) (hst : st = As.reverse ++ .ref b :: rest) (hcat : (rest.map fun v => v.category).sum ≤ 8) (k : V X D tc cc own nL (pc + 3) L (v :: rest) ws') : V X D tc cc own nL pc L st ws := V_callVG hl hok hd he hc hdep hst hcat k
theorem V_callVv {d' idx maxL ci N b : Nat} {C : String} {T : u_T} {y : MethodName} {cc' : ByteArray} {ret : Option FieldType} {As rest : List Value} {ws' : va_W} {fs : List Value} (hl : LinkV own idx C y cc' maxL ret As.length) (hok : Ok d' y cc' maxL ret D tc (.ref b :: As) ws none ws') (hd : decode cc pc = .ok (.invokevirtual idx, 3)) {q0 : Nat} (he : ws[q0]? = some (b, .inr (ci, fs))) (hc : vwCl[ci]? = some (C, T, N)) (hdep : d' + 1 ≤ X.2.2.2.1 ∧ maxL ≤ 16) (hst : st = As.reverse ++ .ref b :: rest) (hcat : (rest.map fun v => v.category).sum ≤ 8) (k : V X D tc cc own nL (pc + 3) L rest ws') : V X D tc cc own nL pc L st ws := V_callVG hl hok hd he hc hdep hst hcat k
theorem V_callS {d' idx maxL : Nat} {y : MethodName} {cc' : ByteArray} {ret : Option FieldType} {As rest : List Value} {v : Value} {ws' : va_W} (hl : LinkS own idx y cc' maxL ret As.length) (hok : Ok d' y cc' maxL ret D tc As ws (some v) ws') (hd : decode cc pc = .ok (.invokestatic idx, 3)) (hdep : d' + 1 ≤ X.2.2.2.1 ∧ maxL ≤ 16) (hst : st = As.reverse ++ rest) (hcat : (rest.map fun v => v.category).sum ≤ 8) (k : V X D tc cc own nL (pc + 3) L (v :: rest) ws') : V X D tc cc own nL pc L st ws := V_callSG hl hok hd hdep hst hcat k
theorem V_callSv {d' idx maxL : Nat} {y : MethodName} {cc' : ByteArray} {ret : Option FieldType} {As rest : List Value} {ws' : va_W} (hl : LinkS own idx y cc' maxL ret As.length) (hok : Ok d' y cc' maxL ret D tc As ws none ws') (hd : decode cc pc = .ok (.invokestatic idx, 3)) (hdep : d' + 1 ≤ X.2.2.2.1 ∧ maxL ≤ 16) (hst : st = As.reverse ++ rest) (hcat : (rest.map fun v => v.category).sum ≤ 8) (k : V X D tc cc own nL (pc + 3) L rest ws') : V X D tc cc own nL pc L st ws := V_callSG hl hok hd hdep hst hcat k
theorem V_callN {d' idx maxL : Nat} {y : MethodName} {cc' : ByteArray} {ret : Option FieldType} {As rest : List Value} {v : Value} {ws' : va_W} (hl : LinkN own idx y cc' maxL ret As.length) (hok : Ok d' y cc' maxL ret D tc As ws (some v) ws') (hd : decode cc pc = .ok (.invokestatic idx, 3)) (hdep : d' + 1 ≤ X.2.2.2.1 ∧ maxL ≤ 16) (hst : st = As.reverse ++ rest) (hcat : (rest.map fun v => v.category).sum ≤ 8) (k : V X D tc cc own nL (pc + 3) L (v :: rest) ws') : V X D tc cc own nL pc L st ws := V_callNG hl hok hd hdep hst hcat k
/-- arrays at place k -/
theorem V_ialdk {a n k : Nat} {f : Nat → Int32} (hd : decode cc pc = .ok (.iaload, 1)) {q0 : Nat} (he : ws[q0]? = some (a, .inl (tc.1, n, .inl f))) (hin : k < n ∧ n < 2 ^ 31) (kk : V X D tc cc own nL (pc + 1) L (.int (f k) :: st) ws) : V X D tc cc own nL pc L (.int (nI k) :: .ref a :: st) ws := V_iald hd he (vp_in_nI hin.1 hin.2) (by rw [nI_clamp (Nat.lt_trans hin.1 hin.2)]; exact kk)
theorem V_zaldk {a n k : Nat} {f : Nat → Int32} (hd : decode cc pc = .ok (.baload, 1)) {q0 : Nat} (he : ws[q0]? = some (a, .inl (tc.2.1, n, .inl f))) (hin : k < n ∧ n < 2 ^ 31) (kk : V X D tc cc own nL (pc + 1) L (.int (f k) :: st) ws) : V X D tc cc own nL pc L (.int (nI k) :: .ref a :: st) ws := V_zald hd he (vp_in_nI hin.1 hin.2) (by rw [nI_clamp (Nat.lt_trans hin.1 hin.2)]; exact kk)
theorem V_iastk {a n k : Nat} {f : Nat → Int32} {x : Int32} (hd : decode cc pc = .ok (.iastore, 1)) {q0 : Nat} (he : ws[q0]? = some (a, .inl (tc.1, n, .inl f))) (hin : k < n ∧ n < 2 ^ 31) {ws' : va_W} (hw : ws.set q0 (a, .inl (tc.1, n, .inl (upd f k x))) = ws') (kk : V X D tc cc own nL (pc + 1) L st ws') : V X D tc cc own nL pc L (.int x :: .int (nI k) :: .ref a :: st) ws := V_iast hd he (vp_in_nI hin.1 hin.2) (by rw [nI_clamp (Nat.lt_trans hin.1 hin.2)]; exact hw) kk
theorem V_zastk {a n k : Nat} {f : Nat → Int32} {x : Int32} (hd : decode cc pc = .ok (.bastore, 1)) {q0 : Nat} (he : ws[q0]? = some (a, .inl (tc.2.1, n, .inl f))) (hin : k < n ∧ n < 2 ^ 31) (hx : x = 0 ∨ x = 1) {ws' : va_W} (hw : ws.set q0 (a, .inl (tc.2.1, n, .inl (upd f k x))) = ws') (kk : V X D tc cc own nL (pc + 1) L st ws') : V X D tc cc own nL pc L (.int x :: .int (nI k) :: .ref a :: st) ws := V_zast hd he (vp_in_nI hin.1 hin.2) (by rw [nI_clamp (Nat.lt_trans hin.1 hin.2), show vp_nar .boolean x = x by rcases hx with rfl | rfl <;> rfl]; exact hw) kk
/-- the state renamed: top of the stack, locals, cells -/
theorem V_top {x y : Int32} (h : x = y) (k : V X D tc cc own nL pc L (.int y :: st) ws) : V X D tc cc own nL pc L (.int x :: st) ws := h ▸ k
theorem V_eq {L' : List (Option Value)} {st' : List Value} {ws' : va_W} (h1 : L = L') (h2 : st = st') (h3 : ws = ws') (k : V X D tc cc own nL pc L' st' ws') : V X D tc cc own nL pc L st ws := by subst h1; subst h2; subst h3; exact k
/-- fewer locals are known -/
theorem V_weak {L' : List (Option Value)} (h : ∀ (i : Nat) (w : Value), lget L' i = some w → lget L i = some w) (k : V X D tc cc own nL pc L' st ws) : V X D tc cc own nL pc L st ws := fun F H locs ls hP hD hS hl => k F H locs ls hP hD hS ⟨hl.1, hl.2.1, fun i w hi => hl.2.2 i w (h i w hi)⟩
theorem V_dr0 {x : Option Value} {t : List (Option Value)} (k : V X D tc cc own nL pc (none :: t) st ws) : V X D tc cc own nL pc (x :: t) st ws := V_weak (fun i w h => by rcases i with _ | i <;> simp_all [lget]) k
theorem V_dr1 {a0 : Option Value} {x : Option Value} {t : List (Option Value)} (k : V X D tc cc own nL pc (a0 :: none :: t) st ws) : V X D tc cc own nL pc (a0 :: x :: t) st ws := V_weak (fun i w h => by rcases i with _ | _ | i <;> simp_all [lget]) k
theorem V_dr2 {a0 a1 : Option Value} {x : Option Value} {t : List (Option Value)} (k : V X D tc cc own nL pc (a0 :: a1 :: none :: t) st ws) : V X D tc cc own nL pc (a0 :: a1 :: x :: t) st ws := V_weak (fun i w h => by rcases i with _ | _ | _ | i <;> simp_all [lget]) k
theorem V_dr3 {a0 a1 a2 : Option Value} {x : Option Value} {t : List (Option Value)} (k : V X D tc cc own nL pc (a0 :: a1 :: a2 :: none :: t) st ws) : V X D tc cc own nL pc (a0 :: a1 :: a2 :: x :: t) st ws := V_weak (fun i w h => by rcases i with _ | _ | _ | _ | i <;> simp_all [lget]) k
theorem V_dr4 {a0 a1 a2 a3 : Option Value} {x : Option Value} {t : List (Option Value)} (k : V X D tc cc own nL pc (a0 :: a1 :: a2 :: a3 :: none :: t) st ws) : V X D tc cc own nL pc (a0 :: a1 :: a2 :: a3 :: x :: t) st ws := V_weak (fun i w h => by rcases i with _ | _ | _ | _ | _ | i <;> simp_all [lget]) k
theorem V_dr5 {a0 a1 a2 a3 a4 : Option Value} {x : Option Value} {t : List (Option Value)} (k : V X D tc cc own nL pc (a0 :: a1 :: a2 :: a3 :: a4 :: none :: t) st ws) : V X D tc cc own nL pc (a0 :: a1 :: a2 :: a3 :: a4 :: x :: t) st ws := V_weak (fun i w h => by rcases i with _ | _ | _ | _ | _ | _ | i <;> simp_all [lget]) k
theorem V_dr6 {a0 a1 a2 a3 a4 a5 : Option Value} {x : Option Value} {t : List (Option Value)} (k : V X D tc cc own nL pc (a0 :: a1 :: a2 :: a3 :: a4 :: a5 :: none :: t) st ws) : V X D tc cc own nL pc (a0 :: a1 :: a2 :: a3 :: a4 :: a5 :: x :: t) st ws := V_weak (fun i w h => by rcases i with _ | _ | _ | _ | _ | _ | _ | i <;> simp_all [lget]) k
theorem V_dr7 {a0 a1 a2 a3 a4 a5 a6 : Option Value} {x : Option Value} {t : List (Option Value)} (k : V X D tc cc own nL pc (a0 :: a1 :: a2 :: a3 :: a4 :: a5 :: a6 :: none :: t) st ws) : V X D tc cc own nL pc (a0 :: a1 :: a2 :: a3 :: a4 :: a5 :: a6 :: x :: t) st ws := V_weak (fun i w h => by rcases i with _ | _ | _ | _ | _ | _ | _ | _ | i <;> simp_all [lget]) k
theorem V_dr8 {a0 a1 a2 a3 a4 a5 a6 a7 : Option Value} {x : Option Value} {t : List (Option Value)} (k : V X D tc cc own nL pc (a0 :: a1 :: a2 :: a3 :: a4 :: a5 :: a6 :: a7 :: none :: t) st ws) : V X D tc cc own nL pc (a0 :: a1 :: a2 :: a3 :: a4 :: a5 :: a6 :: a7 :: x :: t) st ws := V_weak (fun i w h => by rcases i with _ | _ | _ | _ | _ | _ | _ | _ | _ | i <;> simp_all [lget]) k
theorem V_dr9 {a0 a1 a2 a3 a4 a5 a6 a7 a8 : Option Value} {x : Option Value} {t : List (Option Value)} (k : V X D tc cc own nL pc (a0 :: a1 :: a2 :: a3 :: a4 :: a5 :: a6 :: a7 :: a8 :: none :: t) st ws) : V X D tc cc own nL pc (a0 :: a1 :: a2 :: a3 :: a4 :: a5 :: a6 :: a7 :: a8 :: x :: t) st ws := V_weak (fun i w h => by rcases i with _ | _ | _ | _ | _ | _ | _ | _ | _ | _ | i <;> simp_all [lget]) k
theorem V_dr10 {a0 a1 a2 a3 a4 a5 a6 a7 a8 a9 : Option Value} {x : Option Value} {t : List (Option Value)} (k : V X D tc cc own nL pc (a0 :: a1 :: a2 :: a3 :: a4 :: a5 :: a6 :: a7 :: a8 :: a9 :: none :: t) st ws) : V X D tc cc own nL pc (a0 :: a1 :: a2 :: a3 :: a4 :: a5 :: a6 :: a7 :: a8 :: a9 :: x :: t) st ws := V_weak (fun i w h => by rcases i with _ | _ | _ | _ | _ | _ | _ | _ | _ | _ | _ | i <;> simp_all [lget]) k
theorem V_copyE {index a0 a n0 n1 : Nat} {f g : Nat → Int32} {spI dpI nI' : Int32} (hm : Cond.methodLink own index arraycopyName ∈ bigW) (hm2 : Cond.native arraycopyName ∈ bigW ∧ Cond.static arraycopyName ∈ bigW ∧ Cond.initialized "java/lang/System" ∈ bigW) (hdep : 1 ≤ X.2.2.2.1) (hroom : (st.map fun v => v.category).sum + (nativeFrameWords "java/lang/System" "arraycopy" 5 + 11) ≤ 35) (hd : decode cc pc = .ok (.invokestatic index, 3)) {q0 q1 : Nat} (he0 : ws[q0]? = some (a0, .inl (tc.1, n0, .inl f))) (he1 : ws[q1]? = some (a, .inl (tc.1, n1, .inl g))) (sp dp n : Nat) (e1 : spI = nI sp) (e2 : dpI = nI dp) (e3 : nI' = nI n) (h4 : sp + n ≤ n0 ∧ dp + n ≤ n1 ∧ n0 < 2 ^ 31 ∧ n1 < 2 ^ 31) {ws' : va_W} (hw : ws.set q1 (a, .inl (tc.1, n1, .inl (va_cpy f g sp dp n))) = ws') (kk : V X D tc cc own nL (pc + 3) L st ws') : V X D tc cc own nL pc L (.int nI' :: .int dpI :: .ref a :: .int spI :: .ref a0 :: st) ws := by
  subst e1; subst e2; subst e3
  have k1 : (nI sp).toNatClampNeg = sp := nI_clamp (by omega)
  have k2 : (nI dp).toNatClampNeg = dp := nI_clamp (by omega)
  have k3 : (nI n).toNatClampNeg = n := nI_clamp (by omega)
  exact V_copy hm hm2 hdep hroom hd he0 he1 (nI_pos (by omega)) (nI_pos (by omega)) (nI_pos (by omega)) (by rw [k1, k3]; exact h4.1) (by rw [k2, k3]; exact h4.2.1) (by rw [k1, k2, k3]; exact hw) kk
end VMORE
theorem swNe {x k : Int32} {a : Int} (h : ¬ x = k) (hk : k.toInt = a) : ¬ x.toInt = a := lv_neT h hk
theorem swOut3 {x : Int32} (e0 : ¬ x = 0) (e1 : ¬ x = 1) (e2 : ¬ x = 2) : x.toInt < 0 ∨ 2 < x.toInt := by
  have h0 := swNe e0 (a := 0) (by decide); have h1 := swNe e1 (a := 1) (by decide); have h2 := swNe e2 (a := 2) (by decide)
  omega
theorem swOut4 {x : Int32} (e0 : ¬ x = 0) (e1 : ¬ x = 1) (e2 : ¬ x = 2) (e3 : ¬ x = 3) : x.toInt < 0 ∨ 3 < x.toInt := by
  have h0 := swNe e0 (a := 0) (by decide); have h1 := swNe e1 (a := 1) (by decide); have h2 := swNe e2 (a := 2) (by decide); have h3 := swNe e3 (a := 3) (by decide)
  omega
theorem swOut5 {x : Int32} (e0 : ¬ x = 0) (e1 : ¬ x = 1) (e2 : ¬ x = 2) (e3 : ¬ x = 3) (e4 : ¬ x = 4) : x.toInt < 0 ∨ 4 < x.toInt := by
  have h0 := swNe e0 (a := 0) (by decide); have h1 := swNe e1 (a := 1) (by decide); have h2 := swNe e2 (a := 2) (by decide); have h3 := swNe e3 (a := 3) (by decide); have h4 := swNe e4 (a := 4) (by decide)
  omega
/-- a counted loop: the state at its head is a function of how often it went round -/
theorem V_for {X : Cx} {D : va_G} {tc : Tc} {cc : ByteArray} {own : String} {nL pc : Nat} (Lf : Nat → List (Option Value)) (Wf : Nat → va_W) (n : Nat) (hs : ∀ k, k < n → V X D tc cc own nL pc (Lf (k + 1)) [] (Wf (k + 1)) → V X D tc cc own nL pc (Lf k) [] (Wf k)) (he : V X D tc cc own nL pc (Lf n) [] (Wf n)) : ∀ i, i ≤ n → V X D tc cc own nL pc (Lf i) [] (Wf i) := by
  intro i hi
  obtain ⟨j, rfl⟩ : ∃ j, n = i + j := ⟨n - i, by omega⟩
  induction j generalizing i with
  | zero => exact he
  | succ j ih => exact hs i (by omega) (ih (i + 1) (by simpa [Nat.add_assoc, Nat.add_comm 1 j] using hs) (by simpa [Nat.add_assoc, Nat.add_comm 1 j] using he) (by omega))
/-- a counted loop with a fact that is carried along -/
theorem V_forI {X : Cx} {D : va_G} {tc : Tc} {cc : ByteArray} {own : String} {nL pc : Nat} (Inv : Nat → Prop) (Lf : Nat → List (Option Value)) (Wf : Nat → va_W) (n : Nat) (hs : ∀ k, k < n → Inv k → (Inv (k + 1) → V X D tc cc own nL pc (Lf (k + 1)) [] (Wf (k + 1))) → V X D tc cc own nL pc (Lf k) [] (Wf k)) (he : Inv n → V X D tc cc own nL pc (Lf n) [] (Wf n)) : ∀ i, i ≤ n → Inv i → V X D tc cc own nL pc (Lf i) [] (Wf i) := by
  intro i hi
  obtain ⟨j, rfl⟩ : ∃ j, n = i + j := ⟨n - i, by omega⟩
  induction j generalizing i with
  | zero => exact he
  | succ j ih => exact fun h0 => hs i (by omega) h0 (ih (i + 1) (by simpa [Nat.add_assoc, Nat.add_comm 1 j] using hs) (by simpa [Nat.add_assoc, Nat.add_comm 1 j] using he) (by omega))
theorem wcp : Cond.native arraycopyName ∈ bigW ∧ Cond.static arraycopyName ∈ bigW ∧ Cond.initialized "java/lang/System" ∈ bigW := ⟨bw 267 (by decide +kernel) (by decide +kernel), bw 266 (by decide +kernel) (by decide +kernel), wI_java_lang_System⟩
theorem wM_X1_58 : Cond.methodLink RX1 58 arraycopyName ∈ bigW := bw 295 (by decide +kernel) (by decide +kernel)
theorem wM_X4_30 : Cond.methodLink RX4 30 arraycopyName ∈ bigW := bw 265 (by decide +kernel) (by decide +kernel)
theorem wM_X5_234 : Cond.methodLink RX5 234 arraycopyName ∈ bigW := bw 573 (by decide +kernel) (by decide +kernel)
end
section
/-! whole rows changed at once -/
def upF (σ : St) (o k : Nat) (g : Nat → Int32) : St := fun o' k' => if o' = o then (if k' = k then g else σ o' k') else σ o' k'
def fillN (f : Nat → Int32) (v : Int32) (n : Nat) : Nat → Int32 := fun j => if j < n then v else f j
theorem fillN_0 (f : Nat → Int32) (v : Int32) : fillN f v 0 = f := by funext j; simp [fillN]
theorem fillN_s (f : Nat → Int32) (v : Int32) (k : Nat) : upd (fillN f v k) k v = fillN f v (k + 1) := by
  funext j
  unfold upd fillN
  by_cases h : j = k
  · subst h; simp
  · by_cases h2 : j < k
    · simp [h, h2, Nat.lt_succ_of_lt h2]
    · simp [h, h2, show ¬ j < k + 1 by omega]
section WORLDF
variable {A B : Nat → Nat} {tc : Tc} {σ : St} {τ : Sm} {o j : Nat}
theorem cW_ma0F (ho : o = 5 ∨ o = 6) (g : Nat → Int32) : (cW A tc σ).set (mb o + 1) (A (mb o + 1), .inl (tc.1, 4, .inl g)) = cW A tc (upF σ o 0 g) := by rcases ho with rfl | rfl <;> rfl
theorem cW_ma1F (ho : o = 5 ∨ o = 6) (g : Nat → Int32) : (cW A tc σ).set (mb o + 2) (A (mb o + 2), .inl (tc.1, 4, .inl g)) = cW A tc (upF σ o 1 g) := by rcases ho with rfl | rfl <;> rfl
theorem cW_ma2F (ho : o = 5 ∨ o = 6) (g : Nat → Int32) : (cW A tc σ).set (mb o + 3) (A (mb o + 3), .inl (tc.1, 4, .inl g)) = cW A tc (upF σ o 2 g) := by rcases ho with rfl | rfl <;> rfl
theorem cW_ma3F (ho : o = 5 ∨ o = 6) (g : Nat → Int32) : (cW A tc σ).set (mb o + 4) (A (mb o + 4), .inl (tc.1, 6, .inl g)) = cW A tc (upF σ o 3 g) := by rcases ho with rfl | rfl <;> rfl
theorem cW_ma4F (ho : o = 5 ∨ o = 6) (g : Nat → Int32) : (cW A tc σ).set (mb o + 5) (A (mb o + 5), .inl (tc.1, 6, .inl g)) = cW A tc (upF σ o 4 g) := by rcases ho with rfl | rfl <;> rfl
theorem cW_ma5F (ho : o = 5 ∨ o = 6) (g : Nat → Int32) : (cW A tc σ).set (mb o + 6) (A (mb o + 6), .inl (tc.1, 6, .inl g)) = cW A tc (upF σ o 5 g) := by rcases ho with rfl | rfl <;> rfl
theorem cW_ma6F (ho : o = 5 ∨ o = 6) (g : Nat → Int32) : (cW A tc σ).set (mb o + 7) (A (mb o + 7), .inl (tc.1, 6, .inl g)) = cW A tc (upF σ o 6 g) := by rcases ho with rfl | rfl <;> rfl
theorem cW_shaF (hj : j < 4) (g : Nat → Int32) : (cW A tc σ).set (sb j + 1) (A (sb j + 1), .inl (tc.1, 60, .inl g)) = cW A tc (upF σ (1 + j) 0 g) := by
  rcases (show j = 0 ∨ j = 1 ∨ j = 2 ∨ j = 3 by omega) with rfl | rfl | rfl | rfl <;> rfl
theorem cW_rdaF (g : Nat → Int32) : (cW A tc σ).set 27 (A 27, .inl (tc.1, 60, .inl g)) = cW A tc (upF σ 7 0 g) := rfl
end WORLDF
end
section
/-! what a market's methods answer, in the machine's own numbers; μ k i: field k, place i of a Market -/
abbrev bitI (s n : Int32) : Prop := (s >>> (n &&& 31)) &&& 1 = 1

def oneI (k : Nat) : Int32 := (1 : Int32) <<< (nI k &&& 31)
def freshI (k t w d : Int32) : Int32 := if t ≤ d then (if 0 ≤ w - (if k = 1 then (d - t) / 3 else d - t) then (if k = 2 then (w - (if k = 1 then (d - t) / 3 else d - t)) / 2 else w - (if k = 1 then (d - t) / 3 else d - t)) else 0) else 0
def frC (μ : Sm) (m : Nat) (d : Int32) : Int32 := freshI (μ 3 m) (μ 5 m) (μ 6 m) d
def prC (μ : Sm) (m : Nat) : Int32 := μ 7 0 * frC μ m (μ 8 0)
theorem nI_inc (k : Nat) : nI k + Int32.ofInt 1 = nI (k + 1) := (nI_succ k).symm
theorem ge_no {x : Int32} {M k : Nat} (h : x = nI M) (hk : k < M) (hM : M < 2 ^ 31) : ¬ x ≤ nI k := by rw [h]; exact nI_ge hk hM
theorem ge_yes {x : Int32} {M : Nat} (h : x = nI M) : x ≤ nI M := by rw [h]; exact Int32.le_refl _
def clC (μ : Sm) (p : Int32) : Nat → Int32
  | 0 => 0
  | k + 1 => if μ 4 k = p ∧ ¬ bitI (μ 11 0) (nI k) then clC μ p k ||| oneI k else clC μ p k
def psC (μ : Sm) (s : Int32) : Nat → Int32
  | 0 => 0
  | k + 1 => if bitI s (nI k) then psC μ s k + prC μ k else psC μ s k
def jaC (μ : Sm) : Nat → Int32
  | 0 => 0
  | k + 1 => jaC μ k + μ 1 k
/-- half of all that is fresh -/
def haC (μ : Sm) (s d : Int32) : Nat → Int32
  | 0 => 0
  | k + 1 => if bitI s (nI k) then haC μ s d k + frC μ k d / 2 else haC μ s d k
/-- the freshest -/
def fmC (μ : Sm) (s d : Int32) : Nat → Int32
  | 0 => 0
  | k + 1 => if bitI s (nI k) ∧ ¬ frC μ k d ≤ fmC μ s d k then frC μ k d else fmC μ s d k
def jsC (μ : Sm) (s d : Int32) (b : Int32) (M : Nat) : Int32 := if b = 0 then haC μ s d M - fmC μ s d M / 2 + fmC μ s d M else haC μ s d M
def otC (μ : Sm) (p : Nat) : Int32 := b2i (μ 2 p = μ 8 0)
def feC (μ : Sm) (p : Nat) (s : Int32) (M : Nat) : Int32 := jsC μ s (μ 8 0) (otC μ p) M
end
section
section
variable {D : va_G} {tc : Tc} {A : Nat → Nat} {σ : St} {ws : va_W}
set_option maxRecDepth 100000 in
set_option maxHeartbeats 4000000 in
theorem ok_isIn (s n : Int32) : Ok 0 yX5_isIn cX5_isIn 2 (some .boolean) D tc [.int s, .int n] ws (some (.int (b2i (bitI s n)))) ws := by
  refine Ok_of RX5 rfl (by decide) [some (.int s), some (.int n)] rfl (Nat.le_of_ble_eq_true rfl) ?_
  intro X hX
  refine V_ild0 dX5_isIn_0 ?_
  refine V_ild1 dX5_isIn_1 ?_
  refine V_ishr dX5_isIn_2 ?_
  refine V_iconst 1 dX5_isIn_3 (by decide) ?_
  refine V_iand dX5_isIn_4 ?_
  refine V_iconst 1 dX5_isIn_5 (by decide) ?_
  refine V_icmp_ne 13 dX5_isIn_6 (by decide) (fun c6 => ?_) (fun c6 => ?_)
  · refine V_iconst 0 dX5_isIn_13 (by decide) ?_
    exact V_zret hX dX5_isIn_14 rfl (by first | exact Or.inl rfl | exact Or.inr rfl) (by simp [b2i, bitI, c6]) rfl
  · refine V_iconst 1 dX5_isIn_9 (by decide) ?_
    refine V_goto 14 dX5_isIn_10 (by decide) ?_
    exact V_zret hX dX5_isIn_14 rfl (by first | exact Or.inl rfl | exact Or.inr rfl) (by simp [b2i, bitI, c6]) rfl
set_option maxRecDepth 100000 in
set_option maxHeartbeats 4000000 in
theorem ok_isWithin (s n : Int32) : Ok 0 yX5_isWithin cX5_isWithin 2 (some .boolean) D tc [.int s, .int n] ws (some (.int (b2i (s &&& (n ^^^ (-1)) = 0)))) ws := by
  refine Ok_of RX5 rfl (by decide) [some (.int s), some (.int n)] rfl (Nat.le_of_ble_eq_true rfl) ?_
  intro X hX
  refine V_ild0 dX5_isWithin_0 ?_
  refine V_ild1 dX5_isWithin_1 ?_
  refine V_iconst (-1) dX5_isWithin_2 (by decide) ?_
  refine V_ixor dX5_isWithin_3 ?_
  refine V_iand dX5_isWithin_4 ?_
  refine V_if_ne 12 dX5_isWithin_5 (by decide) (fun c5 => ?_) (fun c5 => ?_)
  · refine V_iconst 0 dX5_isWithin_12 (by decide) ?_
    exact V_zret hX dX5_isWithin_13 rfl (by first | exact Or.inl rfl | exact Or.inr rfl) (by first | rw [b2i_t c5] | rw [b2i_f c5]) rfl
  · refine V_iconst 1 dX5_isWithin_8 (by decide) ?_
    refine V_goto 13 dX5_isWithin_9 (by decide) ?_
    exact V_zret hX dX5_isWithin_13 rfl (by first | exact Or.inl rfl | exact Or.inr rfl) (by first | rw [b2i_t c5] | rw [b2i_f c5]) rfl
set_option maxRecDepth 100000 in
set_option maxHeartbeats 4000000 in
theorem ok_freshBy (k t w d : Int32) : Ok 0 yX5_freshBy cX5_freshBy 6 (some .int) D tc [.int k, .int t, .int w, .int d] ws (some (.int (freshI k t w d))) ws := by
  refine Ok_of RX5 rfl (by decide) [some (.int k), some (.int t), some (.int w), some (.int d), none, none] rfl (Nat.le_of_ble_eq_true rfl) ?_
  intro X hX
  refine V_ild3 dX5_freshBy_0 ?_
  refine V_ild1 dX5_freshBy_1 ?_
  refine V_icmp_ge 7 dX5_freshBy_2 (by decide) (fun c2 => ?_) (fun c2 => ?_)
  · refine V_ild3 dX5_freshBy_7 ?_
    refine V_ild1 dX5_freshBy_8 ?_
    refine V_isub dX5_freshBy_9 ?_
    refine V_ist4 dX5_freshBy_10 rfl (by decide) ?_
    refine V_ild2 dX5_freshBy_12 ?_
    refine V_ild0 dX5_freshBy_13 ?_
    refine V_iconst 1 dX5_freshBy_14 (by decide) ?_
    refine V_icmp_ne 25 dX5_freshBy_15 (by decide) (fun c15 => ?_) (fun c15 => ?_)
    · refine V_ild4 dX5_freshBy_25 ?_
      refine V_isub dX5_freshBy_27 ?_
      refine V_ist5 dX5_freshBy_28 rfl (by decide) ?_
      refine V_ild5 dX5_freshBy_30 ?_
      refine V_if_ge 37 dX5_freshBy_32 (by decide) (fun c32 => ?_) (fun c32 => ?_)
      · refine V_ild0 dX5_freshBy_37 ?_
        refine V_iconst 2 dX5_freshBy_38 (by decide) ?_
        refine V_icmp_ne 49 dX5_freshBy_39 (by decide) (fun c39 => ?_) (fun c39 => ?_)
        · refine V_ild5 dX5_freshBy_49 ?_
          exact V_iret hX dX5_freshBy_51 rfl (by first | (simp [freshI, *]; done) | exact absurd (c15.symm.trans c39) (by decide)) rfl
        · refine V_ild5 dX5_freshBy_42 ?_
          refine V_iconst 2 dX5_freshBy_44 (by decide) ?_
          refine V_idiv dX5_freshBy_45 (by decide) ?_
          refine V_goto 51 dX5_freshBy_46 (by decide) ?_
          exact V_iret hX dX5_freshBy_51 rfl (by first | (simp [freshI, *]; done) | exact absurd (c15.symm.trans c39) (by decide)) rfl
      · refine V_iconst 0 dX5_freshBy_35 (by decide) ?_
        exact V_iret hX dX5_freshBy_36 rfl (by first | (simp [freshI, *]; done) | exact absurd (c15.symm.trans c39) (by decide)) rfl
    · refine V_ild4 dX5_freshBy_18 ?_
      refine V_iconst 3 dX5_freshBy_20 (by decide) ?_
      refine V_idiv dX5_freshBy_21 (by decide) ?_
      refine V_goto 27 dX5_freshBy_22 (by decide) ?_
      refine V_isub dX5_freshBy_27 ?_
      refine V_ist5 dX5_freshBy_28 rfl (by decide) ?_
      refine V_ild5 dX5_freshBy_30 ?_
      refine V_if_ge 37 dX5_freshBy_32 (by decide) (fun c32 => ?_) (fun c32 => ?_)
      · refine V_ild0 dX5_freshBy_37 ?_
        refine V_iconst 2 dX5_freshBy_38 (by decide) ?_
        refine V_icmp_ne 49 dX5_freshBy_39 (by decide) (fun c39 => ?_) (fun c39 => ?_)
        · refine V_ild5 dX5_freshBy_49 ?_
          exact V_iret hX dX5_freshBy_51 rfl (by first | (simp [freshI, *]; done) | exact absurd (c15.symm.trans c39) (by decide)) rfl
        · refine V_ild5 dX5_freshBy_42 ?_
          refine V_iconst 2 dX5_freshBy_44 (by decide) ?_
          refine V_idiv dX5_freshBy_45 (by decide) ?_
          refine V_goto 51 dX5_freshBy_46 (by decide) ?_
          exact V_iret hX dX5_freshBy_51 rfl (by first | (simp [freshI, *]; done) | exact absurd (c15.symm.trans c39) (by decide)) rfl
      · refine V_iconst 0 dX5_freshBy_35 (by decide) ?_
        exact V_iret hX dX5_freshBy_36 rfl (by first | (simp [freshI, *]; done) | exact absurd (c15.symm.trans c39) (by decide)) rfl
  · refine V_iconst 0 dX5_freshBy_5 (by decide) ?_
    exact V_iret hX dX5_freshBy_6 rfl (by first | (simp [freshI, *]; done) | exact absurd (c15.symm.trans c39) (by decide)) rfl
end
section
variable {D : va_G} {tc : Tc} {A : Nat → Nat} {σ : St} {o M P : Nat}
set_option maxRecDepth 100000 in
set_option maxHeartbeats 4000000 in
theorem ok_isThere (ho : o = 5 ∨ o = 6) : Ok 0 yX1_isThere cX1_isThere 1 (some .boolean) D tc [.ref (A (mb o))] (cW A tc σ) (some (.int (b2i (0 < σ o 9 0)))) (cW A tc σ) := by
  refine Ok_of RX1 rfl (by decide) [some (.ref (A (mb o)))] rfl (Nat.le_of_ble_eq_true rfl) ?_
  intro X hX
  refine V_ald0 dX1_isThere_0 ?_
  refine V_get lf_X1_40 dX1_isThere_1 (cW_mkt ho) rfl ?_
  refine V_if_le 11 dX1_isThere_4 (by decide) (fun c4 => ?_) (fun c4 => ?_)
  · refine V_iconst 0 dX1_isThere_11 (by decide) ?_
    exact V_zret hX dX1_isThere_12 rfl (by first | exact Or.inl rfl | exact Or.inr rfl) (by simp [b2i, c4]) rfl
  · refine V_iconst 1 dX1_isThere_7 (by decide) ?_
    refine V_goto 12 dX1_isThere_8 (by decide) ?_
    exact V_zret hX dX1_isThere_12 rfl (by first | exact Or.inl rfl | exact Or.inr rfl) (by simp [b2i, c4]) rfl
set_option maxRecDepth 100000 in
set_option maxHeartbeats 4000000 in
theorem ok_isPerson (ho : o = 5 ∨ o = 6) (p : Int32) : Ok 0 yX1_isPerson cX1_isPerson 2 (some .boolean) D tc [.ref (A (mb o)), .int p] (cW A tc σ) (some (.int (b2i (¬ p < 0 ∧ p < σ o 9 0)))) (cW A tc σ) := by
  refine Ok_of RX1 rfl (by decide) [some (.ref (A (mb o))), some (.int p)] rfl (Nat.le_of_ble_eq_true rfl) ?_
  intro X hX
  refine V_ild1 dX1_isPerson_0 ?_
  refine V_if_lt 16 dX1_isPerson_1 (by decide) (fun c1 => ?_) (fun c1 => ?_)
  · refine V_iconst 0 dX1_isPerson_16 (by decide) ?_
    exact V_zret hX dX1_isPerson_17 rfl (by first | exact Or.inl rfl | exact Or.inr rfl) (by simp_all [b2i]) rfl
  · refine V_ild1 dX1_isPerson_4 ?_
    refine V_ald0 dX1_isPerson_5 ?_
    refine V_get lf_X1_40 dX1_isPerson_6 (cW_mkt ho) rfl ?_
    refine V_icmp_ge 16 dX1_isPerson_9 (by decide) (fun c9 => ?_) (fun c9 => ?_)
    · refine V_iconst 0 dX1_isPerson_16 (by decide) ?_
      exact V_zret hX dX1_isPerson_17 rfl (by first | exact Or.inl rfl | exact Or.inr rfl) (by simp_all [b2i]) rfl
    · refine V_iconst 1 dX1_isPerson_12 (by decide) ?_
      refine V_goto 17 dX1_isPerson_13 (by decide) ?_
      exact V_zret hX dX1_isPerson_17 rfl (by first | exact Or.inl rfl | exact Or.inr rfl) (by simp_all [b2i]) rfl
set_option maxRecDepth 100000 in
set_option maxHeartbeats 4000000 in
theorem ok_isMorning (ho : o = 5 ∨ o = 6) (m : Int32) : Ok 0 yX1_isMorning cX1_isMorning 2 (some .boolean) D tc [.ref (A (mb o)), .int m] (cW A tc σ) (some (.int (b2i (¬ m < 0 ∧ m < σ o 10 0)))) (cW A tc σ) := by
  refine Ok_of RX1 rfl (by decide) [some (.ref (A (mb o))), some (.int m)] rfl (Nat.le_of_ble_eq_true rfl) ?_
  intro X hX
  refine V_ild1 dX1_isMorning_0 ?_
  refine V_if_lt 16 dX1_isMorning_1 (by decide) (fun c1 => ?_) (fun c1 => ?_)
  · refine V_iconst 0 dX1_isMorning_16 (by decide) ?_
    exact V_zret hX dX1_isMorning_17 rfl (by first | exact Or.inl rfl | exact Or.inr rfl) (by simp_all [b2i]) rfl
  · refine V_ild1 dX1_isMorning_4 ?_
    refine V_ald0 dX1_isMorning_5 ?_
    refine V_get lf_X1_43 dX1_isMorning_6 (cW_mkt ho) rfl ?_
    refine V_icmp_ge 16 dX1_isMorning_9 (by decide) (fun c9 => ?_) (fun c9 => ?_)
    · refine V_iconst 0 dX1_isMorning_16 (by decide) ?_
      exact V_zret hX dX1_isMorning_17 rfl (by first | exact Or.inl rfl | exact Or.inr rfl) (by simp_all [b2i]) rfl
    · refine V_iconst 1 dX1_isMorning_12 (by decide) ?_
      refine V_goto 17 dX1_isMorning_13 (by decide) ?_
      exact V_zret hX dX1_isMorning_17 rfl (by first | exact Or.inl rfl | exact Or.inr rfl) (by simp_all [b2i]) rfl
set_option maxRecDepth 100000 in
set_option maxHeartbeats 4000000 in
theorem ok_isOpened (ho : o = 5 ∨ o = 6) (m : Int32) : Ok 1 yX1_isOpened cX1_isOpened 2 (some .boolean) D tc [.ref (A (mb o)), .int m] (cW A tc σ) (some (.int (b2i (bitI (σ o 11 0) m)))) (cW A tc σ) := by
  refine Ok_of RX1 rfl (by decide) [some (.ref (A (mb o))), some (.int m)] rfl (Nat.le_of_ble_eq_true rfl) ?_
  intro X hX
  refine V_ald0 dX1_isOpened_0 ?_
  refine V_get lf_X1_46 dX1_isOpened_1 (cW_mkt ho) rfl ?_
  refine V_ild1 dX1_isOpened_4 ?_
  refine V_callN ln_X1_64 (ok_isIn _ _) dX1_isOpened_5 (dep hX (by decide)) rfl (Nat.le_of_ble_eq_true rfl) ?_
  exact V_zret hX dX1_isOpened_8 rfl b2i_01 rfl rfl
set_option maxRecDepth 100000 in
set_option maxHeartbeats 4000000 in
theorem ok_openedToday (ho : o = 5 ∨ o = 6) (p : Nat) (hp : p < 4) : Ok 0 yX1_openedToday cX1_openedToday 2 (some .boolean) D tc [.ref (A (mb o)), .int (nI p)] (cW A tc σ) (some (.int (otC (σ o) p))) (cW A tc σ) := by
  refine Ok_of RX1 rfl (by decide) [some (.ref (A (mb o))), some (.int (nI p))] rfl (Nat.le_of_ble_eq_true rfl) ?_
  intro X hX
  refine V_ald0 dX1_openedToday_0 ?_
  refine V_get lf_X1_18 dX1_openedToday_1 (cW_mkt ho) rfl ?_
  refine V_ild1 dX1_openedToday_4 ?_
  refine V_ialdk dX1_openedToday_5 (cW_ma2 ho) ⟨hp, by decide⟩ ?_
  refine V_ald0 dX1_openedToday_6 ?_
  refine V_get lf_X1_37 dX1_openedToday_7 (cW_mkt ho) rfl ?_
  refine V_icmp_ne 17 dX1_openedToday_10 (by decide) (fun c10 => ?_) (fun c10 => ?_)
  · refine V_iconst 0 dX1_openedToday_17 (by decide) ?_
    exact V_zret hX dX1_openedToday_18 rfl (by first | exact Or.inl rfl | exact Or.inr rfl) (by simp [otC, b2i, c10]) rfl
  · refine V_iconst 1 dX1_openedToday_13 (by decide) ?_
    refine V_goto 18 dX1_openedToday_14 (by decide) ?_
    exact V_zret hX dX1_openedToday_18 rfl (by first | exact Or.inl rfl | exact Or.inr rfl) (by simp [otC, b2i, c10]) rfl
set_option maxRecDepth 100000 in
set_option maxHeartbeats 4000000 in
theorem ok_closed (ho : o = 5 ∨ o = 6) : Ok 0 yX1_closed cX1_closed 1 (some .int) D tc [.ref (A (mb o))] (cW A tc σ) (some (.int (((1 <<< (σ o 10 0 &&& 31)) - 1) &&& (σ o 11 0 ^^^ (-1))))) (cW A tc σ) := by
  refine Ok_of RX1 rfl (by decide) [some (.ref (A (mb o)))] rfl (Nat.le_of_ble_eq_true rfl) ?_
  intro X hX
  refine V_iconst 1 dX1_closed_0 (by decide) ?_
  refine V_ald0 dX1_closed_1 ?_
  refine V_get lf_X1_43 dX1_closed_2 (cW_mkt ho) rfl ?_
  refine V_ishl dX1_closed_5 ?_
  refine V_iconst 1 dX1_closed_6 (by decide) ?_
  refine V_isub dX1_closed_7 ?_
  refine V_ald0 dX1_closed_8 ?_
  refine V_get lf_X1_46 dX1_closed_9 (cW_mkt ho) rfl ?_
  refine V_iconst (-1) dX1_closed_12 (by decide) ?_
  refine V_ixor dX1_closed_13 ?_
  refine V_iand dX1_closed_14 ?_
  exact V_iret hX dX1_closed_15 rfl rfl rfl
set_option maxRecDepth 100000 in
set_option maxHeartbeats 4000000 in
theorem ok_closedOf (ho : o = 5 ∨ o = 6) (hM : σ o 10 0 = nI M) (h6 : M ≤ 6) (p : Int32) : Ok 2 yX1_closedOf cX1_closedOf 4 (some .int) D tc [.ref (A (mb o)), .int p] (cW A tc σ) (some (.int (clC (σ o) p M))) (cW A tc σ) := by
  refine Ok_of RX1 rfl (by decide) [some (.ref (A (mb o))), some (.int p), none, none] rfl (Nat.le_of_ble_eq_true rfl) ?_
  intro X hX
  have lpS : ∀ k, k < M → V X D tc cX1_closedOf RX1 4 4 ((fun k => [some (.ref (A (mb o))), some (.int p), some (.int (clC (σ o) p k)), some (.int (nI k))]) (k + 1)) [] ((fun k => cW A tc σ) (k + 1)) → V X D tc cX1_closedOf RX1 4 4 ((fun k => [some (.ref (A (mb o))), some (.int p), some (.int (clC (σ o) p k)), some (.int (nI k))]) k) [] ((fun k => cW A tc σ) k) := by
    intro k hk ih
    refine V_ild3 dX1_closedOf_4 ?_
    refine V_ald0 dX1_closedOf_5 ?_
    refine V_get lf_X1_43 dX1_closedOf_6 (cW_mkt ho) rfl ?_
    refine V_icmp_ge 42 dX1_closedOf_9 (by decide) (fun c9 => ?_) (fun c9 => ?_)
    · exact absurd c9 (ge_no hM hk (by omega))
    · refine V_ald0 dX1_closedOf_12 ?_
      refine V_get lf_X1_24 dX1_closedOf_13 (cW_mkt ho) rfl ?_
      refine V_ild3 dX1_closedOf_16 ?_
      refine V_ialdk dX1_closedOf_17 (cW_ma4 ho) ⟨by omega, by decide⟩ ?_
      refine V_ild1 dX1_closedOf_18 ?_
      refine V_icmp_ne 36 dX1_closedOf_19 (by decide) (fun c19 => ?_) (fun c19 => ?_)
      · refine V_inc3 (nI (k + 1)) dX1_closedOf_36 (nI_inc k) rfl (by decide) ?_
        refine V_goto 4 dX1_closedOf_39 (by decide) ?_
        refine V_eq ?_ rfl rfl ih
        simp_all [clC, oneI, b2i]
      · refine V_ald0 dX1_closedOf_22 ?_
        refine V_ild3 dX1_closedOf_23 ?_
        refine V_callV lm_X1_68 (ok_isOpened ho _) dX1_closedOf_24 (cW_mkt ho) rfl (dep hX (by decide)) rfl (Nat.le_of_ble_eq_true rfl) ?_
        refine V_if_ne 36 dX1_closedOf_27 (by decide) (fun c27 => ?_) (fun c27 => ?_)
        · try rw [b2i_ne] at c27
          try rw [Decidable.not_not] at c27
          refine V_inc3 (nI (k + 1)) dX1_closedOf_36 (nI_inc k) rfl (by decide) ?_
          refine V_goto 4 dX1_closedOf_39 (by decide) ?_
          refine V_eq ?_ rfl rfl ih
          simp_all [clC, oneI, b2i]
        · try rw [b2i_eq] at c27
          try rw [Decidable.not_not] at c27
          refine V_ild2 dX1_closedOf_30 ?_
          refine V_iconst 1 dX1_closedOf_31 (by decide) ?_
          refine V_ild3 dX1_closedOf_32 ?_
          refine V_ishl dX1_closedOf_33 ?_
          refine V_ior dX1_closedOf_34 ?_
          refine V_ist2 dX1_closedOf_35 rfl (by decide) ?_
          refine V_inc3 (nI (k + 1)) dX1_closedOf_36 (nI_inc k) rfl (by decide) ?_
          refine V_goto 4 dX1_closedOf_39 (by decide) ?_
          refine V_eq ?_ rfl rfl ih
          simp_all [clC, oneI, b2i]
  have lpE : V X D tc cX1_closedOf RX1 4 4 ((fun k => [some (.ref (A (mb o))), some (.int p), some (.int (clC (σ o) p k)), some (.int (nI k))]) (M)) [] ((fun k => cW A tc σ) (M)) := by
    refine V_ild3 dX1_closedOf_4 ?_
    refine V_ald0 dX1_closedOf_5 ?_
    refine V_get lf_X1_43 dX1_closedOf_6 (cW_mkt ho) rfl ?_
    refine V_icmp_ge 42 dX1_closedOf_9 (by decide) (fun c9 => ?_) (fun c9 => ?_)
    · refine V_ild2 dX1_closedOf_42 ?_
      exact V_iret hX dX1_closedOf_43 rfl rfl rfl
    · exact absurd (ge_yes hM) c9
  have lp := V_for (fun k => [some (.ref (A (mb o))), some (.int p), some (.int (clC (σ o) p k)), some (.int (nI k))]) (fun k => cW A tc σ) (M) lpS lpE
  refine V_iconst 0 dX1_closedOf_0 (by decide) ?_
  refine V_ist2 dX1_closedOf_1 rfl (by decide) ?_
  refine V_iconst 0 dX1_closedOf_2 (by decide) ?_
  refine V_ist3 dX1_closedOf_3 rfl (by decide) ?_
  exact lp 0 (Nat.zero_le _)
set_option maxRecDepth 100000 in
set_option maxHeartbeats 4000000 in
theorem ok_freshOn (ho : o = 5 ∨ o = 6) (m : Nat) (hm : m < 6) (d : Int32) : Ok 1 yX1_freshOn cX1_freshOn 3 (some .int) D tc [.ref (A (mb o)), .int (nI m), .int d] (cW A tc σ) (some (.int (frC (σ o) m d))) (cW A tc σ) := by
  refine Ok_of RX1 rfl (by decide) [some (.ref (A (mb o))), some (.int (nI m)), some (.int d)] rfl (Nat.le_of_ble_eq_true rfl) ?_
  intro X hX
  refine V_ald0 dX1_freshOn_0 ?_
  refine V_get lf_X1_21 dX1_freshOn_1 (cW_mkt ho) rfl ?_
  refine V_ild1 dX1_freshOn_4 ?_
  refine V_ialdk dX1_freshOn_5 (cW_ma3 ho) ⟨hm, by decide⟩ ?_
  refine V_ald0 dX1_freshOn_6 ?_
  refine V_get lf_X1_27 dX1_freshOn_7 (cW_mkt ho) rfl ?_
  refine V_ild1 dX1_freshOn_10 ?_
  refine V_ialdk dX1_freshOn_11 (cW_ma5 ho) ⟨hm, by decide⟩ ?_
  refine V_ald0 dX1_freshOn_12 ?_
  refine V_get lf_X1_30 dX1_freshOn_13 (cW_mkt ho) rfl ?_
  refine V_ild1 dX1_freshOn_16 ?_
  refine V_ialdk dX1_freshOn_17 (cW_ma6 ho) ⟨hm, by decide⟩ ?_
  refine V_ild2 dX1_freshOn_18 ?_
  refine V_callN ln_X1_72 (ok_freshBy _ _ _ _) dX1_freshOn_19 (dep hX (by decide)) rfl (Nat.le_of_ble_eq_true rfl) ?_
  exact V_iret hX dX1_freshOn_22 rfl rfl rfl
set_option maxRecDepth 100000 in
set_option maxHeartbeats 4000000 in
theorem ok_priceOf (ho : o = 5 ∨ o = 6) (m : Nat) (hm : m < 6) : Ok 2 yX1_priceOf cX1_priceOf 2 (some .int) D tc [.ref (A (mb o)), .int (nI m)] (cW A tc σ) (some (.int (prC (σ o) m))) (cW A tc σ) := by
  refine Ok_of RX1 rfl (by decide) [some (.ref (A (mb o))), some (.int (nI m))] rfl (Nat.le_of_ble_eq_true rfl) ?_
  intro X hX
  refine V_ald0 dX1_priceOf_0 ?_
  refine V_get lf_X1_33 dX1_priceOf_1 (cW_mkt ho) rfl ?_
  refine V_ald0 dX1_priceOf_4 ?_
  refine V_ild1 dX1_priceOf_5 ?_
  refine V_ald0 dX1_priceOf_6 ?_
  refine V_get lf_X1_37 dX1_priceOf_7 (cW_mkt ho) rfl ?_
  refine V_callV lm_X1_76 (ok_freshOn ho m hm _) dX1_priceOf_10 (cW_mkt ho) rfl (dep hX (by decide)) rfl (Nat.le_of_ble_eq_true rfl) ?_
  refine V_imul dX1_priceOf_13 ?_
  exact V_iret hX dX1_priceOf_14 rfl rfl rfl
end
end
section
theorem set_self {ws : va_W} {q0 : Nat} {x : Nat × va_E} (h : ws[q0]? = some x) : ws.set q0 x = ws := by
  obtain ⟨h1, h2⟩ := List.getElem?_eq_some_iff.mp h
  rw [← h2]
  exact List.set_getElem_self h1
theorem set_get {ws : va_W} {q0 : Nat} {x y : Nat × va_E} (h : ws[q0]? = some x) : (ws.set q0 y)[q0]? = some y := by
  have := (List.getElem?_eq_some_iff.mp h).1
  simp [this]
theorem set_set' {ws : va_W} {q0 : Nat} {x y : Nat × va_E} : (ws.set q0 x).set q0 y = ws.set q0 y := by simp
section
variable {D : va_G} {tc : Tc} {ws : va_W}
set_option maxRecDepth 100000 in
set_option maxHeartbeats 4000000 in
theorem ok_fill {q0 a n : Nat} {f : Nat → Int32} (he : ws[q0]? = some (a, .inl (tc.1, n, .inl f))) (hn : n < 2 ^ 31) (v : Int32) : Ok 0 yJ7_fill_53178 cJ7_fill_53178 4 none D tc [.ref a, .int v] ws none (ws.set q0 (a, .inl (tc.1, n, .inl (fillN f v n)))) := by
  refine Ok_of RJ7 rfl (by decide) [some (.ref a), some (.int v), none, none] rfl (Nat.le_of_ble_eq_true rfl) ?_
  intro X hX
  have lpS : ∀ k, k < n → V X D tc cJ7_fill_53178 RJ7 4 5 ((fun k => [some (.ref a), some (.int v), some (.int (nI k)), some (.int (nI n))]) (k + 1)) [] ((fun k => ws.set q0 (a, .inl (tc.1, n, .inl (fillN f v k)))) (k + 1)) → V X D tc cJ7_fill_53178 RJ7 4 5 ((fun k => [some (.ref a), some (.int v), some (.int (nI k)), some (.int (nI n))]) k) [] ((fun k => ws.set q0 (a, .inl (tc.1, n, .inl (fillN f v k)))) k) := by
    intro k hk ihlp
    refine V_ild2 dJ7_fill_53178_5 ?_
    refine V_ild3 dJ7_fill_53178_6 ?_
    refine V_icmp_ge 20 dJ7_fill_53178_7 (by decide) (fun c7 => ?_) (fun c7 => ?_)
    · exact absurd c7 (ge_no rfl hk hn)
    · refine V_ald0 dJ7_fill_53178_10 ?_
      refine V_ild2 dJ7_fill_53178_11 ?_
      refine V_ild1 dJ7_fill_53178_12 ?_
      refine V_iastk dJ7_fill_53178_13 (set_get he) ⟨hk, hn⟩ set_set' ?_
      refine V_inc2 (nI (k + 1)) dJ7_fill_53178_14 (nI_inc k) rfl (by decide) ?_
      refine V_goto 5 dJ7_fill_53178_17 (by decide) ?_
      refine V_eq rfl rfl (by rw [fillN_s]) ihlp
  have lpE : V X D tc cJ7_fill_53178 RJ7 4 5 ((fun k => [some (.ref a), some (.int v), some (.int (nI k)), some (.int (nI n))]) (n)) [] ((fun k => ws.set q0 (a, .inl (tc.1, n, .inl (fillN f v k)))) (n)) := by
    refine V_ild2 dJ7_fill_53178_5 ?_
    refine V_ild3 dJ7_fill_53178_6 ?_
    refine V_icmp_ge 20 dJ7_fill_53178_7 (by decide) (fun c7 => ?_) (fun c7 => ?_)
    · exact V_vret hX dJ7_fill_53178_20 rfl rfl rfl
    · exact absurd (ge_yes rfl) c7
  have lp := V_for (fun k => [some (.ref a), some (.int v), some (.int (nI k)), some (.int (nI n))]) (fun k => ws.set q0 (a, .inl (tc.1, n, .inl (fillN f v k)))) (n) lpS lpE
  refine V_iconst 0 dJ7_fill_53178_0 (by decide) ?_
  refine V_ist2 dJ7_fill_53178_1 rfl (by decide) ?_
  refine V_ald0 dJ7_fill_53178_2 ?_
  refine V_alen dJ7_fill_53178_3 he ?_
  refine V_ist3 dJ7_fill_53178_4 rfl (by decide) ?_
  have h0 := lp 0 (Nat.zero_le _)
  refine V_eq rfl rfl ?_ h0
  show ws = ws.set q0 _
  rw [fillN_0]
  exact (set_self he).symm
end
end
section
/-! what selling and opening do -/
def hoC (σ : St) (o m p q : Nat) : St := up (up (up σ o 0 p (σ o 0 p - prC (σ o) m)) o 0 q (up σ o 0 p (σ o 0 p - prC (σ o) m) o 0 q + prC (σ o) m)) o 4 m (nI p)
def gaC (σ : St) (o m q : Nat) : Int32 := if otC (σ o) q = 0 then frC (σ o) m (σ o 8 0) else frC (σ o) m (σ o 8 0) / 2
def unC (σ : St) (o m q : Nat) : St := up (up (up σ o 1 q (σ o 1 q + gaC σ o m q)) o 2 q (σ o 8 0)) o 11 0 (σ o 11 0 ||| oneI m)
abbrev isP (n x : Int32) : Prop := ¬ x < 0 ∧ x < n
abbrev csC (σ : St) (o m : Nat) (p : Int32) : Prop := isP (σ o 9 0) p ∧ ¬ bitI (σ o 11 0) (nI m) ∧ ¬ σ o 4 m = p ∧ ¬ σ o 0 p.toNatClampNeg < prC (σ o) m
theorem isP_of {n x : Int32} {P : Nat} (hn : n = nI P) (hP : P < 2 ^ 31) (h : isP n x) : ∃ k, k < P ∧ x = nI k := by
  obtain ⟨j, hj, e⟩ := nI_of h.1
  refine ⟨j, ?_, e⟩
  have := h.2
  rw [e, hn, nI_ltI hj hP] at this
  exact this
section
variable {D : va_G} {tc : Tc} {A : Nat → Nat} {σ : St} {o M P : Nat}
set_option maxRecDepth 100000 in
set_option maxHeartbeats 4000000 in
theorem ok_priceOfSet (ho : o = 5 ∨ o = 6) (hM : σ o 10 0 = nI M) (h6 : M ≤ 6) (s : Int32) : Ok 3 yX1_priceOfSet cX1_priceOfSet 4 (some .int) D tc [.ref (A (mb o)), .int s] (cW A tc σ) (some (.int (psC (σ o) s M))) (cW A tc σ) := by
  refine Ok_of RX1 rfl (by decide) [some (.ref (A (mb o))), some (.int s), none, none] rfl (Nat.le_of_ble_eq_true rfl) ?_
  intro X hX
  have lpS : ∀ k, k < M → V X D tc cX1_priceOfSet RX1 4 4 ((fun k => [some (.ref (A (mb o))), some (.int s), some (.int (psC (σ o) s k)), some (.int (nI k))]) (k + 1)) [] ((fun k => cW A tc σ) (k + 1)) → V X D tc cX1_priceOfSet RX1 4 4 ((fun k => [some (.ref (A (mb o))), some (.int s), some (.int (psC (σ o) s k)), some (.int (nI k))]) k) [] ((fun k => cW A tc σ) k) := by
    intro k hk ihlp
    refine V_ild3 dX1_priceOfSet_4 ?_
    refine V_ald0 dX1_priceOfSet_5 ?_
    refine V_get lf_X1_43 dX1_priceOfSet_6 (cW_mkt ho) rfl ?_
    refine V_icmp_ge 34 dX1_priceOfSet_9 (by decide) (fun c9 => ?_) (fun c9 => ?_)
    · exact absurd c9 (ge_no hM hk (by omega))
    · refine V_ild1 dX1_priceOfSet_12 ?_
      refine V_ild3 dX1_priceOfSet_13 ?_
      refine V_callN ln_X1_64 (ok_isIn _ _) dX1_priceOfSet_14 (dep hX (by decide)) rfl (Nat.le_of_ble_eq_true rfl) ?_
      refine V_if_eq 28 dX1_priceOfSet_17 (by decide) (fun c17 => ?_) (fun c17 => ?_)
      · try rw [b2i_eq] at c17
        try rw [Decidable.not_not] at c17
        refine V_inc3 (nI (k + 1)) dX1_priceOfSet_28 (nI_inc k) rfl (by decide) ?_
        refine V_goto 4 dX1_priceOfSet_31 (by decide) ?_
        refine V_eq ?_ rfl rfl ihlp
        simp [psC, c17]
      · try rw [b2i_ne] at c17
        try rw [Decidable.not_not] at c17
        refine V_ild2 dX1_priceOfSet_20 ?_
        refine V_ald0 dX1_priceOfSet_21 ?_
        refine V_ild3 dX1_priceOfSet_22 ?_
        refine V_callV lm_X1_80 (ok_priceOf ho k (by omega)) dX1_priceOfSet_23 (cW_mkt ho) rfl (dep hX (by decide)) rfl (Nat.le_of_ble_eq_true rfl) ?_
        refine V_iadd dX1_priceOfSet_26 ?_
        refine V_ist2 dX1_priceOfSet_27 rfl (by decide) ?_
        refine V_inc3 (nI (k + 1)) dX1_priceOfSet_28 (nI_inc k) rfl (by decide) ?_
        refine V_goto 4 dX1_priceOfSet_31 (by decide) ?_
        refine V_eq ?_ rfl rfl ihlp
        simp [psC, c17]
  have lpE : V X D tc cX1_priceOfSet RX1 4 4 ((fun k => [some (.ref (A (mb o))), some (.int s), some (.int (psC (σ o) s k)), some (.int (nI k))]) (M)) [] ((fun k => cW A tc σ) (M)) := by
    refine V_ild3 dX1_priceOfSet_4 ?_
    refine V_ald0 dX1_priceOfSet_5 ?_
    refine V_get lf_X1_43 dX1_priceOfSet_6 (cW_mkt ho) rfl ?_
    refine V_icmp_ge 34 dX1_priceOfSet_9 (by decide) (fun c9 => ?_) (fun c9 => ?_)
    · refine V_ild2 dX1_priceOfSet_34 ?_
      exact V_iret hX dX1_priceOfSet_35 rfl rfl rfl
    · exact absurd (ge_yes hM) c9
  have lp := V_for (fun k => [some (.ref (A (mb o))), some (.int s), some (.int (psC (σ o) s k)), some (.int (nI k))]) (fun k => cW A tc σ) (M) lpS lpE
  refine V_iconst 0 dX1_priceOfSet_0 (by decide) ?_
  refine V_ist2 dX1_priceOfSet_1 rfl (by decide) ?_
  refine V_iconst 0 dX1_priceOfSet_2 (by decide) ?_
  refine V_ist3 dX1_priceOfSet_3 rfl (by decide) ?_
  exact lp 0 (Nat.zero_le _)
set_option maxRecDepth 100000 in
set_option maxHeartbeats 4000000 in
theorem ok_joyOfAll (ho : o = 5 ∨ o = 6) (hP : σ o 9 0 = nI P) (h4 : P ≤ 4) : Ok 0 yX1_joyOfAll cX1_joyOfAll 3 (some .int) D tc [.ref (A (mb o))] (cW A tc σ) (some (.int (jaC (σ o) P))) (cW A tc σ) := by
  refine Ok_of RX1 rfl (by decide) [some (.ref (A (mb o))), none, none] rfl (Nat.le_of_ble_eq_true rfl) ?_
  intro X hX
  have lpS : ∀ k, k < P → V X D tc cX1_joyOfAll RX1 3 4 ((fun k => [some (.ref (A (mb o))), some (.int (jaC (σ o) k)), some (.int (nI k))]) (k + 1)) [] ((fun k => cW A tc σ) (k + 1)) → V X D tc cX1_joyOfAll RX1 3 4 ((fun k => [some (.ref (A (mb o))), some (.int (jaC (σ o) k)), some (.int (nI k))]) k) [] ((fun k => cW A tc σ) k) := by
    intro k hk ihlp
    refine V_ild2 dX1_joyOfAll_4 ?_
    refine V_ald0 dX1_joyOfAll_5 ?_
    refine V_get lf_X1_40 dX1_joyOfAll_6 (cW_mkt ho) rfl ?_
    refine V_icmp_ge 27 dX1_joyOfAll_9 (by decide) (fun c9 => ?_) (fun c9 => ?_)
    · exact absurd c9 (ge_no hP hk (by omega))
    · refine V_ild1 dX1_joyOfAll_12 ?_
      refine V_ald0 dX1_joyOfAll_13 ?_
      refine V_get lf_X1_15 dX1_joyOfAll_14 (cW_mkt ho) rfl ?_
      refine V_ild2 dX1_joyOfAll_17 ?_
      refine V_ialdk dX1_joyOfAll_18 (cW_ma1 ho) ⟨by omega, by decide⟩ ?_
      refine V_iadd dX1_joyOfAll_19 ?_
      refine V_ist1 dX1_joyOfAll_20 rfl (by decide) ?_
      refine V_inc2 (nI (k + 1)) dX1_joyOfAll_21 (nI_inc k) rfl (by decide) ?_
      refine V_goto 4 dX1_joyOfAll_24 (by decide) ?_
      refine V_eq ?_ rfl rfl ihlp
      simp [jaC]
  have lpE : V X D tc cX1_joyOfAll RX1 3 4 ((fun k => [some (.ref (A (mb o))), some (.int (jaC (σ o) k)), some (.int (nI k))]) (P)) [] ((fun k => cW A tc σ) (P)) := by
    refine V_ild2 dX1_joyOfAll_4 ?_
    refine V_ald0 dX1_joyOfAll_5 ?_
    refine V_get lf_X1_40 dX1_joyOfAll_6 (cW_mkt ho) rfl ?_
    refine V_icmp_ge 27 dX1_joyOfAll_9 (by decide) (fun c9 => ?_) (fun c9 => ?_)
    · refine V_ild1 dX1_joyOfAll_27 ?_
      exact V_iret hX dX1_joyOfAll_28 rfl rfl rfl
    · exact absurd (ge_yes hP) c9
  have lp := V_for (fun k => [some (.ref (A (mb o))), some (.int (jaC (σ o) k)), some (.int (nI k))]) (fun k => cW A tc σ) (P) lpS lpE
  refine V_iconst 0 dX1_joyOfAll_0 (by decide) ?_
  refine V_ist1 dX1_joyOfAll_1 rfl (by decide) ?_
  refine V_iconst 0 dX1_joyOfAll_2 (by decide) ?_
  refine V_ist2 dX1_joyOfAll_3 rfl (by decide) ?_
  exact lp 0 (Nat.zero_le _)
set_option maxRecDepth 100000 in
set_option maxHeartbeats 4000000 in
theorem ok_joyOfSet (ho : o = 5 ∨ o = 6) (hM : σ o 10 0 = nI M) (h6 : M ≤ 6) (s d b : Int32) : Ok 2 yX1_joyOfSet cX1_joyOfSet 8 (some .int) D tc [.ref (A (mb o)), .int s, .int d, .int b] (cW A tc σ) (some (.int (jsC (σ o) s d b M))) (cW A tc σ) := by
  refine Ok_of RX1 rfl (by decide) [some (.ref (A (mb o))), some (.int s), some (.int d), some (.int b), none, none, none, none] rfl (Nat.le_of_ble_eq_true rfl) ?_
  intro X hX
  have lpS : ∀ k, k < M → V X D tc cX1_joyOfSet RX1 8 9 ((fun k => [some (.ref (A (mb o))), some (.int s), some (.int d), some (.int b), some (.int (haC (σ o) s d k)), some (.int (fmC (σ o) s d k)), some (.int (nI k)), none]) (k + 1)) [] ((fun k => cW A tc σ) (k + 1)) → V X D tc cX1_joyOfSet RX1 8 9 ((fun k => [some (.ref (A (mb o))), some (.int s), some (.int d), some (.int b), some (.int (haC (σ o) s d k)), some (.int (fmC (σ o) s d k)), some (.int (nI k)), none]) k) [] ((fun k => cW A tc σ) k) := by
    intro k hk ihlp
    refine V_ild6 dX1_joyOfSet_9 ?_
    refine V_ald0 dX1_joyOfSet_11 ?_
    refine V_get lf_X1_43 dX1_joyOfSet_12 (cW_mkt ho) rfl ?_
    refine V_icmp_ge 62 dX1_joyOfSet_15 (by decide) (fun c15 => ?_) (fun c15 => ?_)
    · exact absurd c15 (ge_no hM hk (by omega))
    · refine V_ild1 dX1_joyOfSet_18 ?_
      refine V_ild6 dX1_joyOfSet_19 ?_
      refine V_callN ln_X1_64 (ok_isIn _ _) dX1_joyOfSet_21 (dep hX (by decide)) rfl (Nat.le_of_ble_eq_true rfl) ?_
      refine V_if_eq 56 dX1_joyOfSet_24 (by decide) (fun c24 => ?_) (fun c24 => ?_)
      · try rw [b2i_eq] at c24
        try rw [Decidable.not_not] at c24
        refine V_inc6 (nI (k + 1)) dX1_joyOfSet_56 (nI_inc k) rfl (by decide) ?_
        refine V_goto 9 dX1_joyOfSet_59 (by decide) ?_
        refine V_dr7 ?_
        refine V_eq ?_ rfl rfl ihlp
        simp [haC, fmC, *]
      · try rw [b2i_ne] at c24
        try rw [Decidable.not_not] at c24
        refine V_ald0 dX1_joyOfSet_27 ?_
        refine V_ild6 dX1_joyOfSet_28 ?_
        refine V_ild2 dX1_joyOfSet_30 ?_
        refine V_callV lm_X1_76 (ok_freshOn ho k (by omega) _) dX1_joyOfSet_31 (cW_mkt ho) rfl (dep hX (by decide)) rfl (Nat.le_of_ble_eq_true rfl) ?_
        refine V_ist7 dX1_joyOfSet_34 rfl (by decide) ?_
        refine V_ild4 dX1_joyOfSet_36 ?_
        refine V_ild7 dX1_joyOfSet_38 ?_
        refine V_iconst 2 dX1_joyOfSet_40 (by decide) ?_
        refine V_idiv dX1_joyOfSet_41 (by decide) ?_
        refine V_iadd dX1_joyOfSet_42 ?_
        refine V_ist4 dX1_joyOfSet_43 rfl (by decide) ?_
        refine V_ild7 dX1_joyOfSet_45 ?_
        refine V_ild5 dX1_joyOfSet_47 ?_
        refine V_icmp_le 56 dX1_joyOfSet_49 (by decide) (fun c49 => ?_) (fun c49 => ?_)
        · refine V_inc6 (nI (k + 1)) dX1_joyOfSet_56 (nI_inc k) rfl (by decide) ?_
          refine V_goto 9 dX1_joyOfSet_59 (by decide) ?_
          refine V_dr7 ?_
          refine V_eq ?_ rfl rfl ihlp
          simp [haC, fmC, *]
        · refine V_ild7 dX1_joyOfSet_52 ?_
          refine V_ist5 dX1_joyOfSet_54 rfl (by decide) ?_
          refine V_inc6 (nI (k + 1)) dX1_joyOfSet_56 (nI_inc k) rfl (by decide) ?_
          refine V_goto 9 dX1_joyOfSet_59 (by decide) ?_
          refine V_dr7 ?_
          refine V_eq ?_ rfl rfl ihlp
          simp [haC, fmC, *]
  have lpE : V X D tc cX1_joyOfSet RX1 8 9 ((fun k => [some (.ref (A (mb o))), some (.int s), some (.int d), some (.int b), some (.int (haC (σ o) s d k)), some (.int (fmC (σ o) s d k)), some (.int (nI k)), none]) (M)) [] ((fun k => cW A tc σ) (M)) := by
    refine V_ild6 dX1_joyOfSet_9 ?_
    refine V_ald0 dX1_joyOfSet_11 ?_
    refine V_get lf_X1_43 dX1_joyOfSet_12 (cW_mkt ho) rfl ?_
    refine V_icmp_ge 62 dX1_joyOfSet_15 (by decide) (fun c15 => ?_) (fun c15 => ?_)
    · refine V_ild3 dX1_joyOfSet_62 ?_
      refine V_if_eq 71 dX1_joyOfSet_63 (by decide) (fun c63 => ?_) (fun c63 => ?_)
      · refine V_ild4 dX1_joyOfSet_71 ?_
        refine V_ild5 dX1_joyOfSet_73 ?_
        refine V_iconst 2 dX1_joyOfSet_75 (by decide) ?_
        refine V_idiv dX1_joyOfSet_76 (by decide) ?_
        refine V_isub dX1_joyOfSet_77 ?_
        refine V_ild5 dX1_joyOfSet_78 ?_
        refine V_iadd dX1_joyOfSet_80 ?_
        exact V_iret hX dX1_joyOfSet_81 rfl (by simp [jsC, *]) rfl
      · refine V_ild4 dX1_joyOfSet_66 ?_
        refine V_goto 81 dX1_joyOfSet_68 (by decide) ?_
        exact V_iret hX dX1_joyOfSet_81 rfl (by simp [jsC, *]) rfl
    · exact absurd (ge_yes hM) c15
  have lp := V_for (fun k => [some (.ref (A (mb o))), some (.int s), some (.int d), some (.int b), some (.int (haC (σ o) s d k)), some (.int (fmC (σ o) s d k)), some (.int (nI k)), none]) (fun k => cW A tc σ) (M) lpS lpE
  refine V_iconst 0 dX1_joyOfSet_0 (by decide) ?_
  refine V_ist4 dX1_joyOfSet_1 rfl (by decide) ?_
  refine V_iconst 0 dX1_joyOfSet_3 (by decide) ?_
  refine V_ist5 dX1_joyOfSet_4 rfl (by decide) ?_
  refine V_iconst 0 dX1_joyOfSet_6 (by decide) ?_
  refine V_ist6 dX1_joyOfSet_7 rfl (by decide) ?_
  exact lp 0 (Nat.zero_le _)
set_option maxRecDepth 100000 in
set_option maxHeartbeats 4000000 in
theorem ok_feastWith (ho : o = 5 ∨ o = 6) (hM : σ o 10 0 = nI M) (h6 : M ≤ 6) (p : Nat) (hp : p < 4) (s : Int32) : Ok 3 yX1_feastWith cX1_feastWith 3 (some .int) D tc [.ref (A (mb o)), .int (nI p), .int s] (cW A tc σ) (some (.int (feC (σ o) p s M))) (cW A tc σ) := by
  refine Ok_of RX1 rfl (by decide) [some (.ref (A (mb o))), some (.int (nI p)), some (.int s)] rfl (Nat.le_of_ble_eq_true rfl) ?_
  intro X hX
  refine V_ald0 dX1_feastWith_0 ?_
  refine V_ild2 dX1_feastWith_1 ?_
  refine V_ald0 dX1_feastWith_2 ?_
  refine V_get lf_X1_37 dX1_feastWith_3 (cW_mkt ho) rfl ?_
  refine V_ald0 dX1_feastWith_6 ?_
  refine V_ild1 dX1_feastWith_7 ?_
  refine V_callV lm_X1_84 (ok_openedToday ho p hp) dX1_feastWith_8 (cW_mkt ho) rfl (dep hX (by decide)) rfl (Nat.le_of_ble_eq_true rfl) ?_
  refine V_callV lm_X1_87 (ok_joyOfSet ho hM h6 _ _ _) dX1_feastWith_11 (cW_mkt ho) rfl (dep hX (by decide)) rfl (Nat.le_of_ble_eq_true rfl) ?_
  exact V_iret hX dX1_feastWith_14 rfl rfl rfl
set_option maxRecDepth 100000 in
set_option maxHeartbeats 4000000 in
theorem ok_canGoBy (ho : o = 5 ∨ o = 6) (n : Int32) : Ok 0 yX1_canGoBy cX1_canGoBy 2 (some .boolean) D tc [.ref (A (mb o)), .int n] (cW A tc σ) (some (.int (b2i (¬ 99 < σ o 8 0 + n)))) (cW A tc σ) := by
  refine Ok_of RX1 rfl (by decide) [some (.ref (A (mb o))), some (.int n)] rfl (Nat.le_of_ble_eq_true rfl) ?_
  intro X hX
  refine V_ald0 dX1_canGoBy_0 ?_
  refine V_get lf_X1_37 dX1_canGoBy_1 (cW_mkt ho) rfl ?_
  refine V_ild1 dX1_canGoBy_4 ?_
  refine V_iadd dX1_canGoBy_5 ?_
  refine V_bipush 99 dX1_canGoBy_6 (by decide) ?_
  refine V_icmp_gt 15 dX1_canGoBy_8 (by decide) (fun c8 => ?_) (fun c8 => ?_)
  · refine V_iconst 0 dX1_canGoBy_15 (by decide) ?_
    exact V_zret hX dX1_canGoBy_16 rfl (by first | exact Or.inl rfl | exact Or.inr rfl) (by simp [b2i, *]) rfl
  · refine V_iconst 1 dX1_canGoBy_11 (by decide) ?_
    refine V_goto 16 dX1_canGoBy_12 (by decide) ?_
    exact V_zret hX dX1_canGoBy_16 rfl (by first | exact Or.inl rfl | exact Or.inr rfl) (by simp [b2i, *]) rfl
set_option maxRecDepth 100000 in
set_option maxHeartbeats 4000000 in
theorem ok_canBeSold (ho : o = 5 ∨ o = 6) (hP : σ o 9 0 = nI P) (h4 : P ≤ 4) (m : Nat) (hm : m < 6) (p : Int32) : Ok 3 yX1_canBeSold cX1_canBeSold 3 (some .boolean) D tc [.ref (A (mb o)), .int (nI m), .int p] (cW A tc σ) (some (.int (b2i (csC σ o m p)))) (cW A tc σ) := by
  refine Ok_of RX1 rfl (by decide) [some (.ref (A (mb o))), some (.int (nI m)), some (.int p)] rfl (Nat.le_of_ble_eq_true rfl) ?_
  intro X hX
  refine V_ald0 dX1_canBeSold_0 ?_
  refine V_ild2 dX1_canBeSold_1 ?_
  refine V_callV lm_X1_91 (ok_isPerson ho _) dX1_canBeSold_2 (cW_mkt ho) rfl (dep hX (by decide)) rfl (Nat.le_of_ble_eq_true rfl) ?_
  refine V_if_eq 44 dX1_canBeSold_5 (by decide) (fun c5 => ?_) (fun c5 => ?_)
  · try rw [b2i_eq] at c5
    try rw [Decidable.not_not] at c5
    have hf : ¬ csC σ o m p := fun h => c5 h.1
    refine V_iconst 0 dX1_canBeSold_44 (by decide) ?_
    exact V_zret hX dX1_canBeSold_45 rfl (by first | exact Or.inl rfl | exact Or.inr rfl) (by first | rw [b2i_f hf] | rw [b2i_t ht]) rfl
  · try rw [b2i_ne] at c5
    try rw [Decidable.not_not] at c5
    obtain ⟨j, hj, hpj⟩ := isP_of hP (by omega) c5
    subst hpj
    refine V_ald0 dX1_canBeSold_8 ?_
    refine V_ild1 dX1_canBeSold_9 ?_
    refine V_callV lm_X1_68 (ok_isOpened ho _) dX1_canBeSold_10 (cW_mkt ho) rfl (dep hX (by decide)) rfl (Nat.le_of_ble_eq_true rfl) ?_
    refine V_if_ne 44 dX1_canBeSold_13 (by decide) (fun c13 => ?_) (fun c13 => ?_)
    · try rw [b2i_ne] at c13
      try rw [Decidable.not_not] at c13
      have hf : ¬ csC σ o m (nI j) := fun h => h.2.1 c13
      refine V_iconst 0 dX1_canBeSold_44 (by decide) ?_
      exact V_zret hX dX1_canBeSold_45 rfl (by first | exact Or.inl rfl | exact Or.inr rfl) (by first | rw [b2i_f hf] | rw [b2i_t ht]) rfl
    · try rw [b2i_eq] at c13
      try rw [Decidable.not_not] at c13
      refine V_ald0 dX1_canBeSold_16 ?_
      refine V_get lf_X1_24 dX1_canBeSold_17 (cW_mkt ho) rfl ?_
      refine V_ild1 dX1_canBeSold_20 ?_
      refine V_ialdk dX1_canBeSold_21 (cW_ma4 ho) ⟨hm, by decide⟩ ?_
      refine V_ild2 dX1_canBeSold_22 ?_
      refine V_icmp_eq 44 dX1_canBeSold_23 (by decide) (fun c23 => ?_) (fun c23 => ?_)
      · have hf : ¬ csC σ o m (nI j) := fun h => h.2.2.1 c23
        refine V_iconst 0 dX1_canBeSold_44 (by decide) ?_
        exact V_zret hX dX1_canBeSold_45 rfl (by first | exact Or.inl rfl | exact Or.inr rfl) (by first | rw [b2i_f hf] | rw [b2i_t ht]) rfl
      · refine V_ald0 dX1_canBeSold_26 ?_
        refine V_ild1 dX1_canBeSold_27 ?_
        refine V_callV lm_X1_80 (ok_priceOf ho m hm) dX1_canBeSold_28 (cW_mkt ho) rfl (dep hX (by decide)) rfl (Nat.le_of_ble_eq_true rfl) ?_
        refine V_ald0 dX1_canBeSold_31 ?_
        refine V_get lf_X1_9 dX1_canBeSold_32 (cW_mkt ho) rfl ?_
        refine V_ild2 dX1_canBeSold_35 ?_
        refine V_ialdk dX1_canBeSold_36 (cW_ma0 ho) ⟨by omega, by decide⟩ ?_
        refine V_icmp_gt 44 dX1_canBeSold_37 (by decide) (fun c37 => ?_) (fun c37 => ?_)
        · have hf : ¬ csC σ o m (nI j) := fun h => h.2.2.2 (by rw [nI_clamp (by omega)]; exact c37)
          refine V_iconst 0 dX1_canBeSold_44 (by decide) ?_
          exact V_zret hX dX1_canBeSold_45 rfl (by first | exact Or.inl rfl | exact Or.inr rfl) (by first | rw [b2i_f hf] | rw [b2i_t ht]) rfl
        · have ht : csC σ o m (nI j) := ⟨c5, c13, c23, by rw [nI_clamp (by omega)]; exact c37⟩
          refine V_iconst 1 dX1_canBeSold_40 (by decide) ?_
          refine V_goto 45 dX1_canBeSold_41 (by decide) ?_
          exact V_zret hX dX1_canBeSold_45 rfl (by first | exact Or.inl rfl | exact Or.inr rfl) (by first | rw [b2i_f hf] | rw [b2i_t ht]) rfl
end
end
section
section
variable {D : va_G} {tc : Tc} {A : Nat → Nat} {σ : St} {o M P : Nat}
set_option maxRecDepth 100000 in
set_option maxHeartbeats 4000000 in
theorem ok_handOver (ho : o = 5 ∨ o = 6) (m p q : Nat) (hm : m < 6) (hp : p < 4) (hq4 : q < 4) (hq : σ o 4 m = nI q) : Ok 3 yX1_handOver cX1_handOver 4 (some .int) D tc [.ref (A (mb o)), .int (nI m), .int (nI p)] (cW A tc σ) (some (.int (prC (σ o) m))) (cW A tc (hoC σ o m p q)) := by
  refine Ok_of RX1 rfl (by decide) [some (.ref (A (mb o))), some (.int (nI m)), some (.int (nI p)), none] rfl (Nat.le_of_ble_eq_true rfl) ?_
  intro X hX
  refine V_ald0 dX1_handOver_0 ?_
  refine V_ild1 dX1_handOver_1 ?_
  refine V_callV lm_X1_80 (ok_priceOf ho m hm) dX1_handOver_2 (cW_mkt ho) rfl (dep hX (by decide)) rfl (Nat.le_of_ble_eq_true rfl) ?_
  refine V_ist3 dX1_handOver_5 rfl (by decide) ?_
  refine V_ald0 dX1_handOver_6 ?_
  refine V_get lf_X1_9 dX1_handOver_7 (cW_mkt ho) rfl ?_
  refine V_ild2 dX1_handOver_10 ?_
  refine V_dup2 dX1_handOver_11 ?_
  refine V_ialdk dX1_handOver_12 (cW_ma0 ho) ⟨hp, by decide⟩ ?_
  refine V_ild3 dX1_handOver_13 ?_
  refine V_isub dX1_handOver_14 ?_
  refine V_iastk dX1_handOver_15 (cW_ma0 ho) ⟨hp, by decide⟩ (cW_ma0s ho _ _) ?_
  refine V_ald0 dX1_handOver_16 ?_
  refine V_get lf_X1_9 dX1_handOver_17 (cW_mkt ho) rfl ?_
  refine V_ald0 dX1_handOver_20 ?_
  refine V_get lf_X1_24 dX1_handOver_21 (cW_mkt ho) rfl ?_
  refine V_ild1 dX1_handOver_24 ?_
  refine V_ialdk dX1_handOver_25 (cW_ma4 ho) ⟨hm, by decide⟩ ?_
  refine V_top (y := nI q) (by simp [up, hq]) ?_
  refine V_dup2 dX1_handOver_26 ?_
  refine V_ialdk dX1_handOver_27 (cW_ma0 ho) ⟨hq4, by decide⟩ ?_
  refine V_ild3 dX1_handOver_28 ?_
  refine V_iadd dX1_handOver_29 ?_
  refine V_iastk dX1_handOver_30 (cW_ma0 ho) ⟨hq4, by decide⟩ (cW_ma0s ho _ _) ?_
  refine V_ald0 dX1_handOver_31 ?_
  refine V_get lf_X1_24 dX1_handOver_32 (cW_mkt ho) rfl ?_
  refine V_ild1 dX1_handOver_35 ?_
  refine V_ild2 dX1_handOver_36 ?_
  refine V_iastk dX1_handOver_37 (cW_ma4 ho) ⟨hm, by decide⟩ (cW_ma4s ho _ _) ?_
  refine V_ild3 dX1_handOver_38 ?_
  exact V_iret hX dX1_handOver_39 rfl rfl rfl
set_option maxRecDepth 100000 in
set_option maxHeartbeats 4000000 in
theorem ok_unseal (ho : o = 5 ∨ o = 6) (m q : Nat) (hm : m < 6) (hq4 : q < 4) (hq : σ o 4 m = nI q) : Ok 2 yX1_unseal cX1_unseal 5 (some .int) D tc [.ref (A (mb o)), .int (nI m)] (cW A tc σ) (some (.int (gaC σ o m q))) (cW A tc (unC σ o m q)) := by
  refine Ok_of RX1 rfl (by decide) [some (.ref (A (mb o))), some (.int (nI m)), none, none, none] rfl (Nat.le_of_ble_eq_true rfl) ?_
  intro X hX
  refine V_ald0 dX1_unseal_0 ?_
  refine V_get lf_X1_24 dX1_unseal_1 (cW_mkt ho) rfl ?_
  refine V_ild1 dX1_unseal_4 ?_
  refine V_ialdk dX1_unseal_5 (cW_ma4 ho) ⟨hm, by decide⟩ ?_
  refine V_top (y := nI q) hq ?_
  refine V_ist2 dX1_unseal_6 rfl (by decide) ?_
  refine V_ald0 dX1_unseal_7 ?_
  refine V_ild1 dX1_unseal_8 ?_
  refine V_ald0 dX1_unseal_9 ?_
  refine V_get lf_X1_37 dX1_unseal_10 (cW_mkt ho) rfl ?_
  refine V_callV lm_X1_76 (ok_freshOn ho m hm _) dX1_unseal_13 (cW_mkt ho) rfl (dep hX (by decide)) rfl (Nat.le_of_ble_eq_true rfl) ?_
  refine V_ist3 dX1_unseal_16 rfl (by decide) ?_
  refine V_ald0 dX1_unseal_17 ?_
  refine V_ild2 dX1_unseal_18 ?_
  refine V_callV lm_X1_84 (ok_openedToday ho q hq4) dX1_unseal_19 (cW_mkt ho) rfl (dep hX (by decide)) rfl (Nat.le_of_ble_eq_true rfl) ?_
  refine V_if_eq 31 dX1_unseal_22 (by decide) (fun c22 => ?_) (fun c22 => ?_)
  · try rw [b2i_eq] at c22
    try rw [Decidable.not_not] at c22
    refine V_ild3 dX1_unseal_31 ?_
    refine V_top (y := gaC σ o m q) (by simp [gaC, c22]) ?_
    refine V_ist4 dX1_unseal_32 rfl (by decide) ?_
    refine V_ald0 dX1_unseal_34 ?_
    refine V_get lf_X1_15 dX1_unseal_35 (cW_mkt ho) rfl ?_
    refine V_ild2 dX1_unseal_38 ?_
    refine V_dup2 dX1_unseal_39 ?_
    refine V_ialdk dX1_unseal_40 (cW_ma1 ho) ⟨hq4, by decide⟩ ?_
    refine V_ild4 dX1_unseal_41 ?_
    refine V_iadd dX1_unseal_43 ?_
    refine V_iastk dX1_unseal_44 (cW_ma1 ho) ⟨hq4, by decide⟩ (cW_ma1s ho _ _) ?_
    refine V_ald0 dX1_unseal_45 ?_
    refine V_get lf_X1_18 dX1_unseal_46 (cW_mkt ho) rfl ?_
    refine V_ild2 dX1_unseal_49 ?_
    refine V_ald0 dX1_unseal_50 ?_
    refine V_get lf_X1_37 dX1_unseal_51 (cW_mkt ho) rfl ?_
    refine V_top (y := σ o 8 0) (by simp [up]) ?_
    refine V_iastk dX1_unseal_54 (cW_ma2 ho) ⟨hq4, by decide⟩ (cW_ma2s ho _ _) ?_
    refine V_ald0 dX1_unseal_55 ?_
    refine V_dupa dX1_unseal_56 ?_
    refine V_get lf_X1_46 dX1_unseal_57 (cW_mkt ho) rfl ?_
    refine V_top (y := σ o 11 0) (by simp [up]) ?_
    refine V_iconst 1 dX1_unseal_60 (by decide) ?_
    refine V_ild1 dX1_unseal_61 ?_
    refine V_ishl dX1_unseal_62 ?_
    refine V_ior dX1_unseal_63 ?_
    refine V_puti lp_X1_46 dX1_unseal_64 (cW_mkt ho) (Nat.le_of_ble_eq_true rfl) (cW_mktp11 ho _) ?_
    refine V_ild4 dX1_unseal_67 ?_
    exact V_iret hX dX1_unseal_69 rfl rfl rfl
  · try rw [b2i_ne] at c22
    try rw [Decidable.not_not] at c22
    refine V_ild3 dX1_unseal_25 ?_
    refine V_iconst 2 dX1_unseal_26 (by decide) ?_
    refine V_idiv dX1_unseal_27 (by decide) ?_
    refine V_goto 32 dX1_unseal_28 (by decide) ?_
    refine V_top (y := gaC σ o m q) (by simp [gaC, c22]) ?_
    refine V_ist4 dX1_unseal_32 rfl (by decide) ?_
    refine V_ald0 dX1_unseal_34 ?_
    refine V_get lf_X1_15 dX1_unseal_35 (cW_mkt ho) rfl ?_
    refine V_ild2 dX1_unseal_38 ?_
    refine V_dup2 dX1_unseal_39 ?_
    refine V_ialdk dX1_unseal_40 (cW_ma1 ho) ⟨hq4, by decide⟩ ?_
    refine V_ild4 dX1_unseal_41 ?_
    refine V_iadd dX1_unseal_43 ?_
    refine V_iastk dX1_unseal_44 (cW_ma1 ho) ⟨hq4, by decide⟩ (cW_ma1s ho _ _) ?_
    refine V_ald0 dX1_unseal_45 ?_
    refine V_get lf_X1_18 dX1_unseal_46 (cW_mkt ho) rfl ?_
    refine V_ild2 dX1_unseal_49 ?_
    refine V_ald0 dX1_unseal_50 ?_
    refine V_get lf_X1_37 dX1_unseal_51 (cW_mkt ho) rfl ?_
    refine V_top (y := σ o 8 0) (by simp [up]) ?_
    refine V_iastk dX1_unseal_54 (cW_ma2 ho) ⟨hq4, by decide⟩ (cW_ma2s ho _ _) ?_
    refine V_ald0 dX1_unseal_55 ?_
    refine V_dupa dX1_unseal_56 ?_
    refine V_get lf_X1_46 dX1_unseal_57 (cW_mkt ho) rfl ?_
    refine V_top (y := σ o 11 0) (by simp [up]) ?_
    refine V_iconst 1 dX1_unseal_60 (by decide) ?_
    refine V_ild1 dX1_unseal_61 ?_
    refine V_ishl dX1_unseal_62 ?_
    refine V_ior dX1_unseal_63 ?_
    refine V_puti lp_X1_46 dX1_unseal_64 (cW_mkt ho) (Nat.le_of_ble_eq_true rfl) (cW_mktp11 ho _) ?_
    refine V_ild4 dX1_unseal_67 ?_
    exact V_iret hX dX1_unseal_69 rfl rfl rfl
set_option maxRecDepth 100000 in
set_option maxHeartbeats 4000000 in
theorem ok_acts_sleep (ho : o = 5 ∨ o = 6) (n : Int32) : Ok 1 yX1_acts cX1_acts 3 (some .boolean) D tc [.ref (A (mb o)), .int n, .int 9] (cW A tc σ) (some (.int (b2i (¬ 99 < σ o 8 0 + n)))) (cW A tc (if 99 < σ o 8 0 + n then σ else up σ o 8 0 (σ o 8 0 + n))) := by
  refine Ok_of RX1 rfl (by decide) [some (.ref (A (mb o))), some (.int n), some (.int 9)] rfl (Nat.le_of_ble_eq_true rfl) ?_
  intro X hX
  refine V_ild2 dX1_acts_0 ?_
  refine V_bipush 9 dX1_acts_1 (by decide) ?_
  refine V_icmp_ne 29 dX1_acts_3 (by decide) (fun c3 => ?_) (fun c3 => ?_)
  · exact absurd rfl c3
  · refine V_ald0 dX1_acts_6 ?_
    refine V_ild1 dX1_acts_7 ?_
    refine V_callV lm_X1_94 (ok_canGoBy ho _) dX1_acts_8 (cW_mkt ho) rfl (dep hX (by decide)) rfl (Nat.le_of_ble_eq_true rfl) ?_
    refine V_if_ne 16 dX1_acts_11 (by decide) (fun c11 => ?_) (fun c11 => ?_)
    · try rw [b2i_ne] at c11
      try rw [Decidable.not_not] at c11
      refine V_ald0 dX1_acts_16 ?_
      refine V_dupa dX1_acts_17 ?_
      refine V_get lf_X1_37 dX1_acts_18 (cW_mkt ho) rfl ?_
      refine V_ild1 dX1_acts_21 ?_
      refine V_iadd dX1_acts_22 ?_
      refine V_puti lp_X1_37 dX1_acts_23 (cW_mkt ho) (Nat.le_of_ble_eq_true rfl) (cW_mktp8 ho _) ?_
      refine V_goto 72 dX1_acts_26 (by decide) ?_
      refine V_iconst 1 dX1_acts_72 (by decide) ?_
      exact V_zret hX dX1_acts_73 rfl (by first | exact Or.inl rfl | exact Or.inr rfl) (by first | rw [b2i_t c11] | rw [b2i_f (fun h => h c11)]) (by first | rw [if_pos c11] | rw [if_neg c11])
    · try rw [b2i_eq] at c11
      try rw [Decidable.not_not] at c11
      refine V_iconst 0 dX1_acts_14 (by decide) ?_
      exact V_zret hX dX1_acts_15 rfl (by first | exact Or.inl rfl | exact Or.inr rfl) (by first | rw [b2i_t c11] | rw [b2i_f (fun h => h c11)]) (by first | rw [if_pos c11] | rw [if_neg c11])
set_option maxRecDepth 100000 in
set_option maxHeartbeats 4000000 in
theorem ok_acts_open (ho : o = 5 ∨ o = 6) (m q : Nat) (hm : m < 6) (hq4 : q < 4) (hq : σ o 4 m = nI q) : Ok 3 yX1_acts cX1_acts 3 (some .boolean) D tc [.ref (A (mb o)), .int (nI m), .int 8] (cW A tc σ) (some (.int (b2i (¬ bitI (σ o 11 0) (nI m))))) (cW A tc (if bitI (σ o 11 0) (nI m) then σ else unC σ o m q)) := by
  refine Ok_of RX1 rfl (by decide) [some (.ref (A (mb o))), some (.int (nI m)), some (.int 8)] rfl (Nat.le_of_ble_eq_true rfl) ?_
  intro X hX
  refine V_ild2 dX1_acts_0 ?_
  refine V_bipush 9 dX1_acts_1 (by decide) ?_
  refine V_icmp_ne 29 dX1_acts_3 (by decide) (fun c3 => ?_) (fun c3 => ?_)
  · refine V_ild2 dX1_acts_29 ?_
    refine V_bipush 8 dX1_acts_30 (by decide) ?_
    refine V_icmp_ne 54 dX1_acts_32 (by decide) (fun c32 => ?_) (fun c32 => ?_)
    · exact absurd rfl c32
    · refine V_ald0 dX1_acts_35 ?_
      refine V_ild1 dX1_acts_36 ?_
      refine V_callV lm_X1_68 (ok_isOpened ho _) dX1_acts_37 (cW_mkt ho) rfl (dep hX (by decide)) rfl (Nat.le_of_ble_eq_true rfl) ?_
      refine V_if_eq 45 dX1_acts_40 (by decide) (fun c40 => ?_) (fun c40 => ?_)
      · try rw [b2i_eq] at c40
        try rw [Decidable.not_not] at c40
        refine V_ald0 dX1_acts_45 ?_
        refine V_ild1 dX1_acts_46 ?_
        refine V_callV lm_X1_97 (ok_unseal ho m q hm hq4 hq) dX1_acts_47 (cW_mkt ho) rfl (dep hX (by decide)) rfl (Nat.le_of_ble_eq_true rfl) ?_
        refine V_popi dX1_acts_50 ?_
        refine V_goto 72 dX1_acts_51 (by decide) ?_
        refine V_iconst 1 dX1_acts_72 (by decide) ?_
        exact V_zret hX dX1_acts_73 rfl (by first | exact Or.inl rfl | exact Or.inr rfl) (by first | rw [b2i_t c40] | rw [b2i_f (fun h => h c40)]) (by first | rw [if_pos c40] | rw [if_neg c40])
      · try rw [b2i_ne] at c40
        try rw [Decidable.not_not] at c40
        refine V_iconst 0 dX1_acts_43 (by decide) ?_
        exact V_zret hX dX1_acts_44 rfl (by first | exact Or.inl rfl | exact Or.inr rfl) (by first | rw [b2i_t c40] | rw [b2i_f (fun h => h c40)]) (by first | rw [if_pos c40] | rw [if_neg c40])
  · exact absurd c3 (by decide)
set_option maxRecDepth 100000 in
set_option maxHeartbeats 4000000 in
theorem ok_acts_sell (ho : o = 5 ∨ o = 6) (hP : σ o 9 0 = nI P) (h4 : P ≤ 4) (m p q : Nat) (hm : m < 6) (hp : p < 4) (hq4 : q < 4) (hq : σ o 4 m = nI q) : Ok 4 yX1_acts cX1_acts 3 (some .boolean) D tc [.ref (A (mb o)), .int (nI m), .int (nI p)] (cW A tc σ) (some (.int (b2i (csC σ o m (nI p))))) (cW A tc (if csC σ o m (nI p) then hoC σ o m p q else σ)) := by
  refine Ok_of RX1 rfl (by decide) [some (.ref (A (mb o))), some (.int (nI m)), some (.int (nI p))] rfl (Nat.le_of_ble_eq_true rfl) ?_
  intro X hX
  refine V_ild2 dX1_acts_0 ?_
  refine V_bipush 9 dX1_acts_1 (by decide) ?_
  refine V_icmp_ne 29 dX1_acts_3 (by decide) (fun c3 => ?_) (fun c3 => ?_)
  · refine V_ild2 dX1_acts_29 ?_
    refine V_bipush 8 dX1_acts_30 (by decide) ?_
    refine V_icmp_ne 54 dX1_acts_32 (by decide) (fun c32 => ?_) (fun c32 => ?_)
    · refine V_ald0 dX1_acts_54 ?_
      refine V_ild1 dX1_acts_55 ?_
      refine V_ild2 dX1_acts_56 ?_
      refine V_callV lm_X1_100 (ok_canBeSold ho hP h4 m hm _) dX1_acts_57 (cW_mkt ho) rfl (dep hX (by decide)) rfl (Nat.le_of_ble_eq_true rfl) ?_
      refine V_if_ne 65 dX1_acts_60 (by decide) (fun c60 => ?_) (fun c60 => ?_)
      · try rw [b2i_ne] at c60
        try rw [Decidable.not_not] at c60
        refine V_ald0 dX1_acts_65 ?_
        refine V_ild1 dX1_acts_66 ?_
        refine V_ild2 dX1_acts_67 ?_
        refine V_callV lm_X1_103 (ok_handOver ho m p q hm hp hq4 hq) dX1_acts_68 (cW_mkt ho) rfl (dep hX (by decide)) rfl (Nat.le_of_ble_eq_true rfl) ?_
        refine V_popi dX1_acts_71 ?_
        refine V_iconst 1 dX1_acts_72 (by decide) ?_
        exact V_zret hX dX1_acts_73 rfl (by first | exact Or.inl rfl | exact Or.inr rfl) (by first | rw [b2i_t c60] | rw [b2i_f c60]) (by first | rw [if_pos c60] | rw [if_neg c60])
      · try rw [b2i_eq] at c60
        try rw [Decidable.not_not] at c60
        refine V_iconst 0 dX1_acts_63 (by decide) ?_
        exact V_zret hX dX1_acts_64 rfl (by first | exact Or.inl rfl | exact Or.inr rfl) (by first | rw [b2i_t c60] | rw [b2i_f c60]) (by first | rw [if_pos c60] | rw [if_neg c60])
    · exact absurd c32 (by rcases (show p = 0 ∨ p = 1 ∨ p = 2 ∨ p = 3 by omega) with rfl | rfl | rfl | rfl <;> decide)
  · exact absurd c3 (by rcases (show p = 0 ∨ p = 1 ∨ p = 2 ∨ p = 3 by omega) with rfl | rfl | rfl | rfl <;> decide)
theorem ok_fillM (ho : o = 5 ∨ o = 6) (v : Int32) : Ok 0 yJ7_fill_53178 cJ7_fill_53178 4 none D tc [.ref (A (mb o + 2)), .int v] (cW A tc σ) none (cW A tc (upF σ o 1 (fillN (σ o 1) v 4))) := by
  rw [← cW_ma1F ho]
  exact ok_fill (cW_ma1 ho) (by decide) v
theorem ok_fillO (ho : o = 5 ∨ o = 6) (v : Int32) : Ok 0 yJ7_fill_53178 cJ7_fill_53178 4 none D tc [.ref (A (mb o + 3)), .int v] (cW A tc σ) none (cW A tc (upF σ o 2 (fillN (σ o 2) v 4))) := by
  rw [← cW_ma2F ho]
  exact ok_fill (cW_ma2 ho) (by decide) v
def fjC (σ : St) : St := upF σ 6 1 (fillN (σ 6 1) 0 4)
def baC (σ : St) : St := up (up (up (up (up (upF (fjC σ) 6 2 (fillN (σ 6 2) (-1) 4)) 6 7 0 0) 6 8 0 0) 6 9 0 0) 6 10 0 0) 6 11 0 0
set_option maxRecDepth 100000 in
set_option maxHeartbeats 4000000 in
theorem ok_forgetJoy : Ok 1 yX1_forgetJoy cX1_forgetJoy 1 none D tc [.ref (A (mb 6))] (cW A tc σ) none (cW A tc (fjC σ)) := by
  refine Ok_of RX1 rfl (by decide) [some (.ref (A (mb 6)))] rfl (Nat.le_of_ble_eq_true rfl) ?_
  intro X hX
  refine V_ald0 dX1_forgetJoy_0 ?_
  refine V_get lf_X1_15 dX1_forgetJoy_1 (cW_mkt dra6) rfl ?_
  refine V_iconst 0 dX1_forgetJoy_4 (by decide) ?_
  refine V_callSv ls_X1_52 (ok_fillM dra6 0) dX1_forgetJoy_5 (dep hX (by decide)) rfl (Nat.le_of_ble_eq_true rfl) ?_
  exact V_vret hX dX1_forgetJoy_8 rfl rfl rfl
set_option maxRecDepth 100000 in
set_option maxHeartbeats 4000000 in
theorem ok_beginAnew : Ok 2 yX1_beginAnew cX1_beginAnew 1 none D tc [.ref (A (mb 6))] (cW A tc σ) none (cW A tc (baC σ)) := by
  refine Ok_of RX1 rfl (by decide) [some (.ref (A (mb 6)))] rfl (Nat.le_of_ble_eq_true rfl) ?_
  intro X hX
  refine V_ald0 dX1_beginAnew_0 ?_
  refine V_callVv lm_X1_49 (ok_forgetJoy) dX1_beginAnew_1 (cW_mkt dra6) rfl (dep hX (by decide)) rfl (Nat.le_of_ble_eq_true rfl) ?_
  refine V_ald0 dX1_beginAnew_4 ?_
  refine V_get lf_X1_18 dX1_beginAnew_5 (cW_mkt dra6) rfl ?_
  refine V_iconst (-1) dX1_beginAnew_8 (by decide) ?_
  refine V_callSv ls_X1_52 (ok_fillO dra6 (-1)) dX1_beginAnew_9 (dep hX (by decide)) rfl (Nat.le_of_ble_eq_true rfl) ?_
  refine V_ald0 dX1_beginAnew_12 ?_
  refine V_iconst 0 dX1_beginAnew_13 (by decide) ?_
  refine V_puti lp_X1_33 dX1_beginAnew_14 (cW_mkt dra6) (Nat.le_of_ble_eq_true rfl) (cW_mktp7 dra6 _) ?_
  refine V_ald0 dX1_beginAnew_17 ?_
  refine V_iconst 0 dX1_beginAnew_18 (by decide) ?_
  refine V_puti lp_X1_37 dX1_beginAnew_19 (cW_mkt dra6) (Nat.le_of_ble_eq_true rfl) (cW_mktp8 dra6 _) ?_
  refine V_ald0 dX1_beginAnew_22 ?_
  refine V_iconst 0 dX1_beginAnew_23 (by decide) ?_
  refine V_puti lp_X1_40 dX1_beginAnew_24 (cW_mkt dra6) (Nat.le_of_ble_eq_true rfl) (cW_mktp9 dra6 _) ?_
  refine V_ald0 dX1_beginAnew_27 ?_
  refine V_iconst 0 dX1_beginAnew_28 (by decide) ?_
  refine V_puti lp_X1_43 dX1_beginAnew_29 (cW_mkt dra6) (Nat.le_of_ble_eq_true rfl) (cW_mktp10 dra6 _) ?_
  refine V_ald0 dX1_beginAnew_32 ?_
  refine V_iconst 0 dX1_beginAnew_33 (by decide) ?_
  refine V_puti lp_X1_46 dX1_beginAnew_34 (cW_mkt dra6) (Nat.le_of_ble_eq_true rfl) (cW_mktp11 dra6 _) ?_
  exact V_vret hX dX1_beginAnew_37 rfl rfl rfl
def blC (σ : St) (a b : Nat) : St := up (up (up (up (up (upF (upF (upF (upF (upF (upF (upF (σ) a 0 (va_cpy (σ b 0) (σ a 0) 0 0 4)) a 1 (va_cpy (σ b 1) (σ a 1) 0 0 4)) a 2 (va_cpy (σ b 2) (σ a 2) 0 0 4)) a 3 (va_cpy (σ b 3) (σ a 3) 0 0 6)) a 4 (va_cpy (σ b 4) (σ a 4) 0 0 6)) a 5 (va_cpy (σ b 5) (σ a 5) 0 0 6)) a 6 (va_cpy (σ b 6) (σ a 6) 0 0 6)) a 7 0 (σ b 7 0)) a 8 0 (σ b 8 0)) a 9 0 (σ b 9 0)) a 10 0 (σ b 10 0)) a 11 0 (σ b 11 0)
set_option maxRecDepth 100000 in
set_option maxHeartbeats 4000000 in
theorem ok_becomeLike56 : Ok 1 yX1_becomeLike cX1_becomeLike 2 none D tc [.ref (A (mb 5)), .ref (A (mb 6))] (cW A tc σ) none (cW A tc (blC σ 5 6)) := by
  refine Ok_of RX1 rfl (by decide) [some (.ref (A (mb 5))), some (.ref (A (mb 6)))] rfl (Nat.le_of_ble_eq_true rfl) ?_
  intro X hX
  refine V_ald1 dX1_becomeLike_0 ?_
  refine V_get lf_X1_9 dX1_becomeLike_1 (cW_mkt dra6) rfl ?_
  refine V_iconst 0 dX1_becomeLike_4 (by decide) ?_
  refine V_ald0 dX1_becomeLike_5 ?_
  refine V_get lf_X1_9 dX1_becomeLike_6 (cW_mkt now5) rfl ?_
  refine V_iconst 0 dX1_becomeLike_9 (by decide) ?_
  refine V_iconst 4 dX1_becomeLike_10 (by decide) ?_
  refine V_copyE wM_X1_58 wcp (dep1 hX (by decide)) (Nat.le_of_ble_eq_true rfl) dX1_becomeLike_11 (cW_ma0 dra6) (cW_ma0 now5) 0 0 4 (by decide) (by decide) (by decide) (by decide) (cW_ma0F now5 _) ?_
  refine V_ald1 dX1_becomeLike_14 ?_
  refine V_get lf_X1_15 dX1_becomeLike_15 (cW_mkt dra6) rfl ?_
  refine V_iconst 0 dX1_becomeLike_18 (by decide) ?_
  refine V_ald0 dX1_becomeLike_19 ?_
  refine V_get lf_X1_15 dX1_becomeLike_20 (cW_mkt now5) rfl ?_
  refine V_iconst 0 dX1_becomeLike_23 (by decide) ?_
  refine V_iconst 4 dX1_becomeLike_24 (by decide) ?_
  refine V_copyE wM_X1_58 wcp (dep1 hX (by decide)) (Nat.le_of_ble_eq_true rfl) dX1_becomeLike_25 (cW_ma1 dra6) (cW_ma1 now5) 0 0 4 (by decide) (by decide) (by decide) (by decide) (cW_ma1F now5 _) ?_
  refine V_ald1 dX1_becomeLike_28 ?_
  refine V_get lf_X1_18 dX1_becomeLike_29 (cW_mkt dra6) rfl ?_
  refine V_iconst 0 dX1_becomeLike_32 (by decide) ?_
  refine V_ald0 dX1_becomeLike_33 ?_
  refine V_get lf_X1_18 dX1_becomeLike_34 (cW_mkt now5) rfl ?_
  refine V_iconst 0 dX1_becomeLike_37 (by decide) ?_
  refine V_iconst 4 dX1_becomeLike_38 (by decide) ?_
  refine V_copyE wM_X1_58 wcp (dep1 hX (by decide)) (Nat.le_of_ble_eq_true rfl) dX1_becomeLike_39 (cW_ma2 dra6) (cW_ma2 now5) 0 0 4 (by decide) (by decide) (by decide) (by decide) (cW_ma2F now5 _) ?_
  refine V_ald1 dX1_becomeLike_42 ?_
  refine V_get lf_X1_21 dX1_becomeLike_43 (cW_mkt dra6) rfl ?_
  refine V_iconst 0 dX1_becomeLike_46 (by decide) ?_
  refine V_ald0 dX1_becomeLike_47 ?_
  refine V_get lf_X1_21 dX1_becomeLike_48 (cW_mkt now5) rfl ?_
  refine V_iconst 0 dX1_becomeLike_51 (by decide) ?_
  refine V_bipush 6 dX1_becomeLike_52 (by decide) ?_
  refine V_copyE wM_X1_58 wcp (dep1 hX (by decide)) (Nat.le_of_ble_eq_true rfl) dX1_becomeLike_54 (cW_ma3 dra6) (cW_ma3 now5) 0 0 6 (by decide) (by decide) (by decide) (by decide) (cW_ma3F now5 _) ?_
  refine V_ald1 dX1_becomeLike_57 ?_
  refine V_get lf_X1_24 dX1_becomeLike_58 (cW_mkt dra6) rfl ?_
  refine V_iconst 0 dX1_becomeLike_61 (by decide) ?_
  refine V_ald0 dX1_becomeLike_62 ?_
  refine V_get lf_X1_24 dX1_becomeLike_63 (cW_mkt now5) rfl ?_
  refine V_iconst 0 dX1_becomeLike_66 (by decide) ?_
  refine V_bipush 6 dX1_becomeLike_67 (by decide) ?_
  refine V_copyE wM_X1_58 wcp (dep1 hX (by decide)) (Nat.le_of_ble_eq_true rfl) dX1_becomeLike_69 (cW_ma4 dra6) (cW_ma4 now5) 0 0 6 (by decide) (by decide) (by decide) (by decide) (cW_ma4F now5 _) ?_
  refine V_ald1 dX1_becomeLike_72 ?_
  refine V_get lf_X1_27 dX1_becomeLike_73 (cW_mkt dra6) rfl ?_
  refine V_iconst 0 dX1_becomeLike_76 (by decide) ?_
  refine V_ald0 dX1_becomeLike_77 ?_
  refine V_get lf_X1_27 dX1_becomeLike_78 (cW_mkt now5) rfl ?_
  refine V_iconst 0 dX1_becomeLike_81 (by decide) ?_
  refine V_bipush 6 dX1_becomeLike_82 (by decide) ?_
  refine V_copyE wM_X1_58 wcp (dep1 hX (by decide)) (Nat.le_of_ble_eq_true rfl) dX1_becomeLike_84 (cW_ma5 dra6) (cW_ma5 now5) 0 0 6 (by decide) (by decide) (by decide) (by decide) (cW_ma5F now5 _) ?_
  refine V_ald1 dX1_becomeLike_87 ?_
  refine V_get lf_X1_30 dX1_becomeLike_88 (cW_mkt dra6) rfl ?_
  refine V_iconst 0 dX1_becomeLike_91 (by decide) ?_
  refine V_ald0 dX1_becomeLike_92 ?_
  refine V_get lf_X1_30 dX1_becomeLike_93 (cW_mkt now5) rfl ?_
  refine V_iconst 0 dX1_becomeLike_96 (by decide) ?_
  refine V_bipush 6 dX1_becomeLike_97 (by decide) ?_
  refine V_copyE wM_X1_58 wcp (dep1 hX (by decide)) (Nat.le_of_ble_eq_true rfl) dX1_becomeLike_99 (cW_ma6 dra6) (cW_ma6 now5) 0 0 6 (by decide) (by decide) (by decide) (by decide) (cW_ma6F now5 _) ?_
  refine V_ald0 dX1_becomeLike_102 ?_
  refine V_ald1 dX1_becomeLike_103 ?_
  refine V_get lf_X1_33 dX1_becomeLike_104 (cW_mkt dra6) rfl ?_
  refine V_puti lp_X1_33 dX1_becomeLike_107 (cW_mkt now5) (Nat.le_of_ble_eq_true rfl) (cW_mktp7 now5 _) ?_
  refine V_ald0 dX1_becomeLike_110 ?_
  refine V_ald1 dX1_becomeLike_111 ?_
  refine V_get lf_X1_37 dX1_becomeLike_112 (cW_mkt dra6) rfl ?_
  refine V_puti lp_X1_37 dX1_becomeLike_115 (cW_mkt now5) (Nat.le_of_ble_eq_true rfl) (cW_mktp8 now5 _) ?_
  refine V_ald0 dX1_becomeLike_118 ?_
  refine V_ald1 dX1_becomeLike_119 ?_
  refine V_get lf_X1_40 dX1_becomeLike_120 (cW_mkt dra6) rfl ?_
  refine V_puti lp_X1_40 dX1_becomeLike_123 (cW_mkt now5) (Nat.le_of_ble_eq_true rfl) (cW_mktp9 now5 _) ?_
  refine V_ald0 dX1_becomeLike_126 ?_
  refine V_ald1 dX1_becomeLike_127 ?_
  refine V_get lf_X1_43 dX1_becomeLike_128 (cW_mkt dra6) rfl ?_
  refine V_puti lp_X1_43 dX1_becomeLike_131 (cW_mkt now5) (Nat.le_of_ble_eq_true rfl) (cW_mktp10 now5 _) ?_
  refine V_ald0 dX1_becomeLike_134 ?_
  refine V_ald1 dX1_becomeLike_135 ?_
  refine V_get lf_X1_46 dX1_becomeLike_136 (cW_mkt dra6) rfl ?_
  refine V_puti lp_X1_46 dX1_becomeLike_139 (cW_mkt now5) (Nat.le_of_ble_eq_true rfl) (cW_mktp11 now5 _) ?_
  exact V_vret hX dX1_becomeLike_142 rfl rfl rfl
set_option maxRecDepth 100000 in
set_option maxHeartbeats 4000000 in
theorem ok_becomeLike65 : Ok 1 yX1_becomeLike cX1_becomeLike 2 none D tc [.ref (A (mb 6)), .ref (A (mb 5))] (cW A tc σ) none (cW A tc (blC σ 6 5)) := by
  refine Ok_of RX1 rfl (by decide) [some (.ref (A (mb 6))), some (.ref (A (mb 5)))] rfl (Nat.le_of_ble_eq_true rfl) ?_
  intro X hX
  refine V_ald1 dX1_becomeLike_0 ?_
  refine V_get lf_X1_9 dX1_becomeLike_1 (cW_mkt now5) rfl ?_
  refine V_iconst 0 dX1_becomeLike_4 (by decide) ?_
  refine V_ald0 dX1_becomeLike_5 ?_
  refine V_get lf_X1_9 dX1_becomeLike_6 (cW_mkt dra6) rfl ?_
  refine V_iconst 0 dX1_becomeLike_9 (by decide) ?_
  refine V_iconst 4 dX1_becomeLike_10 (by decide) ?_
  refine V_copyE wM_X1_58 wcp (dep1 hX (by decide)) (Nat.le_of_ble_eq_true rfl) dX1_becomeLike_11 (cW_ma0 now5) (cW_ma0 dra6) 0 0 4 (by decide) (by decide) (by decide) (by decide) (cW_ma0F dra6 _) ?_
  refine V_ald1 dX1_becomeLike_14 ?_
  refine V_get lf_X1_15 dX1_becomeLike_15 (cW_mkt now5) rfl ?_
  refine V_iconst 0 dX1_becomeLike_18 (by decide) ?_
  refine V_ald0 dX1_becomeLike_19 ?_
  refine V_get lf_X1_15 dX1_becomeLike_20 (cW_mkt dra6) rfl ?_
  refine V_iconst 0 dX1_becomeLike_23 (by decide) ?_
  refine V_iconst 4 dX1_becomeLike_24 (by decide) ?_
  refine V_copyE wM_X1_58 wcp (dep1 hX (by decide)) (Nat.le_of_ble_eq_true rfl) dX1_becomeLike_25 (cW_ma1 now5) (cW_ma1 dra6) 0 0 4 (by decide) (by decide) (by decide) (by decide) (cW_ma1F dra6 _) ?_
  refine V_ald1 dX1_becomeLike_28 ?_
  refine V_get lf_X1_18 dX1_becomeLike_29 (cW_mkt now5) rfl ?_
  refine V_iconst 0 dX1_becomeLike_32 (by decide) ?_
  refine V_ald0 dX1_becomeLike_33 ?_
  refine V_get lf_X1_18 dX1_becomeLike_34 (cW_mkt dra6) rfl ?_
  refine V_iconst 0 dX1_becomeLike_37 (by decide) ?_
  refine V_iconst 4 dX1_becomeLike_38 (by decide) ?_
  refine V_copyE wM_X1_58 wcp (dep1 hX (by decide)) (Nat.le_of_ble_eq_true rfl) dX1_becomeLike_39 (cW_ma2 now5) (cW_ma2 dra6) 0 0 4 (by decide) (by decide) (by decide) (by decide) (cW_ma2F dra6 _) ?_
  refine V_ald1 dX1_becomeLike_42 ?_
  refine V_get lf_X1_21 dX1_becomeLike_43 (cW_mkt now5) rfl ?_
  refine V_iconst 0 dX1_becomeLike_46 (by decide) ?_
  refine V_ald0 dX1_becomeLike_47 ?_
  refine V_get lf_X1_21 dX1_becomeLike_48 (cW_mkt dra6) rfl ?_
  refine V_iconst 0 dX1_becomeLike_51 (by decide) ?_
  refine V_bipush 6 dX1_becomeLike_52 (by decide) ?_
  refine V_copyE wM_X1_58 wcp (dep1 hX (by decide)) (Nat.le_of_ble_eq_true rfl) dX1_becomeLike_54 (cW_ma3 now5) (cW_ma3 dra6) 0 0 6 (by decide) (by decide) (by decide) (by decide) (cW_ma3F dra6 _) ?_
  refine V_ald1 dX1_becomeLike_57 ?_
  refine V_get lf_X1_24 dX1_becomeLike_58 (cW_mkt now5) rfl ?_
  refine V_iconst 0 dX1_becomeLike_61 (by decide) ?_
  refine V_ald0 dX1_becomeLike_62 ?_
  refine V_get lf_X1_24 dX1_becomeLike_63 (cW_mkt dra6) rfl ?_
  refine V_iconst 0 dX1_becomeLike_66 (by decide) ?_
  refine V_bipush 6 dX1_becomeLike_67 (by decide) ?_
  refine V_copyE wM_X1_58 wcp (dep1 hX (by decide)) (Nat.le_of_ble_eq_true rfl) dX1_becomeLike_69 (cW_ma4 now5) (cW_ma4 dra6) 0 0 6 (by decide) (by decide) (by decide) (by decide) (cW_ma4F dra6 _) ?_
  refine V_ald1 dX1_becomeLike_72 ?_
  refine V_get lf_X1_27 dX1_becomeLike_73 (cW_mkt now5) rfl ?_
  refine V_iconst 0 dX1_becomeLike_76 (by decide) ?_
  refine V_ald0 dX1_becomeLike_77 ?_
  refine V_get lf_X1_27 dX1_becomeLike_78 (cW_mkt dra6) rfl ?_
  refine V_iconst 0 dX1_becomeLike_81 (by decide) ?_
  refine V_bipush 6 dX1_becomeLike_82 (by decide) ?_
  refine V_copyE wM_X1_58 wcp (dep1 hX (by decide)) (Nat.le_of_ble_eq_true rfl) dX1_becomeLike_84 (cW_ma5 now5) (cW_ma5 dra6) 0 0 6 (by decide) (by decide) (by decide) (by decide) (cW_ma5F dra6 _) ?_
  refine V_ald1 dX1_becomeLike_87 ?_
  refine V_get lf_X1_30 dX1_becomeLike_88 (cW_mkt now5) rfl ?_
  refine V_iconst 0 dX1_becomeLike_91 (by decide) ?_
  refine V_ald0 dX1_becomeLike_92 ?_
  refine V_get lf_X1_30 dX1_becomeLike_93 (cW_mkt dra6) rfl ?_
  refine V_iconst 0 dX1_becomeLike_96 (by decide) ?_
  refine V_bipush 6 dX1_becomeLike_97 (by decide) ?_
  refine V_copyE wM_X1_58 wcp (dep1 hX (by decide)) (Nat.le_of_ble_eq_true rfl) dX1_becomeLike_99 (cW_ma6 now5) (cW_ma6 dra6) 0 0 6 (by decide) (by decide) (by decide) (by decide) (cW_ma6F dra6 _) ?_
  refine V_ald0 dX1_becomeLike_102 ?_
  refine V_ald1 dX1_becomeLike_103 ?_
  refine V_get lf_X1_33 dX1_becomeLike_104 (cW_mkt now5) rfl ?_
  refine V_puti lp_X1_33 dX1_becomeLike_107 (cW_mkt dra6) (Nat.le_of_ble_eq_true rfl) (cW_mktp7 dra6 _) ?_
  refine V_ald0 dX1_becomeLike_110 ?_
  refine V_ald1 dX1_becomeLike_111 ?_
  refine V_get lf_X1_37 dX1_becomeLike_112 (cW_mkt now5) rfl ?_
  refine V_puti lp_X1_37 dX1_becomeLike_115 (cW_mkt dra6) (Nat.le_of_ble_eq_true rfl) (cW_mktp8 dra6 _) ?_
  refine V_ald0 dX1_becomeLike_118 ?_
  refine V_ald1 dX1_becomeLike_119 ?_
  refine V_get lf_X1_40 dX1_becomeLike_120 (cW_mkt now5) rfl ?_
  refine V_puti lp_X1_40 dX1_becomeLike_123 (cW_mkt dra6) (Nat.le_of_ble_eq_true rfl) (cW_mktp9 dra6 _) ?_
  refine V_ald0 dX1_becomeLike_126 ?_
  refine V_ald1 dX1_becomeLike_127 ?_
  refine V_get lf_X1_43 dX1_becomeLike_128 (cW_mkt now5) rfl ?_
  refine V_puti lp_X1_43 dX1_becomeLike_131 (cW_mkt dra6) (Nat.le_of_ble_eq_true rfl) (cW_mktp10 dra6 _) ?_
  refine V_ald0 dX1_becomeLike_134 ?_
  refine V_ald1 dX1_becomeLike_135 ?_
  refine V_get lf_X1_46 dX1_becomeLike_136 (cW_mkt now5) rfl ?_
  refine V_puti lp_X1_46 dX1_becomeLike_139 (cW_mkt dra6) (Nat.le_of_ble_eq_true rfl) (cW_mktp11 dra6 _) ?_
  exact V_vret hX dX1_becomeLike_142 rfl rfl rfl
end
end
section
/-! sheets, readings, the small ones -/
abbrev hcI (len i n : Int32) : Prop := ¬ i < 0 ∧ ¬ len < i ∧ ¬ n < 0 ∧ ¬ len - i < n
def cuI (lane v : Int32) : Int32 := if lane = 0 then v.toInt8.toInt32 else if lane = 1 then v.toInt16.toInt32 else v
abbrev laI (l : Int32) : Prop := ¬ l < 0 ∧ ¬ 2 < l
def grC (σ : St) (j : Nat) (lane n : Int32) : St := upF (up (up σ (1 + j) 2 0 lane) (1 + j) 1 0 n) (1 + j) 0 (fillN (up (up σ (1 + j) 2 0 lane) (1 + j) 1 0 n (1 + j) 0) 0 60)
def apC (σ : St) (C : Nat) (m t v : Int32) : St := up (up (up (up σ 9 0 C m) 9 1 C t) 9 2 C v) 9 3 0 (σ 9 3 0 + 1)
def waC (σ : St) (m kd tk dw : Int32) (r : Nat) : Int32 := if σ 9 0 r = m then freshI kd tk dw (σ 9 1 r) else frC (σ 5) (σ 9 0 r).toNatClampNeg (σ 9 1 r)
def faC (σ : St) (f : Int32) : St := up σ 0 7 0 f
def beC (σ : St) (b : Int32) : St := up σ 0 6 0 (31 * σ 0 6 0 + b)
theorem lt_succ' {P : Nat → Prop} {k : Nat} (h : ∀ r, r < k → P r) (hk : P k) : ∀ r, r < k + 1 → P r := lt_s h hk
section
variable {D : va_G} {tc : Tc} {A : Nat → Nat} {σ : St} {j C : Nat} {ws : va_W}
set_option maxRecDepth 100000 in
set_option maxHeartbeats 4000000 in
theorem ok_hasRow (hj : j < 4) : Ok 0 yX3_hasRow cX3_hasRow 1 (some .boolean) D tc [.ref (A (sb j))] (cW A tc σ) (some (.int (b2i (¬ σ (1 + j) 1 0 = -1)))) (cW A tc σ) := by
  refine Ok_of RX3 rfl (by decide) [some (.ref (A (sb j)))] rfl (Nat.le_of_ble_eq_true rfl) ?_
  intro X hX
  refine V_ald0 dX3_hasRow_0 ?_
  refine V_get lf_X3_15 dX3_hasRow_1 (cW_sh hj) rfl ?_
  refine V_iconst (-1) dX3_hasRow_4 (by decide) ?_
  refine V_icmp_eq 12 dX3_hasRow_5 (by decide) (fun c5 => ?_) (fun c5 => ?_)
  · refine V_iconst 0 dX3_hasRow_12 (by decide) ?_
    exact V_zret hX dX3_hasRow_13 rfl (by first | exact Or.inl rfl | exact Or.inr rfl) (by first | rw [b2i_t c5] | rw [b2i_f (fun h => h c5)]) rfl
  · refine V_iconst 1 dX3_hasRow_8 (by decide) ?_
    refine V_goto 13 dX3_hasRow_9 (by decide) ?_
    exact V_zret hX dX3_hasRow_13 rfl (by first | exact Or.inl rfl | exact Or.inr rfl) (by first | rw [b2i_t c5] | rw [b2i_f (fun h => h c5)]) rfl
set_option maxRecDepth 100000 in
set_option maxHeartbeats 4000000 in
theorem ok_isOfAnotherLane (hj : j < 4) (l : Int32) : Ok 1 yX3_isOfAnotherLane cX3_isOfAnotherLane 2 (some .boolean) D tc [.ref (A (sb j)), .int l] (cW A tc σ) (some (.int (b2i (¬ σ (1 + j) 1 0 = -1 ∧ ¬ σ (1 + j) 2 0 = l)))) (cW A tc σ) := by
  refine Ok_of RX3 rfl (by decide) [some (.ref (A (sb j))), some (.int l)] rfl (Nat.le_of_ble_eq_true rfl) ?_
  intro X hX
  refine V_ald0 dX3_isOfAnotherLane_0 ?_
  refine V_callV lm_X3_28 (ok_hasRow hj) dX3_isOfAnotherLane_1 (cW_sh hj) rfl (dep hX (by decide)) rfl (Nat.le_of_ble_eq_true rfl) ?_
  refine V_if_eq 19 dX3_isOfAnotherLane_4 (by decide) (fun c4 => ?_) (fun c4 => ?_)
  · try rw [b2i_eq] at c4
    try rw [Decidable.not_not] at c4
    refine V_iconst 0 dX3_isOfAnotherLane_19 (by decide) ?_
    exact V_zret hX dX3_isOfAnotherLane_20 rfl (by first | exact Or.inl rfl | exact Or.inr rfl) (by simp [b2i, *]) rfl
  · try rw [b2i_ne] at c4
    try rw [Decidable.not_not] at c4
    refine V_ald0 dX3_isOfAnotherLane_7 ?_
    refine V_get lf_X3_19 dX3_isOfAnotherLane_8 (cW_sh hj) rfl ?_
    refine V_ild1 dX3_isOfAnotherLane_11 ?_
    refine V_icmp_eq 19 dX3_isOfAnotherLane_12 (by decide) (fun c12 => ?_) (fun c12 => ?_)
    · refine V_iconst 0 dX3_isOfAnotherLane_19 (by decide) ?_
      exact V_zret hX dX3_isOfAnotherLane_20 rfl (by first | exact Or.inl rfl | exact Or.inr rfl) (by simp [b2i, *]) rfl
    · refine V_iconst 1 dX3_isOfAnotherLane_15 (by decide) ?_
      refine V_goto 20 dX3_isOfAnotherLane_16 (by decide) ?_
      exact V_zret hX dX3_isOfAnotherLane_20 rfl (by first | exact Or.inl rfl | exact Or.inr rfl) (by simp [b2i, *]) rfl
set_option maxRecDepth 100000 in
set_option maxHeartbeats 4000000 in
theorem ok_hasCells (hj : j < 4) (i n : Int32) : Ok 0 yX3_hasCells cX3_hasCells 3 (some .boolean) D tc [.ref (A (sb j)), .int i, .int n] (cW A tc σ) (some (.int (b2i (hcI (σ (1 + j) 1 0) i n)))) (cW A tc σ) := by
  refine Ok_of RX3 rfl (by decide) [some (.ref (A (sb j))), some (.int i), some (.int n)] rfl (Nat.le_of_ble_eq_true rfl) ?_
  intro X hX
  refine V_ild1 dX3_hasCells_0 ?_
  refine V_if_lt 30 dX3_hasCells_1 (by decide) (fun c1 => ?_) (fun c1 => ?_)
  · have hf : ¬ hcI (σ (1 + j) 1 0) i n := fun h => h.1 c1
    refine V_iconst 0 dX3_hasCells_30 (by decide) ?_
    exact V_zret hX dX3_hasCells_31 rfl (by first | exact Or.inl rfl | exact Or.inr rfl) (by first | rw [b2i_f hf] | rw [b2i_t ht]) rfl
  · refine V_ild1 dX3_hasCells_4 ?_
    refine V_ald0 dX3_hasCells_5 ?_
    refine V_get lf_X3_15 dX3_hasCells_6 (cW_sh hj) rfl ?_
    refine V_icmp_gt 30 dX3_hasCells_9 (by decide) (fun c9 => ?_) (fun c9 => ?_)
    · have hf : ¬ hcI (σ (1 + j) 1 0) i n := fun h => h.2.1 c9
      refine V_iconst 0 dX3_hasCells_30 (by decide) ?_
      exact V_zret hX dX3_hasCells_31 rfl (by first | exact Or.inl rfl | exact Or.inr rfl) (by first | rw [b2i_f hf] | rw [b2i_t ht]) rfl
    · refine V_ild2 dX3_hasCells_12 ?_
      refine V_if_lt 30 dX3_hasCells_13 (by decide) (fun c13 => ?_) (fun c13 => ?_)
      · have hf : ¬ hcI (σ (1 + j) 1 0) i n := fun h => h.2.2.1 c13
        refine V_iconst 0 dX3_hasCells_30 (by decide) ?_
        exact V_zret hX dX3_hasCells_31 rfl (by first | exact Or.inl rfl | exact Or.inr rfl) (by first | rw [b2i_f hf] | rw [b2i_t ht]) rfl
      · refine V_ild2 dX3_hasCells_16 ?_
        refine V_ald0 dX3_hasCells_17 ?_
        refine V_get lf_X3_15 dX3_hasCells_18 (cW_sh hj) rfl ?_
        refine V_ild1 dX3_hasCells_21 ?_
        refine V_isub dX3_hasCells_22 ?_
        refine V_icmp_gt 30 dX3_hasCells_23 (by decide) (fun c23 => ?_) (fun c23 => ?_)
        · have hf : ¬ hcI (σ (1 + j) 1 0) i n := fun h => h.2.2.2 c23
          refine V_iconst 0 dX3_hasCells_30 (by decide) ?_
          exact V_zret hX dX3_hasCells_31 rfl (by first | exact Or.inl rfl | exact Or.inr rfl) (by first | rw [b2i_f hf] | rw [b2i_t ht]) rfl
        · have ht : hcI (σ (1 + j) 1 0) i n := ⟨c1, c9, c13, c23⟩
          refine V_iconst 1 dX3_hasCells_26 (by decide) ?_
          refine V_goto 31 dX3_hasCells_27 (by decide) ?_
          exact V_zret hX dX3_hasCells_31 rfl (by first | exact Or.inl rfl | exact Or.inr rfl) (by first | rw [b2i_f hf] | rw [b2i_t ht]) rfl
set_option maxRecDepth 100000 in
set_option maxHeartbeats 4000000 in
theorem ok_cutToLane (hj : j < 4) (v : Int32) : Ok 0 yX3_cutToLane cX3_cutToLane 2 (some .int) D tc [.ref (A (sb j)), .int v] (cW A tc σ) (some (.int (cuI (σ (1 + j) 2 0) v))) (cW A tc σ) := by
  refine Ok_of RX3 rfl (by decide) [some (.ref (A (sb j))), some (.int v)] rfl (Nat.le_of_ble_eq_true rfl) ?_
  intro X hX
  refine V_ald0 dX3_cutToLane_0 ?_
  refine V_get lf_X3_19 dX3_cutToLane_1 (cW_sh hj) rfl ?_
  refine V_if_ne 10 dX3_cutToLane_4 (by decide) (fun c4 => ?_) (fun c4 => ?_)
  · refine V_ald0 dX3_cutToLane_10 ?_
    refine V_get lf_X3_19 dX3_cutToLane_11 (cW_sh hj) rfl ?_
    refine V_iconst 1 dX3_cutToLane_14 (by decide) ?_
    refine V_icmp_ne 21 dX3_cutToLane_15 (by decide) (fun c15 => ?_) (fun c15 => ?_)
    · refine V_ild1 dX3_cutToLane_21 ?_
      exact V_iret hX dX3_cutToLane_22 rfl (by simp [cuI, *]) rfl
    · refine V_ild1 dX3_cutToLane_18 ?_
      refine V_i2s dX3_cutToLane_19 ?_
      exact V_iret hX dX3_cutToLane_20 rfl (by simp [cuI, *]) rfl
  · refine V_ild1 dX3_cutToLane_7 ?_
    refine V_i2b dX3_cutToLane_8 ?_
    exact V_iret hX dX3_cutToLane_9 rfl (by simp [cuI, *]) rfl
theorem ok_fillS (hj : j < 4) (v : Int32) : Ok 0 yJ7_fill_53178 cJ7_fill_53178 4 none D tc [.ref (A (sb j + 1)), .int v] (cW A tc σ) none (cW A tc (upF σ (1 + j) 0 (fillN (σ (1 + j) 0) v 60))) := by
  rw [← cW_shaF hj]
  exact ok_fill (cW_sha hj) (by decide) v
set_option maxRecDepth 100000 in
set_option maxHeartbeats 4000000 in
theorem ok_getRow (hj : j < 4) (l n : Int32) : Ok 1 yX3_getRow cX3_getRow 3 none D tc [.ref (A (sb j)), .int l, .int n] (cW A tc σ) none (cW A tc (grC σ j l n)) := by
  refine Ok_of RX3 rfl (by decide) [some (.ref (A (sb j))), some (.int l), some (.int n)] rfl (Nat.le_of_ble_eq_true rfl) ?_
  intro X hX
  refine V_ald0 dX3_getRow_0 ?_
  refine V_ild1 dX3_getRow_1 ?_
  refine V_puti lp_X3_19 dX3_getRow_2 (cW_sh hj) (Nat.le_of_ble_eq_true rfl) (cW_shp2 hj _) ?_
  refine V_ald0 dX3_getRow_5 ?_
  refine V_ild2 dX3_getRow_6 ?_
  refine V_puti lp_X3_15 dX3_getRow_7 (cW_sh hj) (Nat.le_of_ble_eq_true rfl) (cW_shp1 hj _) ?_
  refine V_ald0 dX3_getRow_10 ?_
  refine V_get lf_X3_9 dX3_getRow_11 (cW_sh hj) rfl ?_
  refine V_iconst 0 dX3_getRow_14 (by decide) ?_
  refine V_callSv ls_X3_22 (ok_fillS hj 0) dX3_getRow_15 (dep hX (by decide)) rfl (Nat.le_of_ble_eq_true rfl) ?_
  exact V_vret hX dX3_getRow_18 rfl rfl rfl
set_option maxRecDepth 100000 in
set_option maxHeartbeats 4000000 in
theorem ok_append (hC : σ 9 3 0 = nI C) (h8 : C < 8) (m t v : Int32) : Ok 0 yX2_append cX2_append 5 (some .int) D tc [.ref (A 30), .int m, .int t, .int v] (cW A tc σ) (some (.int (nI C))) (cW A tc (apC σ C m t v)) := by
  refine Ok_of RX2 rfl (by decide) [some (.ref (A 30)), some (.int m), some (.int t), some (.int v), none] rfl (Nat.le_of_ble_eq_true rfl) ?_
  intro X hX
  refine V_ald0 dX2_append_0 ?_
  refine V_get lf_X2_21 dX2_append_1 cW_re rfl ?_
  refine V_top (y := nI C) hC ?_
  refine V_ist4 dX2_append_4 rfl (by decide) ?_
  refine V_ald0 dX2_append_6 ?_
  refine V_get lf_X2_9 dX2_append_7 cW_re rfl ?_
  refine V_ild4 dX2_append_10 ?_
  refine V_ild1 dX2_append_12 ?_
  refine V_iastk dX2_append_13 cW_rea0 ⟨h8, by decide⟩ (cW_rea0s _ _) ?_
  refine V_ald0 dX2_append_14 ?_
  refine V_get lf_X2_15 dX2_append_15 cW_re rfl ?_
  refine V_ild4 dX2_append_18 ?_
  refine V_ild2 dX2_append_20 ?_
  refine V_iastk dX2_append_21 cW_rea1 ⟨h8, by decide⟩ (cW_rea1s _ _) ?_
  refine V_ald0 dX2_append_22 ?_
  refine V_get lf_X2_18 dX2_append_23 cW_re rfl ?_
  refine V_ild4 dX2_append_26 ?_
  refine V_ild3 dX2_append_28 ?_
  refine V_iastk dX2_append_29 cW_rea2 ⟨h8, by decide⟩ (cW_rea2s _ _) ?_
  refine V_ald0 dX2_append_30 ?_
  refine V_dupa dX2_append_31 ?_
  refine V_get lf_X2_21 dX2_append_32 cW_re rfl ?_
  refine V_iconst 1 dX2_append_35 (by decide) ?_
  refine V_iadd dX2_append_36 ?_
  refine V_puti lp_X2_21 dX2_append_37 cW_re (Nat.le_of_ble_eq_true rfl) (cW_rep3 _) ?_
  refine V_ild4 dX2_append_40 ?_
  exact V_iret hX dX2_append_42 rfl rfl rfl
set_option maxRecDepth 100000 in
set_option maxHeartbeats 4000000 in
theorem ok_areSoWith (hC : σ 9 3 0 = nI C) (h8 : C ≤ 8) (hr : ∀ r, r < C → ∃ z, z < 6 ∧ σ 9 0 r = nI z) (m kd tk dw : Int32) : Ok 2 yX2_areSoWith cX2_areSoWith 8 (some .boolean) D tc [.ref (A 30), .ref (A (mb 5)), .int m, .int kd, .int tk, .int dw] (cW A tc σ) (some (.int (b2i (∀ r, r < C → waC σ m kd tk dw r = σ 9 2 r)))) (cW A tc σ) := by
  refine Ok_of RX2 rfl (by decide) [some (.ref (A 30)), some (.ref (A (mb 5))), some (.int m), some (.int kd), some (.int tk), some (.int dw), none, none] rfl (Nat.le_of_ble_eq_true rfl) ?_
  intro X hX
  have lpS : ∀ k, k < C → (fun k => ∀ r, r < k → waC σ m kd tk dw r = σ 9 2 r) k → ((fun k => ∀ r, r < k → waC σ m kd tk dw r = σ 9 2 r) (k + 1) → V X D tc cX2_areSoWith RX2 8 3 ((fun k => [some (.ref (A 30)), some (.ref (A (mb 5))), some (.int m), some (.int kd), some (.int tk), some (.int dw), some (.int (nI k)), none]) (k + 1)) [] ((fun k => cW A tc σ) (k + 1))) → V X D tc cX2_areSoWith RX2 8 3 ((fun k => [some (.ref (A 30)), some (.ref (A (mb 5))), some (.int m), some (.int kd), some (.int tk), some (.int dw), some (.int (nI k)), none]) k) [] ((fun k => cW A tc σ) k) := by
    intro k hk invlp ihlp
    try dsimp only at invlp
    have hk8 : k < 8 := by omega
    obtain ⟨z, hz, ez⟩ := hr k hk
    refine V_ild6 dX2_areSoWith_3 ?_
    refine V_ald0 dX2_areSoWith_5 ?_
    refine V_get lf_X2_21 dX2_areSoWith_6 cW_re rfl ?_
    refine V_icmp_ge 81 dX2_areSoWith_9 (by decide) (fun c9 => ?_) (fun c9 => ?_)
    · exact absurd c9 (ge_no hC hk (by omega))
    · refine V_ald0 dX2_areSoWith_12 ?_
      refine V_get lf_X2_9 dX2_areSoWith_13 cW_re rfl ?_
      refine V_ild6 dX2_areSoWith_16 ?_
      refine V_ialdk dX2_areSoWith_18 cW_rea0 ⟨hk8, by decide⟩ ?_
      refine V_ild2 dX2_areSoWith_19 ?_
      refine V_icmp_ne 41 dX2_areSoWith_20 (by decide) (fun c20 => ?_) (fun c20 => ?_)
      · refine V_ald1 dX2_areSoWith_41 ?_
        refine V_ald0 dX2_areSoWith_42 ?_
        refine V_get lf_X2_9 dX2_areSoWith_43 cW_re rfl ?_
        refine V_ild6 dX2_areSoWith_46 ?_
        refine V_ialdk dX2_areSoWith_48 cW_rea0 ⟨hk8, by decide⟩ ?_
        refine V_top (y := nI z) ez ?_
        refine V_ald0 dX2_areSoWith_49 ?_
        refine V_get lf_X2_15 dX2_areSoWith_50 cW_re rfl ?_
        refine V_ild6 dX2_areSoWith_53 ?_
        refine V_ialdk dX2_areSoWith_55 cW_rea1 ⟨hk8, by decide⟩ ?_
        refine V_callV lm_X2_29 (ok_freshOn now5 z hz _) dX2_areSoWith_56 (cW_mkt now5) rfl (dep hX (by decide)) rfl (Nat.le_of_ble_eq_true rfl) ?_
        refine V_top (y := waC σ m kd tk dw k) (by simp only [waC]; first | rw [if_pos c20] | rw [if_neg c20, ez, nI_clamp (by omega)]) ?_
        refine V_ist7 dX2_areSoWith_59 rfl (by decide) ?_
        refine V_ild7 dX2_areSoWith_61 ?_
        refine V_ald0 dX2_areSoWith_63 ?_
        refine V_get lf_X2_18 dX2_areSoWith_64 cW_re rfl ?_
        refine V_ild6 dX2_areSoWith_67 ?_
        refine V_ialdk dX2_areSoWith_69 cW_rea2 ⟨hk8, by decide⟩ ?_
        refine V_icmp_eq 75 dX2_areSoWith_70 (by decide) (fun c70 => ?_) (fun c70 => ?_)
        · refine V_inc6 (nI (k + 1)) dX2_areSoWith_75 (nI_inc k) rfl (by decide) ?_
          refine V_goto 3 dX2_areSoWith_78 (by decide) ?_
          refine V_dr7 ?_
          exact ihlp (lt_succ' invlp c70)
        · refine V_iconst 0 dX2_areSoWith_73 (by decide) ?_
          exact V_zret hX dX2_areSoWith_74 rfl (by first | exact Or.inl rfl | exact Or.inr rfl) (by rw [b2i_f (fun h => c70 (h k hk))]) rfl
      · refine V_ild3 dX2_areSoWith_23 ?_
        refine V_ild4 dX2_areSoWith_24 ?_
        refine V_ild5 dX2_areSoWith_26 ?_
        refine V_ald0 dX2_areSoWith_28 ?_
        refine V_get lf_X2_15 dX2_areSoWith_29 cW_re rfl ?_
        refine V_ild6 dX2_areSoWith_32 ?_
        refine V_ialdk dX2_areSoWith_34 cW_rea1 ⟨hk8, by decide⟩ ?_
        refine V_callN ln_X2_25 (ok_freshBy _ _ _ _) dX2_areSoWith_35 (dep hX (by decide)) rfl (Nat.le_of_ble_eq_true rfl) ?_
        refine V_goto 59 dX2_areSoWith_38 (by decide) ?_
        refine V_top (y := waC σ m kd tk dw k) (by simp only [waC]; first | rw [if_pos c20] | rw [if_neg c20, ez, nI_clamp (by omega)]) ?_
        refine V_ist7 dX2_areSoWith_59 rfl (by decide) ?_
        refine V_ild7 dX2_areSoWith_61 ?_
        refine V_ald0 dX2_areSoWith_63 ?_
        refine V_get lf_X2_18 dX2_areSoWith_64 cW_re rfl ?_
        refine V_ild6 dX2_areSoWith_67 ?_
        refine V_ialdk dX2_areSoWith_69 cW_rea2 ⟨hk8, by decide⟩ ?_
        refine V_icmp_eq 75 dX2_areSoWith_70 (by decide) (fun c70 => ?_) (fun c70 => ?_)
        · refine V_inc6 (nI (k + 1)) dX2_areSoWith_75 (nI_inc k) rfl (by decide) ?_
          refine V_goto 3 dX2_areSoWith_78 (by decide) ?_
          refine V_dr7 ?_
          exact ihlp (lt_succ' invlp c70)
        · refine V_iconst 0 dX2_areSoWith_73 (by decide) ?_
          exact V_zret hX dX2_areSoWith_74 rfl (by first | exact Or.inl rfl | exact Or.inr rfl) (by rw [b2i_f (fun h => c70 (h k hk))]) rfl
  have lpE : (fun k => ∀ r, r < k → waC σ m kd tk dw r = σ 9 2 r) (C) → V X D tc cX2_areSoWith RX2 8 3 ((fun k => [some (.ref (A 30)), some (.ref (A (mb 5))), some (.int m), some (.int kd), some (.int tk), some (.int dw), some (.int (nI k)), none]) (C)) [] ((fun k => cW A tc σ) (C)) := by
    intro invlp
    try dsimp only at invlp
    refine V_ild6 dX2_areSoWith_3 ?_
    refine V_ald0 dX2_areSoWith_5 ?_
    refine V_get lf_X2_21 dX2_areSoWith_6 cW_re rfl ?_
    refine V_icmp_ge 81 dX2_areSoWith_9 (by decide) (fun c9 => ?_) (fun c9 => ?_)
    · refine V_iconst 1 dX2_areSoWith_81 (by decide) ?_
      exact V_zret hX dX2_areSoWith_82 rfl (by first | exact Or.inl rfl | exact Or.inr rfl) (by rw [b2i_t invlp]) rfl
    · exact absurd (ge_yes hC) c9
  have lp := V_forI (fun k => ∀ r, r < k → waC σ m kd tk dw r = σ 9 2 r) (fun k => [some (.ref (A 30)), some (.ref (A (mb 5))), some (.int m), some (.int kd), some (.int tk), some (.int dw), some (.int (nI k)), none]) (fun k => cW A tc σ) (C) lpS lpE
  refine V_iconst 0 dX2_areSoWith_0 (by decide) ?_
  refine V_ist6 dX2_areSoWith_1 rfl (by decide) ?_
  exact lp 0 (Nat.zero_le _) (fun r h => absurd h (by omega))
set_option maxRecDepth 100000 in
set_option maxHeartbeats 4000000 in
theorem ok_sheetAt (hj : j < 4) : Ok 0 yX5_sheetAt cX5_sheetAt 2 (some (.object "MornMarket$Sheet")) D tc [.ref (A 0), .int (nI j)] (cW A tc σ) (some (.ref (A (sb j)))) (cW A tc σ) := by
  refine Ok_of RX5 rfl (by decide) [some (.ref (A 0)), some (.int (nI j))] rfl (Nat.le_of_ble_eq_true rfl) ?_
  intro X hX
  refine V_ild1 dX5_sheetAt_0 ?_
  refine V_if_lt 22 dX5_sheetAt_1 (by decide) (fun c1 => ?_) (fun c1 => ?_)
  · exact absurd c1 (nI_pos (by omega))
  · refine V_ild1 dX5_sheetAt_4 ?_
    refine V_ald0 dX5_sheetAt_5 ?_
    refine V_get lf_X5_13 dX5_sheetAt_6 cW_main rfl ?_
    refine V_alenS dX5_sheetAt_9 cW_sheets ?_
    refine V_icmp_ge 22 dX5_sheetAt_10 (by decide) (fun c10 => ?_) (fun c10 => ?_)
    · exact absurd c10 (nI_ge hj (by decide))
    · refine V_ald0 dX5_sheetAt_13 ?_
      refine V_get lf_X5_13 dX5_sheetAt_14 cW_main rfl ?_
      refine V_ild1 dX5_sheetAt_17 ?_
      refine V_aald dX5_sheetAt_18 cW_sheets (vp_in_nI hj (by decide)) (by rw [nI_clamp (by omega)]) ?_
      refine V_goto 23 dX5_sheetAt_19 (by decide) ?_
      exact V_aret hX dX5_sheetAt_23 rfl (Or.inr ⟨_, rfl⟩) rfl rfl
set_option maxRecDepth 100000 in
set_option maxHeartbeats 4000000 in
theorem ok_sheetAtN (k : Int32) (hk : ¬ (¬ k < 0 ∧ ¬ nI 4 ≤ k)) : Ok 0 yX5_sheetAt cX5_sheetAt 2 (some (.object "MornMarket$Sheet")) D tc [.ref (A 0), .int k] (cW A tc σ) (some .null) (cW A tc σ) := by
  refine Ok_of RX5 rfl (by decide) [some (.ref (A 0)), some (.int k)] rfl (Nat.le_of_ble_eq_true rfl) ?_
  intro X hX
  refine V_ild1 dX5_sheetAt_0 ?_
  refine V_if_lt 22 dX5_sheetAt_1 (by decide) (fun c1 => ?_) (fun c1 => ?_)
  · refine V_null dX5_sheetAt_22 ?_
    exact V_aret hX dX5_sheetAt_23 rfl (Or.inl rfl) rfl rfl
  · refine V_ild1 dX5_sheetAt_4 ?_
    refine V_ald0 dX5_sheetAt_5 ?_
    refine V_get lf_X5_13 dX5_sheetAt_6 cW_main rfl ?_
    refine V_alenS dX5_sheetAt_9 cW_sheets ?_
    refine V_icmp_ge 22 dX5_sheetAt_10 (by decide) (fun c10 => ?_) (fun c10 => ?_)
    · refine V_null dX5_sheetAt_22 ?_
      exact V_aret hX dX5_sheetAt_23 rfl (Or.inl rfl) rfl rfl
    · exact absurd ⟨c1, c10⟩ hk
set_option maxRecDepth 100000 in
set_option maxHeartbeats 4000000 in
theorem ok_faulted (f : Int32) : Ok 0 yX5_faulted cX5_faulted 2 (some .int) D tc [.ref (A 0), .int f] (cW A tc σ) (some (.int (-10 - f))) (cW A tc (faC σ f)) := by
  refine Ok_of RX5 rfl (by decide) [some (.ref (A 0)), some (.int f)] rfl (Nat.le_of_ble_eq_true rfl) ?_
  intro X hX
  refine V_ald0 dX5_faulted_0 ?_
  refine V_ild1 dX5_faulted_1 ?_
  refine V_puti lp_X5_52 dX5_faulted_2 cW_main (Nat.le_of_ble_eq_true rfl) (cW_mainp7 _) ?_
  refine V_bipush (-10) dX5_faulted_5 (by decide) ?_
  refine V_ild1 dX5_faulted_7 ?_
  refine V_isub dX5_faulted_8 ?_
  exact V_iret hX dX5_faulted_9 rfl rfl rfl
set_option maxRecDepth 100000 in
set_option maxHeartbeats 4000000 in
theorem ok_lostBy (f : Int32) : Ok 0 yX5_lostBy cX5_lostBy 2 (some .long) D tc [.ref (A 0), .int f] (cW A tc σ) (some (.long (-9223372036854775808))) (cW A tc (faC σ f)) := by
  refine Ok_of RX5 rfl (by decide) [some (.ref (A 0)), some (.int f)] rfl (Nat.le_of_ble_eq_true rfl) ?_
  intro X hX
  refine V_ald0 dX5_lostBy_0 ?_
  refine V_ild1 dX5_lostBy_1 ?_
  refine V_puti lp_X5_52 dX5_lostBy_2 cW_main (Nat.le_of_ble_eq_true rfl) (cW_mainp7 _) ?_
  refine V_ldc2 _ wC_X5_209 dX5_lostBy_5 ?_
  exact V_lret hX dX5_lostBy_8 rfl rfl rfl
set_option maxRecDepth 100000 in
set_option maxHeartbeats 4000000 in
theorem ok_isLane (l : Int32) : Ok 0 yX5_isLane cX5_isLane 1 (some .boolean) D tc [.int l] ws (some (.int (b2i (laI l)))) ws := by
  refine Ok_of RX5 rfl (by decide) [some (.int l)] rfl (Nat.le_of_ble_eq_true rfl) ?_
  intro X hX
  refine V_ild0 dX5_isLane_0 ?_
  refine V_if_lt 13 dX5_isLane_1 (by decide) (fun c1 => ?_) (fun c1 => ?_)
  · have hf : ¬ laI l := fun h => h.1 c1
    refine V_iconst 0 dX5_isLane_13 (by decide) ?_
    exact V_zret hX dX5_isLane_14 rfl (by first | exact Or.inl rfl | exact Or.inr rfl) (by first | rw [b2i_f hf] | rw [b2i_t ht]) rfl
  · refine V_ild0 dX5_isLane_4 ?_
    refine V_iconst 2 dX5_isLane_5 (by decide) ?_
    refine V_icmp_gt 13 dX5_isLane_6 (by decide) (fun c6 => ?_) (fun c6 => ?_)
    · have hf : ¬ laI l := fun h => h.2 c6
      refine V_iconst 0 dX5_isLane_13 (by decide) ?_
      exact V_zret hX dX5_isLane_14 rfl (by first | exact Or.inl rfl | exact Or.inr rfl) (by first | rw [b2i_f hf] | rw [b2i_t ht]) rfl
    · have ht : laI l := ⟨c1, c6⟩
      refine V_iconst 1 dX5_isLane_9 (by decide) ?_
      refine V_goto 14 dX5_isLane_10 (by decide) ?_
      exact V_zret hX dX5_isLane_14 rfl (by first | exact Or.inl rfl | exact Or.inr rfl) (by first | rw [b2i_f hf] | rw [b2i_t ht]) rfl
set_option maxRecDepth 100000 in
set_option maxHeartbeats 4000000 in
theorem ok_begins (b : Int32) : Ok 0 yX5_begins cX5_begins 2 none D tc [.ref (A 0), .int b] (cW A tc σ) none (cW A tc (beC σ b)) := by
  refine Ok_of RX5 rfl (by decide) [some (.ref (A 0)), some (.int b)] rfl (Nat.le_of_ble_eq_true rfl) ?_
  intro X hX
  refine V_ald0 dX5_begins_0 ?_
  refine V_bipush 31 dX5_begins_1 (by decide) ?_
  refine V_ald0 dX5_begins_3 ?_
  refine V_get lf_X5_48 dX5_begins_4 cW_main rfl ?_
  refine V_imul dX5_begins_7 ?_
  refine V_ild1 dX5_begins_8 ?_
  refine V_iadd dX5_begins_9 ?_
  refine V_puti lp_X5_48 dX5_begins_10 cW_main (Nat.le_of_ble_eq_true rfl) (cW_mainp6 _) ?_
  exact V_vret hX dX5_begins_13 rfl rfl rfl
set_option maxRecDepth 100000 in
set_option maxHeartbeats 4000000 in
theorem ok_toldByClear (m : Nat) (hm : m < 6) : Ok 1 yX5_toldByClear cX5_toldByClear 2 (some .int) D tc [.ref (A 0), .int (nI m)] (cW A tc σ) (some (.int (σ 5 6 m))) (cW A tc (beC σ 1)) := by
  refine Ok_of RX5 rfl (by decide) [some (.ref (A 0)), some (.int (nI m))] rfl (Nat.le_of_ble_eq_true rfl) ?_
  intro X hX
  refine V_ald0 dX5_toldByClear_0 ?_
  refine V_iconst 1 dX5_toldByClear_1 (by decide) ?_
  refine V_callVv lm_X5_271 (ok_begins 1) dX5_toldByClear_2 cW_main rfl (dep hX (by decide)) rfl (Nat.le_of_ble_eq_true rfl) ?_
  refine V_ald0 dX5_toldByClear_5 ?_
  refine V_get lf_X5_20 dX5_toldByClear_6 cW_main rfl ?_
  refine V_get lf_X5_106 dX5_toldByClear_9 (cW_mkt now5) rfl ?_
  refine V_ild1 dX5_toldByClear_12 ?_
  refine V_ialdk dX5_toldByClear_13 (cW_ma6 now5) ⟨hm, by decide⟩ ?_
  exact V_iret hX dX5_toldByClear_14 rfl rfl rfl
set_option maxRecDepth 100000 in
set_option maxHeartbeats 4000000 in
theorem ok_toldByFrost (m : Nat) (hm : m < 6) : Ok 2 yX5_toldByFrost cX5_toldByFrost 2 (some .int) D tc [.ref (A 0), .int (nI m)] (cW A tc σ) (some (.int (σ 5 6 m + 100))) (cW A tc (beC (beC σ 2) 1)) := by
  refine Ok_of RX5 rfl (by decide) [some (.ref (A 0)), some (.int (nI m))] rfl (Nat.le_of_ble_eq_true rfl) ?_
  intro X hX
  refine V_ald0 dX5_toldByFrost_0 ?_
  refine V_iconst 2 dX5_toldByFrost_1 (by decide) ?_
  refine V_callVv lm_X5_271 (ok_begins 2) dX5_toldByFrost_2 cW_main rfl (dep hX (by decide)) rfl (Nat.le_of_ble_eq_true rfl) ?_
  refine V_ald0 dX5_toldByFrost_5 ?_
  refine V_ild1 dX5_toldByFrost_6 ?_
  refine V_callV lm_X5_246 (ok_toldByClear m hm) dX5_toldByFrost_7 cW_main rfl (dep hX (by decide)) rfl (Nat.le_of_ble_eq_true rfl) ?_
  refine V_bipush 100 dX5_toldByFrost_10 (by decide) ?_
  refine V_iadd dX5_toldByFrost_12 ?_
  exact V_iret hX dX5_toldByFrost_13 rfl rfl rfl
set_option maxRecDepth 100000 in
set_option maxHeartbeats 4000000 in
theorem ok_toldByPainted (m : Nat) (hm : m < 6) : Ok 3 yX5_toldByPainted cX5_toldByPainted 3 (some .int) D tc [.ref (A 0), .int (nI m)] (cW A tc σ) (some (.int (σ 5 6 m + 100 + σ 5 6 m))) (cW A tc (beC (beC (beC (beC σ 3) 2) 1) 1)) := by
  refine Ok_of RX5 rfl (by decide) [some (.ref (A 0)), some (.int (nI m)), none] rfl (Nat.le_of_ble_eq_true rfl) ?_
  intro X hX
  refine V_ald0 dX5_toldByPainted_0 ?_
  refine V_iconst 3 dX5_toldByPainted_1 (by decide) ?_
  refine V_callVv lm_X5_271 (ok_begins 3) dX5_toldByPainted_2 cW_main rfl (dep hX (by decide)) rfl (Nat.le_of_ble_eq_true rfl) ?_
  refine V_ald0 dX5_toldByPainted_5 ?_
  refine V_ild1 dX5_toldByPainted_6 ?_
  refine V_callV lm_X5_240 (ok_toldByFrost m hm) dX5_toldByPainted_7 cW_main rfl (dep hX (by decide)) rfl (Nat.le_of_ble_eq_true rfl) ?_
  refine V_ist2 dX5_toldByPainted_10 rfl (by decide) ?_
  refine V_ild2 dX5_toldByPainted_11 ?_
  refine V_ald0 dX5_toldByPainted_12 ?_
  refine V_ild1 dX5_toldByPainted_13 ?_
  refine V_callV lm_X5_246 (ok_toldByClear m hm) dX5_toldByPainted_14 cW_main rfl (dep hX (by decide)) rfl (Nat.le_of_ble_eq_true rfl) ?_
  refine V_iadd dX5_toldByPainted_17 ?_
  exact V_iret hX dX5_toldByPainted_18 rfl rfl rfl
set_option maxRecDepth 100000 in
set_option maxHeartbeats 4000000 in
theorem ok_crowedByLent (m : Int32) : Ok 1 yX5_crowedByLent cX5_crowedByLent 2 (some .int) D tc [.ref (A 0), .int m] (cW A tc σ) (some (.int m)) (cW A tc (beC σ 4)) := by
  refine Ok_of RX5 rfl (by decide) [some (.ref (A 0)), some (.int m)] rfl (Nat.le_of_ble_eq_true rfl) ?_
  intro X hX
  refine V_ald0 dX5_crowedByLent_0 ?_
  refine V_iconst 4 dX5_crowedByLent_1 (by decide) ?_
  refine V_callVv lm_X5_271 (ok_begins 4) dX5_crowedByLent_2 cW_main rfl (dep hX (by decide)) rfl (Nat.le_of_ble_eq_true rfl) ?_
  refine V_ild1 dX5_crowedByLent_5 ?_
  exact V_iret hX dX5_crowedByLent_6 rfl rfl rfl
set_option maxRecDepth 100000 in
set_option maxHeartbeats 4000000 in
theorem ok_crowedByPainted : Ok 1 yX5_crowedByPainted cX5_crowedByPainted 1 (some .int) D tc [.ref (A 0)] (cW A tc σ) (some (.int 70)) (cW A tc (beC σ 5)) := by
  refine Ok_of RX5 rfl (by decide) [some (.ref (A 0))] rfl (Nat.le_of_ble_eq_true rfl) ?_
  intro X hX
  refine V_ald0 dX5_crowedByPainted_0 ?_
  refine V_iconst 5 dX5_crowedByPainted_1 (by decide) ?_
  refine V_callVv lm_X5_271 (ok_begins 5) dX5_crowedByPainted_2 cW_main rfl (dep hX (by decide)) rfl (Nat.le_of_ble_eq_true rfl) ?_
  refine V_bipush 70 dX5_crowedByPainted_5 (by decide) ?_
  exact V_iret hX dX5_crowedByPainted_7 rfl rfl rfl
abbrev yeI (w : Int32) : Prop := (¬ w < 0 ∧ w ≤ 3) ∨ (¬ w < 10 ∧ w < 14) ∨ (¬ w < 20 ∧ w < 24) ∨ (¬ w < 30 ∧ ¬ 36 ≤ w)
set_option maxRecDepth 100000 in
set_option maxHeartbeats 4000000 in
theorem ok_canBeAsked (w : Int32) : Ok 0 yX5_canBeAskedOfYear cX5_canBeAskedOfYear 1 (some .boolean) D tc [.int w] ws (some (.int (b2i (yeI w)))) ws := by
  refine Ok_of RX5 rfl (by decide) [some (.int w)] rfl (Nat.le_of_ble_eq_true rfl) ?_
  intro X hX
  refine V_ild0 dX5_canBeAskedOfYear_0 ?_
  refine V_if_lt 9 dX5_canBeAskedOfYear_1 (by decide) (fun c1 => ?_) (fun c1 => ?_)
  · refine V_ild0 dX5_canBeAskedOfYear_9 ?_
    refine V_bipush 10 dX5_canBeAskedOfYear_10 (by decide) ?_
    refine V_icmp_lt 21 dX5_canBeAskedOfYear_12 (by decide) (fun c12 => ?_) (fun c12 => ?_)
    · refine V_ild0 dX5_canBeAskedOfYear_21 ?_
      refine V_bipush 20 dX5_canBeAskedOfYear_22 (by decide) ?_
      refine V_icmp_lt 33 dX5_canBeAskedOfYear_24 (by decide) (fun c24 => ?_) (fun c24 => ?_)
      · refine V_ild0 dX5_canBeAskedOfYear_33 ?_
        refine V_bipush 30 dX5_canBeAskedOfYear_34 (by decide) ?_
        refine V_icmp_lt 49 dX5_canBeAskedOfYear_36 (by decide) (fun c36 => ?_) (fun c36 => ?_)
        · refine V_iconst 0 dX5_canBeAskedOfYear_49 (by decide) ?_
          exact V_zret hX dX5_canBeAskedOfYear_50 rfl (by first | exact Or.inl rfl | exact Or.inr rfl) (by simp [b2i, yeI, *]) rfl
        · refine V_ild0 dX5_canBeAskedOfYear_39 ?_
          refine V_bipush 36 dX5_canBeAskedOfYear_40 (by decide) ?_
          refine V_icmp_ge 49 dX5_canBeAskedOfYear_42 (by decide) (fun c42 => ?_) (fun c42 => ?_)
          · refine V_iconst 0 dX5_canBeAskedOfYear_49 (by decide) ?_
            exact V_zret hX dX5_canBeAskedOfYear_50 rfl (by first | exact Or.inl rfl | exact Or.inr rfl) (by simp [b2i, yeI, *]) rfl
          · refine V_iconst 1 dX5_canBeAskedOfYear_45 (by decide) ?_
            refine V_goto 50 dX5_canBeAskedOfYear_46 (by decide) ?_
            exact V_zret hX dX5_canBeAskedOfYear_50 rfl (by first | exact Or.inl rfl | exact Or.inr rfl) (by simp [b2i, yeI, *]) rfl
      · refine V_ild0 dX5_canBeAskedOfYear_27 ?_
        refine V_bipush 24 dX5_canBeAskedOfYear_28 (by decide) ?_
        refine V_icmp_lt 45 dX5_canBeAskedOfYear_30 (by decide) (fun c30 => ?_) (fun c30 => ?_)
        · refine V_iconst 1 dX5_canBeAskedOfYear_45 (by decide) ?_
          refine V_goto 50 dX5_canBeAskedOfYear_46 (by decide) ?_
          exact V_zret hX dX5_canBeAskedOfYear_50 rfl (by first | exact Or.inl rfl | exact Or.inr rfl) (by simp [b2i, yeI, *]) rfl
        · refine V_ild0 dX5_canBeAskedOfYear_33 ?_
          refine V_bipush 30 dX5_canBeAskedOfYear_34 (by decide) ?_
          refine V_icmp_lt 49 dX5_canBeAskedOfYear_36 (by decide) (fun c36 => ?_) (fun c36 => ?_)
          · refine V_iconst 0 dX5_canBeAskedOfYear_49 (by decide) ?_
            exact V_zret hX dX5_canBeAskedOfYear_50 rfl (by first | exact Or.inl rfl | exact Or.inr rfl) (by simp [b2i, yeI, *]) rfl
          · refine V_ild0 dX5_canBeAskedOfYear_39 ?_
            refine V_bipush 36 dX5_canBeAskedOfYear_40 (by decide) ?_
            refine V_icmp_ge 49 dX5_canBeAskedOfYear_42 (by decide) (fun c42 => ?_) (fun c42 => ?_)
            · refine V_iconst 0 dX5_canBeAskedOfYear_49 (by decide) ?_
              exact V_zret hX dX5_canBeAskedOfYear_50 rfl (by first | exact Or.inl rfl | exact Or.inr rfl) (by simp [b2i, yeI, *]) rfl
            · refine V_iconst 1 dX5_canBeAskedOfYear_45 (by decide) ?_
              refine V_goto 50 dX5_canBeAskedOfYear_46 (by decide) ?_
              exact V_zret hX dX5_canBeAskedOfYear_50 rfl (by first | exact Or.inl rfl | exact Or.inr rfl) (by simp [b2i, yeI, *]) rfl
    · refine V_ild0 dX5_canBeAskedOfYear_15 ?_
      refine V_bipush 14 dX5_canBeAskedOfYear_16 (by decide) ?_
      refine V_icmp_lt 45 dX5_canBeAskedOfYear_18 (by decide) (fun c18 => ?_) (fun c18 => ?_)
      · refine V_iconst 1 dX5_canBeAskedOfYear_45 (by decide) ?_
        refine V_goto 50 dX5_canBeAskedOfYear_46 (by decide) ?_
        exact V_zret hX dX5_canBeAskedOfYear_50 rfl (by first | exact Or.inl rfl | exact Or.inr rfl) (by simp [b2i, yeI, *]) rfl
      · refine V_ild0 dX5_canBeAskedOfYear_21 ?_
        refine V_bipush 20 dX5_canBeAskedOfYear_22 (by decide) ?_
        refine V_icmp_lt 33 dX5_canBeAskedOfYear_24 (by decide) (fun c24 => ?_) (fun c24 => ?_)
        · refine V_ild0 dX5_canBeAskedOfYear_33 ?_
          refine V_bipush 30 dX5_canBeAskedOfYear_34 (by decide) ?_
          refine V_icmp_lt 49 dX5_canBeAskedOfYear_36 (by decide) (fun c36 => ?_) (fun c36 => ?_)
          · refine V_iconst 0 dX5_canBeAskedOfYear_49 (by decide) ?_
            exact V_zret hX dX5_canBeAskedOfYear_50 rfl (by first | exact Or.inl rfl | exact Or.inr rfl) (by simp [b2i, yeI, *]) rfl
          · refine V_ild0 dX5_canBeAskedOfYear_39 ?_
            refine V_bipush 36 dX5_canBeAskedOfYear_40 (by decide) ?_
            refine V_icmp_ge 49 dX5_canBeAskedOfYear_42 (by decide) (fun c42 => ?_) (fun c42 => ?_)
            · refine V_iconst 0 dX5_canBeAskedOfYear_49 (by decide) ?_
              exact V_zret hX dX5_canBeAskedOfYear_50 rfl (by first | exact Or.inl rfl | exact Or.inr rfl) (by simp [b2i, yeI, *]) rfl
            · refine V_iconst 1 dX5_canBeAskedOfYear_45 (by decide) ?_
              refine V_goto 50 dX5_canBeAskedOfYear_46 (by decide) ?_
              exact V_zret hX dX5_canBeAskedOfYear_50 rfl (by first | exact Or.inl rfl | exact Or.inr rfl) (by simp [b2i, yeI, *]) rfl
        · refine V_ild0 dX5_canBeAskedOfYear_27 ?_
          refine V_bipush 24 dX5_canBeAskedOfYear_28 (by decide) ?_
          refine V_icmp_lt 45 dX5_canBeAskedOfYear_30 (by decide) (fun c30 => ?_) (fun c30 => ?_)
          · refine V_iconst 1 dX5_canBeAskedOfYear_45 (by decide) ?_
            refine V_goto 50 dX5_canBeAskedOfYear_46 (by decide) ?_
            exact V_zret hX dX5_canBeAskedOfYear_50 rfl (by first | exact Or.inl rfl | exact Or.inr rfl) (by simp [b2i, yeI, *]) rfl
          · refine V_ild0 dX5_canBeAskedOfYear_33 ?_
            refine V_bipush 30 dX5_canBeAskedOfYear_34 (by decide) ?_
            refine V_icmp_lt 49 dX5_canBeAskedOfYear_36 (by decide) (fun c36 => ?_) (fun c36 => ?_)
            · refine V_iconst 0 dX5_canBeAskedOfYear_49 (by decide) ?_
              exact V_zret hX dX5_canBeAskedOfYear_50 rfl (by first | exact Or.inl rfl | exact Or.inr rfl) (by simp [b2i, yeI, *]) rfl
            · refine V_ild0 dX5_canBeAskedOfYear_39 ?_
              refine V_bipush 36 dX5_canBeAskedOfYear_40 (by decide) ?_
              refine V_icmp_ge 49 dX5_canBeAskedOfYear_42 (by decide) (fun c42 => ?_) (fun c42 => ?_)
              · refine V_iconst 0 dX5_canBeAskedOfYear_49 (by decide) ?_
                exact V_zret hX dX5_canBeAskedOfYear_50 rfl (by first | exact Or.inl rfl | exact Or.inr rfl) (by simp [b2i, yeI, *]) rfl
              · refine V_iconst 1 dX5_canBeAskedOfYear_45 (by decide) ?_
                refine V_goto 50 dX5_canBeAskedOfYear_46 (by decide) ?_
                exact V_zret hX dX5_canBeAskedOfYear_50 rfl (by first | exact Or.inl rfl | exact Or.inr rfl) (by simp [b2i, yeI, *]) rfl
  · refine V_ild0 dX5_canBeAskedOfYear_4 ?_
    refine V_iconst 3 dX5_canBeAskedOfYear_5 (by decide) ?_
    refine V_icmp_le 45 dX5_canBeAskedOfYear_6 (by decide) (fun c6 => ?_) (fun c6 => ?_)
    · refine V_iconst 1 dX5_canBeAskedOfYear_45 (by decide) ?_
      refine V_goto 50 dX5_canBeAskedOfYear_46 (by decide) ?_
      exact V_zret hX dX5_canBeAskedOfYear_50 rfl (by first | exact Or.inl rfl | exact Or.inr rfl) (by simp [b2i, yeI, *]) rfl
    · refine V_ild0 dX5_canBeAskedOfYear_9 ?_
      refine V_bipush 10 dX5_canBeAskedOfYear_10 (by decide) ?_
      refine V_icmp_lt 21 dX5_canBeAskedOfYear_12 (by decide) (fun c12 => ?_) (fun c12 => ?_)
      · refine V_ild0 dX5_canBeAskedOfYear_21 ?_
        refine V_bipush 20 dX5_canBeAskedOfYear_22 (by decide) ?_
        refine V_icmp_lt 33 dX5_canBeAskedOfYear_24 (by decide) (fun c24 => ?_) (fun c24 => ?_)
        · refine V_ild0 dX5_canBeAskedOfYear_33 ?_
          refine V_bipush 30 dX5_canBeAskedOfYear_34 (by decide) ?_
          refine V_icmp_lt 49 dX5_canBeAskedOfYear_36 (by decide) (fun c36 => ?_) (fun c36 => ?_)
          · refine V_iconst 0 dX5_canBeAskedOfYear_49 (by decide) ?_
            exact V_zret hX dX5_canBeAskedOfYear_50 rfl (by first | exact Or.inl rfl | exact Or.inr rfl) (by simp [b2i, yeI, *]) rfl
          · refine V_ild0 dX5_canBeAskedOfYear_39 ?_
            refine V_bipush 36 dX5_canBeAskedOfYear_40 (by decide) ?_
            refine V_icmp_ge 49 dX5_canBeAskedOfYear_42 (by decide) (fun c42 => ?_) (fun c42 => ?_)
            · refine V_iconst 0 dX5_canBeAskedOfYear_49 (by decide) ?_
              exact V_zret hX dX5_canBeAskedOfYear_50 rfl (by first | exact Or.inl rfl | exact Or.inr rfl) (by simp [b2i, yeI, *]) rfl
            · refine V_iconst 1 dX5_canBeAskedOfYear_45 (by decide) ?_
              refine V_goto 50 dX5_canBeAskedOfYear_46 (by decide) ?_
              exact V_zret hX dX5_canBeAskedOfYear_50 rfl (by first | exact Or.inl rfl | exact Or.inr rfl) (by simp [b2i, yeI, *]) rfl
        · refine V_ild0 dX5_canBeAskedOfYear_27 ?_
          refine V_bipush 24 dX5_canBeAskedOfYear_28 (by decide) ?_
          refine V_icmp_lt 45 dX5_canBeAskedOfYear_30 (by decide) (fun c30 => ?_) (fun c30 => ?_)
          · refine V_iconst 1 dX5_canBeAskedOfYear_45 (by decide) ?_
            refine V_goto 50 dX5_canBeAskedOfYear_46 (by decide) ?_
            exact V_zret hX dX5_canBeAskedOfYear_50 rfl (by first | exact Or.inl rfl | exact Or.inr rfl) (by simp [b2i, yeI, *]) rfl
          · refine V_ild0 dX5_canBeAskedOfYear_33 ?_
            refine V_bipush 30 dX5_canBeAskedOfYear_34 (by decide) ?_
            refine V_icmp_lt 49 dX5_canBeAskedOfYear_36 (by decide) (fun c36 => ?_) (fun c36 => ?_)
            · refine V_iconst 0 dX5_canBeAskedOfYear_49 (by decide) ?_
              exact V_zret hX dX5_canBeAskedOfYear_50 rfl (by first | exact Or.inl rfl | exact Or.inr rfl) (by simp [b2i, yeI, *]) rfl
            · refine V_ild0 dX5_canBeAskedOfYear_39 ?_
              refine V_bipush 36 dX5_canBeAskedOfYear_40 (by decide) ?_
              refine V_icmp_ge 49 dX5_canBeAskedOfYear_42 (by decide) (fun c42 => ?_) (fun c42 => ?_)
              · refine V_iconst 0 dX5_canBeAskedOfYear_49 (by decide) ?_
                exact V_zret hX dX5_canBeAskedOfYear_50 rfl (by first | exact Or.inl rfl | exact Or.inr rfl) (by simp [b2i, yeI, *]) rfl
              · refine V_iconst 1 dX5_canBeAskedOfYear_45 (by decide) ?_
                refine V_goto 50 dX5_canBeAskedOfYear_46 (by decide) ?_
                exact V_zret hX dX5_canBeAskedOfYear_50 rfl (by first | exact Or.inl rfl | exact Or.inr rfl) (by simp [b2i, yeI, *]) rfl
      · refine V_ild0 dX5_canBeAskedOfYear_15 ?_
        refine V_bipush 14 dX5_canBeAskedOfYear_16 (by decide) ?_
        refine V_icmp_lt 45 dX5_canBeAskedOfYear_18 (by decide) (fun c18 => ?_) (fun c18 => ?_)
        · refine V_iconst 1 dX5_canBeAskedOfYear_45 (by decide) ?_
          refine V_goto 50 dX5_canBeAskedOfYear_46 (by decide) ?_
          exact V_zret hX dX5_canBeAskedOfYear_50 rfl (by first | exact Or.inl rfl | exact Or.inr rfl) (by simp [b2i, yeI, *]) rfl
        · refine V_ild0 dX5_canBeAskedOfYear_21 ?_
          refine V_bipush 20 dX5_canBeAskedOfYear_22 (by decide) ?_
          refine V_icmp_lt 33 dX5_canBeAskedOfYear_24 (by decide) (fun c24 => ?_) (fun c24 => ?_)
          · refine V_ild0 dX5_canBeAskedOfYear_33 ?_
            refine V_bipush 30 dX5_canBeAskedOfYear_34 (by decide) ?_
            refine V_icmp_lt 49 dX5_canBeAskedOfYear_36 (by decide) (fun c36 => ?_) (fun c36 => ?_)
            · refine V_iconst 0 dX5_canBeAskedOfYear_49 (by decide) ?_
              exact V_zret hX dX5_canBeAskedOfYear_50 rfl (by first | exact Or.inl rfl | exact Or.inr rfl) (by simp [b2i, yeI, *]) rfl
            · refine V_ild0 dX5_canBeAskedOfYear_39 ?_
              refine V_bipush 36 dX5_canBeAskedOfYear_40 (by decide) ?_
              refine V_icmp_ge 49 dX5_canBeAskedOfYear_42 (by decide) (fun c42 => ?_) (fun c42 => ?_)
              · refine V_iconst 0 dX5_canBeAskedOfYear_49 (by decide) ?_
                exact V_zret hX dX5_canBeAskedOfYear_50 rfl (by first | exact Or.inl rfl | exact Or.inr rfl) (by simp [b2i, yeI, *]) rfl
              · refine V_iconst 1 dX5_canBeAskedOfYear_45 (by decide) ?_
                refine V_goto 50 dX5_canBeAskedOfYear_46 (by decide) ?_
                exact V_zret hX dX5_canBeAskedOfYear_50 rfl (by first | exact Or.inl rfl | exact Or.inr rfl) (by simp [b2i, yeI, *]) rfl
          · refine V_ild0 dX5_canBeAskedOfYear_27 ?_
            refine V_bipush 24 dX5_canBeAskedOfYear_28 (by decide) ?_
            refine V_icmp_lt 45 dX5_canBeAskedOfYear_30 (by decide) (fun c30 => ?_) (fun c30 => ?_)
            · refine V_iconst 1 dX5_canBeAskedOfYear_45 (by decide) ?_
              refine V_goto 50 dX5_canBeAskedOfYear_46 (by decide) ?_
              exact V_zret hX dX5_canBeAskedOfYear_50 rfl (by first | exact Or.inl rfl | exact Or.inr rfl) (by simp [b2i, yeI, *]) rfl
            · refine V_ild0 dX5_canBeAskedOfYear_33 ?_
              refine V_bipush 30 dX5_canBeAskedOfYear_34 (by decide) ?_
              refine V_icmp_lt 49 dX5_canBeAskedOfYear_36 (by decide) (fun c36 => ?_) (fun c36 => ?_)
              · refine V_iconst 0 dX5_canBeAskedOfYear_49 (by decide) ?_
                exact V_zret hX dX5_canBeAskedOfYear_50 rfl (by first | exact Or.inl rfl | exact Or.inr rfl) (by simp [b2i, yeI, *]) rfl
              · refine V_ild0 dX5_canBeAskedOfYear_39 ?_
                refine V_bipush 36 dX5_canBeAskedOfYear_40 (by decide) ?_
                refine V_icmp_ge 49 dX5_canBeAskedOfYear_42 (by decide) (fun c42 => ?_) (fun c42 => ?_)
                · refine V_iconst 0 dX5_canBeAskedOfYear_49 (by decide) ?_
                  exact V_zret hX dX5_canBeAskedOfYear_50 rfl (by first | exact Or.inl rfl | exact Or.inr rfl) (by simp [b2i, yeI, *]) rfl
                · refine V_iconst 1 dX5_canBeAskedOfYear_45 (by decide) ?_
                  refine V_goto 50 dX5_canBeAskedOfYear_46 (by decide) ?_
                  exact V_zret hX dX5_canBeAskedOfYear_50 rfl (by first | exact Or.inl rfl | exact Or.inr rfl) (by simp [b2i, yeI, *]) rfl
end
end
section
def ushI (x : Int32) (k : Int32) : Int32 := (x.toUInt32 >>> (k.toUInt32 &&& Int32.toUInt32 31)).toInt32
def bc1 (x : Int32) : Int32 := x - (ushI x 1 &&& 1431655765)
def bc2 (x : Int32) : Int32 := (x &&& 858993459) + (ushI x 2 &&& 858993459)
def bc3 (x : Int32) : Int32 := (x + ushI x 4) &&& 252645135
def bcI (x : Int32) : Int32 := let a := bc3 (bc2 (bc1 x)); let b := a + ushI a 8; (b + ushI b 16) &&& 63
section
variable {D : va_G} {tc : Tc} {A : Nat → Nat} {σ : St} {M P C : Nat} {ws : va_W}
set_option maxRecDepth 100000 in
set_option maxHeartbeats 4000000 in
theorem ok_bitCount (x : Int32) : Ok 0 yJ6_bitCount_0f7a4 cJ6_bitCount_0f7a4 1 (some .int) D tc [.int x] ws (some (.int (bcI x))) ws := by
  refine Ok_of RJ6 rfl (by decide) [some (.int x)] rfl (Nat.le_of_ble_eq_true rfl) ?_
  intro X hX
  refine V_ild0 dJ6_bitCount_0f7a4_0 ?_
  refine V_ild0 dJ6_bitCount_0f7a4_1 ?_
  refine V_iconst 1 dJ6_bitCount_0f7a4_2 (by decide) ?_
  refine V_iushr dJ6_bitCount_0f7a4_3 ?_
  refine V_ldcw _ wC_J6_265 dJ6_bitCount_0f7a4_4 ?_
  refine V_iand dJ6_bitCount_0f7a4_7 ?_
  refine V_isub dJ6_bitCount_0f7a4_8 ?_
  refine V_ist0 dJ6_bitCount_0f7a4_9 rfl (by decide) ?_
  refine V_ild0 dJ6_bitCount_0f7a4_10 ?_
  refine V_ldcw _ wC_J6_266 dJ6_bitCount_0f7a4_11 ?_
  refine V_iand dJ6_bitCount_0f7a4_14 ?_
  refine V_ild0 dJ6_bitCount_0f7a4_15 ?_
  refine V_iconst 2 dJ6_bitCount_0f7a4_16 (by decide) ?_
  refine V_iushr dJ6_bitCount_0f7a4_17 ?_
  refine V_ldcw _ wC_J6_266 dJ6_bitCount_0f7a4_18 ?_
  refine V_iand dJ6_bitCount_0f7a4_21 ?_
  refine V_iadd dJ6_bitCount_0f7a4_22 ?_
  refine V_ist0 dJ6_bitCount_0f7a4_23 rfl (by decide) ?_
  refine V_ild0 dJ6_bitCount_0f7a4_24 ?_
  refine V_ild0 dJ6_bitCount_0f7a4_25 ?_
  refine V_iconst 4 dJ6_bitCount_0f7a4_26 (by decide) ?_
  refine V_iushr dJ6_bitCount_0f7a4_27 ?_
  refine V_iadd dJ6_bitCount_0f7a4_28 ?_
  refine V_ldcw _ wC_J6_267 dJ6_bitCount_0f7a4_29 ?_
  refine V_iand dJ6_bitCount_0f7a4_32 ?_
  refine V_ist0 dJ6_bitCount_0f7a4_33 rfl (by decide) ?_
  refine V_ild0 dJ6_bitCount_0f7a4_34 ?_
  refine V_ild0 dJ6_bitCount_0f7a4_35 ?_
  refine V_bipush 8 dJ6_bitCount_0f7a4_36 (by decide) ?_
  refine V_iushr dJ6_bitCount_0f7a4_38 ?_
  refine V_iadd dJ6_bitCount_0f7a4_39 ?_
  refine V_ist0 dJ6_bitCount_0f7a4_40 rfl (by decide) ?_
  refine V_ild0 dJ6_bitCount_0f7a4_41 ?_
  refine V_ild0 dJ6_bitCount_0f7a4_42 ?_
  refine V_bipush 16 dJ6_bitCount_0f7a4_43 (by decide) ?_
  refine V_iushr dJ6_bitCount_0f7a4_45 ?_
  refine V_iadd dJ6_bitCount_0f7a4_46 ?_
  refine V_ist0 dJ6_bitCount_0f7a4_47 rfl (by decide) ?_
  refine V_ild0 dJ6_bitCount_0f7a4_48 ?_
  refine V_bipush 63 dJ6_bitCount_0f7a4_49 (by decide) ?_
  refine V_iand dJ6_bitCount_0f7a4_51 ?_
  exact V_iret hX dJ6_bitCount_0f7a4_52 rfl rfl rfl
def geC (μ : Sm) (M a b q r : Nat) : Int32 := if μ 4 a = μ 4 b ∨ bitI (μ 11 0) (nI a) ∨ bitI (μ 11 0) (nI b) then 0 else
  if feC μ q (clC μ (nI q) M ^^^ (oneI a ||| oneI b)) M - feC μ q (clC μ (nI q) M) M < 0 ∨ ¬ 0 ≤ feC μ r (clC μ (nI r) M ^^^ (oneI a ||| oneI b)) M - feC μ r (clC μ (nI r) M) M then 0 else
  (feC μ q (clC μ (nI q) M ^^^ (oneI a ||| oneI b)) M - feC μ q (clC μ (nI q) M) M) + (feC μ r (clC μ (nI r) M ^^^ (oneI a ||| oneI b)) M - feC μ r (clC μ (nI r) M) M)
set_option maxRecDepth 100000 in
set_option maxHeartbeats 4000000 in
theorem ok_gainOfExchange (hM : σ 5 10 0 = nI M) (h6 : M ≤ 6) (a b q r : Nat) (ha : a < 6) (hb : b < 6) (hq4 : q < 4) (hr4 : r < 4) (hq : σ 5 4 a = nI q) (hr : σ 5 4 b = nI r) : Ok 4 yX5_gainOfExchange cX5_gainOfExchange 8 (some .int) D tc [.ref (A 0), .int (nI a), .int (nI b)] (cW A tc σ) (some (.int (geC (σ 5) M a b q r))) (cW A tc σ) := by
  refine Ok_of RX5 rfl (by decide) [some (.ref (A 0)), some (.int (nI a)), some (.int (nI b)), none, none, none, none, none] rfl (Nat.le_of_ble_eq_true rfl) ?_
  intro X hX
  refine V_ald0 dX5_gainOfExchange_0 ?_
  refine V_get lf_X5_20 dX5_gainOfExchange_1 cW_main rfl ?_
  refine V_get lf_X5_100 dX5_gainOfExchange_4 (cW_mkt now5) rfl ?_
  refine V_ild1 dX5_gainOfExchange_7 ?_
  refine V_ialdk dX5_gainOfExchange_8 (cW_ma4 now5) ⟨ha, by decide⟩ ?_
  refine V_top (y := nI q) hq ?_
  refine V_ist3 dX5_gainOfExchange_9 rfl (by decide) ?_
  refine V_ald0 dX5_gainOfExchange_10 ?_
  refine V_get lf_X5_20 dX5_gainOfExchange_11 cW_main rfl ?_
  refine V_get lf_X5_100 dX5_gainOfExchange_14 (cW_mkt now5) rfl ?_
  refine V_ild2 dX5_gainOfExchange_17 ?_
  refine V_ialdk dX5_gainOfExchange_18 (cW_ma4 now5) ⟨hb, by decide⟩ ?_
  refine V_top (y := nI r) hr ?_
  refine V_ist4 dX5_gainOfExchange_19 rfl (by decide) ?_
  refine V_ild3 dX5_gainOfExchange_21 ?_
  refine V_ild4 dX5_gainOfExchange_22 ?_
  refine V_icmp_eq 49 dX5_gainOfExchange_24 (by decide) (fun c24 => ?_) (fun c24 => ?_)
  · refine V_iconst 0 dX5_gainOfExchange_49 (by decide) ?_
    exact V_iret hX dX5_gainOfExchange_50 rfl (by (try first | replace c24 := eq_false c24 | replace c24 := eq_true c24); (try first | replace c35 := eq_false c35 | replace c35 := eq_true c35); (try first | replace c46 := eq_false c46 | replace c46 := eq_true c46); simp only [geC, oneI, *, not_true_eq_false, not_false_eq_true, and_self, true_and, and_true, false_and, and_false, true_or, or_true, false_or, or_false, or_self, ↓reduceIte]) rfl
  · refine V_ald0 dX5_gainOfExchange_27 ?_
    refine V_get lf_X5_20 dX5_gainOfExchange_28 cW_main rfl ?_
    refine V_ild1 dX5_gainOfExchange_31 ?_
    refine V_callV lm_X5_109 (ok_isOpened now5 _) dX5_gainOfExchange_32 (cW_mkt now5) rfl (dep hX (by decide)) rfl (Nat.le_of_ble_eq_true rfl) ?_
    refine V_if_ne 49 dX5_gainOfExchange_35 (by decide) (fun c35 => ?_) (fun c35 => ?_)
    · try rw [b2i_ne] at c35
      try rw [Decidable.not_not] at c35
      refine V_iconst 0 dX5_gainOfExchange_49 (by decide) ?_
      exact V_iret hX dX5_gainOfExchange_50 rfl (by (try first | replace c24 := eq_false c24 | replace c24 := eq_true c24); (try first | replace c35 := eq_false c35 | replace c35 := eq_true c35); (try first | replace c46 := eq_false c46 | replace c46 := eq_true c46); simp only [geC, oneI, *, not_true_eq_false, not_false_eq_true, and_self, true_and, and_true, false_and, and_false, true_or, or_true, false_or, or_false, or_self, ↓reduceIte]) rfl
    · try rw [b2i_eq] at c35
      try rw [Decidable.not_not] at c35
      refine V_ald0 dX5_gainOfExchange_38 ?_
      refine V_get lf_X5_20 dX5_gainOfExchange_39 cW_main rfl ?_
      refine V_ild2 dX5_gainOfExchange_42 ?_
      refine V_callV lm_X5_109 (ok_isOpened now5 _) dX5_gainOfExchange_43 (cW_mkt now5) rfl (dep hX (by decide)) rfl (Nat.le_of_ble_eq_true rfl) ?_
      refine V_if_eq 51 dX5_gainOfExchange_46 (by decide) (fun c46 => ?_) (fun c46 => ?_)
      · try rw [b2i_eq] at c46
        try rw [Decidable.not_not] at c46
        refine V_iconst 1 dX5_gainOfExchange_51 (by decide) ?_
        refine V_ild1 dX5_gainOfExchange_52 ?_
        refine V_ishl dX5_gainOfExchange_53 ?_
        refine V_iconst 1 dX5_gainOfExchange_54 (by decide) ?_
        refine V_ild2 dX5_gainOfExchange_55 ?_
        refine V_ishl dX5_gainOfExchange_56 ?_
        refine V_ior dX5_gainOfExchange_57 ?_
        refine V_ist5 dX5_gainOfExchange_58 rfl (by decide) ?_
        refine V_ald0 dX5_gainOfExchange_60 ?_
        refine V_get lf_X5_20 dX5_gainOfExchange_61 cW_main rfl ?_
        refine V_ild3 dX5_gainOfExchange_64 ?_
        refine V_ald0 dX5_gainOfExchange_65 ?_
        refine V_get lf_X5_20 dX5_gainOfExchange_66 cW_main rfl ?_
        refine V_ild3 dX5_gainOfExchange_69 ?_
        refine V_callV lm_X5_121 (ok_closedOf now5 hM h6 _) dX5_gainOfExchange_70 (cW_mkt now5) rfl (dep hX (by decide)) rfl (Nat.le_of_ble_eq_true rfl) ?_
        refine V_ild5 dX5_gainOfExchange_73 ?_
        refine V_ixor dX5_gainOfExchange_75 ?_
        refine V_callV lm_X5_176 (ok_feastWith now5 hM h6 q hq4 _) dX5_gainOfExchange_76 (cW_mkt now5) rfl (dep hX (by decide)) rfl (Nat.le_of_ble_eq_true rfl) ?_
        refine V_ald0 dX5_gainOfExchange_79 ?_
        refine V_get lf_X5_20 dX5_gainOfExchange_80 cW_main rfl ?_
        refine V_ild3 dX5_gainOfExchange_83 ?_
        refine V_ald0 dX5_gainOfExchange_84 ?_
        refine V_get lf_X5_20 dX5_gainOfExchange_85 cW_main rfl ?_
        refine V_ild3 dX5_gainOfExchange_88 ?_
        refine V_callV lm_X5_121 (ok_closedOf now5 hM h6 _) dX5_gainOfExchange_89 (cW_mkt now5) rfl (dep hX (by decide)) rfl (Nat.le_of_ble_eq_true rfl) ?_
        refine V_callV lm_X5_176 (ok_feastWith now5 hM h6 q hq4 _) dX5_gainOfExchange_92 (cW_mkt now5) rfl (dep hX (by decide)) rfl (Nat.le_of_ble_eq_true rfl) ?_
        refine V_isub dX5_gainOfExchange_95 ?_
        refine V_ist6 dX5_gainOfExchange_96 rfl (by decide) ?_
        refine V_ald0 dX5_gainOfExchange_98 ?_
        refine V_get lf_X5_20 dX5_gainOfExchange_99 cW_main rfl ?_
        refine V_ild4 dX5_gainOfExchange_102 ?_
        refine V_ald0 dX5_gainOfExchange_104 ?_
        refine V_get lf_X5_20 dX5_gainOfExchange_105 cW_main rfl ?_
        refine V_ild4 dX5_gainOfExchange_108 ?_
        refine V_callV lm_X5_121 (ok_closedOf now5 hM h6 _) dX5_gainOfExchange_110 (cW_mkt now5) rfl (dep hX (by decide)) rfl (Nat.le_of_ble_eq_true rfl) ?_
        refine V_ild5 dX5_gainOfExchange_113 ?_
        refine V_ixor dX5_gainOfExchange_115 ?_
        refine V_callV lm_X5_176 (ok_feastWith now5 hM h6 r hr4 _) dX5_gainOfExchange_116 (cW_mkt now5) rfl (dep hX (by decide)) rfl (Nat.le_of_ble_eq_true rfl) ?_
        refine V_ald0 dX5_gainOfExchange_119 ?_
        refine V_get lf_X5_20 dX5_gainOfExchange_120 cW_main rfl ?_
        refine V_ild4 dX5_gainOfExchange_123 ?_
        refine V_ald0 dX5_gainOfExchange_125 ?_
        refine V_get lf_X5_20 dX5_gainOfExchange_126 cW_main rfl ?_
        refine V_ild4 dX5_gainOfExchange_129 ?_
        refine V_callV lm_X5_121 (ok_closedOf now5 hM h6 _) dX5_gainOfExchange_131 (cW_mkt now5) rfl (dep hX (by decide)) rfl (Nat.le_of_ble_eq_true rfl) ?_
        refine V_callV lm_X5_176 (ok_feastWith now5 hM h6 r hr4 _) dX5_gainOfExchange_134 (cW_mkt now5) rfl (dep hX (by decide)) rfl (Nat.le_of_ble_eq_true rfl) ?_
        refine V_isub dX5_gainOfExchange_137 ?_
        refine V_ist7 dX5_gainOfExchange_138 rfl (by decide) ?_
        refine V_ild6 dX5_gainOfExchange_140 ?_
        refine V_if_lt 150 dX5_gainOfExchange_142 (by decide) (fun c142 => ?_) (fun c142 => ?_)
        · refine V_iconst 0 dX5_gainOfExchange_150 (by decide) ?_
          refine V_goto 159 dX5_gainOfExchange_151 (by decide) ?_
          exact V_iret hX dX5_gainOfExchange_159 rfl (by (try first | replace c24 := eq_false c24 | replace c24 := eq_true c24); (try first | replace c35 := eq_false c35 | replace c35 := eq_true c35); (try first | replace c46 := eq_false c46 | replace c46 := eq_true c46); simp only [geC, oneI, *, not_true_eq_false, not_false_eq_true, and_self, true_and, and_true, false_and, and_false, true_or, or_true, false_or, or_false, or_self, ↓reduceIte]) rfl
        · refine V_ild7 dX5_gainOfExchange_145 ?_
          refine V_if_ge 154 dX5_gainOfExchange_147 (by decide) (fun c147 => ?_) (fun c147 => ?_)
          · refine V_ild6 dX5_gainOfExchange_154 ?_
            refine V_ild7 dX5_gainOfExchange_156 ?_
            refine V_iadd dX5_gainOfExchange_158 ?_
            exact V_iret hX dX5_gainOfExchange_159 rfl (by (try first | replace c24 := eq_false c24 | replace c24 := eq_true c24); (try first | replace c35 := eq_false c35 | replace c35 := eq_true c35); (try first | replace c46 := eq_false c46 | replace c46 := eq_true c46); simp only [geC, oneI, *, not_true_eq_false, not_false_eq_true, and_self, true_and, and_true, false_and, and_false, true_or, or_true, false_or, or_false, or_self, ↓reduceIte]) rfl
          · refine V_iconst 0 dX5_gainOfExchange_150 (by decide) ?_
            refine V_goto 159 dX5_gainOfExchange_151 (by decide) ?_
            exact V_iret hX dX5_gainOfExchange_159 rfl (by (try first | replace c24 := eq_false c24 | replace c24 := eq_true c24); (try first | replace c35 := eq_false c35 | replace c35 := eq_true c35); (try first | replace c46 := eq_false c46 | replace c46 := eq_true c46); simp only [geC, oneI, *, not_true_eq_false, not_false_eq_true, and_self, true_and, and_true, false_and, and_false, true_or, or_true, false_or, or_false, or_self, ↓reduceIte]) rfl
      · try rw [b2i_ne] at c46
        try rw [Decidable.not_not] at c46
        refine V_iconst 0 dX5_gainOfExchange_49 (by decide) ?_
        exact V_iret hX dX5_gainOfExchange_50 rfl (by (try first | replace c24 := eq_false c24 | replace c24 := eq_true c24); (try first | replace c35 := eq_false c35 | replace c35 := eq_true c35); (try first | replace c46 := eq_false c46 | replace c46 := eq_true c46); simp only [geC, oneI, *, not_true_eq_false, not_false_eq_true, and_self, true_and, and_true, false_and, and_false, true_or, or_true, false_or, or_false, or_self, ↓reduceIte]) rfl
abbrev T3 : Type := Int32 × Int32 × Int32
def sbS (μ : Sm) (M p : Nat) (v th ot : Int32) (s : Int32) (t : T3) : T3 :=
  if s &&& (ot ^^^ (-1)) = 0 ∧ ¬ μ 0 p < psC μ s M ∧ v ≤ feC μ p (th ||| s) M ∧ (t.1 = -9 ∨ psC μ s M < t.2.1 ∨ (psC μ s M = t.2.1 ∧ ¬ t.2.2 ≤ bcI s)) then (s, psC μ s M, bcI s) else t
def sbC (μ : Sm) (M p : Nat) (v th ot : Int32) : Nat → T3
  | 0 => (-9, 0, 0)
  | k + 1 => sbS μ M p v th ot (nI k) (sbC μ M p v th ot k)
def sdS (μ : Sm) (M p : Nat) (v th : Int32) (s : Int32) (t : T3) : T3 :=
  if s &&& (th ^^^ (-1)) = 0 ∧ v ≤ psC μ s M ∧ (t.1 = -9 ∨ t.2.1 < feC μ p (th &&& (s ^^^ (-1))) M ∨ (feC μ p (th &&& (s ^^^ (-1))) M = t.2.1 ∧ ¬ t.2.2 ≤ bcI s)) then (s, feC μ p (th &&& (s ^^^ (-1))) M, bcI s) else t
def sdC (μ : Sm) (M p : Nat) (v th : Int32) : Nat → T3
  | 0 => (-9, 0, 0)
  | k + 1 => sdS μ M p v th (nI k) (sdC μ M p v th k)
def otsC (μ : Sm) (th : Int32) : Int32 := (((1 <<< (μ 10 0 &&& 31)) - 1) &&& (μ 11 0 ^^^ (-1))) &&& (th ^^^ (-1))
theorem L64 {k : Nat} (h : k < 64) : ¬ (64 : Int32) ≤ nI k := ge_no (x := 64) (M := 64) (by decide) h (by decide)
theorem E64 : (64 : Int32) ≤ nI 64 := by decide
set_option maxRecDepth 100000 in
set_option maxHeartbeats 4000000 in
theorem ok_setToBuy (hM : σ 5 10 0 = nI M) (h6 : M ≤ 6) (p : Nat) (hp : p < 4) (v : Int32) : Ok 4 yX5_setToBuy cX5_setToBuy 11 (some .int) D tc [.ref (A 0), .int (nI p), .int v] (cW A tc σ) (some (.int (sbC (σ 5) M p v (clC (σ 5) (nI p) M) (otsC (σ 5) (clC (σ 5) (nI p) M)) 64).1)) (cW A tc σ) := by
  refine Ok_of RX5 rfl (by decide) [some (.ref (A 0)), some (.int (nI p)), some (.int v), none, none, none, none, none, none, none, none] rfl (Nat.le_of_ble_eq_true rfl) ?_
  intro X hX
  have lpS : ∀ k, k < 64 → V X D tc cX5_setToBuy RX5 11 35 ((fun k => [some (.ref (A 0)), some (.int (nI p)), some (.int v), some (.int (clC (σ 5) (nI p) M)), some (.int (otsC (σ 5) (clC (σ 5) (nI p) M))), some (.int (sbC (σ 5) M p v (clC (σ 5) (nI p) M) (otsC (σ 5) (clC (σ 5) (nI p) M)) k).1), some (.int (sbC (σ 5) M p v (clC (σ 5) (nI p) M) (otsC (σ 5) (clC (σ 5) (nI p) M)) k).2.1), some (.int (sbC (σ 5) M p v (clC (σ 5) (nI p) M) (otsC (σ 5) (clC (σ 5) (nI p) M)) k).2.2), some (.int (nI k)), none, none]) (k + 1)) [] ((fun k => cW A tc σ) (k + 1)) → V X D tc cX5_setToBuy RX5 11 35 ((fun k => [some (.ref (A 0)), some (.int (nI p)), some (.int v), some (.int (clC (σ 5) (nI p) M)), some (.int (otsC (σ 5) (clC (σ 5) (nI p) M))), some (.int (sbC (σ 5) M p v (clC (σ 5) (nI p) M) (otsC (σ 5) (clC (σ 5) (nI p) M)) k).1), some (.int (sbC (σ 5) M p v (clC (σ 5) (nI p) M) (otsC (σ 5) (clC (σ 5) (nI p) M)) k).2.1), some (.int (sbC (σ 5) M p v (clC (σ 5) (nI p) M) (otsC (σ 5) (clC (σ 5) (nI p) M)) k).2.2), some (.int (nI k)), none, none]) k) [] ((fun k => cW A tc σ) k) := by
    intro k hk ihlp
    refine V_ild8 dX5_setToBuy_35 ?_
    refine V_bipush 64 dX5_setToBuy_37 (by decide) ?_
    refine V_icmp_ge 152 dX5_setToBuy_39 (by decide) (fun c39 => ?_) (fun c39 => ?_)
    · exact absurd c39 (L64 hk)
    · refine V_ild8 dX5_setToBuy_42 ?_
      refine V_ild4 dX5_setToBuy_44 ?_
      refine V_callS ls_X5_211 (ok_isWithin _ _) dX5_setToBuy_46 (dep hX (by decide)) rfl (Nat.le_of_ble_eq_true rfl) ?_
      refine V_if_ne 55 dX5_setToBuy_49 (by decide) (fun c49 => ?_) (fun c49 => ?_)
      · try rw [b2i_ne] at c49
        try rw [Decidable.not_not] at c49
        refine V_ald0 dX5_setToBuy_55 ?_
        refine V_get lf_X5_20 dX5_setToBuy_56 cW_main rfl ?_
        refine V_ild8 dX5_setToBuy_59 ?_
        refine V_callV lm_X5_192 (ok_priceOfSet now5 hM h6 _) dX5_setToBuy_61 (cW_mkt now5) rfl (dep hX (by decide)) rfl (Nat.le_of_ble_eq_true rfl) ?_
        refine V_ist9 dX5_setToBuy_64 rfl (by decide) ?_
        refine V_ild9 dX5_setToBuy_66 ?_
        refine V_ald0 dX5_setToBuy_68 ?_
        refine V_get lf_X5_20 dX5_setToBuy_69 cW_main rfl ?_
        refine V_get lf_X5_115 dX5_setToBuy_72 (cW_mkt now5) rfl ?_
        refine V_ild1 dX5_setToBuy_75 ?_
        refine V_ialdk dX5_setToBuy_76 (cW_ma0 now5) ⟨hp, by decide⟩ ?_
        refine V_icmp_gt 146 dX5_setToBuy_77 (by decide) (fun c77 => ?_) (fun c77 => ?_)
        · refine V_inc8 (nI (k + 1)) dX5_setToBuy_146 (nI_inc k) rfl (by decide) ?_
          refine V_goto 35 dX5_setToBuy_149 (by decide) ?_
          refine V_dr9 ?_
          refine V_dr10 ?_
          refine V_eq ?_ rfl rfl ihlp
          (try first | replace c110 := eq_false c110 | replace c110 := eq_true c110)
          (try first | replace c124 := eq_false c124 | replace c124 := eq_true c124)
          simp only [sbC, sbS, *, not_true_eq_false, not_false_eq_true, and_self, true_and, and_true, false_and, and_false, true_or, or_true, false_or, or_false, or_self, ↓reduceIte]
        · refine V_ald0 dX5_setToBuy_80 ?_
          refine V_get lf_X5_20 dX5_setToBuy_81 cW_main rfl ?_
          refine V_ild1 dX5_setToBuy_84 ?_
          refine V_ild3 dX5_setToBuy_85 ?_
          refine V_ild8 dX5_setToBuy_86 ?_
          refine V_ior dX5_setToBuy_88 ?_
          refine V_callV lm_X5_176 (ok_feastWith now5 hM h6 p hp _) dX5_setToBuy_89 (cW_mkt now5) rfl (dep hX (by decide)) rfl (Nat.le_of_ble_eq_true rfl) ?_
          refine V_ild2 dX5_setToBuy_92 ?_
          refine V_icmp_ge 99 dX5_setToBuy_93 (by decide) (fun c93 => ?_) (fun c93 => ?_)
          · refine V_ild8 dX5_setToBuy_99 ?_
            refine V_callS ls_X5_124 (ok_bitCount _) dX5_setToBuy_101 (dep hX (by decide)) rfl (Nat.le_of_ble_eq_true rfl) ?_
            refine V_ist10 dX5_setToBuy_104 rfl (by decide) ?_
            refine V_ild5 dX5_setToBuy_106 ?_
            refine V_bipush (-9) dX5_setToBuy_108 (by decide) ?_
            refine V_icmp_eq 134 dX5_setToBuy_110 (by decide) (fun c110 => ?_) (fun c110 => ?_)
            · refine V_ild8 dX5_setToBuy_134 ?_
              refine V_ist5 dX5_setToBuy_136 rfl (by decide) ?_
              refine V_ild9 dX5_setToBuy_138 ?_
              refine V_ist6 dX5_setToBuy_140 rfl (by decide) ?_
              refine V_ild10 dX5_setToBuy_142 ?_
              refine V_ist7 dX5_setToBuy_144 rfl (by decide) ?_
              refine V_inc8 (nI (k + 1)) dX5_setToBuy_146 (nI_inc k) rfl (by decide) ?_
              refine V_goto 35 dX5_setToBuy_149 (by decide) ?_
              refine V_dr9 ?_
              refine V_dr10 ?_
              refine V_eq ?_ rfl rfl ihlp
              (try first | replace c110 := eq_false c110 | replace c110 := eq_true c110)
              (try first | replace c124 := eq_false c124 | replace c124 := eq_true c124)
              simp only [sbC, sbS, *, not_true_eq_false, not_false_eq_true, and_self, true_and, and_true, false_and, and_false, true_or, or_true, false_or, or_false, or_self, ↓reduceIte]
            · refine V_ild9 dX5_setToBuy_113 ?_
              refine V_ild6 dX5_setToBuy_115 ?_
              refine V_icmp_lt 134 dX5_setToBuy_117 (by decide) (fun c117 => ?_) (fun c117 => ?_)
              · refine V_ild8 dX5_setToBuy_134 ?_
                refine V_ist5 dX5_setToBuy_136 rfl (by decide) ?_
                refine V_ild9 dX5_setToBuy_138 ?_
                refine V_ist6 dX5_setToBuy_140 rfl (by decide) ?_
                refine V_ild10 dX5_setToBuy_142 ?_
                refine V_ist7 dX5_setToBuy_144 rfl (by decide) ?_
                refine V_inc8 (nI (k + 1)) dX5_setToBuy_146 (nI_inc k) rfl (by decide) ?_
                refine V_goto 35 dX5_setToBuy_149 (by decide) ?_
                refine V_dr9 ?_
                refine V_dr10 ?_
                refine V_eq ?_ rfl rfl ihlp
                (try first | replace c110 := eq_false c110 | replace c110 := eq_true c110)
                (try first | replace c124 := eq_false c124 | replace c124 := eq_true c124)
                simp only [sbC, sbS, *, not_true_eq_false, not_false_eq_true, and_self, true_and, and_true, false_and, and_false, true_or, or_true, false_or, or_false, or_self, ↓reduceIte]
              · refine V_ild9 dX5_setToBuy_120 ?_
                refine V_ild6 dX5_setToBuy_122 ?_
                refine V_icmp_ne 146 dX5_setToBuy_124 (by decide) (fun c124 => ?_) (fun c124 => ?_)
                · refine V_inc8 (nI (k + 1)) dX5_setToBuy_146 (nI_inc k) rfl (by decide) ?_
                  refine V_goto 35 dX5_setToBuy_149 (by decide) ?_
                  refine V_dr9 ?_
                  refine V_dr10 ?_
                  refine V_eq ?_ rfl rfl ihlp
                  (try first | replace c110 := eq_false c110 | replace c110 := eq_true c110)
                  (try first | replace c124 := eq_false c124 | replace c124 := eq_true c124)
                  simp only [sbC, sbS, *, not_true_eq_false, not_false_eq_true, and_self, true_and, and_true, false_and, and_false, true_or, or_true, false_or, or_false, or_self, ↓reduceIte]
                · refine V_ild10 dX5_setToBuy_127 ?_
                  refine V_ild7 dX5_setToBuy_129 ?_
                  refine V_icmp_ge 146 dX5_setToBuy_131 (by decide) (fun c131 => ?_) (fun c131 => ?_)
                  · refine V_inc8 (nI (k + 1)) dX5_setToBuy_146 (nI_inc k) rfl (by decide) ?_
                    refine V_goto 35 dX5_setToBuy_149 (by decide) ?_
                    refine V_dr9 ?_
                    refine V_dr10 ?_
                    refine V_eq ?_ rfl rfl ihlp
                    (try first | replace c110 := eq_false c110 | replace c110 := eq_true c110)
                    (try first | replace c124 := eq_false c124 | replace c124 := eq_true c124)
                    simp only [sbC, sbS, *, not_true_eq_false, not_false_eq_true, and_self, true_and, and_true, false_and, and_false, true_or, or_true, false_or, or_false, or_self, ↓reduceIte]
                  · refine V_ild8 dX5_setToBuy_134 ?_
                    refine V_ist5 dX5_setToBuy_136 rfl (by decide) ?_
                    refine V_ild9 dX5_setToBuy_138 ?_
                    refine V_ist6 dX5_setToBuy_140 rfl (by decide) ?_
                    refine V_ild10 dX5_setToBuy_142 ?_
                    refine V_ist7 dX5_setToBuy_144 rfl (by decide) ?_
                    refine V_inc8 (nI (k + 1)) dX5_setToBuy_146 (nI_inc k) rfl (by decide) ?_
                    refine V_goto 35 dX5_setToBuy_149 (by decide) ?_
                    refine V_dr9 ?_
                    refine V_dr10 ?_
                    refine V_eq ?_ rfl rfl ihlp
                    (try first | replace c110 := eq_false c110 | replace c110 := eq_true c110)
                    (try first | replace c124 := eq_false c124 | replace c124 := eq_true c124)
                    simp only [sbC, sbS, *, not_true_eq_false, not_false_eq_true, and_self, true_and, and_true, false_and, and_false, true_or, or_true, false_or, or_false, or_self, ↓reduceIte]
          · refine V_goto 146 dX5_setToBuy_96 (by decide) ?_
            refine V_inc8 (nI (k + 1)) dX5_setToBuy_146 (nI_inc k) rfl (by decide) ?_
            refine V_goto 35 dX5_setToBuy_149 (by decide) ?_
            refine V_dr9 ?_
            refine V_dr10 ?_
            refine V_eq ?_ rfl rfl ihlp
            (try first | replace c110 := eq_false c110 | replace c110 := eq_true c110)
            (try first | replace c124 := eq_false c124 | replace c124 := eq_true c124)
            simp only [sbC, sbS, *, not_true_eq_false, not_false_eq_true, and_self, true_and, and_true, false_and, and_false, true_or, or_true, false_or, or_false, or_self, ↓reduceIte]
      · try rw [b2i_eq] at c49
        try rw [Decidable.not_not] at c49
        refine V_goto 146 dX5_setToBuy_52 (by decide) ?_
        refine V_inc8 (nI (k + 1)) dX5_setToBuy_146 (nI_inc k) rfl (by decide) ?_
        refine V_goto 35 dX5_setToBuy_149 (by decide) ?_
        refine V_dr9 ?_
        refine V_dr10 ?_
        refine V_eq ?_ rfl rfl ihlp
        (try first | replace c110 := eq_false c110 | replace c110 := eq_true c110)
        (try first | replace c124 := eq_false c124 | replace c124 := eq_true c124)
        simp only [sbC, sbS, *, not_true_eq_false, not_false_eq_true, and_self, true_and, and_true, false_and, and_false, true_or, or_true, false_or, or_false, or_self, ↓reduceIte]
  have lpE : V X D tc cX5_setToBuy RX5 11 35 ((fun k => [some (.ref (A 0)), some (.int (nI p)), some (.int v), some (.int (clC (σ 5) (nI p) M)), some (.int (otsC (σ 5) (clC (σ 5) (nI p) M))), some (.int (sbC (σ 5) M p v (clC (σ 5) (nI p) M) (otsC (σ 5) (clC (σ 5) (nI p) M)) k).1), some (.int (sbC (σ 5) M p v (clC (σ 5) (nI p) M) (otsC (σ 5) (clC (σ 5) (nI p) M)) k).2.1), some (.int (sbC (σ 5) M p v (clC (σ 5) (nI p) M) (otsC (σ 5) (clC (σ 5) (nI p) M)) k).2.2), some (.int (nI k)), none, none]) (64)) [] ((fun k => cW A tc σ) (64)) := by
    refine V_ild8 dX5_setToBuy_35 ?_
    refine V_bipush 64 dX5_setToBuy_37 (by decide) ?_
    refine V_icmp_ge 152 dX5_setToBuy_39 (by decide) (fun c39 => ?_) (fun c39 => ?_)
    · refine V_ild5 dX5_setToBuy_152 ?_
      exact V_iret hX dX5_setToBuy_154 rfl rfl rfl
    · exact absurd E64 c39
  have lp := V_for (fun k => [some (.ref (A 0)), some (.int (nI p)), some (.int v), some (.int (clC (σ 5) (nI p) M)), some (.int (otsC (σ 5) (clC (σ 5) (nI p) M))), some (.int (sbC (σ 5) M p v (clC (σ 5) (nI p) M) (otsC (σ 5) (clC (σ 5) (nI p) M)) k).1), some (.int (sbC (σ 5) M p v (clC (σ 5) (nI p) M) (otsC (σ 5) (clC (σ 5) (nI p) M)) k).2.1), some (.int (sbC (σ 5) M p v (clC (σ 5) (nI p) M) (otsC (σ 5) (clC (σ 5) (nI p) M)) k).2.2), some (.int (nI k)), none, none]) (fun k => cW A tc σ) (64) lpS lpE
  refine V_ald0 dX5_setToBuy_0 ?_
  refine V_get lf_X5_20 dX5_setToBuy_1 cW_main rfl ?_
  refine V_ild1 dX5_setToBuy_4 ?_
  refine V_callV lm_X5_121 (ok_closedOf now5 hM h6 _) dX5_setToBuy_5 (cW_mkt now5) rfl (dep hX (by decide)) rfl (Nat.le_of_ble_eq_true rfl) ?_
  refine V_ist3 dX5_setToBuy_8 rfl (by decide) ?_
  refine V_ald0 dX5_setToBuy_9 ?_
  refine V_get lf_X5_20 dX5_setToBuy_10 cW_main rfl ?_
  refine V_callV lm_X5_268 (ok_closed now5) dX5_setToBuy_13 (cW_mkt now5) rfl (dep hX (by decide)) rfl (Nat.le_of_ble_eq_true rfl) ?_
  refine V_ild3 dX5_setToBuy_16 ?_
  refine V_iconst (-1) dX5_setToBuy_17 (by decide) ?_
  refine V_ixor dX5_setToBuy_18 ?_
  refine V_iand dX5_setToBuy_19 ?_
  refine V_ist4 dX5_setToBuy_20 rfl (by decide) ?_
  refine V_bipush (-9) dX5_setToBuy_22 (by decide) ?_
  refine V_ist5 dX5_setToBuy_24 rfl (by decide) ?_
  refine V_iconst 0 dX5_setToBuy_26 (by decide) ?_
  refine V_ist6 dX5_setToBuy_27 rfl (by decide) ?_
  refine V_iconst 0 dX5_setToBuy_29 (by decide) ?_
  refine V_ist7 dX5_setToBuy_30 rfl (by decide) ?_
  refine V_iconst 0 dX5_setToBuy_32 (by decide) ?_
  refine V_ist8 dX5_setToBuy_33 rfl (by decide) ?_
  exact lp 0 (Nat.zero_le _)
set_option maxRecDepth 100000 in
set_option maxHeartbeats 4000000 in
theorem ok_setToSell (hM : σ 5 10 0 = nI M) (h6 : M ≤ 6) (p : Nat) (hp : p < 4) (v : Int32) : Ok 4 yX5_setToSell cX5_setToSell 10 (some .int) D tc [.ref (A 0), .int (nI p), .int v] (cW A tc σ) (some (.int (sdC (σ 5) M p v (clC (σ 5) (nI p) M) 64).1)) (cW A tc σ) := by
  refine Ok_of RX5 rfl (by decide) [some (.ref (A 0)), some (.int (nI p)), some (.int v), none, none, none, none, none, none, none] rfl (Nat.le_of_ble_eq_true rfl) ?_
  intro X hX
  have lpS : ∀ k, k < 64 → V X D tc cX5_setToSell RX5 10 22 ((fun k => [some (.ref (A 0)), some (.int (nI p)), some (.int v), some (.int (clC (σ 5) (nI p) M)), some (.int (sdC (σ 5) M p v (clC (σ 5) (nI p) M) k).1), some (.int (sdC (σ 5) M p v (clC (σ 5) (nI p) M) k).2.1), some (.int (sdC (σ 5) M p v (clC (σ 5) (nI p) M) k).2.2), some (.int (nI k)), none, none]) (k + 1)) [] ((fun k => cW A tc σ) (k + 1)) → V X D tc cX5_setToSell RX5 10 22 ((fun k => [some (.ref (A 0)), some (.int (nI p)), some (.int v), some (.int (clC (σ 5) (nI p) M)), some (.int (sdC (σ 5) M p v (clC (σ 5) (nI p) M) k).1), some (.int (sdC (σ 5) M p v (clC (σ 5) (nI p) M) k).2.1), some (.int (sdC (σ 5) M p v (clC (σ 5) (nI p) M) k).2.2), some (.int (nI k)), none, none]) k) [] ((fun k => cW A tc σ) k) := by
    intro k hk ihlp
    refine V_ild7 dX5_setToSell_22 ?_
    refine V_bipush 64 dX5_setToSell_24 (by decide) ?_
    refine V_icmp_ge 123 dX5_setToSell_26 (by decide) (fun c26 => ?_) (fun c26 => ?_)
    · exact absurd c26 (L64 hk)
    · refine V_ild7 dX5_setToSell_29 ?_
      refine V_ild3 dX5_setToSell_31 ?_
      refine V_callS ls_X5_211 (ok_isWithin _ _) dX5_setToSell_32 (dep hX (by decide)) rfl (Nat.le_of_ble_eq_true rfl) ?_
      refine V_if_eq 117 dX5_setToSell_35 (by decide) (fun c35 => ?_) (fun c35 => ?_)
      · try rw [b2i_eq] at c35
        try rw [Decidable.not_not] at c35
        refine V_inc7 (nI (k + 1)) dX5_setToSell_117 (nI_inc k) rfl (by decide) ?_
        refine V_goto 22 dX5_setToSell_120 (by decide) ?_
        refine V_dr8 ?_
        refine V_dr9 ?_
        refine V_eq ?_ rfl rfl ihlp
        (try first | replace c81 := eq_false c81 | replace c81 := eq_true c81)
        (try first | replace c95 := eq_false c95 | replace c95 := eq_true c95)
        simp only [sdC, sdS, *, not_true_eq_false, not_false_eq_true, and_self, true_and, and_true, false_and, and_false, true_or, or_true, false_or, or_false, or_self, ↓reduceIte]
      · try rw [b2i_ne] at c35
        try rw [Decidable.not_not] at c35
        refine V_ald0 dX5_setToSell_38 ?_
        refine V_get lf_X5_20 dX5_setToSell_39 cW_main rfl ?_
        refine V_ild7 dX5_setToSell_42 ?_
        refine V_callV lm_X5_192 (ok_priceOfSet now5 hM h6 _) dX5_setToSell_44 (cW_mkt now5) rfl (dep hX (by decide)) rfl (Nat.le_of_ble_eq_true rfl) ?_
        refine V_ild2 dX5_setToSell_47 ?_
        refine V_icmp_ge 54 dX5_setToSell_48 (by decide) (fun c48 => ?_) (fun c48 => ?_)
        · refine V_ald0 dX5_setToSell_54 ?_
          refine V_get lf_X5_20 dX5_setToSell_55 cW_main rfl ?_
          refine V_ild1 dX5_setToSell_58 ?_
          refine V_ild3 dX5_setToSell_59 ?_
          refine V_ild7 dX5_setToSell_60 ?_
          refine V_iconst (-1) dX5_setToSell_62 (by decide) ?_
          refine V_ixor dX5_setToSell_63 ?_
          refine V_iand dX5_setToSell_64 ?_
          refine V_callV lm_X5_176 (ok_feastWith now5 hM h6 p hp _) dX5_setToSell_65 (cW_mkt now5) rfl (dep hX (by decide)) rfl (Nat.le_of_ble_eq_true rfl) ?_
          refine V_ist8 dX5_setToSell_68 rfl (by decide) ?_
          refine V_ild7 dX5_setToSell_70 ?_
          refine V_callS ls_X5_124 (ok_bitCount _) dX5_setToSell_72 (dep hX (by decide)) rfl (Nat.le_of_ble_eq_true rfl) ?_
          refine V_ist9 dX5_setToSell_75 rfl (by decide) ?_
          refine V_ild4 dX5_setToSell_77 ?_
          refine V_bipush (-9) dX5_setToSell_79 (by decide) ?_
          refine V_icmp_eq 105 dX5_setToSell_81 (by decide) (fun c81 => ?_) (fun c81 => ?_)
          · refine V_ild7 dX5_setToSell_105 ?_
            refine V_ist4 dX5_setToSell_107 rfl (by decide) ?_
            refine V_ild8 dX5_setToSell_109 ?_
            refine V_ist5 dX5_setToSell_111 rfl (by decide) ?_
            refine V_ild9 dX5_setToSell_113 ?_
            refine V_ist6 dX5_setToSell_115 rfl (by decide) ?_
            refine V_inc7 (nI (k + 1)) dX5_setToSell_117 (nI_inc k) rfl (by decide) ?_
            refine V_goto 22 dX5_setToSell_120 (by decide) ?_
            refine V_dr8 ?_
            refine V_dr9 ?_
            refine V_eq ?_ rfl rfl ihlp
            (try first | replace c81 := eq_false c81 | replace c81 := eq_true c81)
            (try first | replace c95 := eq_false c95 | replace c95 := eq_true c95)
            simp only [sdC, sdS, *, not_true_eq_false, not_false_eq_true, and_self, true_and, and_true, false_and, and_false, true_or, or_true, false_or, or_false, or_self, ↓reduceIte]
          · refine V_ild8 dX5_setToSell_84 ?_
            refine V_ild5 dX5_setToSell_86 ?_
            refine V_icmp_gt 105 dX5_setToSell_88 (by decide) (fun c88 => ?_) (fun c88 => ?_)
            · refine V_ild7 dX5_setToSell_105 ?_
              refine V_ist4 dX5_setToSell_107 rfl (by decide) ?_
              refine V_ild8 dX5_setToSell_109 ?_
              refine V_ist5 dX5_setToSell_111 rfl (by decide) ?_
              refine V_ild9 dX5_setToSell_113 ?_
              refine V_ist6 dX5_setToSell_115 rfl (by decide) ?_
              refine V_inc7 (nI (k + 1)) dX5_setToSell_117 (nI_inc k) rfl (by decide) ?_
              refine V_goto 22 dX5_setToSell_120 (by decide) ?_
              refine V_dr8 ?_
              refine V_dr9 ?_
              refine V_eq ?_ rfl rfl ihlp
              (try first | replace c81 := eq_false c81 | replace c81 := eq_true c81)
              (try first | replace c95 := eq_false c95 | replace c95 := eq_true c95)
              simp only [sdC, sdS, *, not_true_eq_false, not_false_eq_true, and_self, true_and, and_true, false_and, and_false, true_or, or_true, false_or, or_false, or_self, ↓reduceIte]
            · refine V_ild8 dX5_setToSell_91 ?_
              refine V_ild5 dX5_setToSell_93 ?_
              refine V_icmp_ne 117 dX5_setToSell_95 (by decide) (fun c95 => ?_) (fun c95 => ?_)
              · refine V_inc7 (nI (k + 1)) dX5_setToSell_117 (nI_inc k) rfl (by decide) ?_
                refine V_goto 22 dX5_setToSell_120 (by decide) ?_
                refine V_dr8 ?_
                refine V_dr9 ?_
                refine V_eq ?_ rfl rfl ihlp
                (try first | replace c81 := eq_false c81 | replace c81 := eq_true c81)
                (try first | replace c95 := eq_false c95 | replace c95 := eq_true c95)
                simp only [sdC, sdS, *, not_true_eq_false, not_false_eq_true, and_self, true_and, and_true, false_and, and_false, true_or, or_true, false_or, or_false, or_self, ↓reduceIte]
              · refine V_ild9 dX5_setToSell_98 ?_
                refine V_ild6 dX5_setToSell_100 ?_
                refine V_icmp_ge 117 dX5_setToSell_102 (by decide) (fun c102 => ?_) (fun c102 => ?_)
                · refine V_inc7 (nI (k + 1)) dX5_setToSell_117 (nI_inc k) rfl (by decide) ?_
                  refine V_goto 22 dX5_setToSell_120 (by decide) ?_
                  refine V_dr8 ?_
                  refine V_dr9 ?_
                  refine V_eq ?_ rfl rfl ihlp
                  (try first | replace c81 := eq_false c81 | replace c81 := eq_true c81)
                  (try first | replace c95 := eq_false c95 | replace c95 := eq_true c95)
                  simp only [sdC, sdS, *, not_true_eq_false, not_false_eq_true, and_self, true_and, and_true, false_and, and_false, true_or, or_true, false_or, or_false, or_self, ↓reduceIte]
                · refine V_ild7 dX5_setToSell_105 ?_
                  refine V_ist4 dX5_setToSell_107 rfl (by decide) ?_
                  refine V_ild8 dX5_setToSell_109 ?_
                  refine V_ist5 dX5_setToSell_111 rfl (by decide) ?_
                  refine V_ild9 dX5_setToSell_113 ?_
                  refine V_ist6 dX5_setToSell_115 rfl (by decide) ?_
                  refine V_inc7 (nI (k + 1)) dX5_setToSell_117 (nI_inc k) rfl (by decide) ?_
                  refine V_goto 22 dX5_setToSell_120 (by decide) ?_
                  refine V_dr8 ?_
                  refine V_dr9 ?_
                  refine V_eq ?_ rfl rfl ihlp
                  (try first | replace c81 := eq_false c81 | replace c81 := eq_true c81)
                  (try first | replace c95 := eq_false c95 | replace c95 := eq_true c95)
                  simp only [sdC, sdS, *, not_true_eq_false, not_false_eq_true, and_self, true_and, and_true, false_and, and_false, true_or, or_true, false_or, or_false, or_self, ↓reduceIte]
        · refine V_goto 117 dX5_setToSell_51 (by decide) ?_
          refine V_inc7 (nI (k + 1)) dX5_setToSell_117 (nI_inc k) rfl (by decide) ?_
          refine V_goto 22 dX5_setToSell_120 (by decide) ?_
          refine V_dr8 ?_
          refine V_dr9 ?_
          refine V_eq ?_ rfl rfl ihlp
          (try first | replace c81 := eq_false c81 | replace c81 := eq_true c81)
          (try first | replace c95 := eq_false c95 | replace c95 := eq_true c95)
          simp only [sdC, sdS, *, not_true_eq_false, not_false_eq_true, and_self, true_and, and_true, false_and, and_false, true_or, or_true, false_or, or_false, or_self, ↓reduceIte]
  have lpE : V X D tc cX5_setToSell RX5 10 22 ((fun k => [some (.ref (A 0)), some (.int (nI p)), some (.int v), some (.int (clC (σ 5) (nI p) M)), some (.int (sdC (σ 5) M p v (clC (σ 5) (nI p) M) k).1), some (.int (sdC (σ 5) M p v (clC (σ 5) (nI p) M) k).2.1), some (.int (sdC (σ 5) M p v (clC (σ 5) (nI p) M) k).2.2), some (.int (nI k)), none, none]) (64)) [] ((fun k => cW A tc σ) (64)) := by
    refine V_ild7 dX5_setToSell_22 ?_
    refine V_bipush 64 dX5_setToSell_24 (by decide) ?_
    refine V_icmp_ge 123 dX5_setToSell_26 (by decide) (fun c26 => ?_) (fun c26 => ?_)
    · refine V_ild4 dX5_setToSell_123 ?_
      exact V_iret hX dX5_setToSell_125 rfl rfl rfl
    · exact absurd E64 c26
  have lp := V_for (fun k => [some (.ref (A 0)), some (.int (nI p)), some (.int v), some (.int (clC (σ 5) (nI p) M)), some (.int (sdC (σ 5) M p v (clC (σ 5) (nI p) M) k).1), some (.int (sdC (σ 5) M p v (clC (σ 5) (nI p) M) k).2.1), some (.int (sdC (σ 5) M p v (clC (σ 5) (nI p) M) k).2.2), some (.int (nI k)), none, none]) (fun k => cW A tc σ) (64) lpS lpE
  refine V_ald0 dX5_setToSell_0 ?_
  refine V_get lf_X5_20 dX5_setToSell_1 cW_main rfl ?_
  refine V_ild1 dX5_setToSell_4 ?_
  refine V_callV lm_X5_121 (ok_closedOf now5 hM h6 _) dX5_setToSell_5 (cW_mkt now5) rfl (dep hX (by decide)) rfl (Nat.le_of_ble_eq_true rfl) ?_
  refine V_ist3 dX5_setToSell_8 rfl (by decide) ?_
  refine V_bipush (-9) dX5_setToSell_9 (by decide) ?_
  refine V_ist4 dX5_setToSell_11 rfl (by decide) ?_
  refine V_iconst 0 dX5_setToSell_13 (by decide) ?_
  refine V_ist5 dX5_setToSell_14 rfl (by decide) ?_
  refine V_iconst 0 dX5_setToSell_16 (by decide) ?_
  refine V_ist6 dX5_setToSell_17 rfl (by decide) ?_
  refine V_iconst 0 dX5_setToSell_19 (by decide) ?_
  refine V_ist7 dX5_setToSell_20 rfl (by decide) ?_
  exact lp 0 (Nat.zero_le _)
end
end
section
/-! what to keep -/
def doC (b m : Int32) : Int32 := if bitI b (nI 0 * 6 + m) then nI 0 else if bitI b (nI 1 * 6 + m) then nI 1 else if bitI b (nI 2 * 6 + m) then nI 2 else -9
def dnI (k : Nat) : Int32 := 5 - nI k
theorem dn_s : ∀ k, k < 6 → dnI k + Int32.ofInt (-1) = dnI (k + 1) := by decide
theorem dn_g : ∀ k, k < 6 → ¬ dnI k < 0 := by decide
theorem dn_e : dnI 6 < 0 := by decide
def sxC (n th row : Int32) : Nat → Int32 × Int32
  | 0 => (0, row)
  | k + 1 => if bitI th (dnI k) then ((sxC n th row k).1 ||| (1 <<< ((((sxC n th row k).2 - (sxC n th row k).2 / n * n) * 6 + dnI k) &&& 31)), (sxC n th row k).2 / n) else sxC n th row k
def jxC (T : Nat → Int32) (s : Int32) : Nat → Int32
  | 0 => 0
  | d + 1 => jxC T s d + T (64 * d + ((s >>> ((nI d * 6) &&& 31)) &&& 63).toNatClampNeg)
def oaC (μ : Sm) (p d : Nat) : Int32 := if d = 0 then otC μ p else 0
def wiC (μ : Sm) (M p : Nat) (th : Int32) (d : Nat) (T0 : Nat → Int32) : Nat → (Nat → Int32)
  | 0 => T0
  | s + 1 => if nI s &&& (th ^^^ (-1)) = 0 then upd (wiC μ M p th d T0 s) (64 * d + s) (jsC μ (nI s) (μ 8 0 + nI d) (oaC μ p d) M) else wiC μ M p th d T0 s
def woC (μ : Sm) (M p : Nat) (th : Int32) (T0 : Nat → Int32) : Nat → (Nat → Int32)
  | 0 => T0
  | d + 1 => wiC μ M p th d (woC μ M p th T0 d) 64
def rwN (N : Nat) (th : Int32) : Nat → Nat
  | 0 => 1
  | k + 1 => if bitI th (nI k) then rwN N th k * N else rwN N th k
theorem rwN_le (N : Nat) (th : Int32) (h : N ≤ 3) : ∀ k, k ≤ 6 → rwN N th k ≤ 729 := by
  have g : ∀ k, rwN N th k ≤ 3 ^ k := by
    intro k
    induction k with
    | zero => simp [rwN]
    | succ k ih =>
      rw [Nat.pow_succ]
      unfold rwN
      split
      · exact Nat.mul_le_mul ih h
      · omega
  intro k hk
  exact Nat.le_trans (g k) (Nat.le_trans (Nat.pow_le_pow_right (by decide) hk) (by decide))
def fbC (T : Nat → Int32) (N : Nat) (th b0 : Int32) : Nat → Int32 × Int32
  | 0 => (-9, b0)
  | k + 1 => if jxC T (sxC (nI N) th (nI k) 6).1 N ≤ (fbC T N th b0 k).1 then fbC T N th b0 k else (jxC T (sxC (nI N) th (nI k) 6).1 N, (sxC (nI N) th (nI k) 6).1)
theorem up_upF (σ : St) (o k : Nat) (T : Nat → Int32) (i : Nat) (v : Int32) : up (upF σ o k T) o k i v = upF σ o k (upd T i v) := by
  funext o' k' i'
  unfold up upF upd
  by_cases h1 : o' = o <;> by_cases h2 : k' = k <;> by_cases h3 : i' = i <;> simp [h1, h2, h3]
theorem up_self (σ : St) (o k i : Nat) : up σ o k i (σ o k i) = σ := by
  funext o' k' i'
  unfold up
  by_cases h1 : o' = o <;> by_cases h2 : k' = k <;> by_cases h3 : i' = i <;> simp [h1, h2, h3]
theorem upF_self (σ : St) (o k : Nat) : upF σ o k (σ o k) = σ := by
  funext o' k'
  unfold upF
  by_cases h1 : o' = o <;> by_cases h2 : k' = k <;> simp [h1, h2]
theorem up_up2 (σ : St) (a b c d : Int32) : up (up (up (up σ 8 1 0 a) 8 2 0 b) 8 1 0 c) 8 2 0 d = up (up σ 8 1 0 c) 8 2 0 d := by
  funext o' k' i'
  unfold up
  by_cases h1 : o' = 8 <;> by_cases h2 : k' = 1 <;> by_cases h4 : k' = 2 <;> by_cases h3 : i' = 0 <;> simp [h1, h2, h3, h4]
theorem i64 (k j : Nat) : nI k * 64 + nI j = nI (64 * k + j) := by
  rw [show (64 : Int32) = nI 64 by decide, pk_mul, nI_add, Nat.mul_comm]
theorem L6 {k : Nat} (h : k < 6) : ¬ (6 : Int32) ≤ nI k := ge_no (x := 6) (M := 6) (by decide) h (by decide)
theorem E6 : (6 : Int32) ≤ nI 6 := by decide
theorem L3 {k : Nat} (h : k < 3) : ¬ (3 : Int32) ≤ nI k := ge_no (x := 3) (M := 3) (by decide) h (by decide)
theorem E3 : (3 : Int32) ≤ nI 3 := by decide
section
variable {D : va_G} {tc : Tc} {A : Nat → Nat} {σ : St} {M P N : Nat}
set_option maxRecDepth 100000 in
set_option maxHeartbeats 4000000 in
theorem ok_dayOf (m : Int32) : Ok 1 yX0_dayOf cX0_dayOf 3 (some .int) D tc [.ref (A 28), .int m] (cW A tc σ) (some (.int (doC (σ 8 2 0) m))) (cW A tc σ) := by
  refine Ok_of RX0 rfl (by decide) [some (.ref (A 28)), some (.int m), none] rfl (Nat.le_of_ble_eq_true rfl) ?_
  intro X hX
  have lpS : ∀ k, k < 3 → (fun k => ∀ d, d < k → ¬ bitI (σ 8 2 0) (nI d * 6 + m)) k → ((fun k => ∀ d, d < k → ¬ bitI (σ 8 2 0) (nI d * 6 + m)) (k + 1) → V X D tc cX0_dayOf RX0 3 2 ((fun k => [some (.ref (A 28)), some (.int m), some (.int (nI k))]) (k + 1)) [] ((fun k => cW A tc σ) (k + 1))) → V X D tc cX0_dayOf RX0 3 2 ((fun k => [some (.ref (A 28)), some (.int m), some (.int (nI k))]) k) [] ((fun k => cW A tc σ) k) := by
    intro k hk invlp ihlp
    try dsimp only at invlp
    refine V_ild2 dX0_dayOf_2 ?_
    refine V_iconst 3 dX0_dayOf_3 (by decide) ?_
    refine V_icmp_ge 31 dX0_dayOf_4 (by decide) (fun c4 => ?_) (fun c4 => ?_)
    · exact absurd c4 (L3 hk)
    · refine V_ald0 dX0_dayOf_7 ?_
      refine V_get lf_X0_19 dX0_dayOf_8 cW_ke rfl ?_
      refine V_ild2 dX0_dayOf_11 ?_
      refine V_bipush 6 dX0_dayOf_12 (by decide) ?_
      refine V_imul dX0_dayOf_14 ?_
      refine V_ild1 dX0_dayOf_15 ?_
      refine V_iadd dX0_dayOf_16 ?_
      refine V_callN ln_X0_32 (ok_isIn _ _) dX0_dayOf_17 (dep hX (by decide)) rfl (Nat.le_of_ble_eq_true rfl) ?_
      refine V_if_eq 25 dX0_dayOf_20 (by decide) (fun c20 => ?_) (fun c20 => ?_)
      · try rw [b2i_eq] at c20
        try rw [Decidable.not_not] at c20
        refine V_inc2 (nI (k + 1)) dX0_dayOf_25 (nI_inc k) rfl (by decide) ?_
        refine V_goto 2 dX0_dayOf_28 (by decide) ?_
        exact ihlp (lt_s invlp c20)
      · try rw [b2i_ne] at c20
        try rw [Decidable.not_not] at c20
        refine V_ild2 dX0_dayOf_23 ?_
        exact V_iret hX dX0_dayOf_24 rfl (by rcases (show k = 0 ∨ k = 1 ∨ k = 2 by omega) with rfl | rfl | rfl <;> first | (rw [doC, if_pos c20]; done) | (rw [doC, if_neg (invlp 0 (by decide)), if_pos c20]; done) | (rw [doC, if_neg (invlp 0 (by decide)), if_neg (invlp 1 (by decide)), if_pos c20])) rfl
  have lpE : (fun k => ∀ d, d < k → ¬ bitI (σ 8 2 0) (nI d * 6 + m)) (3) → V X D tc cX0_dayOf RX0 3 2 ((fun k => [some (.ref (A 28)), some (.int m), some (.int (nI k))]) (3)) [] ((fun k => cW A tc σ) (3)) := by
    intro invlp
    try dsimp only at invlp
    refine V_ild2 dX0_dayOf_2 ?_
    refine V_iconst 3 dX0_dayOf_3 (by decide) ?_
    refine V_icmp_ge 31 dX0_dayOf_4 (by decide) (fun c4 => ?_) (fun c4 => ?_)
    · refine V_bipush (-9) dX0_dayOf_31 (by decide) ?_
      exact V_iret hX dX0_dayOf_33 rfl (by rw [doC, if_neg (invlp 0 (by omega)), if_neg (invlp 1 (by omega)), if_neg (invlp 2 (by omega))]) rfl
    · exact absurd E3 c4
  have lp := V_forI (fun k => ∀ d, d < k → ¬ bitI (σ 8 2 0) (nI d * 6 + m)) (fun k => [some (.ref (A 28)), some (.int m), some (.int (nI k))]) (fun k => cW A tc σ) (3) lpS lpE
  refine V_iconst 0 dX0_dayOf_0 (by decide) ?_
  refine V_ist2 dX0_dayOf_1 rfl (by decide) ?_
  exact lp 0 (Nat.zero_le _) (fun d h => absurd h (by omega))
set_option maxRecDepth 100000 in
set_option maxHeartbeats 4000000 in
theorem ok_setsOfDays (row n th : Int32) (hn : ¬ n = 0) : Ok 1 yX0_setsOfDays cX0_setsOfDays 7 (some .int) D tc [.ref (A 28), .int row, .int n, .int th] (cW A tc σ) (some (.int (sxC n th row 6).1)) (cW A tc σ) := by
  refine Ok_of RX0 rfl (by decide) [some (.ref (A 28)), some (.int row), some (.int n), some (.int th), none, none, none] rfl (Nat.le_of_ble_eq_true rfl) ?_
  intro X hX
  have lpS : ∀ k, k < 6 → V X D tc cX0_setsOfDays RX0 7 9 ((fun k => [some (.ref (A 28)), some (.int row), some (.int n), some (.int th), some (.int (sxC n th row k).1), some (.int (sxC n th row k).2), some (.int (dnI k))]) (k + 1)) [] ((fun k => cW A tc σ) (k + 1)) → V X D tc cX0_setsOfDays RX0 7 9 ((fun k => [some (.ref (A 28)), some (.int row), some (.int n), some (.int th), some (.int (sxC n th row k).1), some (.int (sxC n th row k).2), some (.int (dnI k))]) k) [] ((fun k => cW A tc σ) k) := by
    intro k hk ihlp
    refine V_ild6 dX0_setsOfDays_9 ?_
    refine V_if_lt 52 dX0_setsOfDays_11 (by decide) (fun c11 => ?_) (fun c11 => ?_)
    · exact absurd c11 (dn_g k hk)
    · refine V_ild3 dX0_setsOfDays_14 ?_
      refine V_ild6 dX0_setsOfDays_15 ?_
      refine V_callN ln_X0_32 (ok_isIn _ _) dX0_setsOfDays_17 (dep hX (by decide)) rfl (Nat.le_of_ble_eq_true rfl) ?_
      refine V_if_eq 46 dX0_setsOfDays_20 (by decide) (fun c20 => ?_) (fun c20 => ?_)
      · try rw [b2i_eq] at c20
        try rw [Decidable.not_not] at c20
        refine V_inc6 (dnI (k + 1)) dX0_setsOfDays_46 (dn_s k hk) rfl (by decide) ?_
        refine V_goto 9 dX0_setsOfDays_49 (by decide) ?_
        refine V_eq ?_ rfl rfl ihlp
        (try first | replace c20 := eq_false c20 | replace c20 := eq_true c20)
        simp only [sxC, *, not_true_eq_false, not_false_eq_true, and_self, true_and, and_true, false_and, and_false, true_or, or_true, false_or, or_false, or_self, ↓reduceIte]
      · try rw [b2i_ne] at c20
        try rw [Decidable.not_not] at c20
        refine V_ild4 dX0_setsOfDays_23 ?_
        refine V_iconst 1 dX0_setsOfDays_25 (by decide) ?_
        refine V_ild5 dX0_setsOfDays_26 ?_
        refine V_ild2 dX0_setsOfDays_28 ?_
        refine V_irem dX0_setsOfDays_29 hn ?_
        refine V_bipush 6 dX0_setsOfDays_30 (by decide) ?_
        refine V_imul dX0_setsOfDays_32 ?_
        refine V_ild6 dX0_setsOfDays_33 ?_
        refine V_iadd dX0_setsOfDays_35 ?_
        refine V_ishl dX0_setsOfDays_36 ?_
        refine V_ior dX0_setsOfDays_37 ?_
        refine V_ist4 dX0_setsOfDays_38 rfl (by decide) ?_
        refine V_ild5 dX0_setsOfDays_40 ?_
        refine V_ild2 dX0_setsOfDays_42 ?_
        refine V_idiv dX0_setsOfDays_43 hn ?_
        refine V_ist5 dX0_setsOfDays_44 rfl (by decide) ?_
        refine V_inc6 (dnI (k + 1)) dX0_setsOfDays_46 (dn_s k hk) rfl (by decide) ?_
        refine V_goto 9 dX0_setsOfDays_49 (by decide) ?_
        refine V_eq ?_ rfl rfl ihlp
        (try first | replace c20 := eq_false c20 | replace c20 := eq_true c20)
        simp only [sxC, *, not_true_eq_false, not_false_eq_true, and_self, true_and, and_true, false_and, and_false, true_or, or_true, false_or, or_false, or_self, ↓reduceIte]
  have lpE : V X D tc cX0_setsOfDays RX0 7 9 ((fun k => [some (.ref (A 28)), some (.int row), some (.int n), some (.int th), some (.int (sxC n th row k).1), some (.int (sxC n th row k).2), some (.int (dnI k))]) (6)) [] ((fun k => cW A tc σ) (6)) := by
    refine V_ild6 dX0_setsOfDays_9 ?_
    refine V_if_lt 52 dX0_setsOfDays_11 (by decide) (fun c11 => ?_) (fun c11 => ?_)
    · refine V_ild4 dX0_setsOfDays_52 ?_
      exact V_iret hX dX0_setsOfDays_54 rfl rfl rfl
    · exact absurd dn_e c11
  have lp := V_for (fun k => [some (.ref (A 28)), some (.int row), some (.int n), some (.int th), some (.int (sxC n th row k).1), some (.int (sxC n th row k).2), some (.int (dnI k))]) (fun k => cW A tc σ) (6) lpS lpE
  refine V_iconst 0 dX0_setsOfDays_0 (by decide) ?_
  refine V_ist4 dX0_setsOfDays_1 rfl (by decide) ?_
  refine V_ild1 dX0_setsOfDays_3 ?_
  refine V_ist5 dX0_setsOfDays_4 rfl (by decide) ?_
  refine V_iconst 5 dX0_setsOfDays_6 (by decide) ?_
  refine V_ist6 dX0_setsOfDays_7 rfl (by decide) ?_
  exact lp 0 (Nat.zero_le _)
set_option maxRecDepth 100000 in
set_option maxHeartbeats 4000000 in
theorem ok_joyOfDays (hN : N ≤ 3) (s : Int32) : Ok 0 yX0_joyOfDays cX0_joyOfDays 6 (some .int) D tc [.ref (A 28), .int s, .int (nI N)] (cW A tc σ) (some (.int (jxC (σ 8 0) s N))) (cW A tc σ) := by
  refine Ok_of RX0 rfl (by decide) [some (.ref (A 28)), some (.int s), some (.int (nI N)), none, none, none] rfl (Nat.le_of_ble_eq_true rfl) ?_
  intro X hX
  have lpS : ∀ k, k < N → V X D tc cX0_joyOfDays RX0 6 5 ((fun k => [some (.ref (A 28)), some (.int s), some (.int (nI N)), some (.int (jxC (σ 8 0) s k)), some (.int (nI k)), none]) (k + 1)) [] ((fun k => cW A tc σ) (k + 1)) → V X D tc cX0_joyOfDays RX0 6 5 ((fun k => [some (.ref (A 28)), some (.int s), some (.int (nI N)), some (.int (jxC (σ 8 0) s k)), some (.int (nI k)), none]) k) [] ((fun k => cW A tc σ) k) := by
    intro k hk ihlp
    refine V_ild4 dX0_joyOfDays_5 ?_
    refine V_ild2 dX0_joyOfDays_7 ?_
    refine V_icmp_ge 45 dX0_joyOfDays_8 (by decide) (fun c8 => ?_) (fun c8 => ?_)
    · exact absurd c8 (nI_ge hk (by omega))
    · refine V_ild1 dX0_joyOfDays_11 ?_
      refine V_ild4 dX0_joyOfDays_12 ?_
      refine V_bipush 6 dX0_joyOfDays_14 (by decide) ?_
      refine V_imul dX0_joyOfDays_16 ?_
      refine V_ishr dX0_joyOfDays_17 ?_
      refine V_bipush 63 dX0_joyOfDays_18 (by decide) ?_
      refine V_iand dX0_joyOfDays_20 ?_
      refine V_ist5 dX0_joyOfDays_21 rfl (by decide) ?_
      refine V_ild3 dX0_joyOfDays_23 ?_
      refine V_ald0 dX0_joyOfDays_24 ?_
      refine V_get lf_X0_9 dX0_joyOfDays_25 cW_ke rfl ?_
      refine V_ild4 dX0_joyOfDays_28 ?_
      refine V_bipush 64 dX0_joyOfDays_30 (by decide) ?_
      refine V_imul dX0_joyOfDays_32 ?_
      refine V_ild5 dX0_joyOfDays_33 ?_
      refine V_iadd dX0_joyOfDays_35 ?_
      obtain ⟨j, hj, ej⟩ := pk_andE (s >>> ((nI k * 6) &&& 31)) (m := 63) 6 (by decide)
      refine V_top (y := nI (64 * k + j)) (by rw [ej, i64]) ?_
      refine V_ialdk dX0_joyOfDays_36 cW_kea ⟨by omega, by decide⟩ ?_
      refine V_iadd dX0_joyOfDays_37 ?_
      refine V_ist3 dX0_joyOfDays_38 rfl (by decide) ?_
      refine V_inc4 (nI (k + 1)) dX0_joyOfDays_39 (nI_inc k) rfl (by decide) ?_
      refine V_goto 5 dX0_joyOfDays_42 (by decide) ?_
      refine V_dr5 ?_
      refine V_eq ?_ rfl rfl ihlp
      simp only [jxC, ej]
      rw [nI_clamp (by omega)]
  have lpE : V X D tc cX0_joyOfDays RX0 6 5 ((fun k => [some (.ref (A 28)), some (.int s), some (.int (nI N)), some (.int (jxC (σ 8 0) s k)), some (.int (nI k)), none]) (N)) [] ((fun k => cW A tc σ) (N)) := by
    refine V_ild4 dX0_joyOfDays_5 ?_
    refine V_ild2 dX0_joyOfDays_7 ?_
    refine V_icmp_ge 45 dX0_joyOfDays_8 (by decide) (fun c8 => ?_) (fun c8 => ?_)
    · refine V_ild3 dX0_joyOfDays_45 ?_
      exact V_iret hX dX0_joyOfDays_46 rfl rfl rfl
    · exact absurd (ge_yes rfl) c8
  have lp := V_for (fun k => [some (.ref (A 28)), some (.int s), some (.int (nI N)), some (.int (jxC (σ 8 0) s k)), some (.int (nI k)), none]) (fun k => cW A tc σ) (N) lpS lpE
  refine V_iconst 0 dX0_joyOfDays_0 (by decide) ?_
  refine V_ist3 dX0_joyOfDays_1 rfl (by decide) ?_
  refine V_iconst 0 dX0_joyOfDays_2 (by decide) ?_
  refine V_ist4 dX0_joyOfDays_3 rfl (by decide) ?_
  exact lp 0 (Nat.zero_le _)
theorem ot1 {μ : Sm} {p : Nat} (h : ¬ otC μ p = 0) : otC μ p = 1 := (b2i_01 (P := μ 2 p = μ 8 0)).elim (fun q => absurd q h) (fun q => q)
theorem of0 {d : Nat} (h : nI d = 0) (hd : d < 2 ^ 31) : d = 0 := (nI_eq hd (by decide)).mp (h.trans nI_0.symm)
set_option maxRecDepth 100000 in
set_option maxHeartbeats 4000000 in
theorem ok_weighDays (hM : σ 5 10 0 = nI M) (h6 : M ≤ 6) (p : Nat) (hp : p < 4) (hN : N ≤ 3) (th : Int32) : Ok 3 yX0_weighDays cX0_weighDays 8 none D tc [.ref (A 28), .ref (A (mb 5)), .int (nI p), .int (nI N), .int th] (cW A tc σ) none (cW A tc (upF σ 8 0 (woC (σ 5) M p th (σ 8 0) N))) := by
  refine Ok_of RX0 rfl (by decide) [some (.ref (A 28)), some (.ref (A (mb 5))), some (.int (nI p)), some (.int (nI N)), some (.int th), none, none, none] rfl (Nat.le_of_ble_eq_true rfl) ?_
  intro X hX
  have lpS : ∀ d, d < N → V X D tc cX0_weighDays RX0 8 3 ((fun d => [some (.ref (A 28)), some (.ref (A (mb 5))), some (.int (nI p)), some (.int (nI N)), some (.int th), some (.int (nI d)), none, none]) (d + 1)) [] ((fun d => cW A tc (upF σ 8 0 (woC (σ 5) M p th (σ 8 0) d))) (d + 1)) → V X D tc cX0_weighDays RX0 8 3 ((fun d => [some (.ref (A 28)), some (.ref (A (mb 5))), some (.int (nI p)), some (.int (nI N)), some (.int th), some (.int (nI d)), none, none]) d) [] ((fun d => cW A tc (upF σ 8 0 (woC (σ 5) M p th (σ 8 0) d))) d) := by
    intro d hd ihlp
    have innS : ∀ k, k < 64 → V X D tc cX0_weighDays RX0 8 32 ((fun k => [some (.ref (A 28)), some (.ref (A (mb 5))), some (.int (nI p)), some (.int (nI N)), some (.int th), some (.int (nI d)), some (.int (oaC (σ 5) p d)), some (.int (nI k))]) (k + 1)) [] ((fun k => cW A tc (upF σ 8 0 (wiC (σ 5) M p th d (woC (σ 5) M p th (σ 8 0) d) k))) (k + 1)) → V X D tc cX0_weighDays RX0 8 32 ((fun k => [some (.ref (A 28)), some (.ref (A (mb 5))), some (.int (nI p)), some (.int (nI N)), some (.int th), some (.int (nI d)), some (.int (oaC (σ 5) p d)), some (.int (nI k))]) k) [] ((fun k => cW A tc (upF σ 8 0 (wiC (σ 5) M p th d (woC (σ 5) M p th (σ 8 0) d) k))) k) := by
      intro k hk ihinn
      refine V_ild7 dX0_weighDays_32 ?_
      refine V_bipush 64 dX0_weighDays_34 (by decide) ?_
      refine V_icmp_ge 83 dX0_weighDays_36 (by decide) (fun c36 => ?_) (fun c36 => ?_)
      · exact absurd c36 (L64 hk)
      · refine V_ild7 dX0_weighDays_39 ?_
        refine V_ild4 dX0_weighDays_41 ?_
        refine V_callN ln_X0_48 (ok_isWithin _ _) dX0_weighDays_43 (dep hX (by decide)) rfl (Nat.le_of_ble_eq_true rfl) ?_
        refine V_if_eq 77 dX0_weighDays_46 (by decide) (fun c46 => ?_) (fun c46 => ?_)
        · try rw [b2i_eq] at c46
          try rw [Decidable.not_not] at c46
          refine V_inc7 (nI (k + 1)) dX0_weighDays_77 (nI_inc k) rfl (by decide) ?_
          refine V_goto 32 dX0_weighDays_80 (by decide) ?_
          refine V_eq rfl rfl ?_ ihinn
          try rw [up_upF]
          simp only [wiC]
          first | rw [if_pos c46] | rw [if_neg c46]
          try rfl
        · try rw [b2i_ne] at c46
          try rw [Decidable.not_not] at c46
          refine V_ald0 dX0_weighDays_49 ?_
          refine V_get lf_X0_9 dX0_weighDays_50 cW_ke rfl ?_
          refine V_ild5 dX0_weighDays_53 ?_
          refine V_bipush 64 dX0_weighDays_55 (by decide) ?_
          refine V_imul dX0_weighDays_57 ?_
          refine V_ild7 dX0_weighDays_58 ?_
          refine V_iadd dX0_weighDays_60 ?_
          refine V_top (y := nI (64 * d + k)) (i64 d k) ?_
          refine V_ald1 dX0_weighDays_61 ?_
          refine V_ild7 dX0_weighDays_62 ?_
          refine V_ald1 dX0_weighDays_64 ?_
          refine V_get lf_X0_51 dX0_weighDays_65 (cW_mkt now5) rfl ?_
          refine V_ild5 dX0_weighDays_68 ?_
          refine V_iadd dX0_weighDays_70 ?_
          refine V_ild6 dX0_weighDays_71 ?_
          refine V_callV lm_X0_54 (ok_joyOfSet (σ := upF σ 8 0 (wiC (σ 5) M p th d (woC (σ 5) M p th (σ 8 0) d) k)) now5 hM h6 _ _ _) dX0_weighDays_73 (cW_mkt now5) rfl (dep hX (by decide)) rfl (Nat.le_of_ble_eq_true rfl) ?_
          refine V_iastk dX0_weighDays_76 cW_kea ⟨by omega, by decide⟩ (cW_keas _ _) ?_
          refine V_inc7 (nI (k + 1)) dX0_weighDays_77 (nI_inc k) rfl (by decide) ?_
          refine V_goto 32 dX0_weighDays_80 (by decide) ?_
          refine V_eq rfl rfl ?_ ihinn
          try rw [up_upF]
          simp only [wiC]
          first | rw [if_pos c46] | rw [if_neg c46]
          try rfl
    have innE : V X D tc cX0_weighDays RX0 8 32 ((fun k => [some (.ref (A 28)), some (.ref (A (mb 5))), some (.int (nI p)), some (.int (nI N)), some (.int th), some (.int (nI d)), some (.int (oaC (σ 5) p d)), some (.int (nI k))]) (64)) [] ((fun k => cW A tc (upF σ 8 0 (wiC (σ 5) M p th d (woC (σ 5) M p th (σ 8 0) d) k))) (64)) := by
      refine V_ild7 dX0_weighDays_32 ?_
      refine V_bipush 64 dX0_weighDays_34 (by decide) ?_
      refine V_icmp_ge 83 dX0_weighDays_36 (by decide) (fun c36 => ?_) (fun c36 => ?_)
      · refine V_inc5 (nI (d + 1)) dX0_weighDays_83 (nI_inc d) rfl (by decide) ?_
        refine V_goto 3 dX0_weighDays_86 (by decide) ?_
        refine V_dr6 ?_
        refine V_dr7 ?_
        exact ihlp
      · exact absurd E64 c36
    have inn := V_for (fun k => [some (.ref (A 28)), some (.ref (A (mb 5))), some (.int (nI p)), some (.int (nI N)), some (.int th), some (.int (nI d)), some (.int (oaC (σ 5) p d)), some (.int (nI k))]) (fun k => cW A tc (upF σ 8 0 (wiC (σ 5) M p th d (woC (σ 5) M p th (σ 8 0) d) k))) (64) innS innE
    refine V_ild5 dX0_weighDays_3 ?_
    refine V_ild3 dX0_weighDays_5 ?_
    refine V_icmp_ge 89 dX0_weighDays_6 (by decide) (fun c6 => ?_) (fun c6 => ?_)
    · exact absurd c6 (nI_ge hd (by omega))
    · refine V_ild5 dX0_weighDays_9 ?_
      refine V_if_ne 26 dX0_weighDays_11 (by decide) (fun c11 => ?_) (fun c11 => ?_)
      · refine V_iconst 0 dX0_weighDays_26 (by decide) ?_
        refine V_top (y := oaC (σ 5) p d) (by
        show _ = (if d = 0 then otC (σ 5) p else 0)
        first
          | (rw [if_neg (fun h => c11 (by rw [h]; rfl))])
          | (rw [if_pos (of0 c11 (by omega))]; first | (exact (ot1 c19).symm) | (exact c19.symm))) ?_
        refine V_ist6 dX0_weighDays_27 rfl (by decide) ?_
        refine V_iconst 0 dX0_weighDays_29 (by decide) ?_
        refine V_ist7 dX0_weighDays_30 rfl (by decide) ?_
        exact inn 0 (Nat.zero_le _)
      · refine V_ald1 dX0_weighDays_14 ?_
        refine V_ild2 dX0_weighDays_15 ?_
        refine V_callV lm_X0_44 (ok_openedToday now5 p hp) dX0_weighDays_16 (cW_mkt now5) rfl (dep hX (by decide)) rfl (Nat.le_of_ble_eq_true rfl) ?_
        refine V_if_eq 26 dX0_weighDays_19 (by decide) (fun c19 => ?_) (fun c19 => ?_)
        · try rw [b2i_eq] at c19
          try rw [Decidable.not_not] at c19
          refine V_iconst 0 dX0_weighDays_26 (by decide) ?_
          refine V_top (y := oaC (σ 5) p d) (by
        show _ = (if d = 0 then otC (σ 5) p else 0)
        first
          | (rw [if_neg (fun h => c11 (by rw [h]; rfl))])
          | (rw [if_pos (of0 c11 (by omega))]; first | (exact (ot1 c19).symm) | (exact c19.symm))) ?_
          refine V_ist6 dX0_weighDays_27 rfl (by decide) ?_
          refine V_iconst 0 dX0_weighDays_29 (by decide) ?_
          refine V_ist7 dX0_weighDays_30 rfl (by decide) ?_
          exact inn 0 (Nat.zero_le _)
        · try rw [b2i_ne] at c19
          try rw [Decidable.not_not] at c19
          refine V_iconst 1 dX0_weighDays_22 (by decide) ?_
          refine V_goto 27 dX0_weighDays_23 (by decide) ?_
          refine V_top (y := oaC (σ 5) p d) (by
        show _ = (if d = 0 then otC (σ 5) p else 0)
        first
          | (rw [if_neg (fun h => c11 (by rw [h]; rfl))])
          | (rw [if_pos (of0 c11 (by omega))]; first | (exact (ot1 c19).symm) | (exact c19.symm))) ?_
          refine V_ist6 dX0_weighDays_27 rfl (by decide) ?_
          refine V_iconst 0 dX0_weighDays_29 (by decide) ?_
          refine V_ist7 dX0_weighDays_30 rfl (by decide) ?_
          exact inn 0 (Nat.zero_le _)
  have lpE : V X D tc cX0_weighDays RX0 8 3 ((fun d => [some (.ref (A 28)), some (.ref (A (mb 5))), some (.int (nI p)), some (.int (nI N)), some (.int th), some (.int (nI d)), none, none]) (N)) [] ((fun d => cW A tc (upF σ 8 0 (woC (σ 5) M p th (σ 8 0) d))) (N)) := by
    refine V_ild5 dX0_weighDays_3 ?_
    refine V_ild3 dX0_weighDays_5 ?_
    refine V_icmp_ge 89 dX0_weighDays_6 (by decide) (fun c6 => ?_) (fun c6 => ?_)
    · exact V_vret hX dX0_weighDays_89 rfl rfl rfl
    · exact absurd (ge_yes rfl) c6
  have lp := V_for (fun d => [some (.ref (A 28)), some (.ref (A (mb 5))), some (.int (nI p)), some (.int (nI N)), some (.int th), some (.int (nI d)), none, none]) (fun d => cW A tc (upF σ 8 0 (woC (σ 5) M p th (σ 8 0) d))) (N) lpS lpE
  refine V_iconst 0 dX0_weighDays_0 (by decide) ?_
  refine V_ist5 dX0_weighDays_1 rfl (by decide) ?_
  refine V_eq rfl rfl ?_ (lp 0 (Nat.zero_le _))
  exact congrArg (cW A tc) (upF_self σ 8 0).symm
end
end
