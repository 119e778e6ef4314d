section
-- ===== PART A: goes FIRST, ahead of the names: the tables' words, and 'selects' of the private methods out of them =====
/-- a private method of a class that the tables say can be made, by its rows of tables_1 -/
def lw_okq (q : MethodName × Nat) : Prop := (q.1.cls ≠ "java/lang/invoke/MethodHandle" ∧ q.1.cls ≠ "java/lang/invoke/VarHandle") ∧ Cond.instantiable q.1.cls q.2 ∈ tables_1 ∧ Cond.privateMethod q.1 ∈ tables_1 ∧ Cond.instanceMethod q.1 ∈ tables_1
theorem lw_p0 : lw_okq (⟨"MornMarket", "sheetAt", "(I)LMornMarket$Sheet;"⟩, 8) := ⟨⟨by decide +kernel, by decide +kernel⟩, List.mem_of_getElem? (i := 12) (by decide +kernel), List.mem_of_getElem? (i := 190) (by decide +kernel), List.mem_of_getElem? (i := 191) (by decide +kernel)⟩
theorem lw_p1 : lw_okq (⟨"MornMarket", "faulted", "(I)I"⟩, 8) := ⟨⟨by decide +kernel, by decide +kernel⟩, List.mem_of_getElem? (i := 12) (by decide +kernel), List.mem_of_getElem? (i := 205) (by decide +kernel), List.mem_of_getElem? (i := 206) (by decide +kernel)⟩
theorem lw_p2 : lw_okq (⟨"MornMarket", "refusalOfPairs", "(LMornMarket$Sheet;II)I"⟩, 8) := ⟨⟨by decide +kernel, by decide +kernel⟩, List.mem_of_getElem? (i := 12) (by decide +kernel), List.mem_of_getElem? (i := 357) (by decide +kernel), List.mem_of_getElem? (i := 358) (by decide +kernel)⟩
theorem lw_p3 : lw_okq (⟨"MornMarket", "firstWrongIn", "(LMornMarket$Sheet;II)I"⟩, 8) := ⟨⟨by decide +kernel, by decide +kernel⟩, List.mem_of_getElem? (i := 12) (by decide +kernel), List.mem_of_getElem? (i := 362) (by decide +kernel), List.mem_of_getElem? (i := 363) (by decide +kernel)⟩
theorem lw_p4 : lw_okq (⟨"MornMarket", "behindYear", "(I)I"⟩, 8) := ⟨⟨by decide +kernel, by decide +kernel⟩, List.mem_of_getElem? (i := 12) (by decide +kernel), List.mem_of_getElem? (i := 374) (by decide +kernel), List.mem_of_getElem? (i := 375) (by decide +kernel)⟩
theorem lw_p5 : lw_okq (⟨"MornMarket", "setToBuy", "(II)I"⟩, 8) := ⟨⟨by decide +kernel, by decide +kernel⟩, List.mem_of_getElem? (i := 12) (by decide +kernel), List.mem_of_getElem? (i := 429) (by decide +kernel), List.mem_of_getElem? (i := 430) (by decide +kernel)⟩
theorem lw_p6 : lw_okq (⟨"MornMarket", "setToSell", "(II)I"⟩, 8) := ⟨⟨by decide +kernel, by decide +kernel⟩, List.mem_of_getElem? (i := 12) (by decide +kernel), List.mem_of_getElem? (i := 446) (by decide +kernel), List.mem_of_getElem? (i := 447) (by decide +kernel)⟩
theorem lw_p7 : lw_okq (⟨"MornMarket", "gainOfExchange", "(II)I"⟩, 8) := ⟨⟨by decide +kernel, by decide +kernel⟩, List.mem_of_getElem? (i := 12) (by decide +kernel), List.mem_of_getElem? (i := 454) (by decide +kernel), List.mem_of_getElem? (i := 455) (by decide +kernel)⟩
theorem lw_p8 : lw_okq (⟨"MornMarket", "lostBy", "(I)J"⟩, 8) := ⟨⟨by decide +kernel, by decide +kernel⟩, List.mem_of_getElem? (i := 12) (by decide +kernel), List.mem_of_getElem? (i := 518) (by decide +kernel), List.mem_of_getElem? (i := 519) (by decide +kernel)⟩
theorem lw_p9 : lw_okq (⟨"MornMarket", "toldByFrost", "(I)I"⟩, 8) := ⟨⟨by decide +kernel, by decide +kernel⟩, List.mem_of_getElem? (i := 12) (by decide +kernel), List.mem_of_getElem? (i := 531) (by decide +kernel), List.mem_of_getElem? (i := 532) (by decide +kernel)⟩
theorem lw_p10 : lw_okq (⟨"MornMarket", "begins", "(I)V"⟩, 8) := ⟨⟨by decide +kernel, by decide +kernel⟩, List.mem_of_getElem? (i := 12) (by decide +kernel), List.mem_of_getElem? (i := 535) (by decide +kernel), List.mem_of_getElem? (i := 536) (by decide +kernel)⟩
theorem lw_p11 : lw_okq (⟨"MornMarket", "toldByClear", "(I)I"⟩, 8) := ⟨⟨by decide +kernel, by decide +kernel⟩, List.mem_of_getElem? (i := 12) (by decide +kernel), List.mem_of_getElem? (i := 539) (by decide +kernel), List.mem_of_getElem? (i := 540) (by decide +kernel)⟩
theorem lw_p12 : lw_okq (⟨"MornMarket", "toldByPainted", "(I)I"⟩, 8) := ⟨⟨by decide +kernel, by decide +kernel⟩, List.mem_of_getElem? (i := 12) (by decide +kernel), List.mem_of_getElem? (i := 543) (by decide +kernel), List.mem_of_getElem? (i := 544) (by decide +kernel)⟩
theorem lw_p13 : lw_okq (⟨"MornMarket", "crowedByPainted", "()I"⟩, 8) := ⟨⟨by decide +kernel, by decide +kernel⟩, List.mem_of_getElem? (i := 12) (by decide +kernel), List.mem_of_getElem? (i := 551) (by decide +kernel), List.mem_of_getElem? (i := 552) (by decide +kernel)⟩
theorem lw_p14 : lw_okq (⟨"MornMarket", "crowedByLent", "(I)I"⟩, 8) := ⟨⟨by decide +kernel, by decide +kernel⟩, List.mem_of_getElem? (i := 12) (by decide +kernel), List.mem_of_getElem? (i := 555) (by decide +kernel), List.mem_of_getElem? (i := 556) (by decide +kernel)⟩
theorem lw_p15 : lw_okq (⟨"MornMarketModel", "against", "(IIII)I"⟩, 37) := ⟨⟨by decide +kernel, by decide +kernel⟩, List.mem_of_getElem? (i := 575) (by decide +kernel), List.mem_of_getElem? (i := 707) (by decide +kernel), List.mem_of_getElem? (i := 708) (by decide +kernel)⟩
def lw_privs_1 : List (MethodName × Nat) := [(⟨"MornMarket", "sheetAt", "(I)LMornMarket$Sheet;"⟩, 8), (⟨"MornMarket", "faulted", "(I)I"⟩, 8), (⟨"MornMarket", "refusalOfPairs", "(LMornMarket$Sheet;II)I"⟩, 8), (⟨"MornMarket", "firstWrongIn", "(LMornMarket$Sheet;II)I"⟩, 8), (⟨"MornMarket", "behindYear", "(I)I"⟩, 8), (⟨"MornMarket", "setToBuy", "(II)I"⟩, 8), (⟨"MornMarket", "setToSell", "(II)I"⟩, 8), (⟨"MornMarket", "gainOfExchange", "(II)I"⟩, 8), (⟨"MornMarket", "lostBy", "(I)J"⟩, 8), (⟨"MornMarket", "toldByFrost", "(I)I"⟩, 8), (⟨"MornMarket", "begins", "(I)V"⟩, 8), (⟨"MornMarket", "toldByClear", "(I)I"⟩, 8), (⟨"MornMarket", "toldByPainted", "(I)I"⟩, 8), (⟨"MornMarket", "crowedByPainted", "()I"⟩, 8), (⟨"MornMarket", "crowedByLent", "(I)I"⟩, 8), (⟨"MornMarketModel", "against", "(IIII)I"⟩, 37)]
theorem lw_r1 : ∀ q ∈ lw_privs_1, lw_okq q := List.forall_mem_cons.mpr ⟨lw_p0, List.forall_mem_cons.mpr ⟨lw_p1, List.forall_mem_cons.mpr ⟨lw_p2, List.forall_mem_cons.mpr ⟨lw_p3, List.forall_mem_cons.mpr ⟨lw_p4, List.forall_mem_cons.mpr ⟨lw_p5, List.forall_mem_cons.mpr ⟨lw_p6, List.forall_mem_cons.mpr ⟨lw_p7, List.forall_mem_cons.mpr ⟨lw_p8, List.forall_mem_cons.mpr ⟨lw_p9, List.forall_mem_cons.mpr ⟨lw_p10, List.forall_mem_cons.mpr ⟨lw_p11, List.forall_mem_cons.mpr ⟨lw_p12, List.forall_mem_cons.mpr ⟨lw_p13, List.forall_mem_cons.mpr ⟨lw_p14, List.forall_mem_cons.mpr ⟨lw_p15, fun _ h => absurd h List.not_mem_nil⟩⟩⟩⟩⟩⟩⟩⟩⟩⟩⟩⟩⟩⟩⟩⟩
theorem lw_p16 : lw_okq (⟨"MornMarketModel", "fails", "(I)I"⟩, 37) := ⟨⟨by decide +kernel, by decide +kernel⟩, List.mem_of_getElem? (i := 575) (by decide +kernel), List.mem_of_getElem? (i := 711) (by decide +kernel), List.mem_of_getElem? (i := 712) (by decide +kernel)⟩
theorem lw_p17 : lw_okq (⟨"MornMarketModel", "readMarket", "(I)Z"⟩, 37) := ⟨⟨by decide +kernel, by decide +kernel⟩, List.mem_of_getElem? (i := 575) (by decide +kernel), List.mem_of_getElem? (i := 715) (by decide +kernel), List.mem_of_getElem? (i := 716) (by decide +kernel)⟩
theorem lw_p18 : lw_okq (⟨"MornMarketModel", "isSign", "(II)Z"⟩, 37) := ⟨⟨by decide +kernel, by decide +kernel⟩, List.mem_of_getElem? (i := 575) (by decide +kernel), List.mem_of_getElem? (i := 719) (by decide +kernel), List.mem_of_getElem? (i := 720) (by decide +kernel)⟩
theorem lw_p19 : lw_okq (⟨"MornMarketModel", "digit", "(III)I"⟩, 37) := ⟨⟨by decide +kernel, by decide +kernel⟩, List.mem_of_getElem? (i := 575) (by decide +kernel), List.mem_of_getElem? (i := 723) (by decide +kernel), List.mem_of_getElem? (i := 724) (by decide +kernel)⟩
theorem lw_p20 : lw_okq (⟨"MornMarketModel", "readPerson", "(I)Z"⟩, 37) := ⟨⟨by decide +kernel, by decide +kernel⟩, List.mem_of_getElem? (i := 575) (by decide +kernel), List.mem_of_getElem? (i := 727) (by decide +kernel), List.mem_of_getElem? (i := 728) (by decide +kernel)⟩
theorem lw_p21 : lw_okq (⟨"MornMarketModel", "readMorning", "(I)Z"⟩, 37) := ⟨⟨by decide +kernel, by decide +kernel⟩, List.mem_of_getElem? (i := 575) (by decide +kernel), List.mem_of_getElem? (i := 731) (by decide +kernel), List.mem_of_getElem? (i := 732) (by decide +kernel)⟩
theorem lw_p22 : lw_okq (⟨"MornMarketModel", "takeMarket", "()V"⟩, 37) := ⟨⟨by decide +kernel, by decide +kernel⟩, List.mem_of_getElem? (i := 575) (by decide +kernel), List.mem_of_getElem? (i := 735) (by decide +kernel), List.mem_of_getElem? (i := 736) (by decide +kernel)⟩
theorem lw_p23 : lw_okq (⟨"MornMarketModel", "isMorning", "(I)Z"⟩, 37) := ⟨⟨by decide +kernel, by decide +kernel⟩, List.mem_of_getElem? (i := 575) (by decide +kernel), List.mem_of_getElem? (i := 743) (by decide +kernel), List.mem_of_getElem? (i := 744) (by decide +kernel)⟩
theorem lw_p24 : lw_okq (⟨"MornMarketModel", "isPerson", "(I)Z"⟩, 37) := ⟨⟨by decide +kernel, by decide +kernel⟩, List.mem_of_getElem? (i := 575) (by decide +kernel), List.mem_of_getElem? (i := 751) (by decide +kernel), List.mem_of_getElem? (i := 752) (by decide +kernel)⟩
theorem lw_p25 : lw_okq (⟨"MornMarketModel", "ownOf", "(I)I"⟩, 37) := ⟨⟨by decide +kernel, by decide +kernel⟩, List.mem_of_getElem? (i := 575) (by decide +kernel), List.mem_of_getElem? (i := 755) (by decide +kernel), List.mem_of_getElem? (i := 756) (by decide +kernel)⟩
theorem lw_p26 : lw_okq (⟨"MornMarketModel", "freshOn", "(II)I"⟩, 37) := ⟨⟨by decide +kernel, by decide +kernel⟩, List.mem_of_getElem? (i := 575) (by decide +kernel), List.mem_of_getElem? (i := 774) (by decide +kernel), List.mem_of_getElem? (i := 775) (by decide +kernel)⟩
theorem lw_p27 : lw_okq (⟨"MornMarketModel", "priceOf", "(I)I"⟩, 37) := ⟨⟨by decide +kernel, by decide +kernel⟩, List.mem_of_getElem? (i := 575) (by decide +kernel), List.mem_of_getElem? (i := 782) (by decide +kernel), List.mem_of_getElem? (i := 783) (by decide +kernel)⟩
theorem lw_p28 : lw_okq (⟨"MornMarketModel", "maySell", "(II)Z"⟩, 37) := ⟨⟨by decide +kernel, by decide +kernel⟩, List.mem_of_getElem? (i := 575) (by decide +kernel), List.mem_of_getElem? (i := 790) (by decide +kernel), List.mem_of_getElem? (i := 791) (by decide +kernel)⟩
theorem lw_p29 : lw_okq (⟨"MornMarketModel", "doSell", "(II)V"⟩, 37) := ⟨⟨by decide +kernel, by decide +kernel⟩, List.mem_of_getElem? (i := 575) (by decide +kernel), List.mem_of_getElem? (i := 794) (by decide +kernel), List.mem_of_getElem? (i := 795) (by decide +kernel)⟩
theorem lw_p30 : lw_okq (⟨"MornMarketModel", "doOpen", "(I)I"⟩, 37) := ⟨⟨by decide +kernel, by decide +kernel⟩, List.mem_of_getElem? (i := 575) (by decide +kernel), List.mem_of_getElem? (i := 802) (by decide +kernel), List.mem_of_getElem? (i := 803) (by decide +kernel)⟩
theorem lw_p31 : lw_okq (⟨"MornMarketModel", "doSleep", "(I)V"⟩, 37) := ⟨⟨by decide +kernel, by decide +kernel⟩, List.mem_of_getElem? (i := 575) (by decide +kernel), List.mem_of_getElem? (i := 810) (by decide +kernel), List.mem_of_getElem? (i := 811) (by decide +kernel)⟩
def lw_privs_2 : List (MethodName × Nat) := [(⟨"MornMarketModel", "fails", "(I)I"⟩, 37), (⟨"MornMarketModel", "readMarket", "(I)Z"⟩, 37), (⟨"MornMarketModel", "isSign", "(II)Z"⟩, 37), (⟨"MornMarketModel", "digit", "(III)I"⟩, 37), (⟨"MornMarketModel", "readPerson", "(I)Z"⟩, 37), (⟨"MornMarketModel", "readMorning", "(I)Z"⟩, 37), (⟨"MornMarketModel", "takeMarket", "()V"⟩, 37), (⟨"MornMarketModel", "isMorning", "(I)Z"⟩, 37), (⟨"MornMarketModel", "isPerson", "(I)Z"⟩, 37), (⟨"MornMarketModel", "ownOf", "(I)I"⟩, 37), (⟨"MornMarketModel", "freshOn", "(II)I"⟩, 37), (⟨"MornMarketModel", "priceOf", "(I)I"⟩, 37), (⟨"MornMarketModel", "maySell", "(II)Z"⟩, 37), (⟨"MornMarketModel", "doSell", "(II)V"⟩, 37), (⟨"MornMarketModel", "doOpen", "(I)I"⟩, 37), (⟨"MornMarketModel", "doSleep", "(I)V"⟩, 37)]
theorem lw_r2 : ∀ q ∈ lw_privs_2, lw_okq q := List.forall_mem_cons.mpr ⟨lw_p16, List.forall_mem_cons.mpr ⟨lw_p17, List.forall_mem_cons.mpr ⟨lw_p18, List.forall_mem_cons.mpr ⟨lw_p19, List.forall_mem_cons.mpr ⟨lw_p20, List.forall_mem_cons.mpr ⟨lw_p21, List.forall_mem_cons.mpr ⟨lw_p22, List.forall_mem_cons.mpr ⟨lw_p23, List.forall_mem_cons.mpr ⟨lw_p24, List.forall_mem_cons.mpr ⟨lw_p25, List.forall_mem_cons.mpr ⟨lw_p26, List.forall_mem_cons.mpr ⟨lw_p27, List.forall_mem_cons.mpr ⟨lw_p28, List.forall_mem_cons.mpr ⟨lw_p29, List.forall_mem_cons.mpr ⟨lw_p30, List.forall_mem_cons.mpr ⟨lw_p31, fun _ h => absurd h List.not_mem_nil⟩⟩⟩⟩⟩⟩⟩⟩⟩⟩⟩⟩⟩⟩⟩⟩
theorem lw_p32 : lw_okq (⟨"MornMarketModel", "refusesPair", "(II)I"⟩, 37) := ⟨⟨by decide +kernel, by decide +kernel⟩, List.mem_of_getElem? (i := 575) (by decide +kernel), List.mem_of_getElem? (i := 818) (by decide +kernel), List.mem_of_getElem? (i := 819) (by decide +kernel)⟩
theorem lw_p33 : lw_okq (⟨"MornMarketModel", "keepAll", "()V"⟩, 37) := ⟨⟨by decide +kernel, by decide +kernel⟩, List.mem_of_getElem? (i := 575) (by decide +kernel), List.mem_of_getElem? (i := 822) (by decide +kernel), List.mem_of_getElem? (i := 823) (by decide +kernel)⟩
theorem lw_p34 : lw_okq (⟨"MornMarketModel", "goes", "(II)Z"⟩, 37) := ⟨⟨by decide +kernel, by decide +kernel⟩, List.mem_of_getElem? (i := 575) (by decide +kernel), List.mem_of_getElem? (i := 826) (by decide +kernel), List.mem_of_getElem? (i := 827) (by decide +kernel)⟩
theorem lw_p35 : lw_okq (⟨"MornMarketModel", "tellYear", "(I)I"⟩, 37) := ⟨⟨by decide +kernel, by decide +kernel⟩, List.mem_of_getElem? (i := 575) (by decide +kernel), List.mem_of_getElem? (i := 830) (by decide +kernel), List.mem_of_getElem? (i := 831) (by decide +kernel)⟩
theorem lw_p36 : lw_okq (⟨"MornMarketModel", "putBack", "()V"⟩, 37) := ⟨⟨by decide +kernel, by decide +kernel⟩, List.mem_of_getElem? (i := 575) (by decide +kernel), List.mem_of_getElem? (i := 834) (by decide +kernel), List.mem_of_getElem? (i := 835) (by decide +kernel)⟩
theorem lw_p37 : lw_okq (⟨"MornMarketModel", "feastBy", "(II)I"⟩, 37) := ⟨⟨by decide +kernel, by decide +kernel⟩, List.mem_of_getElem? (i := 575) (by decide +kernel), List.mem_of_getElem? (i := 842) (by decide +kernel), List.mem_of_getElem? (i := 843) (by decide +kernel)⟩
theorem lw_p38 : lw_okq (⟨"MornMarketModel", "joyBy", "(IIZ)I"⟩, 37) := ⟨⟨by decide +kernel, by decide +kernel⟩, List.mem_of_getElem? (i := 575) (by decide +kernel), List.mem_of_getElem? (i := 846) (by decide +kernel), List.mem_of_getElem? (i := 847) (by decide +kernel)⟩
theorem lw_p39 : lw_okq (⟨"MornMarketModel", "findKeep", "(II)I"⟩, 37) := ⟨⟨by decide +kernel, by decide +kernel⟩, List.mem_of_getElem? (i := 575) (by decide +kernel), List.mem_of_getElem? (i := 854) (by decide +kernel), List.mem_of_getElem? (i := 855) (by decide +kernel)⟩
theorem lw_p40 : lw_okq (⟨"MornMarketModel", "joyOfRow", "(III)I"⟩, 37) := ⟨⟨by decide +kernel, by decide +kernel⟩, List.mem_of_getElem? (i := 575) (by decide +kernel), List.mem_of_getElem? (i := 858) (by decide +kernel), List.mem_of_getElem? (i := 859) (by decide +kernel)⟩
theorem lw_p41 : lw_okq (⟨"MornMarketModel", "pricesOf", "(I)I"⟩, 37) := ⟨⟨by decide +kernel, by decide +kernel⟩, List.mem_of_getElem? (i := 575) (by decide +kernel), List.mem_of_getElem? (i := 866) (by decide +kernel), List.mem_of_getElem? (i := 867) (by decide +kernel)⟩
theorem lw_p42 : lw_okq (⟨"MornMarketModel", "isCheaper", "(II)Z"⟩, 37) := ⟨⟨by decide +kernel, by decide +kernel⟩, List.mem_of_getElem? (i := 575) (by decide +kernel), List.mem_of_getElem? (i := 870) (by decide +kernel), List.mem_of_getElem? (i := 871) (by decide +kernel)⟩
theorem lw_p43 : lw_okq (⟨"MornMarketModel", "findSwap", "()I"⟩, 37) := ⟨⟨by decide +kernel, by decide +kernel⟩, List.mem_of_getElem? (i := 575) (by decide +kernel), List.mem_of_getElem? (i := 882) (by decide +kernel), List.mem_of_getElem? (i := 883) (by decide +kernel)⟩
theorem lw_p44 : lw_okq (⟨"MornMarketModel", "gainBy", "(II)I"⟩, 37) := ⟨⟨by decide +kernel, by decide +kernel⟩, List.mem_of_getElem? (i := 575) (by decide +kernel), List.mem_of_getElem? (i := 886) (by decide +kernel), List.mem_of_getElem? (i := 887) (by decide +kernel)⟩
theorem lw_p45 : lw_okq (⟨"MornMarketModel", "areSo", "()Z"⟩, 37) := ⟨⟨by decide +kernel, by decide +kernel⟩, List.mem_of_getElem? (i := 575) (by decide +kernel), List.mem_of_getElem? (i := 902) (by decide +kernel), List.mem_of_getElem? (i := 903) (by decide +kernel)⟩
theorem lw_p46 : lw_okq (⟨"MornMarketModel", "lost", "(I)J"⟩, 37) := ⟨⟨by decide +kernel, by decide +kernel⟩, List.mem_of_getElem? (i := 575) (by decide +kernel), List.mem_of_getElem? (i := 938) (by decide +kernel), List.mem_of_getElem? (i := 939) (by decide +kernel)⟩
theorem lw_p47 : lw_okq (⟨"MornMarketModel", "begins", "(I)V"⟩, 37) := ⟨⟨by decide +kernel, by decide +kernel⟩, List.mem_of_getElem? (i := 575) (by decide +kernel), List.mem_of_getElem? (i := 950) (by decide +kernel), List.mem_of_getElem? (i := 951) (by decide +kernel)⟩
def lw_privs_3 : List (MethodName × Nat) := [(⟨"MornMarketModel", "refusesPair", "(II)I"⟩, 37), (⟨"MornMarketModel", "keepAll", "()V"⟩, 37), (⟨"MornMarketModel", "goes", "(II)Z"⟩, 37), (⟨"MornMarketModel", "tellYear", "(I)I"⟩, 37), (⟨"MornMarketModel", "putBack", "()V"⟩, 37), (⟨"MornMarketModel", "feastBy", "(II)I"⟩, 37), (⟨"MornMarketModel", "joyBy", "(IIZ)I"⟩, 37), (⟨"MornMarketModel", "findKeep", "(II)I"⟩, 37), (⟨"MornMarketModel", "joyOfRow", "(III)I"⟩, 37), (⟨"MornMarketModel", "pricesOf", "(I)I"⟩, 37), (⟨"MornMarketModel", "isCheaper", "(II)Z"⟩, 37), (⟨"MornMarketModel", "findSwap", "()I"⟩, 37), (⟨"MornMarketModel", "gainBy", "(II)I"⟩, 37), (⟨"MornMarketModel", "areSo", "()Z"⟩, 37), (⟨"MornMarketModel", "lost", "(I)J"⟩, 37), (⟨"MornMarketModel", "begins", "(I)V"⟩, 37)]
theorem lw_r3 : ∀ q ∈ lw_privs_3, lw_okq q := List.forall_mem_cons.mpr ⟨lw_p32, List.forall_mem_cons.mpr ⟨lw_p33, List.forall_mem_cons.mpr ⟨lw_p34, List.forall_mem_cons.mpr ⟨lw_p35, List.forall_mem_cons.mpr ⟨lw_p36, List.forall_mem_cons.mpr ⟨lw_p37, List.forall_mem_cons.mpr ⟨lw_p38, List.forall_mem_cons.mpr ⟨lw_p39, List.forall_mem_cons.mpr ⟨lw_p40, List.forall_mem_cons.mpr ⟨lw_p41, List.forall_mem_cons.mpr ⟨lw_p42, List.forall_mem_cons.mpr ⟨lw_p43, List.forall_mem_cons.mpr ⟨lw_p44, List.forall_mem_cons.mpr ⟨lw_p45, List.forall_mem_cons.mpr ⟨lw_p46, List.forall_mem_cons.mpr ⟨lw_p47, fun _ h => absurd h List.not_mem_nil⟩⟩⟩⟩⟩⟩⟩⟩⟩⟩⟩⟩⟩⟩⟩⟩
def lw_privs : List (MethodName × Nat) := lw_privs_1 ++ (lw_privs_2 ++ (lw_privs_3))
def lw_tbl : List Cond := k2_sels lw_privs ++ tables_1
theorem lw_privs_ok : ∀ q ∈ lw_privs, lw_okq q := by
  show ∀ q ∈ lw_privs_1 ++ (lw_privs_2 ++ (lw_privs_3)), lw_okq q
  exact List.forall_mem_append.mpr ⟨lw_r1, List.forall_mem_append.mpr ⟨lw_r2, lw_r3⟩⟩
end
section
def RX0 : String := "MornMarket$Keeping"
def TX0 : u_T := fun k => match k with
  | 0 => ("MornMarket$Keeping", "joyOfDayAndSet", "[I", true)
  | 1 => ("MornMarket$Keeping", "mostJoy", "I", false)
  | _ => ("MornMarket$Keeping", "bestSets", "I", false)
def tyX0 : Nat → FieldType := fun k => match k with
  | 0 => .array .int
  | 1 => .int
  | _ => .int
theorem nmX0 : ∀ a, a < 3 → ∀ b, b < 3 → a ≠ b → (TX0 a).2.1 ≠ (TX0 b).2.1 := by decide +kernel
theorem tyX0_ok : ∀ k, k < 3 → parseFieldDescriptor (TX0 k).2.2.1 = some (tyX0 k) := by decide +kernel
abbrev cX0_init : ByteArray := prog_2_method_1_code
def yX0_init : MethodName := ⟨RX0, "<init>", "()V"⟩
abbrev cX0_findBest : ByteArray := prog_2_method_2_code
def yX0_findBest : MethodName := ⟨RX0, "findBest", "(LMornMarket$Market;II)V"⟩
abbrev cX0_dayOf : ByteArray := prog_2_method_3_code
def yX0_dayOf : MethodName := ⟨RX0, "dayOf", "(I)I"⟩
abbrev cX0_weighDays : ByteArray := prog_2_method_4_code
def yX0_weighDays : MethodName := ⟨RX0, "weighDays", "(LMornMarket$Market;III)V"⟩
abbrev cX0_setsOfDays : ByteArray := prog_2_method_5_code
def yX0_setsOfDays : MethodName := ⟨RX0, "setsOfDays", "(III)I"⟩
abbrev cX0_joyOfDays : ByteArray := prog_2_method_6_code
def yX0_joyOfDays : MethodName := ⟨RX0, "joyOfDays", "(II)I"⟩
def RX1 : String := "MornMarket$Market"
def TX1 : u_T := fun k => match k with
  | 0 => ("MornMarket$Market", "purse", "[I", true)
  | 1 => ("MornMarket$Market", "joy", "[I", true)
  | 2 => ("MornMarket$Market", "openedOn", "[I", true)
  | 3 => ("MornMarket$Market", "kind", "[I", true)
  | 4 => ("MornMarket$Market", "owner", "[I", true)
  | 5 => ("MornMarket$Market", "taken", "[I", true)
  | 6 => ("MornMarket$Market", "dew", "[I", true)
  | 7 => ("MornMarket$Market", "dewCosts", "I", false)
  | 8 => ("MornMarket$Market", "day", "I", false)
  | 9 => ("MornMarket$Market", "people", "I", false)
  | 10 => ("MornMarket$Market", "mornings", "I", false)
  | _ => ("MornMarket$Market", "opened", "I", false)
def tyX1 : Nat → FieldType := fun k => match k with
  | 0 => .array .int
  | 1 => .array .int
  | 2 => .array .int
  | 3 => .array .int
  | 4 => .array .int
  | 5 => .array .int
  | 6 => .array .int
  | 7 => .int
  | 8 => .int
  | 9 => .int
  | 10 => .int
  | _ => .int
theorem nmX1 : ∀ a, a < 12 → ∀ b, b < 12 → a ≠ b → (TX1 a).2.1 ≠ (TX1 b).2.1 := by decide +kernel
theorem tyX1_ok : ∀ k, k < 12 → parseFieldDescriptor (TX1 k).2.2.1 = some (tyX1 k) := by decide +kernel
abbrev cX1_init : ByteArray := prog_3_method_1_code
def yX1_init : MethodName := ⟨RX1, "<init>", "()V"⟩
abbrev cX1_beginAnew : ByteArray := prog_3_method_2_code
def yX1_beginAnew : MethodName := ⟨RX1, "beginAnew", "()V"⟩
abbrev cX1_becomeLike : ByteArray := prog_3_method_3_code
def yX1_becomeLike : MethodName := ⟨RX1, "becomeLike", "(LMornMarket$Market;)V"⟩
abbrev cX1_forgetJoy : ByteArray := prog_3_method_4_code
def yX1_forgetJoy : MethodName := ⟨RX1, "forgetJoy", "()V"⟩
abbrev cX1_isThere : ByteArray := prog_3_method_5_code
def yX1_isThere : MethodName := ⟨RX1, "isThere", "()Z"⟩
abbrev cX1_isPerson : ByteArray := prog_3_method_6_code
def yX1_isPerson : MethodName := ⟨RX1, "isPerson", "(I)Z"⟩
abbrev cX1_isMorning : ByteArray := prog_3_method_7_code
def yX1_isMorning : MethodName := ⟨RX1, "isMorning", "(I)Z"⟩
abbrev cX1_isOpened : ByteArray := prog_3_method_8_code
def yX1_isOpened : MethodName := ⟨RX1, "isOpened", "(I)Z"⟩
abbrev cX1_openedToday : ByteArray := prog_3_method_9_code
def yX1_openedToday : MethodName := ⟨RX1, "openedToday", "(I)Z"⟩
abbrev cX1_closed : ByteArray := prog_3_method_10_code
def yX1_closed : MethodName := ⟨RX1, "closed", "()I"⟩
abbrev cX1_closedOf : ByteArray := prog_3_method_11_code
def yX1_closedOf : MethodName := ⟨RX1, "closedOf", "(I)I"⟩
abbrev cX1_freshOn : ByteArray := prog_3_method_12_code
def yX1_freshOn : MethodName := ⟨RX1, "freshOn", "(II)I"⟩
abbrev cX1_priceOf : ByteArray := prog_3_method_13_code
def yX1_priceOf : MethodName := ⟨RX1, "priceOf", "(I)I"⟩
abbrev cX1_priceOfSet : ByteArray := prog_3_method_14_code
def yX1_priceOfSet : MethodName := ⟨RX1, "priceOfSet", "(I)I"⟩
abbrev cX1_joyOfAll : ByteArray := prog_3_method_15_code
def yX1_joyOfAll : MethodName := ⟨RX1, "joyOfAll", "()I"⟩
abbrev cX1_joyOfSet : ByteArray := prog_3_method_16_code
def yX1_joyOfSet : MethodName := ⟨RX1, "joyOfSet", "(IIZ)I"⟩
abbrev cX1_feastWith : ByteArray := prog_3_method_17_code
def yX1_feastWith : MethodName := ⟨RX1, "feastWith", "(II)I"⟩
abbrev cX1_canGoBy : ByteArray := prog_3_method_18_code
def yX1_canGoBy : MethodName := ⟨RX1, "canGoBy", "(I)Z"⟩
abbrev cX1_canBeSold : ByteArray := prog_3_method_19_code
def yX1_canBeSold : MethodName := ⟨RX1, "canBeSold", "(II)Z"⟩
abbrev cX1_handOver : ByteArray := prog_3_method_20_code
def yX1_handOver : MethodName := ⟨RX1, "handOver", "(II)I"⟩
abbrev cX1_unseal : ByteArray := prog_3_method_21_code
def yX1_unseal : MethodName := ⟨RX1, "unseal", "(I)I"⟩
abbrev cX1_acts : ByteArray := prog_3_method_22_code
def yX1_acts : MethodName := ⟨RX1, "acts", "(II)Z"⟩
def RX2 : String := "MornMarket$Readings"
def TX2 : u_T := fun k => match k with
  | 0 => ("MornMarket$Readings", "morning", "[I", true)
  | 1 => ("MornMarket$Readings", "day", "[I", true)
  | 2 => ("MornMarket$Readings", "fresh", "[I", true)
  | _ => ("MornMarket$Readings", "count", "I", false)
def tyX2 : Nat → FieldType := fun k => match k with
  | 0 => .array .int
  | 1 => .array .int
  | 2 => .array .int
  | _ => .int
theorem nmX2 : ∀ a, a < 4 → ∀ b, b < 4 → a ≠ b → (TX2 a).2.1 ≠ (TX2 b).2.1 := by decide +kernel
theorem tyX2_ok : ∀ k, k < 4 → parseFieldDescriptor (TX2 k).2.2.1 = some (tyX2 k) := by decide +kernel
abbrev cX2_init : ByteArray := prog_4_method_1_code
def yX2_init : MethodName := ⟨RX2, "<init>", "()V"⟩
abbrev cX2_append : ByteArray := prog_4_method_2_code
def yX2_append : MethodName := ⟨RX2, "append", "(III)I"⟩
abbrev cX2_areSoWith : ByteArray := prog_4_method_3_code
def yX2_areSoWith : MethodName := ⟨RX2, "areSoWith", "(LMornMarket$Market;IIII)Z"⟩
def RX3 : String := "MornMarket$Sheet"
def TX3 : u_T := fun k => match k with
  | 0 => ("MornMarket$Sheet", "cells", "[I", true)
  | 1 => ("MornMarket$Sheet", "length", "I", false)
  | _ => ("MornMarket$Sheet", "lane", "I", false)
def tyX3 : Nat → FieldType := fun k => match k with
  | 0 => .array .int
  | 1 => .int
  | _ => .int
theorem nmX3 : ∀ a, a < 3 → ∀ b, b < 3 → a ≠ b → (TX3 a).2.1 ≠ (TX3 b).2.1 := by decide +kernel
theorem tyX3_ok : ∀ k, k < 3 → parseFieldDescriptor (TX3 k).2.2.1 = some (tyX3 k) := by decide +kernel
abbrev cX3_init : ByteArray := prog_5_method_1_code
def yX3_init : MethodName := ⟨RX3, "<init>", "()V"⟩
abbrev cX3_getRow : ByteArray := prog_5_method_2_code
def yX3_getRow : MethodName := ⟨RX3, "getRow", "(II)V"⟩
abbrev cX3_hasRow : ByteArray := prog_5_method_3_code
def yX3_hasRow : MethodName := ⟨RX3, "hasRow", "()Z"⟩
abbrev cX3_isOfAnotherLane : ByteArray := prog_5_method_4_code
def yX3_isOfAnotherLane : MethodName := ⟨RX3, "isOfAnotherLane", "(I)Z"⟩
abbrev cX3_hasCells : ByteArray := prog_5_method_5_code
def yX3_hasCells : MethodName := ⟨RX3, "hasCells", "(II)Z"⟩
abbrev cX3_cutToLane : ByteArray := prog_5_method_6_code
def yX3_cutToLane : MethodName := ⟨RX3, "cutToLane", "(I)I"⟩
def RX4 : String := "MornMarket$TextReader"
def TX4 : u_T := fun k => match k with
  | 0 => ("MornMarket$TextReader", "codes", "[I", true)
  | 1 => ("MornMarket$TextReader", "count", "I", false)
  | 2 => ("MornMarket$TextReader", "place", "I", false)
  | _ => ("MornMarket$TextReader", "latest", "I", false)
def tyX4 : Nat → FieldType := fun k => match k with
  | 0 => .array .int
  | 1 => .int
  | 2 => .int
  | _ => .int
theorem nmX4 : ∀ a, a < 4 → ∀ b, b < 4 → a ≠ b → (TX4 a).2.1 ≠ (TX4 b).2.1 := by decide +kernel
theorem tyX4_ok : ∀ k, k < 4 → parseFieldDescriptor (TX4 k).2.2.1 = some (tyX4 k) := by decide +kernel
abbrev cX4_init : ByteArray := prog_6_method_1_code
def yX4_init : MethodName := ⟨RX4, "<init>", "()V"⟩
abbrev cX4_firstFaultOf : ByteArray := prog_6_method_2_code
def yX4_firstFaultOf : MethodName := ⟨RX4, "firstFaultOf", "(LMornMarket$Sheet;IILMornMarket$Market;)I"⟩
abbrev cX4_takes : ByteArray := prog_6_method_3_code
def yX4_takes : MethodName := ⟨RX4, "takes", "(II)Z"⟩
abbrev cX4_takesPerson : ByteArray := prog_6_method_4_code
def yX4_takesPerson : MethodName := ⟨RX4, "takesPerson", "(LMornMarket$Market;I)Z"⟩
abbrev cX4_takesMorning : ByteArray := prog_6_method_5_code
def yX4_takesMorning : MethodName := ⟨RX4, "takesMorning", "(LMornMarket$Market;I)Z"⟩
def RX5 : String := "MornMarket"
def TX5 : u_T := fun k => match k with
  | 0 => ("MornMarket", "sheets", "[LMornMarket$Sheet;", true)
  | 1 => ("MornMarket", "now", "LMornMarket$Market;", true)
  | 2 => ("MornMarket", "draft", "LMornMarket$Market;", true)
  | 3 => ("MornMarket", "reader", "LMornMarket$TextReader;", true)
  | 4 => ("MornMarket", "keeping", "LMornMarket$Keeping;", true)
  | 5 => ("MornMarket", "readings", "LMornMarket$Readings;", true)
  | 6 => ("MornMarket", "traceSoFar", "I", false)
  | _ => ("MornMarket", "latestFault", "I", false)
def tyX5 : Nat → FieldType := fun k => match k with
  | 0 => .array (.object "MornMarket$Sheet")
  | 1 => .object "MornMarket$Market"
  | 2 => .object "MornMarket$Market"
  | 3 => .object "MornMarket$TextReader"
  | 4 => .object "MornMarket$Keeping"
  | 5 => .object "MornMarket$Readings"
  | 6 => .int
  | _ => .int
theorem nmX5 : ∀ a, a < 8 → ∀ b, b < 8 → a ≠ b → (TX5 a).2.1 ≠ (TX5 b).2.1 := by decide +kernel
theorem tyX5_ok : ∀ k, k < 8 → parseFieldDescriptor (TX5 k).2.2.1 = some (tyX5 k) := by decide +kernel
abbrev cX5_init : ByteArray := prog_1_method_1_code
def yX5_init : MethodName := ⟨RX5, "<init>", "()V"⟩
abbrev cX5_market : ByteArray := prog_1_method_2_code
def yX5_market : MethodName := ⟨RX5, "market", "(IIII)I"⟩
abbrev cX5_ofMorning : ByteArray := prog_1_method_3_code
def yX5_ofMorning : MethodName := ⟨RX5, "ofMorning", "(II)I"⟩
abbrev cX5_ofPerson : ByteArray := prog_1_method_4_code
def yX5_ofPerson : MethodName := ⟨RX5, "ofPerson", "(II)I"⟩
abbrev cX5_fill : ByteArray := prog_1_method_5_code
def yX5_fill : MethodName := ⟨RX5, "fill", "(II)I"⟩
abbrev cX5_rate : ByteArray := prog_1_method_6_code
def yX5_rate : MethodName := ⟨RX5, "rate", "(I)I"⟩
abbrev cX5_fresh : ByteArray := prog_1_method_7_code
def yX5_fresh : MethodName := ⟨RX5, "fresh", "(II)I"⟩
abbrev cX5_price : ByteArray := prog_1_method_8_code
def yX5_price : MethodName := ⟨RX5, "price", "(I)I"⟩
abbrev cX5_sell : ByteArray := prog_1_method_9_code
def yX5_sell : MethodName := ⟨RX5, "sell", "(II)I"⟩
abbrev cX5_open : ByteArray := prog_1_method_10_code
def yX5_open : MethodName := ⟨RX5, "open", "(I)I"⟩
abbrev cX5_sleep : ByteArray := prog_1_method_11_code
def yX5_sleep : MethodName := ⟨RX5, "sleep", "(I)I"⟩
abbrev cX5_year : ByteArray := prog_1_method_12_code
def yX5_year : MethodName := ⟨RX5, "year", "(IIIII)I"⟩
abbrev cX5_feast : ByteArray := prog_1_method_13_code
def yX5_feast : MethodName := ⟨RX5, "feast", "(I)I"⟩
abbrev cX5_keep : ByteArray := prog_1_method_14_code
def yX5_keep : MethodName := ⟨RX5, "keep", "(III)I"⟩
abbrev cX5_buy : ByteArray := prog_1_method_15_code
def yX5_buy : MethodName := ⟨RX5, "buy", "(III)I"⟩
abbrev cX5_debt : ByteArray := prog_1_method_16_code
def yX5_debt : MethodName := ⟨RX5, "debt", "(III)I"⟩
abbrev cX5_swap : ByteArray := prog_1_method_17_code
def yX5_swap : MethodName := ⟨RX5, "swap", "(I)I"⟩
abbrev cX5_reading : ByteArray := prog_1_method_18_code
def yX5_reading : MethodName := ⟨RX5, "reading", "(III)I"⟩
abbrev cX5_back : ByteArray := prog_1_method_19_code
def yX5_back : MethodName := ⟨RX5, "back", "(I)I"⟩
abbrev cX5_dews : ByteArray := prog_1_method_20_code
def yX5_dews : MethodName := ⟨RX5, "dews", "(I)I"⟩
abbrev cX5_kinds : ByteArray := prog_1_method_21_code
def yX5_kinds : MethodName := ⟨RX5, "kinds", "(I)I"⟩
abbrev cX5_takens : ByteArray := prog_1_method_22_code
def yX5_takens : MethodName := ⟨RX5, "takens", "(I)I"⟩
abbrev cX5_odds : ByteArray := prog_1_method_23_code
def yX5_odds : MethodName := ⟨RX5, "odds", "(III)J"⟩
abbrev cX5_sheet : ByteArray := prog_1_method_24_code
def yX5_sheet : MethodName := ⟨RX5, "sheet", "(III)I"⟩
abbrev cX5_lose : ByteArray := prog_1_method_25_code
def yX5_lose : MethodName := ⟨RX5, "lose", "(I)I"⟩
abbrev cX5_put : ByteArray := prog_1_method_26_code
def yX5_put : MethodName := ⟨RX5, "put", "(III)I"⟩
abbrev cX5_cell : ByteArray := prog_1_method_27_code
def yX5_cell : MethodName := ⟨RX5, "cell", "(III)J"⟩
abbrev cX5_copy : ByteArray := prog_1_method_28_code
def yX5_copy : MethodName := ⟨RX5, "copy", "(IIIII)I"⟩
abbrev cX5_tell : ByteArray := prog_1_method_29_code
def yX5_tell : MethodName := ⟨RX5, "tell", "(I)I"⟩
abbrev cX5_crow : ByteArray := prog_1_method_30_code
def yX5_crow : MethodName := ⟨RX5, "crow", "(I)I"⟩
abbrev cX5_as : ByteArray := prog_1_method_31_code
def yX5_as : MethodName := ⟨RX5, "as", "(II)I"⟩
abbrev cX5_trace : ByteArray := prog_1_method_32_code
def yX5_trace : MethodName := ⟨RX5, "trace", "()I"⟩
abbrev cX5_fault : ByteArray := prog_1_method_33_code
def yX5_fault : MethodName := ⟨RX5, "fault", "()I"⟩
abbrev cX5_many : ByteArray := prog_1_method_34_code
def yX5_many : MethodName := ⟨RX5, "many", "(I)I"⟩
abbrev cX5_sheetAt : ByteArray := prog_1_method_35_code
def yX5_sheetAt : MethodName := ⟨RX5, "sheetAt", "(I)LMornMarket$Sheet;"⟩
abbrev cX5_faulted : ByteArray := prog_1_method_36_code
def yX5_faulted : MethodName := ⟨RX5, "faulted", "(I)I"⟩
abbrev cX5_lostBy : ByteArray := prog_1_method_37_code
def yX5_lostBy : MethodName := ⟨RX5, "lostBy", "(I)J"⟩
abbrev cX5_isLane : ByteArray := prog_1_method_38_code
def yX5_isLane : MethodName := ⟨RX5, "isLane", "(I)Z"⟩
abbrev cX5_isIn : ByteArray := prog_1_method_39_code
def yX5_isIn : MethodName := ⟨RX5, "isIn", "(II)Z"⟩
abbrev cX5_isWithin : ByteArray := prog_1_method_40_code
def yX5_isWithin : MethodName := ⟨RX5, "isWithin", "(II)Z"⟩
abbrev cX5_freshBy : ByteArray := prog_1_method_41_code
def yX5_freshBy : MethodName := ⟨RX5, "freshBy", "(IIII)I"⟩
abbrev cX5_canBeAskedOfYear : ByteArray := prog_1_method_42_code
def yX5_canBeAskedOfYear : MethodName := ⟨RX5, "canBeAskedOfYear", "(I)Z"⟩
abbrev cX5_refusalOfPairs : ByteArray := prog_1_method_43_code
def yX5_refusalOfPairs : MethodName := ⟨RX5, "refusalOfPairs", "(LMornMarket$Sheet;II)I"⟩
abbrev cX5_firstWrongIn : ByteArray := prog_1_method_44_code
def yX5_firstWrongIn : MethodName := ⟨RX5, "firstWrongIn", "(LMornMarket$Sheet;II)I"⟩
abbrev cX5_behindYear : ByteArray := prog_1_method_45_code
def yX5_behindYear : MethodName := ⟨RX5, "behindYear", "(I)I"⟩
abbrev cX5_setToBuy : ByteArray := prog_1_method_46_code
def yX5_setToBuy : MethodName := ⟨RX5, "setToBuy", "(II)I"⟩
abbrev cX5_setToSell : ByteArray := prog_1_method_47_code
def yX5_setToSell : MethodName := ⟨RX5, "setToSell", "(II)I"⟩
abbrev cX5_gainOfExchange : ByteArray := prog_1_method_48_code
def yX5_gainOfExchange : MethodName := ⟨RX5, "gainOfExchange", "(II)I"⟩
abbrev cX5_begins : ByteArray := prog_1_method_49_code
def yX5_begins : MethodName := ⟨RX5, "begins", "(I)V"⟩
abbrev cX5_toldByClear : ByteArray := prog_1_method_50_code
def yX5_toldByClear : MethodName := ⟨RX5, "toldByClear", "(I)I"⟩
abbrev cX5_toldByFrost : ByteArray := prog_1_method_51_code
def yX5_toldByFrost : MethodName := ⟨RX5, "toldByFrost", "(I)I"⟩
abbrev cX5_toldByPainted : ByteArray := prog_1_method_52_code
def yX5_toldByPainted : MethodName := ⟨RX5, "toldByPainted", "(I)I"⟩
abbrev cX5_crowedByLent : ByteArray := prog_1_method_53_code
def yX5_crowedByLent : MethodName := ⟨RX5, "crowedByLent", "(I)I"⟩
abbrev cX5_crowedByPainted : ByteArray := prog_1_method_54_code
def yX5_crowedByPainted : MethodName := ⟨RX5, "crowedByPainted", "()I"⟩
def RX6 : String := "MornMarketModel"
def TX6 : u_T := fun k => match k with
  | 0 => ("MornMarketModel", "fault", "I", false)
  | 1 => ("MornMarketModel", "trace", "I", false)
  | 2 => ("MornMarketModel", "sorts", "[I", true)
  | 3 => ("MornMarketModel", "sheetLong", "[I", true)
  | 4 => ("MornMarketModel", "cells", "[I", true)
  | 5 => ("MornMarketModel", "people", "I", false)
  | 6 => ("MornMarketModel", "mornings", "I", false)
  | 7 => ("MornMarketModel", "rateNow", "I", false)
  | 8 => ("MornMarketModel", "today", "I", false)
  | 9 => ("MornMarketModel", "purse", "[I", true)
  | 10 => ("MornMarketModel", "joyOf", "[I", true)
  | 11 => ("MornMarketModel", "hasOpened", "[Z", true)
  | 12 => ("MornMarketModel", "kind", "[I", true)
  | 13 => ("MornMarketModel", "owner", "[I", true)
  | 14 => ("MornMarketModel", "taken", "[I", true)
  | 15 => ("MornMarketModel", "dew", "[I", true)
  | 16 => ("MornMarketModel", "opened", "[Z", true)
  | 17 => ("MornMarketModel", "at", "I", false)
  | 18 => ("MornMarketModel", "readRate", "I", false)
  | 19 => ("MornMarketModel", "readPeople", "I", false)
  | 20 => ("MornMarketModel", "readMornings", "I", false)
  | 21 => ("MornMarketModel", "readPurse", "[I", true)
  | 22 => ("MornMarketModel", "read", "[I", true)
  | 23 => ("MornMarketModel", "keptToday", "I", false)
  | 24 => ("MornMarketModel", "keptPurse", "[I", true)
  | 25 => ("MornMarketModel", "keptJoy", "[I", true)
  | 26 => ("MornMarketModel", "keptHas", "[Z", true)
  | 27 => ("MornMarketModel", "keptOwner", "[I", true)
  | 28 => ("MornMarketModel", "keptOpened", "[Z", true)
  | 29 => ("MornMarketModel", "row", "[I", true)
  | 30 => ("MornMarketModel", "found", "[I", true)
  | 31 => ("MornMarketModel", "foundLess", "I", false)
  | 32 => ("MornMarketModel", "foundMore", "I", false)
  | 33 => ("MornMarketModel", "readings", "I", false)
  | 34 => ("MornMarketModel", "readWhich", "[I", true)
  | 35 => ("MornMarketModel", "readWhen", "[I", true)
  | _ => ("MornMarketModel", "readFresh", "[I", true)
def tyX6 : Nat → FieldType := fun k => match k with
  | 0 => .int
  | 1 => .int
  | 2 => .array .int
  | 3 => .array .int
  | 4 => .array .int
  | 5 => .int
  | 6 => .int
  | 7 => .int
  | 8 => .int
  | 9 => .array .int
  | 10 => .array .int
  | 11 => .array .boolean
  | 12 => .array .int
  | 13 => .array .int
  | 14 => .array .int
  | 15 => .array .int
  | 16 => .array .boolean
  | 17 => .int
  | 18 => .int
  | 19 => .int
  | 20 => .int
  | 21 => .array .int
  | 22 => .array .int
  | 23 => .int
  | 24 => .array .int
  | 25 => .array .int
  | 26 => .array .boolean
  | 27 => .array .int
  | 28 => .array .boolean
  | 29 => .array .int
  | 30 => .array .int
  | 31 => .int
  | 32 => .int
  | 33 => .int
  | 34 => .array .int
  | 35 => .array .int
  | _ => .array .int
theorem nmX6 : ∀ a, a < 37 → ∀ b, b < 37 → a ≠ b → (TX6 a).2.1 ≠ (TX6 b).2.1 := by decide +kernel
theorem tyX6_ok : ∀ k, k < 37 → parseFieldDescriptor (TX6 k).2.2.1 = some (tyX6 k) := by decide +kernel
abbrev cX6_init : ByteArray := prog_8_method_1_code
def yX6_init : MethodName := ⟨RX6, "<init>", "()V"⟩
abbrev cX6_fails : ByteArray := prog_8_method_3_code
def yX6_fails : MethodName := ⟨RX6, "fails", "(I)I"⟩
abbrev cX6_lost : ByteArray := prog_8_method_4_code
def yX6_lost : MethodName := ⟨RX6, "lost", "(I)J"⟩
abbrev cX6_within : ByteArray := prog_8_method_5_code
def yX6_within : MethodName := ⟨RX6, "within", "(III)Z"⟩
abbrev cX6_isSheet : ByteArray := prog_8_method_6_code
def yX6_isSheet : MethodName := ⟨RX6, "isSheet", "(I)Z"⟩
abbrev cX6_isSort : ByteArray := prog_8_method_7_code
def yX6_isSort : MethodName := ⟨RX6, "isSort", "(I)Z"⟩
abbrev cX6_against : ByteArray := prog_8_method_8_code
def yX6_against : MethodName := ⟨RX6, "against", "(IIII)I"⟩
abbrev cX6_isPerson : ByteArray := prog_8_method_9_code
def yX6_isPerson : MethodName := ⟨RX6, "isPerson", "(I)Z"⟩
abbrev cX6_isMorning : ByteArray := prog_8_method_10_code
def yX6_isMorning : MethodName := ⟨RX6, "isMorning", "(I)Z"⟩
abbrev cX6_digit : ByteArray := prog_8_method_11_code
def yX6_digit : MethodName := ⟨RX6, "digit", "(III)I"⟩
abbrev cX6_isSign : ByteArray := prog_8_method_12_code
def yX6_isSign : MethodName := ⟨RX6, "isSign", "(II)Z"⟩
abbrev cX6_market : ByteArray := prog_8_method_13_code
def yX6_market : MethodName := ⟨RX6, "market", "(IIII)I"⟩
abbrev cX6_takeMarket : ByteArray := prog_8_method_14_code
def yX6_takeMarket : MethodName := ⟨RX6, "takeMarket", "()V"⟩
abbrev cX6_readMarket : ByteArray := prog_8_method_15_code
def yX6_readMarket : MethodName := ⟨RX6, "readMarket", "(I)Z"⟩
abbrev cX6_readPerson : ByteArray := prog_8_method_16_code
def yX6_readPerson : MethodName := ⟨RX6, "readPerson", "(I)Z"⟩
abbrev cX6_readMorning : ByteArray := prog_8_method_17_code
def yX6_readMorning : MethodName := ⟨RX6, "readMorning", "(I)Z"⟩
abbrev cX6_freshOn : ByteArray := prog_8_method_18_code
def yX6_freshOn : MethodName := ⟨RX6, "freshOn", "(II)I"⟩
abbrev cX6_priceOf : ByteArray := prog_8_method_19_code
def yX6_priceOf : MethodName := ⟨RX6, "priceOf", "(I)I"⟩
abbrev cX6_ofMorning : ByteArray := prog_8_method_20_code
def yX6_ofMorning : MethodName := ⟨RX6, "ofMorning", "(II)I"⟩
abbrev cX6_ownOf : ByteArray := prog_8_method_21_code
def yX6_ownOf : MethodName := ⟨RX6, "ownOf", "(I)I"⟩
abbrev cX6_size : ByteArray := prog_8_method_22_code
def yX6_size : MethodName := ⟨RX6, "size", "(I)I"⟩
abbrev cX6_ofPerson : ByteArray := prog_8_method_23_code
def yX6_ofPerson : MethodName := ⟨RX6, "ofPerson", "(II)I"⟩
abbrev cX6_fill : ByteArray := prog_8_method_24_code
def yX6_fill : MethodName := ⟨RX6, "fill", "(II)I"⟩
abbrev cX6_rate : ByteArray := prog_8_method_25_code
def yX6_rate : MethodName := ⟨RX6, "rate", "(I)I"⟩
abbrev cX6_fresh : ByteArray := prog_8_method_26_code
def yX6_fresh : MethodName := ⟨RX6, "fresh", "(II)I"⟩
abbrev cX6_price : ByteArray := prog_8_method_27_code
def yX6_price : MethodName := ⟨RX6, "price", "(I)I"⟩
abbrev cX6_maySell : ByteArray := prog_8_method_28_code
def yX6_maySell : MethodName := ⟨RX6, "maySell", "(II)Z"⟩
abbrev cX6_doSell : ByteArray := prog_8_method_29_code
def yX6_doSell : MethodName := ⟨RX6, "doSell", "(II)V"⟩
abbrev cX6_doOpen : ByteArray := prog_8_method_30_code
def yX6_doOpen : MethodName := ⟨RX6, "doOpen", "(I)I"⟩
abbrev cX6_doSleep : ByteArray := prog_8_method_31_code
def yX6_doSleep : MethodName := ⟨RX6, "doSleep", "(I)V"⟩
abbrev cX6_sell : ByteArray := prog_8_method_32_code
def yX6_sell : MethodName := ⟨RX6, "sell", "(II)I"⟩
abbrev cX6_open : ByteArray := prog_8_method_33_code
def yX6_open : MethodName := ⟨RX6, "open", "(I)I"⟩
abbrev cX6_sleep : ByteArray := prog_8_method_34_code
def yX6_sleep : MethodName := ⟨RX6, "sleep", "(I)I"⟩
abbrev cX6_keepAll : ByteArray := prog_8_method_35_code
def yX6_keepAll : MethodName := ⟨RX6, "keepAll", "()V"⟩
abbrev cX6_putBack : ByteArray := prog_8_method_36_code
def yX6_putBack : MethodName := ⟨RX6, "putBack", "()V"⟩
abbrev cX6_goes : ByteArray := prog_8_method_37_code
def yX6_goes : MethodName := ⟨RX6, "goes", "(II)Z"⟩
abbrev cX6_year : ByteArray := prog_8_method_38_code
def yX6_year : MethodName := ⟨RX6, "year", "(IIIII)I"⟩
abbrev cX6_refusesPair : ByteArray := prog_8_method_39_code
def yX6_refusesPair : MethodName := ⟨RX6, "refusesPair", "(II)I"⟩
abbrev cX6_tellYear : ByteArray := prog_8_method_40_code
def yX6_tellYear : MethodName := ⟨RX6, "tellYear", "(I)I"⟩
abbrev cX6_joyBy : ByteArray := prog_8_method_41_code
def yX6_joyBy : MethodName := ⟨RX6, "joyBy", "(IIZ)I"⟩
abbrev cX6_feastBy : ByteArray := prog_8_method_42_code
def yX6_feastBy : MethodName := ⟨RX6, "feastBy", "(II)I"⟩
abbrev cX6_feast : ByteArray := prog_8_method_43_code
def yX6_feast : MethodName := ⟨RX6, "feast", "(I)I"⟩
abbrev cX6_joyOfRow : ByteArray := prog_8_method_44_code
def yX6_joyOfRow : MethodName := ⟨RX6, "joyOfRow", "(III)I"⟩
abbrev cX6_findKeep : ByteArray := prog_8_method_45_code
def yX6_findKeep : MethodName := ⟨RX6, "findKeep", "(II)I"⟩
abbrev cX6_keep : ByteArray := prog_8_method_46_code
def yX6_keep : MethodName := ⟨RX6, "keep", "(III)I"⟩
abbrev cX6_pricesOf : ByteArray := prog_8_method_47_code
def yX6_pricesOf : MethodName := ⟨RX6, "pricesOf", "(I)I"⟩
abbrev cX6_buy : ByteArray := prog_8_method_48_code
def yX6_buy : MethodName := ⟨RX6, "buy", "(III)I"⟩
abbrev cX6_isCheaper : ByteArray := prog_8_method_49_code
def yX6_isCheaper : MethodName := ⟨RX6, "isCheaper", "(II)Z"⟩
abbrev cX6_debt : ByteArray := prog_8_method_50_code
def yX6_debt : MethodName := ⟨RX6, "debt", "(III)I"⟩
abbrev cX6_findSwap : ByteArray := prog_8_method_51_code
def yX6_findSwap : MethodName := ⟨RX6, "findSwap", "()I"⟩
abbrev cX6_gainBy : ByteArray := prog_8_method_52_code
def yX6_gainBy : MethodName := ⟨RX6, "gainBy", "(II)I"⟩
abbrev cX6_swap : ByteArray := prog_8_method_53_code
def yX6_swap : MethodName := ⟨RX6, "swap", "(I)I"⟩
abbrev cX6_reading : ByteArray := prog_8_method_54_code
def yX6_reading : MethodName := ⟨RX6, "reading", "(III)I"⟩
abbrev cX6_back : ByteArray := prog_8_method_55_code
def yX6_back : MethodName := ⟨RX6, "back", "(I)I"⟩
abbrev cX6_areSo : ByteArray := prog_8_method_56_code
def yX6_areSo : MethodName := ⟨RX6, "areSo", "()Z"⟩
abbrev cX6_dews : ByteArray := prog_8_method_57_code
def yX6_dews : MethodName := ⟨RX6, "dews", "(I)I"⟩
abbrev cX6_kinds : ByteArray := prog_8_method_58_code
def yX6_kinds : MethodName := ⟨RX6, "kinds", "(I)I"⟩
abbrev cX6_takens : ByteArray := prog_8_method_59_code
def yX6_takens : MethodName := ⟨RX6, "takens", "(I)I"⟩
abbrev cX6_inLeastTerms : ByteArray := prog_8_method_60_code
def yX6_inLeastTerms : MethodName := ⟨RX6, "inLeastTerms", "(JJI)J"⟩
abbrev cX6_odds : ByteArray := prog_8_method_61_code
def yX6_odds : MethodName := ⟨RX6, "odds", "(III)J"⟩
abbrev cX6_sheet : ByteArray := prog_8_method_62_code
def yX6_sheet : MethodName := ⟨RX6, "sheet", "(III)I"⟩
abbrev cX6_lose : ByteArray := prog_8_method_63_code
def yX6_lose : MethodName := ⟨RX6, "lose", "(I)I"⟩
abbrev cX6_put : ByteArray := prog_8_method_64_code
def yX6_put : MethodName := ⟨RX6, "put", "(III)I"⟩
abbrev cX6_cell : ByteArray := prog_8_method_65_code
def yX6_cell : MethodName := ⟨RX6, "cell", "(III)J"⟩
abbrev cX6_copy : ByteArray := prog_8_method_66_code
def yX6_copy : MethodName := ⟨RX6, "copy", "(IIIII)I"⟩
abbrev cX6_begins : ByteArray := prog_8_method_67_code
def yX6_begins : MethodName := ⟨RX6, "begins", "(I)V"⟩
abbrev cX6_tell : ByteArray := prog_8_method_68_code
def yX6_tell : MethodName := ⟨RX6, "tell", "(I)I"⟩
abbrev cX6_crow : ByteArray := prog_8_method_69_code
def yX6_crow : MethodName := ⟨RX6, "crow", "(I)I"⟩
abbrev cX6_as : ByteArray := prog_8_method_70_code
def yX6_as : MethodName := ⟨RX6, "as", "(II)I"⟩
abbrev cX6_trace : ByteArray := prog_8_method_71_code
def yX6_trace : MethodName := ⟨RX6, "trace", "()I"⟩
abbrev cX6_fault : ByteArray := prog_8_method_72_code
def yX6_fault : MethodName := ⟨RX6, "fault", "()I"⟩
abbrev cX6_many : ByteArray := prog_8_method_73_code
def yX6_many : MethodName := ⟨RX6, "many", "(I)I"⟩
def RJ6 : String := "java/lang/Integer"
def TJ6 : u_T := fun k => match k with
  | _ => ("", "", "", false)
def tyJ6 : Nat → FieldType := fun k => match k with
  | _ => .int
theorem nmJ6 : ∀ a, a < 0 → ∀ b, b < 0 → a ≠ b → (TJ6 a).2.1 ≠ (TJ6 b).2.1 := by decide +kernel
theorem tyJ6_ok : ∀ k, k < 0 → parseFieldDescriptor (TJ6 k).2.2.1 = some (tyJ6 k) := by decide +kernel
abbrev cJ6_bitCount_0f7a4 : ByteArray := prog_9_method_49_code
def yJ6_bitCount_0f7a4 : MethodName := ⟨RJ6, "bitCount", "(I)I"⟩
def RJ10 : String := "java/lang/System"
def TJ10 : u_T := fun k => match k with
  | _ => ("", "", "", false)
def tyJ10 : Nat → FieldType := fun k => match k with
  | _ => .int
theorem nmJ10 : ∀ a, a < 0 → ∀ b, b < 0 → a ≠ b → (TJ10 a).2.1 ≠ (TJ10 b).2.1 := by decide +kernel
theorem tyJ10_ok : ∀ k, k < 0 → parseFieldDescriptor (TJ10 k).2.2.1 = some (tyJ10 k) := by decide +kernel
def RJ7 : String := "java/util/Arrays"
def TJ7 : u_T := fun k => match k with
  | _ => ("", "", "", false)
def tyJ7 : Nat → FieldType := fun k => match k with
  | _ => .int
theorem nmJ7 : ∀ a, a < 0 → ∀ b, b < 0 → a ≠ b → (TJ7 a).2.1 ≠ (TJ7 b).2.1 := by decide +kernel
theorem tyJ7_ok : ∀ k, k < 0 → parseFieldDescriptor (TJ7 k).2.2.1 = some (tyJ7 k) := by decide +kernel
abbrev cJ7_fill_53178 : ByteArray := prog_11_method_103_code
def yJ7_fill_53178 : MethodName := ⟨RJ7, "fill", "([II)V"⟩
def RL : String := "MornMarketLaw"
abbrev cL_law : ByteArray := code
def yL_law : MethodName := ⟨RL, "law", "([I)Z"⟩
abbrev vwCl : List vw_C := [(RX0, TX0, 3), (RX1, TX1, 12), (RX2, TX2, 4), (RX3, TX3, 3), (RX4, TX4, 4), (RX5, TX5, 8), (RX6, TX6, 37)]
end
section
/-! the words of every method: those of the tables that are kept; where each stands -/
def bigW : List Cond := lw_tbl.filter goodWord
theorem bigW_tbl : ∀ w ∈ bigW, w ∈ lw_tbl := fun _ h => (List.mem_filter.mp h).1
theorem bigW_in {ws : List Cond} (h : ∀ w ∈ ws, w ∈ bigW) : GoodIn bigW ws := fun w hw => ⟨h w hw, good_of_word (List.mem_filter.mp (h w hw)).2⟩
theorem bw {w : Cond} (i : Nat) (h : lw_tbl[i]? = some w) (g : goodWord w = true) : w ∈ bigW := List.mem_filter.mpr ⟨List.mem_of_getElem? h, g⟩
theorem wI_MornMarketLaw : Cond.initialized RL ∈ bigW := bw 48 (by decide +kernel) (by decide +kernel)
theorem wI_MornMarket : Cond.initialized RX5 ∈ bigW := bw 49 (by decide +kernel) (by decide +kernel)
theorem wI_MornMarket_Market : Cond.initialized RX1 ∈ bigW := bw 50 (by decide +kernel) (by decide +kernel)
theorem wI_MornMarket_TextReader : Cond.initialized RX4 ∈ bigW := bw 51 (by decide +kernel) (by decide +kernel)
theorem wI_MornMarket_Keeping : Cond.initialized RX0 ∈ bigW := bw 52 (by decide +kernel) (by decide +kernel)
theorem wI_MornMarket_Readings : Cond.initialized RX2 ∈ bigW := bw 53 (by decide +kernel) (by decide +kernel)
theorem wI_MornMarket_Sheet : Cond.initialized RX3 ∈ bigW := bw 54 (by decide +kernel) (by decide +kernel)
theorem wI_MornMarketModel : Cond.initialized RX6 ∈ bigW := bw 55 (by decide +kernel) (by decide +kernel)
theorem wI_java_lang_System : Cond.initialized RJ10 ∈ bigW := bw 56 (by decide +kernel) (by decide +kernel)
theorem wI_java_util_Arrays : Cond.initialized RJ7 ∈ bigW := bw 57 (by decide +kernel) (by decide +kernel)
theorem wI_java_lang_Integer : Cond.initialized RJ6 ∈ bigW := bw 58 (by decide +kernel) (by decide +kernel)
theorem wC_J6_265 : Cond.constant RJ6 265 (1431655765) ∈ bigW := bw 327 (by decide +kernel) (by decide +kernel)
theorem wC_J6_266 : Cond.constant RJ6 266 (858993459) ∈ bigW := bw 328 (by decide +kernel) (by decide +kernel)
theorem wC_J6_267 : Cond.constant RJ6 267 (252645135) ∈ bigW := bw 329 (by decide +kernel) (by decide +kernel)
theorem wC_X5_209 : Cond.constantLong RX5 209 (-9223372036854775808) ∈ bigW := bw 539 (by decide +kernel) (by decide +kernel)
theorem wC_X6_84 : Cond.constantLong RX6 84 (-9223372036854775808) ∈ bigW := bw 965 (by decide +kernel) (by decide +kernel)
/-! the fields of a class -/
theorem inX0 : ∀ w ∈ u_ws RX0 TX0 3, w ∈ bigW := by
  intro w hw
  have e : u_ws RX0 TX0 3 = ([162, 164, 166] : List Nat).filterMap (fun i => lw_tbl[i]?) := by decide +kernel
  have g : (u_ws RX0 TX0 3).all goodWord = true := by decide +kernel
  refine List.mem_filter.mpr ⟨?_, List.all_eq_true.mp g w hw⟩
  rw [e] at hw
  obtain ⟨i, -, hi⟩ := List.mem_filterMap.mp hw
  exact List.mem_of_getElem? hi
theorem inX1 : ∀ w ∈ u_ws RX1 TX1 12, w ∈ bigW := by
  intro w hw
  have e : u_ws RX1 TX1 12 = ([107, 109, 111, 113, 115, 117, 119, 121, 123, 125, 127, 129] : List Nat).filterMap (fun i => lw_tbl[i]?) := by decide +kernel
  have g : (u_ws RX1 TX1 12).all goodWord = true := by decide +kernel
  refine List.mem_filter.mpr ⟨?_, List.all_eq_true.mp g w hw⟩
  rw [e] at hw
  obtain ⟨i, -, hi⟩ := List.mem_filterMap.mp hw
  exact List.mem_of_getElem? hi
theorem inX2 : ∀ w ∈ u_ws RX2 TX2 4, w ∈ bigW := by
  intro w hw
  have e : u_ws RX2 TX2 4 = ([180, 182, 184, 186] : List Nat).filterMap (fun i => lw_tbl[i]?) := by decide +kernel
  have g : (u_ws RX2 TX2 4).all goodWord = true := by decide +kernel
  refine List.mem_filter.mpr ⟨?_, List.all_eq_true.mp g w hw⟩
  rw [e] at hw
  obtain ⟨i, -, hi⟩ := List.mem_filterMap.mp hw
  exact List.mem_of_getElem? hi
theorem inX3 : ∀ w ∈ u_ws RX3 TX3 3, w ∈ bigW := by
  intro w hw
  have e : u_ws RX3 TX3 3 = ([201, 203, 205] : List Nat).filterMap (fun i => lw_tbl[i]?) := by decide +kernel
  have g : (u_ws RX3 TX3 3).all goodWord = true := by decide +kernel
  refine List.mem_filter.mpr ⟨?_, List.all_eq_true.mp g w hw⟩
  rw [e] at hw
  obtain ⟨i, -, hi⟩ := List.mem_filterMap.mp hw
  exact List.mem_of_getElem? hi
theorem inX4 : ∀ w ∈ u_ws RX4 TX4 4, w ∈ bigW := by
  intro w hw
  have e : u_ws RX4 TX4 4 = ([143, 145, 147, 149] : List Nat).filterMap (fun i => lw_tbl[i]?) := by decide +kernel
  have g : (u_ws RX4 TX4 4).all goodWord = true := by decide +kernel
  refine List.mem_filter.mpr ⟨?_, List.all_eq_true.mp g w hw⟩
  rw [e] at hw
  obtain ⟨i, -, hi⟩ := List.mem_filterMap.mp hw
  exact List.mem_of_getElem? hi
theorem inX5 : ∀ w ∈ u_ws RX5 TX5 8, w ∈ bigW := by
  intro w hw
  have e : u_ws RX5 TX5 8 = ([216, 218, 220, 222, 224, 226, 228, 230] : List Nat).filterMap (fun i => lw_tbl[i]?) := by decide +kernel
  have g : (u_ws RX5 TX5 8).all goodWord = true := by decide +kernel
  refine List.mem_filter.mpr ⟨?_, List.all_eq_true.mp g w hw⟩
  rw [e] at hw
  obtain ⟨i, -, hi⟩ := List.mem_filterMap.mp hw
  exact List.mem_of_getElem? hi
theorem inX6 : ∀ w ∈ u_ws RX6 TX6 37, w ∈ bigW := by
  intro w hw
  have e : u_ws RX6 TX6 37 = ([665, 667, 669, 671, 673, 675, 677, 679, 681, 683, 685, 687, 689, 691, 693, 695, 697, 699, 701, 703, 705, 707, 709, 711, 713, 715, 717, 719, 721, 723, 725, 727, 729, 731, 733, 735, 737] : List Nat).filterMap (fun i => lw_tbl[i]?) := by decide +kernel
  have g : (u_ws RX6 TX6 37).all goodWord = true := by decide +kernel
  refine List.mem_filter.mpr ⟨?_, List.all_eq_true.mp g w hw⟩
  rw [e] at hw
  obtain ⟨i, -, hi⟩ := List.mem_filterMap.mp hw
  exact List.mem_of_getElem? hi
end
section
/-! THE CORE: a judgement V that hides the machine (context X), with a row an instruction; contracts Ok. -/
/-- the links to a nest mate's own methods -/
def nstW : List (String × Nat × MethodName) := [(RX5, 19, yX1_init), (RX5, 29, yX4_init), (RX5, 36, yX0_init), (RX5, 43, yX2_init), (RX5, 55, yX3_init), (RX0, 32, yX5_isIn), (RX0, 48, yX5_isWithin), (RX1, 64, yX5_isIn), (RX1, 72, yX5_freshBy), (RX2, 25, yX5_freshBy)]
def Nst (U : State) : Prop := ∀ q ∈ nstW, va_Nw (.methodLinkNest q.1 q.2.1 q.2.2 RX5) U
theorem Nst.warm {s U : State} (hW : s.WarmedH U.vm) (h : Nst s) : Nst U := fun q hq => va_Nw.warmM hW (h q hq)
theorem Nst.call {U : State} {g : JFrame} {mk : MethodId} {a : Array Value} (h : Nst U) : Nst (U.calling g mk a) := fun q hq => va_Nw.same rfl rfl (h q hq)
/-- the classes of arrays -/
abbrev TY (t : ClassId × ClassId × ClassId) : List (ClassId × FieldType) := [(t.1, .int), (t.2.1, .boolean), (t.2.2, .object RX3)]
abbrev Tc : Type := ClassId × ClassId × ClassId
/-- the room at depth d -/
def rmD (d : Nat) : Room := { frames := d, cells := 0, slots := 0, locals := 35 * d }
/-- program, launch, env, room, state; method, args, below, meth, code; free, aim, return type; depth, cells, slots -/
abbrev Cx : Type := (Program × Launch × Env × Room × State) × (MethodId × Array Value × List Frame × Method × Code) × ((Nat → Prop) × (State → Prop) × Option FieldType) × (Nat × Nat × Nat)
def WW (X : Cx) (H : Heap) (locs : List Loc) (g : JFrame) : Prop := W X.1.1 X.1.2.1 X.1.2.2.1 X.1.2.2.2.1 X.1.2.2.2.2 X.2.1.1 X.2.1.2.1 X.2.1.2.2.1 X.2.1.2.2.2.1 X.2.1.2.2.2.2 H locs X.2.2.2.2.1 X.2.2.2.2.2 X.2.2.1.2.1 g
def Fx (X : Cx) (D : va_G) (tc : Tc) (cc : ByteArray) (own : String) (nL : Nat) : Prop := X.1.1.tables.exec = Jvm.exec ∧ X.2.1.2.2.2.2.code = cc ∧ X.2.1.2.2.2.2.maxLocals = nL ∧ X.1.2.2.2.2.vm.findClass own = some X.2.1.1.cls ∧ (∀ w ∈ bigW, w.before X.2.1.2.1 X.1.2.2.2.2 = true) ∧ va_K D vwCl (TY tc) X.1.2.2.2.2 ∧ Nst X.1.2.2.2.2 ∧ (∀ q : Nat, X.1.2.2.2.2.heap.size ≤ q → X.2.2.1.1 q) ∧ X.2.1.2.2.2.1.sig.returnType = X.2.2.1.2.2 ∧ X.2.1.2.2.2.1.locks = false ∧ (X.2.2.2.1 ≤ X.1.2.2.2.1.frames ∧ 35 * X.2.2.2.1 ≤ X.1.2.2.2.1.locals) ∧ X.2.2.2.2.1 ≤ X.1.2.2.2.1.cells ∧ X.2.2.2.2.2 ≤ X.1.2.2.2.1.slots
def lget : List (Option Value) → Nat → Option Value
  | [], _ => none
  | a :: _, 0 => a
  | _ :: t, n + 1 => lget t n
def lset : List (Option Value) → Nat → Value → List (Option Value)
  | [], _, _ => []
  | _ :: t, 0, v => some v :: t
  | a :: t, n + 1, v => a :: lset t n v
def lflat (L : List (Option Value)) : Bool := L.all fun o => match o with
  | some v => v.category == 1
  | none => true
def lvp : Nat → List (Option Value) → List (Nat × Value)
  | _, [] => []
  | k, some v :: t => (k, v) :: lvp (k + 1) t
  | k, none :: t => lvp (k + 1) t
theorem lvp_mem (L : List (Option Value)) : ∀ (k i : Nat) (v : Value), (k + i, v) ∈ lvp k L ↔ lget L i = some v := by
  induction L with
  | nil => intro k i v; simp [lvp, lget]
  | cons a t ih =>
    intro k i v
    have hlow : ∀ (k j : Nat) (w : Value), (j, w) ∈ lvp k t → k ≤ j := by
      clear ih
      induction t with
      | nil => intro k j w h; simp [lvp] at h
      | cons b t ih2 =>
        intro k j w h
        cases b with
        | none => have := ih2 (k + 1) j w (by simpa [lvp] using h); omega
        | some u =>
          simp only [lvp, List.mem_cons, Prod.mk.injEq] at h
          rcases h with h | h
          · omega
          · have := ih2 (k + 1) j w h; omega
    cases i with
    | zero =>
      cases a with
      | none =>
        simp only [lvp, lget, Nat.add_zero]
        constructor
        · intro h; have := hlow (k + 1) k v h; omega
        · intro h; cases h
      | some u =>
        simp only [lvp, lget, Nat.add_zero, List.mem_cons, Prod.mk.injEq, true_and, Option.some.injEq]
        constructor
        · rintro (h | h)
          · exact h.symm
          · have := hlow (k + 1) k v h; omega
        · intro h; exact Or.inl h.symm
    | succ i =>
      have e : k + (i + 1) = (k + 1) + i := by omega
      have ih' := ih (k + 1) i v
      rw [e]
      cases a with
      | none => simpa [lvp, lget] using ih'
      | some u =>
        simp only [lvp, lget, List.mem_cons, Prod.mk.injEq]
        constructor
        · rintro (h | h)
          · omega
          · exact ih'.mp h
        · intro h; exact Or.inr (ih'.mpr h)
def lvH (ls : Array Slot) (nL : Nat) (L : List (Option Value)) : Prop := ls.size = nL ∧ lv_wf ls ∧ ∀ (i : Nat) (v : Value), lget L i = some v → ls[i]? = some (.val v)
theorem lvH.has {ls : Array Slot} {nL : Nat} {L : List (Option Value)} (h : lvH ls nL L) : lv_has ls nL (lvp 0 L) := ⟨h.1, h.2.1, fun q hq => h.2.2 q.1 q.2 ((lvp_mem L 0 q.1 q.2).mp (by simpa using hq))⟩
theorem lvH.of {ls : Array Slot} {nL : Nat} {L : List (Option Value)} {l : List (Nat × Value)} (h : lv_has ls nL l) (e : lvp 0 L = l) : lvH ls nL L := ⟨h.1, h.2.1, fun i v hi => h.2.2 (i, v) (by rw [← e]; have := (lvp_mem L 0 i v).mpr hi; simpa using this)⟩
theorem lget_lset (L : List (Option Value)) : ∀ (i j : Nat) (v w : Value), lget (lset L i v) j = some w → (j = i ∧ w = v) ∨ (j ≠ i ∧ lget L j = some w) := by
  induction L with
  | nil => intro i j v w h; simp [lset, lget] at h
  | cons a t ih =>
    intro i j v w h
    cases i with
    | zero =>
      cases j with
      | zero => simp [lset, lget] at h; exact Or.inl ⟨rfl, h.symm⟩
      | succ j => simp [lset, lget] at h; exact Or.inr ⟨by omega, h⟩
    | succ i =>
      cases j with
      | zero => simp [lset, lget] at h; exact Or.inr ⟨by omega, h⟩
      | succ j =>
        simp [lset, lget] at h
        rcases ih i j v w h with q | q
        · exact Or.inl ⟨by omega, q.2⟩
        · exact Or.inr ⟨by omega, by simpa [lget] using q.2⟩
theorem lflat_get {L : List (Option Value)} (h : lflat L = true) : ∀ (i : Nat) (w : Value), lget L i = some w → w.category = 1 := by
  induction L with
  | nil => intro i w h; simp [lget] at h
  | cons a t ih =>
    intro i w hi
    simp only [lflat, List.all_cons, Bool.and_eq_true] at h
    cases i with
    | zero =>
      simp only [lget] at hi
      subst hi
      simpa using h.1
    | succ i => exact ih h.2 i w (by simpa [lget] using hi)
/-- a value of one slot is stored -/
theorem lvH.store {ls' : Array Slot} {nL i : Nat} {v : Value} {L : List (Option Value)} (hf : lflat L = true) (h : lv_has ls' nL ((i, v) :: (lvp 0 L).filter (fun q => !(q.1 == i) && !(q.1 + 1 == i && q.2.category == 2)))) : lvH ls' nL (lset L i v) := by
  refine ⟨h.1, h.2.1, fun j w hj => ?_⟩
  rcases lget_lset L i j v w hj with ⟨rfl, rfl⟩ | ⟨hne, hw⟩
  · exact h.2.2 _ List.mem_cons_self
  · refine h.2.2 (j, w) (List.mem_cons_of_mem _ (List.mem_filter.mpr ⟨by have := (lvp_mem L 0 j w).mpr hw; simpa using this, ?_⟩))
    have := lflat_get hf j w hw
    simp [hne, this]
/-- THE JUDGEMENT: from here, with these locals, this stack and these cells, the machine comes to its aim -/
def V (X : Cx) (D : va_G) (tc : Tc) (cc : ByteArray) (own : String) (nL pc : Nat) (L : List (Option Value)) (st : List Value) (ws : va_W) : Prop :=
  Fx X D tc cc own nL → ∀ (H : Heap) (locs : List Loc) (ls : Array Slot), va_P D vwCl ws H → va_D X.2.2.1.1 ws → va_S X.2.2.1.1 X.1.2.2.2.2.heap H locs → lvH ls nL L → WW X H locs (F0 X.2.1.1 pc ls st)
section VROWS
variable {X : Cx} {D : va_G} {tc : Tc} {cc : ByteArray} {own : String} {nL pc : Nat} {L : List (Option Value)} {st : List Value} {ws : va_W}
theorem V_w {ws2 : va_W} (h : ws2 = ws) (k : V X D tc cc own nL pc L st ws2) : V X D tc cc own nL pc L st ws := h ▸ k
theorem V_iconst {n : Int} (v : Int32) (hd : decode cc pc = .ok (.iconst n, 1)) (hv : Int32.ofInt n = v) (k : V X D tc cc own nL (pc + 1) L (.int v :: st) ws) : V X D tc cc own nL pc L (st) ws := by
  intro F H locs ls hP hD hS hl
  exact lv_iconst F.1 F.2.1 hd hv (k F H locs ls hP hD hS hl)
theorem V_bipush {n : Int} (v : Int32) (hd : decode cc pc = .ok (.bipush n, 2)) (hv : (Int8.ofInt n).toInt32 = v) (k : V X D tc cc own nL (pc + 2) L (.int v :: st) ws) : V X D tc cc own nL pc L (st) ws := by
  intro F H locs ls hP hD hS hl
  exact lv_bipush F.1 F.2.1 hd hv (k F H locs ls hP hD hS hl)
theorem V_sipush {n : Int} (v : Int32) (hd : decode cc pc = .ok (.sipush n, 3)) (hv : (Int16.ofInt n).toInt32 = v) (k : V X D tc cc own nL (pc + 3) L (.int v :: st) ws) : V X D tc cc own nL pc L (st) ws := by
  intro F H locs ls hP hD hS hl
  exact lv_sipush F.1 F.2.1 hd hv (k F H locs ls hP hD hS hl)
theorem V_lconst {n : Fin 2} (v : Int64) (hd : decode cc pc = .ok (.lconst n, 1)) (hv : Int64.ofNat (n : Nat) = v) (k : V X D tc cc own nL (pc + 1) L (.long v :: st) ws) : V X D tc cc own nL pc L (st) ws := by
  intro F H locs ls hP hD hS hl
  exact lv_lconst F.1 F.2.1 hd hv (k F H locs ls hP hD hS hl)
theorem V_null (hd : decode cc pc = .ok (.aconst_null, 1)) (k : V X D tc cc own nL (pc + 1) L (.null :: st) ws) : V X D tc cc own nL pc L (st) ws := by
  intro F H locs ls hP hD hS hl
  exact lv_null F.1 F.2.1 hd (k F H locs ls hP hD hS hl)
theorem V_iadd {x y : Int32} (hd : decode cc pc = .ok (.iadd, 1)) (k : V X D tc cc own nL (pc + 1) L (.int (x + y) :: st) ws) : V X D tc cc own nL pc L (.int y :: .int x :: st) ws := by
  intro F H locs ls hP hD hS hl
  exact lv_iadd F.1 F.2.1 hd (k F H locs ls hP hD hS hl)
theorem V_isub {x y : Int32} (hd : decode cc pc = .ok (.isub, 1)) (k : V X D tc cc own nL (pc + 1) L (.int (x - y) :: st) ws) : V X D tc cc own nL pc L (.int y :: .int x :: st) ws := by
  intro F H locs ls hP hD hS hl
  exact lv_isub F.1 F.2.1 hd (k F H locs ls hP hD hS hl)
theorem V_imul {x y : Int32} (hd : decode cc pc = .ok (.imul, 1)) (k : V X D tc cc own nL (pc + 1) L (.int (x * y) :: st) ws) : V X D tc cc own nL pc L (.int y :: .int x :: st) ws := by
  intro F H locs ls hP hD hS hl
  exact lv_imul F.1 F.2.1 hd (k F H locs ls hP hD hS hl)
theorem V_iand {x y : Int32} (hd : decode cc pc = .ok (.iand, 1)) (k : V X D tc cc own nL (pc + 1) L (.int (x &&& y) :: st) ws) : V X D tc cc own nL pc L (.int y :: .int x :: st) ws := by
  intro F H locs ls hP hD hS hl
  exact lv_iand F.1 F.2.1 hd (k F H locs ls hP hD hS hl)
theorem V_ior {x y : Int32} (hd : decode cc pc = .ok (.ior, 1)) (k : V X D tc cc own nL (pc + 1) L (.int (x ||| y) :: st) ws) : V X D tc cc own nL pc L (.int y :: .int x :: st) ws := by
  intro F H locs ls hP hD hS hl
  exact lv_ior F.1 F.2.1 hd (k F H locs ls hP hD hS hl)
theorem V_ixor {x y : Int32} (hd : decode cc pc = .ok (.ixor, 1)) (k : V X D tc cc own nL (pc + 1) L (.int (x ^^^ y) :: st) ws) : V X D tc cc own nL pc L (.int y :: .int x :: st) ws := by
  intro F H locs ls hP hD hS hl
  exact lv_ixor F.1 F.2.1 hd (k F H locs ls hP hD hS hl)
theorem V_ishl {x y : Int32} (hd : decode cc pc = .ok (.ishl, 1)) (k : V X D tc cc own nL (pc + 1) L (.int (x <<< (y &&& 31)) :: st) ws) : V X D tc cc own nL pc L (.int y :: .int x :: st) ws := by
  intro F H locs ls hP hD hS hl
  exact lv_ishl F.1 F.2.1 hd (k F H locs ls hP hD hS hl)
theorem V_ishr {x y : Int32} (hd : decode cc pc = .ok (.ishr, 1)) (k : V X D tc cc own nL (pc + 1) L (.int (x >>> (y &&& 31)) :: st) ws) : V X D tc cc own nL pc L (.int y :: .int x :: st) ws := by
  intro F H locs ls hP hD hS hl
  exact lv_ishr F.1 F.2.1 hd (k F H locs ls hP hD hS hl)
theorem V_idiv {x y : Int32} (hd : decode cc pc = .ok (.idiv, 1)) (hne : ¬ y = 0) (k : V X D tc cc own nL (pc + 1) L (.int (x / y) :: st) ws) : V X D tc cc own nL pc L (.int y :: .int x :: st) ws := by
  intro F H locs ls hP hD hS hl
  exact lv_idiv F.1 F.2.1 hd hne (k F H locs ls hP hD hS hl)
theorem V_irem {x y : Int32} (hd : decode cc pc = .ok (.irem, 1)) (hne : ¬ y = 0) (k : V X D tc cc own nL (pc + 1) L (.int (x - x / y * y) :: st) ws) : V X D tc cc own nL pc L (.int y :: .int x :: st) ws := by
  intro F H locs ls hP hD hS hl
  exact lv_irem F.1 F.2.1 hd hne (k F H locs ls hP hD hS hl)
theorem V_ldiv {x y : Int64} (hd : decode cc pc = .ok (.ldiv, 1)) (hne : ¬ y = 0) (k : V X D tc cc own nL (pc + 1) L (.long (x / y) :: st) ws) : V X D tc cc own nL pc L (.long y :: .long x :: st) ws := by
  intro F H locs ls hP hD hS hl
  exact lv_ldiv F.1 F.2.1 hd hne (k F H locs ls hP hD hS hl)
theorem V_lrem {x y : Int64} (hd : decode cc pc = .ok (.lrem, 1)) (hne : ¬ y = 0) (k : V X D tc cc own nL (pc + 1) L (.long (x - x / y * y) :: st) ws) : V X D tc cc own nL pc L (.long y :: .long x :: st) ws := by
  intro F H locs ls hP hD hS hl
  exact lv_lrem F.1 F.2.1 hd hne (k F H locs ls hP hD hS hl)
theorem V_iushr {x y : Int32} (hd : decode cc pc = .ok (.iushr, 1)) (k : V X D tc cc own nL (pc + 1) L (.int ((x.toUInt32 >>> (y.toUInt32 &&& Int32.toUInt32 31)).toInt32) :: st) ws) : V X D tc cc own nL pc L (.int y :: .int x :: st) ws := by
  intro F H locs ls hP hD hS hl
  exact lv_iushr F.1 F.2.1 hd rfl (k F H locs ls hP hD hS hl)
theorem V_i2l {x : Int32} (hd : decode cc pc = .ok (.i2l, 1)) (k : V X D tc cc own nL (pc + 1) L (.long x.toInt64 :: st) ws) : V X D tc cc own nL pc L (.int x :: st) ws := by
  intro F H locs ls hP hD hS hl
  exact lv_i2l F.1 F.2.1 hd rfl (k F H locs ls hP hD hS hl)
theorem V_i2b {x : Int32} (hd : decode cc pc = .ok (.i2b, 1)) (k : V X D tc cc own nL (pc + 1) L (.int x.toInt8.toInt32 :: st) ws) : V X D tc cc own nL pc L (.int x :: st) ws := by
  intro F H locs ls hP hD hS hl
  exact lv_i2b F.1 F.2.1 hd rfl (k F H locs ls hP hD hS hl)
theorem V_i2s {x : Int32} (hd : decode cc pc = .ok (.i2s, 1)) (k : V X D tc cc own nL (pc + 1) L (.int x.toInt16.toInt32 :: st) ws) : V X D tc cc own nL pc L (.int x :: st) ws := by
  intro F H locs ls hP hD hS hl
  exact lv_i2s F.1 F.2.1 hd rfl (k F H locs ls hP hD hS hl)
theorem V_dupi {x : Int32} (hd : decode cc pc = .ok (.dup, 1)) (k : V X D tc cc own nL (pc + 1) L (.int x :: .int x :: st) ws) : V X D tc cc own nL pc L (.int x :: st) ws := by
  intro F H locs ls hP hD hS hl
  exact lv_dup F.1 F.2.1 hd rfl (k F H locs ls hP hD hS hl)
theorem V_dupa {x : Nat} (hd : decode cc pc = .ok (.dup, 1)) (k : V X D tc cc own nL (pc + 1) L (.ref x :: .ref x :: st) ws) : V X D tc cc own nL pc L (.ref x :: st) ws := by
  intro F H locs ls hP hD hS hl
  exact lv_dup F.1 F.2.1 hd rfl (k F H locs ls hP hD hS hl)
theorem V_popi {x : Int32} (hd : decode cc pc = .ok (.pop, 1)) (k : V X D tc cc own nL (pc + 1) L (st) ws) : V X D tc cc own nL pc L (.int x :: st) ws := by
  intro F H locs ls hP hD hS hl
  exact lv_pop F.1 F.2.1 hd rfl (k F H locs ls hP hD hS hl)
theorem V_dup2 {x : Int32} {a : Nat} (hd : decode cc pc = .ok (.dup2, 1)) (k : V X D tc cc own nL (pc + 1) L (.int x :: .ref a :: .int x :: .ref a :: st) ws) : V X D tc cc own nL pc L (.int x :: .ref a :: st) ws := by
  intro F H locs ls hP hD hS hl
  exact lv_dup2_11 F.1 F.2.1 hd rfl rfl (k F H locs ls hP hD hS hl)
theorem V_iloadG {i : Nat} {x : Int32} (hd : decode cc pc = .ok (.iload i, 2)) (hg : lget L i = some (.int x)) (k : V X D tc cc own nL (pc + 2) L (.int x :: st) ws) : V X D tc cc own nL pc L st ws := by
  intro F H locs ls hP hD hS hl
  exact lv_iload F.1 F.2.1 hd (hl.2.2 _ _ hg) (k F H locs ls hP hD hS hl)
theorem V_iloadnG {i : Fin 4} {x : Int32} (hd : decode cc pc = .ok (.iload_n i, 1)) (hg : lget L i = some (.int x)) (k : V X D tc cc own nL (pc + 1) L (.int x :: st) ws) : V X D tc cc own nL pc L st ws := by
  intro F H locs ls hP hD hS hl
  exact lv_iload_n F.1 F.2.1 hd rfl (hl.2.2 _ _ hg) (k F H locs ls hP hD hS hl)
theorem V_aloadG {i : Nat} {x : Nat} (hd : decode cc pc = .ok (.aload i, 2)) (hg : lget L i = some (.ref x)) (k : V X D tc cc own nL (pc + 2) L (.ref x :: st) ws) : V X D tc cc own nL pc L st ws := by
  intro F H locs ls hP hD hS hl
  exact lv_aload F.1 F.2.1 hd (hl.2.2 _ _ hg) (k F H locs ls hP hD hS hl)
theorem V_aloadnG {i : Fin 4} {x : Nat} (hd : decode cc pc = .ok (.aload_n i, 1)) (hg : lget L i = some (.ref x)) (k : V X D tc cc own nL (pc + 1) L (.ref x :: st) ws) : V X D tc cc own nL pc L st ws := by
  intro F H locs ls hP hD hS hl
  exact lv_aload_n F.1 F.2.1 hd rfl (hl.2.2 _ _ hg) (k F H locs ls hP hD hS hl)
theorem V_istoreG {i : Nat} {x : Int32} (hd : decode cc pc = .ok (.istore i, 2)) (hf : lflat L = true) (hn : i < nL) (k : V X D tc cc own nL (pc + 2) (lset L i (.int x)) st ws) : V X D tc cc own nL pc L (.int x :: st) ws := by
  intro F H locs ls hP hD hS hl
  exact lv_istore F.1 F.2.1 hd hl.has hn rfl (fun ls' hl' => k F H locs ls' hP hD hS (lvH.store hf hl'))
theorem V_istorenG {i : Fin 4} {x : Int32} (hd : decode cc pc = .ok (.istore_n i, 1)) (hf : lflat L = true) (hn : (i : Nat) < nL) (k : V X D tc cc own nL (pc + 1) (lset L i (.int x)) st ws) : V X D tc cc own nL pc L (.int x :: st) ws := by
  intro F H locs ls hP hD hS hl
  exact lv_istore_n F.1 F.2.1 hd rfl hl.has hn rfl (fun ls' hl' => k F H locs ls' hP hD hS (lvH.store hf hl'))
theorem V_astoreG {i : Nat} {x : Nat} (hd : decode cc pc = .ok (.astore i, 2)) (hf : lflat L = true) (hn : i < nL) (k : V X D tc cc own nL (pc + 2) (lset L i (.ref x)) st ws) : V X D tc cc own nL pc L (.ref x :: st) ws := by
  intro F H locs ls hP hD hS hl
  exact lv_astore F.1 F.2.1 hd hl.has hn rfl (fun ls' hl' => k F H locs ls' hP hD hS (lvH.store hf hl'))
theorem V_astorenG {i : Fin 4} {x : Nat} (hd : decode cc pc = .ok (.astore_n i, 1)) (hf : lflat L = true) (hn : (i : Nat) < nL) (k : V X D tc cc own nL (pc + 1) (lset L i (.ref x)) st ws) : V X D tc cc own nL pc L (.ref x :: st) ws := by
  intro F H locs ls hP hD hS hl
  exact lv_astore_n F.1 F.2.1 hd rfl hl.has hn rfl (fun ls' hl' => k F H locs ls' hP hD hS (lvH.store hf hl'))
theorem V_astoreNG {i : Nat} (hd : decode cc pc = .ok (.astore i, 2)) (hf : lflat L = true) (hn : i < nL) (k : V X D tc cc own nL (pc + 2) (lset L i .null) st ws) : V X D tc cc own nL pc L (.null :: st) ws := by
  intro F H locs ls hP hD hS hl
  exact lv_astoreN F.1 F.2.1 hd hl.has hn rfl (fun ls' hl' => k F H locs ls' hP hD hS (lvH.store hf hl'))
theorem V_astorenNG {i : Fin 4} (hd : decode cc pc = .ok (.astore_n i, 1)) (hf : lflat L = true) (hn : (i : Nat) < nL) (k : V X D tc cc own nL (pc + 1) (lset L i .null) st ws) : V X D tc cc own nL pc L (.null :: st) ws := by
  intro F H locs ls hP hD hS hl
  exact lv_astore_nN F.1 F.2.1 hd rfl hl.has hn rfl (fun ls' hl' => k F H locs ls' hP hD hS (lvH.store hf hl'))
theorem V_aloadNG {i : Nat} (hd : decode cc pc = .ok (.aload i, 2)) (hg : lget L i = some .null) (k : V X D tc cc own nL (pc + 2) L (.null :: st) ws) : V X D tc cc own nL pc L st ws := by
  intro F H locs ls hP hD hS hl
  exact lv_aloadN F.1 F.2.1 hd (hl.2.2 _ _ hg) (k F H locs ls hP hD hS hl)
theorem V_aloadnNG {i : Fin 4} (hd : decode cc pc = .ok (.aload_n i, 1)) (hg : lget L i = some .null) (k : V X D tc cc own nL (pc + 1) L (.null :: st) ws) : V X D tc cc own nL pc L st ws := by
  intro F H locs ls hP hD hS hl
  exact lv_aload_nN F.1 F.2.1 hd rfl (hl.2.2 _ _ hg) (k F H locs ls hP hD hS hl)
theorem lget_pos {L : List (Option Value)} : ∀ (i : Nat) {v : Value}, lget L i = some v → ∃ k : Nat, (lvp 0 L)[k]? = some (i, v) := fun i v h => List.getElem?_of_mem (by have := (lvp_mem L 0 i v).mpr h; simpa using this)
theorem V_iincG {i : Nat} {n : Int} {x : Int32} (v : Int32) (hd : decode cc pc = .ok (.iinc i n, 3)) (hg : lget L i = some (.int x)) (hv : x + Int32.ofInt n = v) (hf : lflat L = true) (hn : i < nL) (k : V X D tc cc own nL (pc + 3) (lset L i (.int v)) st ws) : V X D tc cc own nL pc L st ws := by
  intro F H locs ls hP hD hS hl
  obtain ⟨q, hq⟩ := lget_pos i hg
  exact lv_iinc F.1 F.2.1 hd hl.has hq hv hn rfl (fun ls' hl' => k F H locs ls' hP hD hS (lvH.store hf hl'))
theorem V_goto {off : Int} (tgt : Nat) (hd : decode cc pc = .ok (.goto off, 3)) (ht : (pc : Int) + off = (tgt : Int)) (k : V X D tc cc own nL tgt L st ws) : V X D tc cc own nL pc L st ws := by
  intro F H locs ls hP hD hS hl
  exact lv_goto F.1 F.2.1 hd ht (k F H locs ls hP hD hS hl)
theorem V_if_eq {x : Int32} {off : Int} (tgt : Nat) (hd : decode cc pc = .ok (.ifCond .eq off, 3)) (ht : (pc : Int) + off = (tgt : Int)) (kt : x = 0 → V X D tc cc own nL tgt L st ws) (kf : ¬ x = 0 → V X D tc cc own nL (pc + 3) L st ws) : V X D tc cc own nL pc L (.int x :: st) ws := by
  intro F H locs ls hP hD hS hl
  exact lv_if_eq F.1 F.2.1 hd ht (fun h => kt h F H locs ls hP hD hS hl) (fun h => kf h F H locs ls hP hD hS hl)
theorem V_icmp_eq {x y : Int32} {off : Int} (tgt : Nat) (hd : decode cc pc = .ok (.if_icmp .eq off, 3)) (ht : (pc : Int) + off = (tgt : Int)) (kt : x = y → V X D tc cc own nL tgt L st ws) (kf : ¬ x = y → V X D tc cc own nL (pc + 3) L st ws) : V X D tc cc own nL pc L (.int y :: .int x :: st) ws := by
  intro F H locs ls hP hD hS hl
  exact lv_icmp_eq F.1 F.2.1 hd ht (fun h => kt h F H locs ls hP hD hS hl) (fun h => kf h F H locs ls hP hD hS hl)
theorem V_if_ne {x : Int32} {off : Int} (tgt : Nat) (hd : decode cc pc = .ok (.ifCond .ne off, 3)) (ht : (pc : Int) + off = (tgt : Int)) (kt : ¬ x = 0 → V X D tc cc own nL tgt L st ws) (kf : x = 0 → V X D tc cc own nL (pc + 3) L st ws) : V X D tc cc own nL pc L (.int x :: st) ws := by
  intro F H locs ls hP hD hS hl
  exact lv_if_ne F.1 F.2.1 hd ht (fun h => kt h F H locs ls hP hD hS hl) (fun h => kf h F H locs ls hP hD hS hl)
theorem V_icmp_ne {x y : Int32} {off : Int} (tgt : Nat) (hd : decode cc pc = .ok (.if_icmp .ne off, 3)) (ht : (pc : Int) + off = (tgt : Int)) (kt : ¬ x = y → V X D tc cc own nL tgt L st ws) (kf : x = y → V X D tc cc own nL (pc + 3) L st ws) : V X D tc cc own nL pc L (.int y :: .int x :: st) ws := by
  intro F H locs ls hP hD hS hl
  exact lv_icmp_ne F.1 F.2.1 hd ht (fun h => kt h F H locs ls hP hD hS hl) (fun h => kf h F H locs ls hP hD hS hl)
theorem V_if_lt {x : Int32} {off : Int} (tgt : Nat) (hd : decode cc pc = .ok (.ifCond .lt off, 3)) (ht : (pc : Int) + off = (tgt : Int)) (kt : x < 0 → V X D tc cc own nL tgt L st ws) (kf : ¬ x < 0 → V X D tc cc own nL (pc + 3) L st ws) : V X D tc cc own nL pc L (.int x :: st) ws := by
  intro F H locs ls hP hD hS hl
  exact lv_if_lt F.1 F.2.1 hd ht (fun h => kt h F H locs ls hP hD hS hl) (fun h => kf h F H locs ls hP hD hS hl)
theorem V_icmp_lt {x y : Int32} {off : Int} (tgt : Nat) (hd : decode cc pc = .ok (.if_icmp .lt off, 3)) (ht : (pc : Int) + off = (tgt : Int)) (kt : x < y → V X D tc cc own nL tgt L st ws) (kf : ¬ x < y → V X D tc cc own nL (pc + 3) L st ws) : V X D tc cc own nL pc L (.int y :: .int x :: st) ws := by
  intro F H locs ls hP hD hS hl
  exact lv_icmp_lt F.1 F.2.1 hd ht (fun h => kt h F H locs ls hP hD hS hl) (fun h => kf h F H locs ls hP hD hS hl)
theorem V_if_ge {x : Int32} {off : Int} (tgt : Nat) (hd : decode cc pc = .ok (.ifCond .ge off, 3)) (ht : (pc : Int) + off = (tgt : Int)) (kt : 0 ≤ x → V X D tc cc own nL tgt L st ws) (kf : ¬ 0 ≤ x → V X D tc cc own nL (pc + 3) L st ws) : V X D tc cc own nL pc L (.int x :: st) ws := by
  intro F H locs ls hP hD hS hl
  exact lv_if_ge F.1 F.2.1 hd ht (fun h => kt h F H locs ls hP hD hS hl) (fun h => kf h F H locs ls hP hD hS hl)
theorem V_icmp_ge {x y : Int32} {off : Int} (tgt : Nat) (hd : decode cc pc = .ok (.if_icmp .ge off, 3)) (ht : (pc : Int) + off = (tgt : Int)) (kt : y ≤ x → V X D tc cc own nL tgt L st ws) (kf : ¬ y ≤ x → V X D tc cc own nL (pc + 3) L st ws) : V X D tc cc own nL pc L (.int y :: .int x :: st) ws := by
  intro F H locs ls hP hD hS hl
  exact lv_icmp_ge F.1 F.2.1 hd ht (fun h => kt h F H locs ls hP hD hS hl) (fun h => kf h F H locs ls hP hD hS hl)
theorem V_if_gt {x : Int32} {off : Int} (tgt : Nat) (hd : decode cc pc = .ok (.ifCond .gt off, 3)) (ht : (pc : Int) + off = (tgt : Int)) (kt : 0 < x → V X D tc cc own nL tgt L st ws) (kf : ¬ 0 < x → V X D tc cc own nL (pc + 3) L st ws) : V X D tc cc own nL pc L (.int x :: st) ws := by
  intro F H locs ls hP hD hS hl
  exact lv_if_gt F.1 F.2.1 hd ht (fun h => kt h F H locs ls hP hD hS hl) (fun h => kf h F H locs ls hP hD hS hl)
theorem V_icmp_gt {x y : Int32} {off : Int} (tgt : Nat) (hd : decode cc pc = .ok (.if_icmp .gt off, 3)) (ht : (pc : Int) + off = (tgt : Int)) (kt : y < x → V X D tc cc own nL tgt L st ws) (kf : ¬ y < x → V X D tc cc own nL (pc + 3) L st ws) : V X D tc cc own nL pc L (.int y :: .int x :: st) ws := by
  intro F H locs ls hP hD hS hl
  exact lv_icmp_gt F.1 F.2.1 hd ht (fun h => kt h F H locs ls hP hD hS hl) (fun h => kf h F H locs ls hP hD hS hl)
theorem V_if_le {x : Int32} {off : Int} (tgt : Nat) (hd : decode cc pc = .ok (.ifCond .le off, 3)) (ht : (pc : Int) + off = (tgt : Int)) (kt : x ≤ 0 → V X D tc cc own nL tgt L st ws) (kf : ¬ x ≤ 0 → V X D tc cc own nL (pc + 3) L st ws) : V X D tc cc own nL pc L (.int x :: st) ws := by
  intro F H locs ls hP hD hS hl
  exact lv_if_le F.1 F.2.1 hd ht (fun h => kt h F H locs ls hP hD hS hl) (fun h => kf h F H locs ls hP hD hS hl)
theorem V_icmp_le {x y : Int32} {off : Int} (tgt : Nat) (hd : decode cc pc = .ok (.if_icmp .le off, 3)) (ht : (pc : Int) + off = (tgt : Int)) (kt : x ≤ y → V X D tc cc own nL tgt L st ws) (kf : ¬ x ≤ y → V X D tc cc own nL (pc + 3) L st ws) : V X D tc cc own nL pc L (.int y :: .int x :: st) ws := by
  intro F H locs ls hP hD hS hl
  exact lv_icmp_le F.1 F.2.1 hd ht (fun h => kt h F H locs ls hP hD hS hl) (fun h => kf h F H locs ls hP hD hS hl)
theorem V_ifnonnull {x : Nat} {off : Int} (tgt : Nat) (hd : decode cc pc = .ok (.ifnonnull off, 3)) (ht : (pc : Int) + off = (tgt : Int)) (k : V X D tc cc own nL tgt L st ws) : V X D tc cc own nL pc L (.ref x :: st) ws := by
  intro F H locs ls hP hD hS hl
  exact lv_ifnonnull F.1 F.2.1 hd ht (k F H locs ls hP hD hS hl)
theorem V_ifnonnullN {off : Int} (hd : decode cc pc = .ok (.ifnonnull off, 3)) (k : V X D tc cc own nL (pc + 3) L st ws) : V X D tc cc own nL pc L (.null :: st) ws := by
  intro F H locs ls hP hD hS hl
  exact lv_ifnonnullN F.1 F.2.1 hd (k F H locs ls hP hD hS hl)
theorem V_ifnull {x : Nat} {off : Int} (hd : decode cc pc = .ok (.ifnull off, 3)) (k : V X D tc cc own nL (pc + 3) L st ws) : V X D tc cc own nL pc L (.ref x :: st) ws := by
  intro F H locs ls hP hD hS hl
  exact lv_ifnull F.1 F.2.1 hd (k F H locs ls hP hD hS hl)
theorem V_ifnullN {off : Int} (tgt : Nat) (hd : decode cc pc = .ok (.ifnull off, 3)) (ht : (pc : Int) + off = (tgt : Int)) (k : V X D tc cc own nL tgt L st ws) : V X D tc cc own nL pc L (.null :: st) ws := by
  intro F H locs ls hP hD hS hl
  exact lv_ifnullN F.1 F.2.1 hd ht (k F H locs ls hP hD hS hl)
theorem V_tableOut {dflt lo hi : Int} {offs : Array Int} {len : Nat} {x : Int32} (tgt : Nat) (hd : decode cc pc = .ok (.tableswitch dflt lo hi offs, len)) (h : x.toInt < lo ∨ hi < x.toInt) (ht : (pc : Int) + dflt = (tgt : Int)) (k : V X D tc cc own nL tgt L st ws) : V X D tc cc own nL pc L (.int x :: st) ws := by
  intro F H locs ls hP hD hS hl
  exact lv_tableOut F.1 F.2.1 hd h ht (k F H locs ls hP hD hS hl)
theorem V_tableIn {dflt lo hi : Int} {offs : Array Int} {len : Nat} {x : Int32} {off : Int} (tgt : Nat) (hd : decode cc pc = .ok (.tableswitch dflt lo hi offs, len)) (h1 : ¬ x.toInt < lo) (h2 : ¬ hi < x.toInt) (ho : offs[(x.toInt - lo).toNat]? = some off) (ht : (pc : Int) + off = (tgt : Int)) (k : V X D tc cc own nL tgt L st ws) : V X D tc cc own nL pc L (.int x :: st) ws := by
  intro F H locs ls hP hD hS hl
  exact lv_tableIn F.1 F.2.1 hd h1 h2 ho ht (k F H locs ls hP hD hS hl)
theorem V_lookup {dflt : Int} {ps : Array (Int × Int)} {len : Nat} {x : Int32} {off : Int} (tgt : Nat) (hd : decode cc pc = .ok (.lookupswitch dflt ps, len)) (hp : (ps.toList.zip (ps.toList.drop 1)).all (fun (a, next) => a.1 < next.1) = true) (ho : Op.lookupswitch.offset ps.toList dflt x.toInt = off) (ht : (pc : Int) + off = (tgt : Int)) (k : V X D tc cc own nL tgt L st ws) : V X D tc cc own nL pc L (.int x :: st) ws := by
  intro F H locs ls hP hD hS hl
  exact lv_lookup F.1 F.2.1 hd hp ho ht (k F H locs ls hP hD hS hl)
theorem V_ldc2 {index : Nat} (v : Int64) (hc : Cond.constantLong own index v ∈ bigW) (hd : decode cc pc = .ok (.ldc2_w index, 3)) (k : V X D tc cc own nL (pc + 3) L (.long v :: st) ws) : V X D tc cc own nL pc L st ws := by
  intro F H locs ls hP hD hS hl
  exact lv_ldc2 F.1 F.2.1 F.2.2.2.1 (F.2.2.2.2.1 _ hc) hd (k F H locs ls hP hD hS hl)
theorem V_ldcw {index : Nat} (v : Int32) (hc : Cond.constant own index v ∈ bigW) (hd : decode cc pc = .ok (.ldc_w index, 3)) (k : V X D tc cc own nL (pc + 3) L (.int v :: st) ws) : V X D tc cc own nL pc L st ws := by
  intro F H locs ls hP hD hS hl
  exact lv_ldcw F.1 F.2.1 F.2.2.2.1 (F.2.2.2.2.1 _ hc) hd (k F H locs ls hP hD hS hl)
theorem V_lcmp {x y : Int64} (hd : decode cc pc = .ok (.lcmp, 1)) (k : V X D tc cc own nL (pc + 1) L (.int (lg_cmp x y) :: st) ws) : V X D tc cc own nL pc L (.long y :: .long x :: st) ws := by
  intro F H locs ls hP hD hS hl
  exact W.lcmp F.1 F.2.1 hd (k F H locs ls hP hD hS hl)
/-- a field's link: the words that a read of field k of class ci at this constant needs -/
def LinkF (own : String) (idx : Nat) (C : String) (T : u_T) (N ci k : Nat) : Prop := vwCl[ci]? = some (C, T, N) ∧ k < N ∧ (∀ w ∈ u_ws C T N, w ∈ bigW) ∧ Cond.fieldLink own idx (T k).1 (T k).2.1 (T k).2.2.1 ∈ bigW
/-- and a write of an int field -/
def LinkP (own : String) (idx : Nat) (C : String) (T : u_T) (N ci k : Nat) : Prop := LinkF own idx C T N ci k ∧ (T k).2.2.2 = false ∧ parseFieldDescriptor (T k).2.2.1 = some .int ∧ (∀ a, a < N → ∀ b, b < N → a ≠ b → (T a).2.1 ≠ (T b).2.1) ∧ ∃ ty0 : Nat → FieldType, ∀ k, k < N → parseFieldDescriptor (T k).2.2.1 = some (ty0 k)
theorem V_get {idx ci k : Nat} {C : String} {T : u_T} {N a : Nat} {fs : List Value} {v : Value} (hl : LinkF own idx C T N ci k) (hd : decode cc pc = .ok (.getfield idx, 3)) {q0 : Nat} (he : ws[q0]? = some (a, .inr (ci, fs))) (hv : fs[k]? = some v) (kk : V X D tc cc own nL (pc + 3) L (v :: st) ws) : V X D tc cc own nL pc L (.ref a :: st) ws := by
  intro F H locs ls hP hD hS hlv
  exact va_get F.1 F.2.1 F.2.2.2.2.1 hl.2.2.1 F.2.2.2.1 F.2.2.2.2.2.1 hP q0 he hl.1 k hl.2.1 (F.2.2.2.2.1 _ hl.2.2.2) (fun _ h9 => h9) hv hd (kk F H locs ls hP hD hS hlv)
theorem V_puti {idx ci k : Nat} {C : String} {T : u_T} {N a : Nat} {fs : List Value} {v : Int32} (hl : LinkP own idx C T N ci k) (hd : decode cc pc = .ok (.putfield idx, 3)) {q0 : Nat} (he : ws[q0]? = some (a, .inr (ci, fs))) (hk : k < fs.length) {ws' : va_W} (hw : ws.set q0 (a, .inr (ci, fs.set k (.int v))) = ws') (kk : V X D tc cc own nL (pc + 3) L st ws') : V X D tc cc own nL pc L (.int v :: .ref a :: st) ws := by
  intro F H locs ls hP hD hS hlv
  obtain ⟨hf, hfin, hty, hnm, ty0, ht0⟩ := hl
  exact va_put F.1 F.2.1 F.2.2.2.2.1 hf.2.2.1 ty0 ht0 hnm F.2.2.2.1 F.2.2.2.2.2.1 hP hD hS q0 he hf.1 k hf.2.1 (F.2.2.2.2.1 _ hf.2.2.2) (fun _ h9 => h9) hfin hty rfl rfl hk hd (fun H1 locs1 hP1 hD1 hS1 => kk F H1 locs1 ls (hw ▸ hP1) (hw ▸ hD1) hS1 hlv)
theorem V_iald {a n : Nat} {f : Nat → Int32} {i : Int32} (hd : decode cc pc = .ok (.iaload, 1)) {q0 : Nat} (he : ws[q0]? = some (a, .inl (tc.1, n, .inl f))) (hin : vp_in i n) (kk : V X D tc cc own nL (pc + 1) L (.int (f i.toNatClampNeg) :: st) ws) : V X D tc cc own nL pc L (.int i :: .ref a :: st) ws := by
  intro F H locs ls hP hD hS hlv
  exact va_iald F.1 F.2.1 F.2.2.2.2.2.1 hP q0 0 he rfl hin hd (kk F H locs ls hP hD hS hlv)
theorem V_zald {a n : Nat} {f : Nat → Int32} {i : Int32} (hd : decode cc pc = .ok (.baload, 1)) {q0 : Nat} (he : ws[q0]? = some (a, .inl (tc.2.1, n, .inl f))) (hin : vp_in i n) (kk : V X D tc cc own nL (pc + 1) L (.int (f i.toNatClampNeg) :: st) ws) : V X D tc cc own nL pc L (.int i :: .ref a :: st) ws := by
  intro F H locs ls hP hD hS hlv
  exact va_zald F.1 F.2.1 F.2.2.2.2.2.1 hP q0 1 he rfl hin hd (kk F H locs ls hP hD hS hlv)
theorem V_aald {a n b : Nat} {f : Nat → Option Nat} {i : Int32} (hd : decode cc pc = .ok (.aaload, 1)) {q0 : Nat} (he : ws[q0]? = some (a, .inl (tc.2.2, n, .inr (.inr (.inr (.inr f)))))) (hin : vp_in i n) (hb : f i.toNatClampNeg = some b) (kk : V X D tc cc own nL (pc + 1) L (.ref b :: st) ws) : V X D tc cc own nL pc L (.int i :: .ref a :: st) ws := by
  intro F H locs ls hP hD hS hlv
  refine va_aldq F.1 F.2.1 F.2.2.2.2.2.1 hP q0 2 he rfl hin hd ?_
  rw [hb]
  exact kk F H locs ls hP hD hS hlv
theorem V_alen {a n : Nat} {f : Nat → Int32} (hd : decode cc pc = .ok (.arraylength, 1)) {q0 : Nat} (he : ws[q0]? = some (a, .inl (tc.1, n, .inl f))) (kk : V X D tc cc own nL (pc + 1) L (.int (nI n) :: st) ws) : V X D tc cc own nL pc L (.ref a :: st) ws := by
  intro F H locs ls hP hD hS hlv
  exact va_alen F.1 F.2.1 F.2.2.2.2.2.1 hP q0 0 he rfl rfl hd (kk F H locs ls hP hD hS hlv)
theorem V_alenS {a n : Nat} {f : Nat → Option Nat} (hd : decode cc pc = .ok (.arraylength, 1)) {q0 : Nat} (he : ws[q0]? = some (a, .inl (tc.2.2, n, .inr (.inr (.inr (.inr f)))))) (kk : V X D tc cc own nL (pc + 1) L (.int (nI n) :: st) ws) : V X D tc cc own nL pc L (.ref a :: st) ws := by
  intro F H locs ls hP hD hS hlv
  exact va_alen F.1 F.2.1 F.2.2.2.2.2.1 hP q0 2 he rfl rfl hd (kk F H locs ls hP hD hS hlv)
theorem V_iast {a n : Nat} {f : Nat → Int32} {i x : Int32} (hd : decode cc pc = .ok (.iastore, 1)) {q0 : Nat} (he : ws[q0]? = some (a, .inl (tc.1, n, .inl f))) (hin : vp_in i n) {ws' : va_W} (hw : ws.set q0 (a, .inl (tc.1, n, .inl (upd f i.toNatClampNeg x))) = ws') (kk : V X D tc cc own nL (pc + 1) L st ws') : V X D tc cc own nL pc L (.int x :: .int i :: .ref a :: st) ws := by
  intro F H locs ls hP hD hS hlv
  exact va_iast F.1 F.2.1 F.2.2.2.2.2.1 hP hD hS q0 0 he rfl hin hd (fun H1 locs1 hP1 hD1 hS1 => kk F H1 locs1 ls (hw ▸ hP1) (hw ▸ hD1) hS1 hlv)
theorem V_zast {a n : Nat} {f : Nat → Int32} {i x : Int32} (hd : decode cc pc = .ok (.bastore, 1)) {q0 : Nat} (he : ws[q0]? = some (a, .inl (tc.2.1, n, .inl f))) (hin : vp_in i n) {ws' : va_W} (hw : ws.set q0 (a, .inl (tc.2.1, n, .inl (upd f i.toNatClampNeg (vp_nar .boolean x)))) = ws') (kk : V X D tc cc own nL (pc + 1) L st ws') : V X D tc cc own nL pc L (.int x :: .int i :: .ref a :: st) ws := by
  intro F H locs ls hP hD hS hlv
  exact va_zast F.1 F.2.1 F.2.2.2.2.2.1 hP hD hS q0 1 he rfl hin hd (fun H1 locs1 hP1 hD1 hS1 => kk F H1 locs1 ls (hw ▸ hP1) (hw ▸ hD1) hS1 hlv)
theorem V_copy {index a0 a n0 n1 : Nat} {f g : Nat → Int32} {sp dp n : Int32} (hm : Cond.methodLink own index arraycopyName ∈ bigW) (hm2 : Cond.native arraycopyName ∈ bigW ∧ Cond.static arraycopyName ∈ bigW ∧ Cond.initialized "java/lang/System" ∈ bigW) (hdep : 1 ≤ X.2.2.2.1) (hroom : (st.map fun v => v.category).sum + (nativeFrameWords "java/lang/System" "arraycopy" 5 + 11) ≤ 35) (hd : decode cc pc = .ok (.invokestatic index, 3)) {q0 q1 : Nat} (he0 : ws[q0]? = some (a0, .inl (tc.1, n0, .inl f))) (he1 : ws[q1]? = some (a, .inl (tc.1, n1, .inl g))) (h1 : ¬ sp < 0) (h2 : ¬ dp < 0) (h3 : ¬ n < 0) (h4 : sp.toNatClampNeg + n.toNatClampNeg ≤ n0) (h5 : dp.toNatClampNeg + n.toNatClampNeg ≤ n1) {ws' : va_W} (hw : ws.set q1 (a, .inl (tc.1, n1, .inl (va_cpy f g sp.toNatClampNeg dp.toNatClampNeg n.toNatClampNeg))) = ws') (kk : V X D tc cc own nL (pc + 3) L st ws') : V X D tc cc own nL pc L (.int n :: .int dp :: .ref a :: .int sp :: .ref a0 :: st) ws := by
  intro F H locs ls hP hD hS hlv
  have hr := F.2.2.2.2.2.2.2.2.2.2.1
  exact va_copyi F.1 F.2.1 (F.2.2.1.trans hlv.1.symm) F.2.2.2.1 (F.2.2.2.2.1 _ hm) (F.2.2.2.2.1 _ hm2.1) (F.2.2.2.2.1 _ hm2.2.1) (F.2.2.2.2.1 _ hm2.2.2) F.2.2.2.2.2.1 hP hD hS q0 q1 0 0 he0 he1 rfl rfl rfl h1 h2 h3 h4 h5 (fun _ _ => rfl) (by omega) (by omega) hd (fun H1 locs1 hP1 hD1 hS1 => kk F H1 locs1 ls (hw ▸ hP1) (hw ▸ hD1) hS1 hlv)
end VROWS
section VIX
variable {X : Cx} {D : va_G} {tc : Tc} {cc : ByteArray} {own : String} {nL pc : Nat} {t : List (Option Value)} {st : List Value} {ws : va_W}
theorem V_ild0 {x : Int32} (hd : decode cc pc = .ok (.iload_n 0, 1)) (k : V X D tc cc own nL (pc + 1) (some (.int x) :: t) (.int x :: st) ws) : V X D tc cc own nL pc (some (.int x) :: t) st ws := V_iloadnG hd rfl k
theorem V_ald0 {x : Nat} (hd : decode cc pc = .ok (.aload_n 0, 1)) (k : V X D tc cc own nL (pc + 1) (some (.ref x) :: t) (.ref x :: st) ws) : V X D tc cc own nL pc (some (.ref x) :: t) st ws := V_aloadnG hd rfl k
theorem V_aldN0 (hd : decode cc pc = .ok (.aload_n 0, 1)) (k : V X D tc cc own nL (pc + 1) (some .null :: t) (.null :: st) ws) : V X D tc cc own nL pc (some .null :: t) st ws := V_aloadnNG hd rfl k
theorem V_ist0 {a0 : Option Value} {x : Int32} (hd : decode cc pc = .ok (.istore_n 0, 1)) (hf : lflat (a0 :: t) = true) (hn : 0 < nL) (k : V X D tc cc own nL (pc + 1) (some (.int x) :: t) st ws) : V X D tc cc own nL pc (a0 :: t) (.int x :: st) ws := V_istorenG hd hf hn k
theorem V_ast0 {a0 : Option Value} {x : Nat} (hd : decode cc pc = .ok (.astore_n 0, 1)) (hf : lflat (a0 :: t) = true) (hn : 0 < nL) (k : V X D tc cc own nL (pc + 1) (some (.ref x) :: t) st ws) : V X D tc cc own nL pc (a0 :: t) (.ref x :: st) ws := V_astorenG hd hf hn k
theorem V_astN0 {a0 : Option Value} (hd : decode cc pc = .ok (.astore_n 0, 1)) (hf : lflat (a0 :: t) = true) (hn : 0 < nL) (k : V X D tc cc own nL (pc + 1) (some .null :: t) st ws) : V X D tc cc own nL pc (a0 :: t) (.null :: st) ws := V_astorenNG hd hf hn k
theorem V_inc0 {n : Int} {x : Int32} (v : Int32) (hd : decode cc pc = .ok (.iinc 0 n, 3)) (hv : x + Int32.ofInt n = v) (hf : lflat (some (.int x) :: t) = true) (hn : 0 < nL) (k : V X D tc cc own nL (pc + 3) (some (.int v) :: t) st ws) : V X D tc cc own nL pc (some (.int x) :: t) st ws := V_iincG v hd rfl hv hf hn k
theorem V_ild1 {a0 : Option Value} {x : Int32} (hd : decode cc pc = .ok (.iload_n 1, 1)) (k : V X D tc cc own nL (pc + 1) (a0 :: some (.int x) :: t) (.int x :: st) ws) : V X D tc cc own nL pc (a0 :: some (.int x) :: t) st ws := V_iloadnG hd rfl k
theorem V_ald1 {a0 : Option Value} {x : Nat} (hd : decode cc pc = .ok (.aload_n 1, 1)) (k : V X D tc cc own nL (pc + 1) (a0 :: some (.ref x) :: t) (.ref x :: st) ws) : V X D tc cc own nL pc (a0 :: some (.ref x) :: t) st ws := V_aloadnG hd rfl k
theorem V_aldN1 {a0 : Option Value} (hd : decode cc pc = .ok (.aload_n 1, 1)) (k : V X D tc cc own nL (pc + 1) (a0 :: some .null :: t) (.null :: st) ws) : V X D tc cc own nL pc (a0 :: some .null :: t) st ws := V_aloadnNG hd rfl k
theorem V_ist1 {a0 a1 : Option Value} {x : Int32} (hd : decode cc pc = .ok (.istore_n 1, 1)) (hf : lflat (a0 :: a1 :: t) = true) (hn : 1 < nL) (k : V X D tc cc own nL (pc + 1) (a0 :: some (.int x) :: t) st ws) : V X D tc cc own nL pc (a0 :: a1 :: t) (.int x :: st) ws := V_istorenG hd hf hn k
theorem V_ast1 {a0 a1 : Option Value} {x : Nat} (hd : decode cc pc = .ok (.astore_n 1, 1)) (hf : lflat (a0 :: a1 :: t) = true) (hn : 1 < nL) (k : V X D tc cc own nL (pc + 1) (a0 :: some (.ref x) :: t) st ws) : V X D tc cc own nL pc (a0 :: a1 :: t) (.ref x :: st) ws := V_astorenG hd hf hn k
theorem V_astN1 {a0 a1 : Option Value} (hd : decode cc pc = .ok (.astore_n 1, 1)) (hf : lflat (a0 :: a1 :: t) = true) (hn : 1 < nL) (k : V X D tc cc own nL (pc + 1) (a0 :: some .null :: t) st ws) : V X D tc cc own nL pc (a0 :: a1 :: t) (.null :: st) ws := V_astorenNG hd hf hn k
theorem V_inc1 {a0 : Option Value} {n : Int} {x : Int32} (v : Int32) (hd : decode cc pc = .ok (.iinc 1 n, 3)) (hv : x + Int32.ofInt n = v) (hf : lflat (a0 :: some (.int x) :: t) = true) (hn : 1 < nL) (k : V X D tc cc own nL (pc + 3) (a0 :: some (.int v) :: t) st ws) : V X D tc cc own nL pc (a0 :: some (.int x) :: t) st ws := V_iincG v hd rfl hv hf hn k
theorem V_ild2 {a0 a1 : Option Value} {x : Int32} (hd : decode cc pc = .ok (.iload_n 2, 1)) (k : V X D tc cc own nL (pc + 1) (a0 :: a1 :: some (.int x) :: t) (.int x :: st) ws) : V X D tc cc own nL pc (a0 :: a1 :: some (.int x) :: t) st ws := V_iloadnG hd rfl k
theorem V_ald2 {a0 a1 : Option Value} {x : Nat} (hd : decode cc pc = .ok (.aload_n 2, 1)) (k : V X D tc cc own nL (pc + 1) (a0 :: a1 :: some (.ref x) :: t) (.ref x :: st) ws) : V X D tc cc own nL pc (a0 :: a1 :: some (.ref x) :: t) st ws := V_aloadnG hd rfl k
theorem V_aldN2 {a0 a1 : Option Value} (hd : decode cc pc = .ok (.aload_n 2, 1)) (k : V X D tc cc own nL (pc + 1) (a0 :: a1 :: some .null :: t) (.null :: st) ws) : V X D tc cc own nL pc (a0 :: a1 :: some .null :: t) st ws := V_aloadnNG hd rfl k
theorem V_ist2 {a0 a1 a2 : Option Value} {x : Int32} (hd : decode cc pc = .ok (.istore_n 2, 1)) (hf : lflat (a0 :: a1 :: a2 :: t) = true) (hn : 2 < nL) (k : V X D tc cc own nL (pc + 1) (a0 :: a1 :: some (.int x) :: t) st ws) : V X D tc cc own nL pc (a0 :: a1 :: a2 :: t) (.int x :: st) ws := V_istorenG hd hf hn k
theorem V_ast2 {a0 a1 a2 : Option Value} {x : Nat} (hd : decode cc pc = .ok (.astore_n 2, 1)) (hf : lflat (a0 :: a1 :: a2 :: t) = true) (hn : 2 < nL) (k : V X D tc cc own nL (pc + 1) (a0 :: a1 :: some (.ref x) :: t) st ws) : V X D tc cc own nL pc (a0 :: a1 :: a2 :: t) (.ref x :: st) ws := V_astorenG hd hf hn k
theorem V_astN2 {a0 a1 a2 : Option Value} (hd : decode cc pc = .ok (.astore_n 2, 1)) (hf : lflat (a0 :: a1 :: a2 :: t) = true) (hn : 2 < nL) (k : V X D tc cc own nL (pc + 1) (a0 :: a1 :: some .null :: t) st ws) : V X D tc cc own nL pc (a0 :: a1 :: a2 :: t) (.null :: st) ws := V_astorenNG hd hf hn k
theorem V_inc2 {a0 a1 : Option Value} {n : Int} {x : Int32} (v : Int32) (hd : decode cc pc = .ok (.iinc 2 n, 3)) (hv : x + Int32.ofInt n = v) (hf : lflat (a0 :: a1 :: some (.int x) :: t) = true) (hn : 2 < nL) (k : V X D tc cc own nL (pc + 3) (a0 :: a1 :: some (.int v) :: t) st ws) : V X D tc cc own nL pc (a0 :: a1 :: some (.int x) :: t) st ws := V_iincG v hd rfl hv hf hn k
theorem V_ild3 {a0 a1 a2 : Option Value} {x : Int32} (hd : decode cc pc = .ok (.iload_n 3, 1)) (k : V X D tc cc own nL (pc + 1) (a0 :: a1 :: a2 :: some (.int x) :: t) (.int x :: st) ws) : V X D tc cc own nL pc (a0 :: a1 :: a2 :: some (.int x) :: t) st ws := V_iloadnG hd rfl k
theorem V_ald3 {a0 a1 a2 : Option Value} {x : Nat} (hd : decode cc pc = .ok (.aload_n 3, 1)) (k : V X D tc cc own nL (pc + 1) (a0 :: a1 :: a2 :: some (.ref x) :: t) (.ref x :: st) ws) : V X D tc cc own nL pc (a0 :: a1 :: a2 :: some (.ref x) :: t) st ws := V_aloadnG hd rfl k
theorem V_aldN3 {a0 a1 a2 : Option Value} (hd : decode cc pc = .ok (.aload_n 3, 1)) (k : V X D tc cc own nL (pc + 1) (a0 :: a1 :: a2 :: some .null :: t) (.null :: st) ws) : V X D tc cc own nL pc (a0 :: a1 :: a2 :: some .null :: t) st ws := V_aloadnNG hd rfl k
theorem V_ist3 {a0 a1 a2 a3 : Option Value} {x : Int32} (hd : decode cc pc = .ok (.istore_n 3, 1)) (hf : lflat (a0 :: a1 :: a2 :: a3 :: t) = true) (hn : 3 < nL) (k : V X D tc cc own nL (pc + 1) (a0 :: a1 :: a2 :: some (.int x) :: t) st ws) : V X D tc cc own nL pc (a0 :: a1 :: a2 :: a3 :: t) (.int x :: st) ws := V_istorenG hd hf hn k
theorem V_ast3 {a0 a1 a2 a3 : Option Value} {x : Nat} (hd : decode cc pc = .ok (.astore_n 3, 1)) (hf : lflat (a0 :: a1 :: a2 :: a3 :: t) = true) (hn : 3 < nL) (k : V X D tc cc own nL (pc + 1) (a0 :: a1 :: a2 :: some (.ref x) :: t) st ws) : V X D tc cc own nL pc (a0 :: a1 :: a2 :: a3 :: t) (.ref x :: st) ws := V_astorenG hd hf hn k
theorem V_astN3 {a0 a1 a2 a3 : Option Value} (hd : decode cc pc = .ok (.astore_n 3, 1)) (hf : lflat (a0 :: a1 :: a2 :: a3 :: t) = true) (hn : 3 < nL) (k : V X D tc cc own nL (pc + 1) (a0 :: a1 :: a2 :: some .null :: t) st ws) : V X D tc cc own nL pc (a0 :: a1 :: a2 :: a3 :: t) (.null :: st) ws := V_astorenNG hd hf hn k
theorem V_inc3 {a0 a1 a2 : Option Value} {n : Int} {x : Int32} (v : Int32) (hd : decode cc pc = .ok (.iinc 3 n, 3)) (hv : x + Int32.ofInt n = v) (hf : lflat (a0 :: a1 :: a2 :: some (.int x) :: t) = true) (hn : 3 < nL) (k : V X D tc cc own nL (pc + 3) (a0 :: a1 :: a2 :: some (.int v) :: t) st ws) : V X D tc cc own nL pc (a0 :: a1 :: a2 :: some (.int x) :: t) st ws := V_iincG v hd rfl hv hf hn k
theorem V_ild4 {a0 a1 a2 a3 : Option Value} {x : Int32} (hd : decode cc pc = .ok (.iload 4, 2)) (k : V X D tc cc own nL (pc + 2) (a0 :: a1 :: a2 :: a3 :: some (.int x) :: t) (.int x :: st) ws) : V X D tc cc own nL pc (a0 :: a1 :: a2 :: a3 :: some (.int x) :: t) st ws := V_iloadG hd rfl k
theorem V_ald4 {a0 a1 a2 a3 : Option Value} {x : Nat} (hd : decode cc pc = .ok (.aload 4, 2)) (k : V X D tc cc own nL (pc + 2) (a0 :: a1 :: a2 :: a3 :: some (.ref x) :: t) (.ref x :: st) ws) : V X D tc cc own nL pc (a0 :: a1 :: a2 :: a3 :: some (.ref x) :: t) st ws := V_aloadG hd rfl k
theorem V_aldN4 {a0 a1 a2 a3 : Option Value} (hd : decode cc pc = .ok (.aload 4, 2)) (k : V X D tc cc own nL (pc + 2) (a0 :: a1 :: a2 :: a3 :: some .null :: t) (.null :: st) ws) : V X D tc cc own nL pc (a0 :: a1 :: a2 :: a3 :: some .null :: t) st ws := V_aloadNG hd rfl k
theorem V_ist4 {a0 a1 a2 a3 a4 : Option Value} {x : Int32} (hd : decode cc pc = .ok (.istore 4, 2)) (hf : lflat (a0 :: a1 :: a2 :: a3 :: a4 :: t) = true) (hn : 4 < nL) (k : V X D tc cc own nL (pc + 2) (a0 :: a1 :: a2 :: a3 :: some (.int x) :: t) st ws) : V X D tc cc own nL pc (a0 :: a1 :: a2 :: a3 :: a4 :: t) (.int x :: st) ws := V_istoreG hd hf hn k
theorem V_ast4 {a0 a1 a2 a3 a4 : Option Value} {x : Nat} (hd : decode cc pc = .ok (.astore 4, 2)) (hf : lflat (a0 :: a1 :: a2 :: a3 :: a4 :: t) = true) (hn : 4 < nL) (k : V X D tc cc own nL (pc + 2) (a0 :: a1 :: a2 :: a3 :: some (.ref x) :: t) st ws) : V X D tc cc own nL pc (a0 :: a1 :: a2 :: a3 :: a4 :: t) (.ref x :: st) ws := V_astoreG hd hf hn k
theorem V_astN4 {a0 a1 a2 a3 a4 : Option Value} (hd : decode cc pc = .ok (.astore 4, 2)) (hf : lflat (a0 :: a1 :: a2 :: a3 :: a4 :: t) = true) (hn : 4 < nL) (k : V X D tc cc own nL (pc + 2) (a0 :: a1 :: a2 :: a3 :: some .null :: t) st ws) : V X D tc cc own nL pc (a0 :: a1 :: a2 :: a3 :: a4 :: t) (.null :: st) ws := V_astoreNG hd hf hn k
theorem V_inc4 {a0 a1 a2 a3 : Option Value} {n : Int} {x : Int32} (v : Int32) (hd : decode cc pc = .ok (.iinc 4 n, 3)) (hv : x + Int32.ofInt n = v) (hf : lflat (a0 :: a1 :: a2 :: a3 :: some (.int x) :: t) = true) (hn : 4 < nL) (k : V X D tc cc own nL (pc + 3) (a0 :: a1 :: a2 :: a3 :: some (.int v) :: t) st ws) : V X D tc cc own nL pc (a0 :: a1 :: a2 :: a3 :: some (.int x) :: t) st ws := V_iincG v hd rfl hv hf hn k
theorem V_ild5 {a0 a1 a2 a3 a4 : Option Value} {x : Int32} (hd : decode cc pc = .ok (.iload 5, 2)) (k : V X D tc cc own nL (pc + 2) (a0 :: a1 :: a2 :: a3 :: a4 :: some (.int x) :: t) (.int x :: st) ws) : V X D tc cc own nL pc (a0 :: a1 :: a2 :: a3 :: a4 :: some (.int x) :: t) st ws := V_iloadG hd rfl k
theorem V_ald5 {a0 a1 a2 a3 a4 : Option Value} {x : Nat} (hd : decode cc pc = .ok (.aload 5, 2)) (k : V X D tc cc own nL (pc + 2) (a0 :: a1 :: a2 :: a3 :: a4 :: some (.ref x) :: t) (.ref x :: st) ws) : V X D tc cc own nL pc (a0 :: a1 :: a2 :: a3 :: a4 :: some (.ref x) :: t) st ws := V_aloadG hd rfl k
theorem V_aldN5 {a0 a1 a2 a3 a4 : Option Value} (hd : decode cc pc = .ok (.aload 5, 2)) (k : V X D tc cc own nL (pc + 2) (a0 :: a1 :: a2 :: a3 :: a4 :: some .null :: t) (.null :: st) ws) : V X D tc cc own nL pc (a0 :: a1 :: a2 :: a3 :: a4 :: some .null :: t) st ws := V_aloadNG hd rfl k
theorem V_ist5 {a0 a1 a2 a3 a4 a5 : Option Value} {x : Int32} (hd : decode cc pc = .ok (.istore 5, 2)) (hf : lflat (a0 :: a1 :: a2 :: a3 :: a4 :: a5 :: t) = true) (hn : 5 < nL) (k : V X D tc cc own nL (pc + 2) (a0 :: a1 :: a2 :: a3 :: a4 :: some (.int x) :: t) st ws) : V X D tc cc own nL pc (a0 :: a1 :: a2 :: a3 :: a4 :: a5 :: t) (.int x :: st) ws := V_istoreG hd hf hn k
theorem V_ast5 {a0 a1 a2 a3 a4 a5 : Option Value} {x : Nat} (hd : decode cc pc = .ok (.astore 5, 2)) (hf : lflat (a0 :: a1 :: a2 :: a3 :: a4 :: a5 :: t) = true) (hn : 5 < nL) (k : V X D tc cc own nL (pc + 2) (a0 :: a1 :: a2 :: a3 :: a4 :: some (.ref x) :: t) st ws) : V X D tc cc own nL pc (a0 :: a1 :: a2 :: a3 :: a4 :: a5 :: t) (.ref x :: st) ws := V_astoreG hd hf hn k
theorem V_astN5 {a0 a1 a2 a3 a4 a5 : Option Value} (hd : decode cc pc = .ok (.astore 5, 2)) (hf : lflat (a0 :: a1 :: a2 :: a3 :: a4 :: a5 :: t) = true) (hn : 5 < nL) (k : V X D tc cc own nL (pc + 2) (a0 :: a1 :: a2 :: a3 :: a4 :: some .null :: t) st ws) : V X D tc cc own nL pc (a0 :: a1 :: a2 :: a3 :: a4 :: a5 :: t) (.null :: st) ws := V_astoreNG hd hf hn k
theorem V_inc5 {a0 a1 a2 a3 a4 : Option Value} {n : Int} {x : Int32} (v : Int32) (hd : decode cc pc = .ok (.iinc 5 n, 3)) (hv : x + Int32.ofInt n = v) (hf : lflat (a0 :: a1 :: a2 :: a3 :: a4 :: some (.int x) :: t) = true) (hn : 5 < nL) (k : V X D tc cc own nL (pc + 3) (a0 :: a1 :: a2 :: a3 :: a4 :: some (.int v) :: t) st ws) : V X D tc cc own nL pc (a0 :: a1 :: a2 :: a3 :: a4 :: some (.int x) :: t) st ws := V_iincG v hd rfl hv hf hn k
theorem V_ild6 {a0 a1 a2 a3 a4 a5 : Option Value} {x : Int32} (hd : decode cc pc = .ok (.iload 6, 2)) (k : V X D tc cc own nL (pc + 2) (a0 :: a1 :: a2 :: a3 :: a4 :: a5 :: some (.int x) :: t) (.int x :: st) ws) : V X D tc cc own nL pc (a0 :: a1 :: a2 :: a3 :: a4 :: a5 :: some (.int x) :: t) st ws := V_iloadG hd rfl k
theorem V_ald6 {a0 a1 a2 a3 a4 a5 : Option Value} {x : Nat} (hd : decode cc pc = .ok (.aload 6, 2)) (k : V X D tc cc own nL (pc + 2) (a0 :: a1 :: a2 :: a3 :: a4 :: a5 :: some (.ref x) :: t) (.ref x :: st) ws) : V X D tc cc own nL pc (a0 :: a1 :: a2 :: a3 :: a4 :: a5 :: some (.ref x) :: t) st ws := V_aloadG hd rfl k
theorem V_aldN6 {a0 a1 a2 a3 a4 a5 : Option Value} (hd : decode cc pc = .ok (.aload 6, 2)) (k : V X D tc cc own nL (pc + 2) (a0 :: a1 :: a2 :: a3 :: a4 :: a5 :: some .null :: t) (.null :: st) ws) : V X D tc cc own nL pc (a0 :: a1 :: a2 :: a3 :: a4 :: a5 :: some .null :: t) st ws := V_aloadNG hd rfl k
theorem V_ist6 {a0 a1 a2 a3 a4 a5 a6 : Option Value} {x : Int32} (hd : decode cc pc = .ok (.istore 6, 2)) (hf : lflat (a0 :: a1 :: a2 :: a3 :: a4 :: a5 :: a6 :: t) = true) (hn : 6 < nL) (k : V X D tc cc own nL (pc + 2) (a0 :: a1 :: a2 :: a3 :: a4 :: a5 :: some (.int x) :: t) st ws) : V X D tc cc own nL pc (a0 :: a1 :: a2 :: a3 :: a4 :: a5 :: a6 :: t) (.int x :: st) ws := V_istoreG hd hf hn k
theorem V_ast6 {a0 a1 a2 a3 a4 a5 a6 : Option Value} {x : Nat} (hd : decode cc pc = .ok (.astore 6, 2)) (hf : lflat (a0 :: a1 :: a2 :: a3 :: a4 :: a5 :: a6 :: t) = true) (hn : 6 < nL) (k : V X D tc cc own nL (pc + 2) (a0 :: a1 :: a2 :: a3 :: a4 :: a5 :: some (.ref x) :: t) st ws) : V X D tc cc own nL pc (a0 :: a1 :: a2 :: a3 :: a4 :: a5 :: a6 :: t) (.ref x :: st) ws := V_astoreG hd hf hn k
theorem V_astN6 {a0 a1 a2 a3 a4 a5 a6 : Option Value} (hd : decode cc pc = .ok (.astore 6, 2)) (hf : lflat (a0 :: a1 :: a2 :: a3 :: a4 :: a5 :: a6 :: t) = true) (hn : 6 < nL) (k : V X D tc cc own nL (pc + 2) (a0 :: a1 :: a2 :: a3 :: a4 :: a5 :: some .null :: t) st ws) : V X D tc cc own nL pc (a0 :: a1 :: a2 :: a3 :: a4 :: a5 :: a6 :: t) (.null :: st) ws := V_astoreNG hd hf hn k
theorem V_inc6 {a0 a1 a2 a3 a4 a5 : Option Value} {n : Int} {x : Int32} (v : Int32) (hd : decode cc pc = .ok (.iinc 6 n, 3)) (hv : x + Int32.ofInt n = v) (hf : lflat (a0 :: a1 :: a2 :: a3 :: a4 :: a5 :: some (.int x) :: t) = true) (hn : 6 < nL) (k : V X D tc cc own nL (pc + 3) (a0 :: a1 :: a2 :: a3 :: a4 :: a5 :: some (.int v) :: t) st ws) : V X D tc cc own nL pc (a0 :: a1 :: a2 :: a3 :: a4 :: a5 :: some (.int x) :: t) st ws := V_iincG v hd rfl hv hf hn k
theorem V_ild7 {a0 a1 a2 a3 a4 a5 a6 : Option Value} {x : Int32} (hd : decode cc pc = .ok (.iload 7, 2)) (k : V X D tc cc own nL (pc + 2) (a0 :: a1 :: a2 :: a3 :: a4 :: a5 :: a6 :: some (.int x) :: t) (.int x :: st) ws) : V X D tc cc own nL pc (a0 :: a1 :: a2 :: a3 :: a4 :: a5 :: a6 :: some (.int x) :: t) st ws := V_iloadG hd rfl k
theorem V_ald7 {a0 a1 a2 a3 a4 a5 a6 : Option Value} {x : Nat} (hd : decode cc pc = .ok (.aload 7, 2)) (k : V X D tc cc own nL (pc + 2) (a0 :: a1 :: a2 :: a3 :: a4 :: a5 :: a6 :: some (.ref x) :: t) (.ref x :: st) ws) : V X D tc cc own nL pc (a0 :: a1 :: a2 :: a3 :: a4 :: a5 :: a6 :: some (.ref x) :: t) st ws := V_aloadG hd rfl k
theorem V_aldN7 {a0 a1 a2 a3 a4 a5 a6 : Option Value} (hd : decode cc pc = .ok (.aload 7, 2)) (k : V X D tc cc own nL (pc + 2) (a0 :: a1 :: a2 :: a3 :: a4 :: a5 :: a6 :: some .null :: t) (.null :: st) ws) : V X D tc cc own nL pc (a0 :: a1 :: a2 :: a3 :: a4 :: a5 :: a6 :: some .null :: t) st ws := V_aloadNG hd rfl k
theorem V_ist7 {a0 a1 a2 a3 a4 a5 a6 a7 : Option Value} {x : Int32} (hd : decode cc pc = .ok (.istore 7, 2)) (hf : lflat (a0 :: a1 :: a2 :: a3 :: a4 :: a5 :: a6 :: a7 :: t) = true) (hn : 7 < nL) (k : V X D tc cc own nL (pc + 2) (a0 :: a1 :: a2 :: a3 :: a4 :: a5 :: a6 :: some (.int x) :: t) st ws) : V X D tc cc own nL pc (a0 :: a1 :: a2 :: a3 :: a4 :: a5 :: a6 :: a7 :: t) (.int x :: st) ws := V_istoreG hd hf hn k
theorem V_ast7 {a0 a1 a2 a3 a4 a5 a6 a7 : Option Value} {x : Nat} (hd : decode cc pc = .ok (.astore 7, 2)) (hf : lflat (a0 :: a1 :: a2 :: a3 :: a4 :: a5 :: a6 :: a7 :: t) = true) (hn : 7 < nL) (k : V X D tc cc own nL (pc + 2) (a0 :: a1 :: a2 :: a3 :: a4 :: a5 :: a6 :: some (.ref x) :: t) st ws) : V X D tc cc own nL pc (a0 :: a1 :: a2 :: a3 :: a4 :: a5 :: a6 :: a7 :: t) (.ref x :: st) ws := V_astoreG hd hf hn k
theorem V_astN7 {a0 a1 a2 a3 a4 a5 a6 a7 : Option Value} (hd : decode cc pc = .ok (.astore 7, 2)) (hf : lflat (a0 :: a1 :: a2 :: a3 :: a4 :: a5 :: a6 :: a7 :: t) = true) (hn : 7 < nL) (k : V X D tc cc own nL (pc + 2) (a0 :: a1 :: a2 :: a3 :: a4 :: a5 :: a6 :: some .null :: t) st ws) : V X D tc cc own nL pc (a0 :: a1 :: a2 :: a3 :: a4 :: a5 :: a6 :: a7 :: t) (.null :: st) ws := V_astoreNG hd hf hn k
theorem V_inc7 {a0 a1 a2 a3 a4 a5 a6 : Option Value} {n : Int} {x : Int32} (v : Int32) (hd : decode cc pc = .ok (.iinc 7 n, 3)) (hv : x + Int32.ofInt n = v) (hf : lflat (a0 :: a1 :: a2 :: a3 :: a4 :: a5 :: a6 :: some (.int x) :: t) = true) (hn : 7 < nL) (k : V X D tc cc own nL (pc + 3) (a0 :: a1 :: a2 :: a3 :: a4 :: a5 :: a6 :: some (.int v) :: t) st ws) : V X D tc cc own nL pc (a0 :: a1 :: a2 :: a3 :: a4 :: a5 :: a6 :: some (.int x) :: t) st ws := V_iincG v hd rfl hv hf hn k
theorem V_ild8 {a0 a1 a2 a3 a4 a5 a6 a7 : Option Value} {x : Int32} (hd : decode cc pc = .ok (.iload 8, 2)) (k : V X D tc cc own nL (pc + 2) (a0 :: a1 :: a2 :: a3 :: a4 :: a5 :: a6 :: a7 :: some (.int x) :: t) (.int x :: st) ws) : V X D tc cc own nL pc (a0 :: a1 :: a2 :: a3 :: a4 :: a5 :: a6 :: a7 :: some (.int x) :: t) st ws := V_iloadG hd rfl k
theorem V_ald8 {a0 a1 a2 a3 a4 a5 a6 a7 : Option Value} {x : Nat} (hd : decode cc pc = .ok (.aload 8, 2)) (k : V X D tc cc own nL (pc + 2) (a0 :: a1 :: a2 :: a3 :: a4 :: a5 :: a6 :: a7 :: some (.ref x) :: t) (.ref x :: st) ws) : V X D tc cc own nL pc (a0 :: a1 :: a2 :: a3 :: a4 :: a5 :: a6 :: a7 :: some (.ref x) :: t) st ws := V_aloadG hd rfl k
theorem V_aldN8 {a0 a1 a2 a3 a4 a5 a6 a7 : Option Value} (hd : decode cc pc = .ok (.aload 8, 2)) (k : V X D tc cc own nL (pc + 2) (a0 :: a1 :: a2 :: a3 :: a4 :: a5 :: a6 :: a7 :: some .null :: t) (.null :: st) ws) : V X D tc cc own nL pc (a0 :: a1 :: a2 :: a3 :: a4 :: a5 :: a6 :: a7 :: some .null :: t) st ws := V_aloadNG hd rfl k
theorem V_ist8 {a0 a1 a2 a3 a4 a5 a6 a7 a8 : Option Value} {x : Int32} (hd : decode cc pc = .ok (.istore 8, 2)) (hf : lflat (a0 :: a1 :: a2 :: a3 :: a4 :: a5 :: a6 :: a7 :: a8 :: t) = true) (hn : 8 < nL) (k : V X D tc cc own nL (pc + 2) (a0 :: a1 :: a2 :: a3 :: a4 :: a5 :: a6 :: a7 :: some (.int x) :: t) st ws) : V X D tc cc own nL pc (a0 :: a1 :: a2 :: a3 :: a4 :: a5 :: a6 :: a7 :: a8 :: t) (.int x :: st) ws := V_istoreG hd hf hn k
theorem V_ast8 {a0 a1 a2 a3 a4 a5 a6 a7 a8 : Option Value} {x : Nat} (hd : decode cc pc = .ok (.astore 8, 2)) (hf : lflat (a0 :: a1 :: a2 :: a3 :: a4 :: a5 :: a6 :: a7 :: a8 :: t) = true) (hn : 8 < nL) (k : V X D tc cc own nL (pc + 2) (a0 :: a1 :: a2 :: a3 :: a4 :: a5 :: a6 :: a7 :: some (.ref x) :: t) st ws) : V X D tc cc own nL pc (a0 :: a1 :: a2 :: a3 :: a4 :: a5 :: a6 :: a7 :: a8 :: t) (.ref x :: st) ws := V_astoreG hd hf hn k
theorem V_astN8 {a0 a1 a2 a3 a4 a5 a6 a7 a8 : Option Value} (hd : decode cc pc = .ok (.astore 8, 2)) (hf : lflat (a0 :: a1 :: a2 :: a3 :: a4 :: a5 :: a6 :: a7 :: a8 :: t) = true) (hn : 8 < nL) (k : V X D tc cc own nL (pc + 2) (a0 :: a1 :: a2 :: a3 :: a4 :: a5 :: a6 :: a7 :: some .null :: t) st ws) : V X D tc cc own nL pc (a0 :: a1 :: a2 :: a3 :: a4 :: a5 :: a6 :: a7 :: a8 :: t) (.null :: st) ws := V_astoreNG hd hf hn k
theorem V_inc8 {a0 a1 a2 a3 a4 a5 a6 a7 : Option Value} {n : Int} {x : Int32} (v : Int32) (hd : decode cc pc = .ok (.iinc 8 n, 3)) (hv : x + Int32.ofInt n = v) (hf : lflat (a0 :: a1 :: a2 :: a3 :: a4 :: a5 :: a6 :: a7 :: some (.int x) :: t) = true) (hn : 8 < nL) (k : V X D tc cc own nL (pc + 3) (a0 :: a1 :: a2 :: a3 :: a4 :: a5 :: a6 :: a7 :: some (.int v) :: t) st ws) : V X D tc cc own nL pc (a0 :: a1 :: a2 :: a3 :: a4 :: a5 :: a6 :: a7 :: some (.int x) :: t) st ws := V_iincG v hd rfl hv hf hn k
theorem V_ild9 {a0 a1 a2 a3 a4 a5 a6 a7 a8 : Option Value} {x : Int32} (hd : decode cc pc = .ok (.iload 9, 2)) (k : V X D tc cc own nL (pc + 2) (a0 :: a1 :: a2 :: a3 :: a4 :: a5 :: a6 :: a7 :: a8 :: some (.int x) :: t) (.int x :: st) ws) : V X D tc cc own nL pc (a0 :: a1 :: a2 :: a3 :: a4 :: a5 :: a6 :: a7 :: a8 :: some (.int x) :: t) st ws := V_iloadG hd rfl k
theorem V_ald9 {a0 a1 a2 a3 a4 a5 a6 a7 a8 : Option Value} {x : Nat} (hd : decode cc pc = .ok (.aload 9, 2)) (k : V X D tc cc own nL (pc + 2) (a0 :: a1 :: a2 :: a3 :: a4 :: a5 :: a6 :: a7 :: a8 :: some (.ref x) :: t) (.ref x :: st) ws) : V X D tc cc own nL pc (a0 :: a1 :: a2 :: a3 :: a4 :: a5 :: a6 :: a7 :: a8 :: some (.ref x) :: t) st ws := V_aloadG hd rfl k
theorem V_aldN9 {a0 a1 a2 a3 a4 a5 a6 a7 a8 : Option Value} (hd : decode cc pc = .ok (.aload 9, 2)) (k : V X D tc cc own nL (pc + 2) (a0 :: a1 :: a2 :: a3 :: a4 :: a5 :: a6 :: a7 :: a8 :: some .null :: t) (.null :: st) ws) : V X D tc cc own nL pc (a0 :: a1 :: a2 :: a3 :: a4 :: a5 :: a6 :: a7 :: a8 :: some .null :: t) st ws := V_aloadNG hd rfl k
theorem V_ist9 {a0 a1 a2 a3 a4 a5 a6 a7 a8 a9 : Option Value} {x : Int32} (hd : decode cc pc = .ok (.istore 9, 2)) (hf : lflat (a0 :: a1 :: a2 :: a3 :: a4 :: a5 :: a6 :: a7 :: a8 :: a9 :: t) = true) (hn : 9 < nL) (k : V X D tc cc own nL (pc + 2) (a0 :: a1 :: a2 :: a3 :: a4 :: a5 :: a6 :: a7 :: a8 :: some (.int x) :: t) st ws) : V X D tc cc own nL pc (a0 :: a1 :: a2 :: a3 :: a4 :: a5 :: a6 :: a7 :: a8 :: a9 :: t) (.int x :: st) ws := V_istoreG hd hf hn k
theorem V_ast9 {a0 a1 a2 a3 a4 a5 a6 a7 a8 a9 : Option Value} {x : Nat} (hd : decode cc pc = .ok (.astore 9, 2)) (hf : lflat (a0 :: a1 :: a2 :: a3 :: a4 :: a5 :: a6 :: a7 :: a8 :: a9 :: t) = true) (hn : 9 < nL) (k : V X D tc cc own nL (pc + 2) (a0 :: a1 :: a2 :: a3 :: a4 :: a5 :: a6 :: a7 :: a8 :: some (.ref x) :: t) st ws) : V X D tc cc own nL pc (a0 :: a1 :: a2 :: a3 :: a4 :: a5 :: a6 :: a7 :: a8 :: a9 :: t) (.ref x :: st) ws := V_astoreG hd hf hn k
theorem V_astN9 {a0 a1 a2 a3 a4 a5 a6 a7 a8 a9 : Option Value} (hd : decode cc pc = .ok (.astore 9, 2)) (hf : lflat (a0 :: a1 :: a2 :: a3 :: a4 :: a5 :: a6 :: a7 :: a8 :: a9 :: t) = true) (hn : 9 < nL) (k : V X D tc cc own nL (pc + 2) (a0 :: a1 :: a2 :: a3 :: a4 :: a5 :: a6 :: a7 :: a8 :: some .null :: t) st ws) : V X D tc cc own nL pc (a0 :: a1 :: a2 :: a3 :: a4 :: a5 :: a6 :: a7 :: a8 :: a9 :: t) (.null :: st) ws := V_astoreNG hd hf hn k
theorem V_inc9 {a0 a1 a2 a3 a4 a5 a6 a7 a8 : Option Value} {n : Int} {x : Int32} (v : Int32) (hd : decode cc pc = .ok (.iinc 9 n, 3)) (hv : x + Int32.ofInt n = v) (hf : lflat (a0 :: a1 :: a2 :: a3 :: a4 :: a5 :: a6 :: a7 :: a8 :: some (.int x) :: t) = true) (hn : 9 < nL) (k : V X D tc cc own nL (pc + 3) (a0 :: a1 :: a2 :: a3 :: a4 :: a5 :: a6 :: a7 :: a8 :: some (.int v) :: t) st ws) : V X D tc cc own nL pc (a0 :: a1 :: a2 :: a3 :: a4 :: a5 :: a6 :: a7 :: a8 :: some (.int x) :: t) st ws := V_iincG v hd rfl hv hf hn k
theorem V_ild10 {a0 a1 a2 a3 a4 a5 a6 a7 a8 a9 : Option Value} {x : Int32} (hd : decode cc pc = .ok (.iload 10, 2)) (k : V X D tc cc own nL (pc + 2) (a0 :: a1 :: a2 :: a3 :: a4 :: a5 :: a6 :: a7 :: a8 :: a9 :: some (.int x) :: t) (.int x :: st) ws) : V X D tc cc own nL pc (a0 :: a1 :: a2 :: a3 :: a4 :: a5 :: a6 :: a7 :: a8 :: a9 :: some (.int x) :: t) st ws := V_iloadG hd rfl k
theorem V_ald10 {a0 a1 a2 a3 a4 a5 a6 a7 a8 a9 : Option Value} {x : Nat} (hd : decode cc pc = .ok (.aload 10, 2)) (k : V X D tc cc own nL (pc + 2) (a0 :: a1 :: a2 :: a3 :: a4 :: a5 :: a6 :: a7 :: a8 :: a9 :: some (.ref x) :: t) (.ref x :: st) ws) : V X D tc cc own nL pc (a0 :: a1 :: a2 :: a3 :: a4 :: a5 :: a6 :: a7 :: a8 :: a9 :: some (.ref x) :: t) st ws := V_aloadG hd rfl k
theorem V_aldN10 {a0 a1 a2 a3 a4 a5 a6 a7 a8 a9 : Option Value} (hd : decode cc pc = .ok (.aload 10, 2)) (k : V X D tc cc own nL (pc + 2) (a0 :: a1 :: a2 :: a3 :: a4 :: a5 :: a6 :: a7 :: a8 :: a9 :: some .null :: t) (.null :: st) ws) : V X D tc cc own nL pc (a0 :: a1 :: a2 :: a3 :: a4 :: a5 :: a6 :: a7 :: a8 :: a9 :: some .null :: t) st ws := V_aloadNG hd rfl k
theorem V_ist10 {a0 a1 a2 a3 a4 a5 a6 a7 a8 a9 a10 : Option Value} {x : Int32} (hd : decode cc pc = .ok (.istore 10, 2)) (hf : lflat (a0 :: a1 :: a2 :: a3 :: a4 :: a5 :: a6 :: a7 :: a8 :: a9 :: a10 :: t) = true) (hn : 10 < nL) (k : V X D tc cc own nL (pc + 2) (a0 :: a1 :: a2 :: a3 :: a4 :: a5 :: a6 :: a7 :: a8 :: a9 :: some (.int x) :: t) st ws) : V X D tc cc own nL pc (a0 :: a1 :: a2 :: a3 :: a4 :: a5 :: a6 :: a7 :: a8 :: a9 :: a10 :: t) (.int x :: st) ws := V_istoreG hd hf hn k
theorem V_ast10 {a0 a1 a2 a3 a4 a5 a6 a7 a8 a9 a10 : Option Value} {x : Nat} (hd : decode cc pc = .ok (.astore 10, 2)) (hf : lflat (a0 :: a1 :: a2 :: a3 :: a4 :: a5 :: a6 :: a7 :: a8 :: a9 :: a10 :: t) = true) (hn : 10 < nL) (k : V X D tc cc own nL (pc + 2) (a0 :: a1 :: a2 :: a3 :: a4 :: a5 :: a6 :: a7 :: a8 :: a9 :: some (.ref x) :: t) st ws) : V X D tc cc own nL pc (a0 :: a1 :: a2 :: a3 :: a4 :: a5 :: a6 :: a7 :: a8 :: a9 :: a10 :: t) (.ref x :: st) ws := V_astoreG hd hf hn k
theorem V_astN10 {a0 a1 a2 a3 a4 a5 a6 a7 a8 a9 a10 : Option Value} (hd : decode cc pc = .ok (.astore 10, 2)) (hf : lflat (a0 :: a1 :: a2 :: a3 :: a4 :: a5 :: a6 :: a7 :: a8 :: a9 :: a10 :: t) = true) (hn : 10 < nL) (k : V X D tc cc own nL (pc + 2) (a0 :: a1 :: a2 :: a3 :: a4 :: a5 :: a6 :: a7 :: a8 :: a9 :: some .null :: t) st ws) : V X D tc cc own nL pc (a0 :: a1 :: a2 :: a3 :: a4 :: a5 :: a6 :: a7 :: a8 :: a9 :: a10 :: t) (.null :: st) ws := V_astoreNG hd hf hn k
theorem V_inc10 {a0 a1 a2 a3 a4 a5 a6 a7 a8 a9 : Option Value} {n : Int} {x : Int32} (v : Int32) (hd : decode cc pc = .ok (.iinc 10 n, 3)) (hv : x + Int32.ofInt n = v) (hf : lflat (a0 :: a1 :: a2 :: a3 :: a4 :: a5 :: a6 :: a7 :: a8 :: a9 :: some (.int x) :: t) = true) (hn : 10 < nL) (k : V X D tc cc own nL (pc + 3) (a0 :: a1 :: a2 :: a3 :: a4 :: a5 :: a6 :: a7 :: a8 :: a9 :: some (.int v) :: t) st ws) : V X D tc cc own nL pc (a0 :: a1 :: a2 :: a3 :: a4 :: a5 :: a6 :: a7 :: a8 :: a9 :: some (.int x) :: t) st ws := V_iincG v hd rfl hv hf hn k
end VIX
end
section
/-! CONTRACTS: Ok d y .. av ws r ws': called with av over the cells ws, the method y returns r and leaves ws'; d frames are enough below it -/
def PreK (D : va_G) (tc : Tc) (ws : va_W) (sz : Nat) (U : State) : Prop := U.heap.size = sz ∧ va_P D vwCl ws U.heap ∧ va_K D vwCl (TY tc) U ∧ va_D (fun _ => True) ws ∧ Nst U
def QK (D : va_G) (r : Option Value) (ws' : va_W) (A : Nat → Prop) : Array Value → State → Outcome → State → Prop := fun _ st oc t => (oc = .returned r ∧ va_P D vwCl ws' t.heap ∧ va_D A ws') ∧ va_F A st t
def Ok (d : Nat) (y : MethodName) (cc : ByteArray) (maxL : Nat) (ret : Option FieldType) (D : va_G) (tc : Tc) (av : List Value) (ws : va_W) (r : Option Value) (ws' : va_W) : Prop :=
  ∀ (l : Launch) (sz : Nat), Met l y (.code y cc maxL ret :: bigW) (rmD d) (va_Pc av (PreK D tc ws sz)) (QK D r ws' (va_A ws sz)) 0 0 (va_A ws sz)
/-- what a body's context aims at -/
def Aim (X : Cx) (D : va_G) (ret : Option FieldType) (d : Nat) (r : Option Value) (ws' : va_W) : Prop := X.2.2.1.2.1 = MQ X.2.1.2.2.1 (QK D r ws' X.2.2.1.1) X.2.1.2.1 X.1.2.2.2.2 0 0 X.2.2.1.1 ∧ X.2.2.1.2.2 = ret ∧ X.2.2.2 = (d, 0, 0)
theorem Ok_of {d : Nat} {y : MethodName} {cc : ByteArray} {maxL : Nat} {ret : Option FieldType} {D : va_G} {tc : Tc} {av : List Value} {ws : va_W} {r : Option Value} {ws' : va_W} (own : String) (hown : y.cls = own) (hy : plainName y.cls = true) (L0 : List (Option Value)) (hL : lvp 0 L0 = lv_args 0 av) (hlen : (lg_sl av).length ≤ maxL)
    (body : ∀ X : Cx, Aim X D ret d r ws' → V X D tc cc own maxL 0 L0 [] ws) : Ok d y cc maxL ret D tc av ws r ws' := by
  intro l sz
  refine Met.ofW (cc := cc) (maxL := maxL) (ret := ret) hy rfl ?_
  intro p e s m args below meth c s₁ B hml hv
  obtain ⟨rfl, hsz, hP, hK, hD0, hN⟩ := hv
  have hts := atoms_spec (ws := .code y cc maxL ret :: bigW) B.pre
  have ho : s.vm.findClass own = some m.cls := hown ▸ findClass_of_methodNamed B.named
  subst hsz
  have hD := hD0.self (sz := s.heap.size)
  have hl := lv_entry av (n := maxL) hlen
  rw [lg_entry_eq]
  exact body ((p, l, e, (headSpec (.code y cc maxL ret :: bigW) (rmD d)).room, s), (m, av.toArray, below, meth, c), (va_A ws s.heap.size, _, ret), (d, 0, 0)) ⟨rfl, rfl, rfl⟩
    ⟨B.exec, B.bytes, hml, ho, fun w hw => hts w (List.mem_cons_of_mem _ hw), hK, hN, fun q h => Or.inr h, B.returns, B.notSynchronized, ⟨Nat.le_refl _, Nat.le_refl _⟩, Nat.zero_le _, Nat.zero_le _⟩ s.heap [] _ hP hD va_S.rf (lvH.of hl hL)
section VRET
variable {X : Cx} {D : va_G} {tc : Tc} {cc : ByteArray} {own : String} {nL pc : Nat} {L : List (Option Value)} {st : List Value} {ws : va_W} {ret : Option FieldType} {d : Nat} {r : Option Value} {ws' : va_W}
theorem V_iret {v : Int32} (hX : Aim X D ret d r ws') (hd : decode cc pc = .ok (.ireturn, 1)) (hret : ret = some .int) (hr : r = some (.int v)) (hw : ws' = ws) : V X D tc cc own nL pc L [.int v] ws := by
  intro F H locs ls hP hD hS hl
  subst hr; subst hw
  obtain ⟨h1, h2, h3⟩ := hX
  unfold WW
  rw [h1, h3]
  exact W.iret F.1 F.2.1 (by rw [F.2.2.2.2.2.2.2.2.1, h2, hret]) (fun t ht hW => ⟨⟨rfl, by rw [ht]; exact hP, hD⟩, hS.F ht⟩) hS.2.2 hd F.2.2.2.2.2.2.2.2.2.1
theorem V_zret {v : Int32} (hX : Aim X D ret d r ws') (hd : decode cc pc = .ok (.ireturn, 1)) (hret : ret = some .boolean) (hn : v = 0 ∨ v = 1) (hr : r = some (.int v)) (hw : ws' = ws) : V X D tc cc own nL pc L [.int v] ws := by
  intro F H locs ls hP hD hS hl
  subst hr; subst hw
  obtain ⟨h1, h2, h3⟩ := hX
  unfold WW
  rw [h1, h3]
  exact W.zret (ty := .boolean) F.1 F.2.1 (by rw [F.2.2.2.2.2.2.2.2.1, h2, hret]) (by rcases hn with rfl | rfl <;> rfl) (fun t ht hW => ⟨⟨rfl, by rw [ht]; exact hP, hD⟩, hS.F ht⟩) hS.2.2 hd F.2.2.2.2.2.2.2.2.2.1
theorem V_lret {v : Int64} (hX : Aim X D ret d r ws') (hd : decode cc pc = .ok (.lreturn, 1)) (hret : ret = some .long) (hr : r = some (.long v)) (hw : ws' = ws) : V X D tc cc own nL pc L [.long v] ws := by
  intro F H locs ls hP hD hS hl
  subst hr; subst hw
  obtain ⟨h1, h2, h3⟩ := hX
  unfold WW
  rw [h1, h3]
  exact W.lret F.1 F.2.1 (by rw [F.2.2.2.2.2.2.2.2.1, h2, hret]) (fun t ht hW => ⟨⟨rfl, by rw [ht]; exact hP, hD⟩, hS.F ht⟩) hS.2.2 hd F.2.2.2.2.2.2.2.2.2.1
theorem V_vret (hX : Aim X D ret d r ws') (hd : decode cc pc = .ok (.return_, 1)) (hret : ret = none) (hr : r = none) (hw : ws' = ws) : V X D tc cc own nL pc L [] ws := by
  intro F H locs ls hP hD hS hl
  subst hr; subst hw
  obtain ⟨h1, h2, h3⟩ := hX
  unfold WW
  rw [h1, h3]
  exact W.vret F.1 F.2.1 (by rw [F.2.2.2.2.2.2.2.2.1, h2, hret]) (fun t ht hW => ⟨⟨rfl, by rw [ht]; exact hP, hD⟩, hS.F ht⟩) hS.2.2 hd F.2.2.2.2.2.2.2.2.2.1
theorem V_aret {v : Value} {n : String} (hX : Aim X D ret d r ws') (hd : decode cc pc = .ok (.areturn, 1)) (hret : ret = some (.object n)) (hv : v = .null ∨ ∃ a, v = .ref a) (hr : r = some v) (hw : ws' = ws) : V X D tc cc own nL pc L [v] ws := by
  intro F H locs ls hP hD hS hl
  subst hr; subst hw
  obtain ⟨h1, h2, h3⟩ := hX
  unfold WW
  rw [h1, h3]
  exact W.aret (rt := .object n) F.1 F.2.1 (by rw [F.2.2.2.2.2.2.2.2.1, h2, hret]) (Or.inl ⟨n, rfl⟩) hv (fun t ht hW => ⟨⟨rfl, by rw [ht]; exact hP, hD⟩, hS.F ht⟩) hS.2.2 hd F.2.2.2.2.2.2.2.2.2.1
end VRET
def okN (y : MethodName) (n : Nat) : Prop := y.cls ≠ "java/lang/invoke/MethodHandle" ∧ y.cls ≠ "java/lang/invoke/VarHandle" ∧ (parseMethodDescriptor y.desc).map (fun d => d.parameters.length) = some n
def LinkV (own : String) (idx : Nat) (C : String) (y : MethodName) (cc : ByteArray) (maxL : Nat) (ret : Option FieldType) (n : Nat) : Prop := Cond.methodLink own idx y ∈ bigW ∧ Cond.instanceMethod y ∈ bigW ∧ Cond.selects C y y ∈ bigW ∧ Cond.initialized C ∈ bigW ∧ Cond.code y cc maxL ret ∈ bigW ∧ y.cls = C ∧ okN y n
def LinkS (own : String) (idx : Nat) (y : MethodName) (cc : ByteArray) (maxL : Nat) (ret : Option FieldType) (n : Nat) : Prop := Cond.methodLink own idx y ∈ bigW ∧ Cond.static y ∈ bigW ∧ Cond.initialized y.cls ∈ bigW ∧ Cond.code y cc maxL ret ∈ bigW ∧ okN y n
def LinkN (own : String) (idx : Nat) (y : MethodName) (cc : ByteArray) (maxL : Nat) (ret : Option FieldType) (n : Nat) : Prop := (own, idx, y) ∈ nstW ∧ Cond.static y ∈ bigW ∧ Cond.initialized y.cls ∈ bigW ∧ Cond.code y cc maxL ret ∈ bigW ∧ okN y n
theorem goodY {y : MethodName} {cc : ByteArray} {maxL : Nat} {ret : Option FieldType} (h : Cond.code y cc maxL ret ∈ bigW) : ∀ w ∈ (Cond.code y cc maxL ret :: bigW), w ∈ bigW := fun w hw => by
  rcases List.mem_cons.mp hw with rfl | hw
  · exact h
  · exact hw
theorem PreK.blind {D : va_G} {tc : Tc} {av : List Value} {ws : va_W} {sz : Nat} : FrameBlind (va_Pc av (PreK D tc ws sz)) := fun a U g mk q => by
  obtain ⟨q0, q1, qP, qK, qD, qN⟩ := q
  exact ⟨q0, q1, qP, va_K.moved (u := U) (U := U.calling g mk a) (Vm.Alike.refl U.vm) qK, qD, qN.call⟩
section VCALL
variable {X : Cx} {D : va_G} {tc : Tc} {cc : ByteArray} {own : String} {nL pc : Nat} {L : List (Option Value)} {st : List Value} {ws : va_W}
/-- behind a call -/
theorem V_back {p : Program} {d' : Nat} {r : Option Value} {ws' : va_W} {rest : List Value} {a : Array Value} (F : Fx X D tc cc own nL) {H : Heap} {locs : List Loc} {ls : Array Slot} (hP : va_P D vwCl ws H) (hD : va_D X.2.2.1.1 ws) (hS : va_S X.2.2.1.1 X.1.2.2.2.2.heap H locs) (hl : lvH ls nL L)
    (run : va_Run X.1.1 X.1.2.1 X.1.2.2.1 X.1.2.2.2.1 X.1.2.2.2.2 X.2.1.1 X.2.1.2.1 X.2.1.2.2.1 X.2.1.2.2.2.1 X.2.1.2.2.2.2 H locs X.2.2.2.2.1 X.2.2.2.2.2 0 0 (F0 X.2.1.1 pc ls st) rest (QK D r ws' (va_A ws H.size) a) (va_A ws H.size))
    (k : V X D tc cc own nL (pc + 3) L (r.toList ++ rest) ws') : WW X H locs (F0 X.2.1.1 pc ls st) := by
  have hfree : ∀ q, va_A ws H.size q → X.2.2.1.1 q := by
    rintro q (⟨j, e, h⟩ | h)
    · exact hD.2 j _ h
    · exact F.2.2.2.2.2.2.2.1 q (Nat.le_trans hS.1 h)
  intro T hT St
  obtain ⟨v, st₀, t, T', L', h0, X', hL, e1, e2, ⟨⟨hv, hP', hD'⟩, hz, hk⟩, go⟩ := run T hT St
  cases hv
  rw [h0] at hz hk
  obtain ⟨t2, a1, b1⟩ := k F T'.heap (locs ++ L') ls (by rw [e1]; exact hP') (hD'.weaken (fun _ _ _ h => hfree _ h))
    ⟨Nat.le_trans hS.1 (by rw [e1]; exact hz), fun q h1 h2 => by rw [e1, hk q (Nat.lt_of_lt_of_le h1 hS.1) (fun z => h2 (hfree q z))]; exact hS.2.1 q h1 h2, fun q hq => by
      rcases List.mem_append.mp hq with h | h
      · exact hS.2.2 q h
      · exact hfree _ (hL q h)⟩ hl T' rfl X'
  exact ⟨t2, go t2 a1, b1⟩
theorem V_callVG {d' idx maxL ci N b : Nat} {C : String} {T : u_T} {y : MethodName} {cc' : ByteArray} {ret : Option FieldType} {As rest : List Value} {r : Option Value} {ws' : va_W} {fs : List Value} (hl : LinkV own idx C y cc' maxL ret As.length) (hok : Ok d' y cc' maxL ret D tc (.ref b :: As) ws r ws') (hd : decode cc pc = .ok (.invokevirtual idx, 3)) {q0 : Nat} (he : ws[q0]? = some (b, .inr (ci, fs))) (hc : vwCl[ci]? = some (C, T, N)) (hdep : d' + 1 ≤ X.2.2.2.1 ∧ maxL ≤ 16) (hst : st = As.reverse ++ .ref b :: rest) (hcat : (rest.map fun v => v.category).sum ≤ 8) (k : V X D tc cc own nL (pc + 3) L (r.toList ++ rest) ws') : V X D tc cc own nL pc L st ws := by
  intro F H locs ls hP hD hS hlv
  obtain ⟨m1, m2, m3, m4, m5, m6, m7⟩ := hl
  have hR := F.2.2.2.2.2.2.2.2.2.2.1
  refine V_back (p := X.1.1) (d' := d') F hP hD hS hlv (va_runV (As := As) (rest := rest) (C := C) (b := b) (n := As.length) ⟨F.1, F.2.1, F.2.2.1, F.2.2.2.1, F.2.2.2.2.1⟩ (hok X.1.2.1 H.size) (cwV As.length F.2.2.2.2.1 (bigW_in (fun w hw => ?_)) rfl rfl rfl ⟨m6, m7⟩ ⟨by show d' + 1 ≤ _; omega, by show 8 + (maxL + 11) + 35 * d' ≤ _; omega⟩) ⟨PreK.blind, va_recv F.2.2.2.2.2.1 hP hc he, fun U hU hW => ⟨rfl, by rw [hU], by rw [hU]; exact hP, va_K.moved hW.alike F.2.2.2.2.2.1, hD.weaken (fun _ _ _ _ => trivial), F.2.2.2.2.2.2.1.warm hW⟩⟩ rfl rfl hlv.1 hst (lv_room hcat) hd ⟨F.2.2.2.2.2.2.2.2.2.2.2.1, F.2.2.2.2.2.2.2.2.2.2.2.2⟩) k
  rcases List.mem_append.mp hw with h | h
  · simp only [List.mem_cons, List.not_mem_nil, or_false] at h
    rcases h with rfl | rfl | rfl | rfl
    · exact m1
    · exact m2
    · exact m3
    · exact m4
  · exact goodY m5 w h
theorem V_callSG {d' idx maxL : Nat} {y : MethodName} {cc' : ByteArray} {ret : Option FieldType} {As rest : List Value} {r : Option Value} {ws' : va_W} (hl : LinkS own idx y cc' maxL ret As.length) (hok : Ok d' y cc' maxL ret D tc As ws r ws') (hd : decode cc pc = .ok (.invokestatic idx, 3)) (hdep : d' + 1 ≤ X.2.2.2.1 ∧ maxL ≤ 16) (hst : st = As.reverse ++ rest) (hcat : (rest.map fun v => v.category).sum ≤ 8) (k : V X D tc cc own nL (pc + 3) L (r.toList ++ rest) ws') : V X D tc cc own nL pc L st ws := by
  intro F H locs ls hP hD hS hlv
  obtain ⟨m1, m2, m3, m5, m7⟩ := hl
  have hR := F.2.2.2.2.2.2.2.2.2.2.1
  have ht := F.2.2.2.2.1
  exact V_back (p := X.1.1) (d' := d') F hP hD hS hlv (va_runS (As := As) (rest := rest) (n := As.length) ⟨F.1, F.2.1, F.2.2.1, F.2.2.2.1, F.2.2.2.2.1⟩ (hok X.1.2.1 H.size) ⟨callB_of As.length ht (bigW_in (goodY m5)) rfl rfl rfl (ht _ m3) (ht _ m1) m7 ⟨by show d' + 1 ≤ _; omega, by show 8 + (maxL + 11) + 35 * d' ≤ _; omega⟩, ht _ m2⟩ ⟨PreK.blind, fun U hU hW => ⟨rfl, by rw [hU], by rw [hU]; exact hP, va_K.moved hW.alike F.2.2.2.2.2.1, hD.weaken (fun _ _ _ _ => trivial), F.2.2.2.2.2.2.1.warm hW⟩⟩ rfl rfl hlv.1 hst (lv_room hcat) hd ⟨F.2.2.2.2.2.2.2.2.2.2.2.1, F.2.2.2.2.2.2.2.2.2.2.2.2⟩) k
theorem V_callNG {d' idx maxL : Nat} {y : MethodName} {cc' : ByteArray} {ret : Option FieldType} {As rest : List Value} {r : Option Value} {ws' : va_W} (hl : LinkN own idx y cc' maxL ret As.length) (hok : Ok d' y cc' maxL ret D tc As ws r ws') (hd : decode cc pc = .ok (.invokestatic idx, 3)) (hdep : d' + 1 ≤ X.2.2.2.1 ∧ maxL ≤ 16) (hst : st = As.reverse ++ rest) (hcat : (rest.map fun v => v.category).sum ≤ 8) (k : V X D tc cc own nL (pc + 3) L (r.toList ++ rest) ws') : V X D tc cc own nL pc L st ws := by
  intro F H locs ls hP hD hS hlv
  obtain ⟨m1, m2, m3, m5, m7⟩ := hl
  have hR := F.2.2.2.2.2.2.2.2.2.2.1
  have ht := F.2.2.2.2.1
  exact V_back (p := X.1.1) (d' := d') F hP hD hS hlv (va_runSN (As := As) (rest := rest) (n := As.length) (host := RX5) ⟨F.1, F.2.1, F.2.2.1, F.2.2.2.1, F.2.2.2.2.1⟩ (hok X.1.2.1 H.size) ⟨va_cnB As.length ht (bigW_in (goodY m5)) rfl rfl rfl (F.2.2.2.2.2.2.1 _ m1) (ht _ m3) m7 ⟨by show d' + 1 ≤ _; omega, by show 8 + (maxL + 11) + 35 * d' ≤ _; omega⟩, ht _ m2, trivial⟩ ⟨PreK.blind, fun U hU hW => ⟨rfl, by rw [hU], by rw [hU]; exact hP, va_K.moved hW.alike F.2.2.2.2.2.1, hD.weaken (fun _ _ _ _ => trivial), F.2.2.2.2.2.2.1.warm hW⟩⟩ rfl rfl hlv.1 hst (lv_room hcat) hd ⟨F.2.2.2.2.2.2.2.2.2.2.2.1, F.2.2.2.2.2.2.2.2.2.2.2.2⟩) k
end VCALL
end
