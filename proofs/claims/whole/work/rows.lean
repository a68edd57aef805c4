section
-- ===== PART A: goes FIRST, ahead of the names: the tables' words, and 'selects' of the private methods out of them =====
/-- a private method of a class that the tables say can be made, by its rows of tables_1 -/
def lw_okq (q : MethodName × Nat) : Prop := (q.1.cls ≠ "java/lang/invoke/MethodHandle" ∧ q.1.cls ≠ "java/lang/invoke/VarHandle") ∧ Cond.instantiable q.1.cls q.2 ∈ tables_1 ∧ Cond.privateMethod q.1 ∈ tables_1 ∧ Cond.instanceMethod q.1 ∈ tables_1
theorem lw_p0 : lw_okq (⟨"ListingRow$Directory", "compareAt", "(I[BI)I"⟩, 1) := ⟨⟨by decide +kernel, by decide +kernel⟩, List.mem_of_getElem? (i := 47) (by decide +kernel), List.mem_of_getElem? (i := 298) (by decide +kernel), List.mem_of_getElem? (i := 299) (by decide +kernel)⟩
theorem lw_p1 : lw_okq (⟨"ListingRow$Known", "placeOf", "(I)I"⟩, 1) := ⟨⟨by decide +kernel, by decide +kernel⟩, List.mem_of_getElem? (i := 84) (by decide +kernel), List.mem_of_getElem? (i := 336) (by decide +kernel), List.mem_of_getElem? (i := 337) (by decide +kernel)⟩
theorem lw_p2 : lw_okq (⟨"ListingRow$Known", "hasAt", "(II)Z"⟩, 1) := ⟨⟨by decide +kernel, by decide +kernel⟩, List.mem_of_getElem? (i := 84) (by decide +kernel), List.mem_of_getElem? (i := 342) (by decide +kernel), List.mem_of_getElem? (i := 343) (by decide +kernel)⟩
theorem lw_p3 : lw_okq (⟨"java/util/ArrayList", "rangeCheckForAdd", "(I)V"⟩, 3) := ⟨⟨by decide +kernel, by decide +kernel⟩, List.mem_of_getElem? (i := 53) (by decide +kernel), List.mem_of_getElem? (i := 403) (by decide +kernel), List.mem_of_getElem? (i := 404) (by decide +kernel)⟩
theorem lw_p4 : lw_okq (⟨"java/util/ArrayList", "grow", "()[Ljava/lang/Object;"⟩, 3) := ⟨⟨by decide +kernel, by decide +kernel⟩, List.mem_of_getElem? (i := 53) (by decide +kernel), List.mem_of_getElem? (i := 407) (by decide +kernel), List.mem_of_getElem? (i := 408) (by decide +kernel)⟩
theorem lw_p5 : lw_okq (⟨"java/util/ArrayList", "grow", "(I)[Ljava/lang/Object;"⟩, 3) := ⟨⟨by decide +kernel, by decide +kernel⟩, List.mem_of_getElem? (i := 53) (by decide +kernel), List.mem_of_getElem? (i := 411) (by decide +kernel), List.mem_of_getElem? (i := 412) (by decide +kernel)⟩
theorem lw_p6 : lw_okq (⟨"java/util/ArrayList", "fastRemove", "([Ljava/lang/Object;I)V"⟩, 3) := ⟨⟨by decide +kernel, by decide +kernel⟩, List.mem_of_getElem? (i := 53) (by decide +kernel), List.mem_of_getElem? (i := 482) (by decide +kernel), List.mem_of_getElem? (i := 483) (by decide +kernel)⟩
theorem lw_p7 : lw_okq (⟨"ListingRow$Listing", "measure", "(LListingRow$Directory;I)I"⟩, 6) := ⟨⟨by decide +kernel, by decide +kernel⟩, List.mem_of_getElem? (i := 96) (by decide +kernel), List.mem_of_getElem? (i := 507) (by decide +kernel), List.mem_of_getElem? (i := 508) (by decide +kernel)⟩
theorem lw_p8 : lw_okq (⟨"ListingRow$Layout", "fitsUnderHeader", "(LListingRow$Entry;)Z"⟩, 7) := ⟨⟨by decide +kernel, by decide +kernel⟩, List.mem_of_getElem? (i := 104) (by decide +kernel), List.mem_of_getElem? (i := 522) (by decide +kernel), List.mem_of_getElem? (i := 523) (by decide +kernel)⟩
theorem lw_p9 : lw_okq (⟨"ListingRow$Layout", "openHeader", "(LListingRow$Entry;)V"⟩, 7) := ⟨⟨by decide +kernel, by decide +kernel⟩, List.mem_of_getElem? (i := 104) (by decide +kernel), List.mem_of_getElem? (i := 529) (by decide +kernel), List.mem_of_getElem? (i := 530) (by decide +kernel)⟩
theorem lw_p10 : lw_okq (⟨"ListingRow$Listing", "writeNext", "(LListingRow$Entry;)V"⟩, 6) := ⟨⟨by decide +kernel, by decide +kernel⟩, List.mem_of_getElem? (i := 96) (by decide +kernel), List.mem_of_getElem? (i := 535) (by decide +kernel), List.mem_of_getElem? (i := 536) (by decide +kernel)⟩
theorem lw_p11 : lw_okq (⟨"ListingRow$Listing", "writeHeader", "(LListingRow$Entry;I)V"⟩, 6) := ⟨⟨by decide +kernel, by decide +kernel⟩, List.mem_of_getElem? (i := 96) (by decide +kernel), List.mem_of_getElem? (i := 539) (by decide +kernel), List.mem_of_getElem? (i := 540) (by decide +kernel)⟩
theorem lw_p12 : lw_okq (⟨"ListingRow$Listing", "putU4", "(II)V"⟩, 6) := ⟨⟨by decide +kernel, by decide +kernel⟩, List.mem_of_getElem? (i := 96) (by decide +kernel), List.mem_of_getElem? (i := 543) (by decide +kernel), List.mem_of_getElem? (i := 544) (by decide +kernel)⟩
theorem lw_p13 : lw_okq (⟨"ListingRow$Listing", "putU2", "(II)V"⟩, 6) := ⟨⟨by decide +kernel, by decide +kernel⟩, List.mem_of_getElem? (i := 96) (by decide +kernel), List.mem_of_getElem? (i := 547) (by decide +kernel), List.mem_of_getElem? (i := 548) (by decide +kernel)⟩
theorem lw_p14 : lw_okq (⟨"ListingRow$Listing", "pieceOf", "(I)I"⟩, 6) := ⟨⟨by decide +kernel, by decide +kernel⟩, List.mem_of_getElem? (i := 96) (by decide +kernel), List.mem_of_getElem? (i := 551) (by decide +kernel), List.mem_of_getElem? (i := 552) (by decide +kernel)⟩
theorem lw_p15 : lw_okq (⟨"java/util/ArrayList", "add", "(Ljava/lang/Object;[Ljava/lang/Object;I)V"⟩, 3) := ⟨⟨by decide +kernel, by decide +kernel⟩, List.mem_of_getElem? (i := 53) (by decide +kernel), List.mem_of_getElem? (i := 588) (by decide +kernel), List.mem_of_getElem? (i := 589) (by decide +kernel)⟩
def lw_privs_1 : List (MethodName × Nat) := [(⟨"ListingRow$Directory", "compareAt", "(I[BI)I"⟩, 1), (⟨"ListingRow$Known", "placeOf", "(I)I"⟩, 1), (⟨"ListingRow$Known", "hasAt", "(II)Z"⟩, 1), (⟨"java/util/ArrayList", "rangeCheckForAdd", "(I)V"⟩, 3), (⟨"java/util/ArrayList", "grow", "()[Ljava/lang/Object;"⟩, 3), (⟨"java/util/ArrayList", "grow", "(I)[Ljava/lang/Object;"⟩, 3), (⟨"java/util/ArrayList", "fastRemove", "([Ljava/lang/Object;I)V"⟩, 3), (⟨"ListingRow$Listing", "measure", "(LListingRow$Directory;I)I"⟩, 6), (⟨"ListingRow$Layout", "fitsUnderHeader", "(LListingRow$Entry;)Z"⟩, 7), (⟨"ListingRow$Layout", "openHeader", "(LListingRow$Entry;)V"⟩, 7), (⟨"ListingRow$Listing", "writeNext", "(LListingRow$Entry;)V"⟩, 6), (⟨"ListingRow$Listing", "writeHeader", "(LListingRow$Entry;I)V"⟩, 6), (⟨"ListingRow$Listing", "putU4", "(II)V"⟩, 6), (⟨"ListingRow$Listing", "putU2", "(II)V"⟩, 6), (⟨"ListingRow$Listing", "pieceOf", "(I)I"⟩, 6), (⟨"java/util/ArrayList", "add", "(Ljava/lang/Object;[Ljava/lang/Object;I)V"⟩, 3)]
theorem lw_r1 : ∀ q ∈ lw_privs_1, lw_okq q := List.forall_mem_cons.mpr ⟨lw_p0, List.forall_mem_cons.mpr ⟨lw_p1, List.forall_mem_cons.mpr ⟨lw_p2, List.forall_mem_cons.mpr ⟨lw_p3, List.forall_mem_cons.mpr ⟨lw_p4, List.forall_mem_cons.mpr ⟨lw_p5, List.forall_mem_cons.mpr ⟨lw_p6, List.forall_mem_cons.mpr ⟨lw_p7, List.forall_mem_cons.mpr ⟨lw_p8, List.forall_mem_cons.mpr ⟨lw_p9, List.forall_mem_cons.mpr ⟨lw_p10, List.forall_mem_cons.mpr ⟨lw_p11, List.forall_mem_cons.mpr ⟨lw_p12, List.forall_mem_cons.mpr ⟨lw_p13, List.forall_mem_cons.mpr ⟨lw_p14, List.forall_mem_cons.mpr ⟨lw_p15, fun _ h => absurd h List.not_mem_nil⟩⟩⟩⟩⟩⟩⟩⟩⟩⟩⟩⟩⟩⟩⟩⟩
theorem lw_p16 : lw_okq (⟨"ListingRow$Judge", "judgeAnew", "()I"⟩, 5) := ⟨⟨by decide +kernel, by decide +kernel⟩, List.mem_of_getElem? (i := 222) (by decide +kernel), List.mem_of_getElem? (i := 638) (by decide +kernel), List.mem_of_getElem? (i := 639) (by decide +kernel)⟩
theorem lw_p17 : lw_okq (⟨"ListingRow$Walk", "readHeader", "()Z"⟩, 12) := ⟨⟨by decide +kernel, by decide +kernel⟩, List.mem_of_getElem? (i := 166) (by decide +kernel), List.mem_of_getElem? (i := 655) (by decide +kernel), List.mem_of_getElem? (i := 656) (by decide +kernel)⟩
theorem lw_p18 : lw_okq (⟨"ListingRow$Walk", "readEntry", "()Z"⟩, 12) := ⟨⟨by decide +kernel, by decide +kernel⟩, List.mem_of_getElem? (i := 166) (by decide +kernel), List.mem_of_getElem? (i := 665) (by decide +kernel), List.mem_of_getElem? (i := 666) (by decide +kernel)⟩
theorem lw_p19 : lw_okq (⟨"ListingRow$Judge", "isEntryRight", "(II)Z"⟩, 5) := ⟨⟨by decide +kernel, by decide +kernel⟩, List.mem_of_getElem? (i := 222) (by decide +kernel), List.mem_of_getElem? (i := 673) (by decide +kernel), List.mem_of_getElem? (i := 674) (by decide +kernel)⟩
theorem lw_p20 : lw_okq (⟨"ListingRow$Judge", "isMarkRight", "()Z"⟩, 5) := ⟨⟨by decide +kernel, by decide +kernel⟩, List.mem_of_getElem? (i := 222) (by decide +kernel), List.mem_of_getElem? (i := 688) (by decide +kernel), List.mem_of_getElem? (i := 689) (by decide +kernel)⟩
theorem lw_p21 : lw_okq (⟨"ListingRowModel", "use", "()I"⟩, 29) := ⟨⟨by decide +kernel, by decide +kernel⟩, List.mem_of_getElem? (i := 721) (by decide +kernel), List.mem_of_getElem? (i := 827) (by decide +kernel), List.mem_of_getElem? (i := 828) (by decide +kernel)⟩
theorem lw_p22 : lw_okq (⟨"ListingRowModel", "isName", "(I)Z"⟩, 29) := ⟨⟨by decide +kernel, by decide +kernel⟩, List.mem_of_getElem? (i := 721) (by decide +kernel), List.mem_of_getElem? (i := 832) (by decide +kernel), List.mem_of_getElem? (i := 833) (by decide +kernel)⟩
theorem lw_p23 : lw_okq (⟨"ListingRowModel", "entryOfTape", "(I)I"⟩, 29) := ⟨⟨by decide +kernel, by decide +kernel⟩, List.mem_of_getElem? (i := 721) (by decide +kernel), List.mem_of_getElem? (i := 836) (by decide +kernel), List.mem_of_getElem? (i := 837) (by decide +kernel)⟩
theorem lw_p24 : lw_okq (⟨"ListingRowModel", "orderOfTape", "(II)I"⟩, 29) := ⟨⟨by decide +kernel, by decide +kernel⟩, List.mem_of_getElem? (i := 721) (by decide +kernel), List.mem_of_getElem? (i := 840) (by decide +kernel), List.mem_of_getElem? (i := 841) (by decide +kernel)⟩
theorem lw_p25 : lw_okq (⟨"ListingRowModel", "nameByte", "(II)I"⟩, 29) := ⟨⟨by decide +kernel, by decide +kernel⟩, List.mem_of_getElem? (i := 721) (by decide +kernel), List.mem_of_getElem? (i := 844) (by decide +kernel), List.mem_of_getElem? (i := 845) (by decide +kernel)⟩
theorem lw_p26 : lw_okq (⟨"ListingRowModel", "knownAt", "(J)I"⟩, 29) := ⟨⟨by decide +kernel, by decide +kernel⟩, List.mem_of_getElem? (i := 721) (by decide +kernel), List.mem_of_getElem? (i := 848) (by decide +kernel), List.mem_of_getElem? (i := 849) (by decide +kernel)⟩
theorem lw_p27 : lw_okq (⟨"ListingRowModel", "sort", "()V"⟩, 29) := ⟨⟨by decide +kernel, by decide +kernel⟩, List.mem_of_getElem? (i := 721) (by decide +kernel), List.mem_of_getElem? (i := 865) (by decide +kernel), List.mem_of_getElem? (i := 866) (by decide +kernel)⟩
theorem lw_p28 : lw_okq (⟨"ListingRowModel", "isBefore", "(II)Z"⟩, 29) := ⟨⟨by decide +kernel, by decide +kernel⟩, List.mem_of_getElem? (i := 721) (by decide +kernel), List.mem_of_getElem? (i := 869) (by decide +kernel), List.mem_of_getElem? (i := 870) (by decide +kernel)⟩
theorem lw_p29 : lw_okq (⟨"ListingRowModel", "measure", "(I)I"⟩, 29) := ⟨⟨by decide +kernel, by decide +kernel⟩, List.mem_of_getElem? (i := 721) (by decide +kernel), List.mem_of_getElem? (i := 873) (by decide +kernel), List.mem_of_getElem? (i := 874) (by decide +kernel)⟩
theorem lw_p30 : lw_okq (⟨"ListingRowModel", "takes", "(IIIII)Z"⟩, 29) := ⟨⟨by decide +kernel, by decide +kernel⟩, List.mem_of_getElem? (i := 721) (by decide +kernel), List.mem_of_getElem? (i := 877) (by decide +kernel), List.mem_of_getElem? (i := 878) (by decide +kernel)⟩
theorem lw_p31 : lw_okq (⟨"ListingRowModel", "closeHeader", "(II)V"⟩, 29) := ⟨⟨by decide +kernel, by decide +kernel⟩, List.mem_of_getElem? (i := 721) (by decide +kernel), List.mem_of_getElem? (i := 882) (by decide +kernel), List.mem_of_getElem? (i := 883) (by decide +kernel)⟩
def lw_privs_2 : List (MethodName × Nat) := [(⟨"ListingRow$Judge", "judgeAnew", "()I"⟩, 5), (⟨"ListingRow$Walk", "readHeader", "()Z"⟩, 12), (⟨"ListingRow$Walk", "readEntry", "()Z"⟩, 12), (⟨"ListingRow$Judge", "isEntryRight", "(II)Z"⟩, 5), (⟨"ListingRow$Judge", "isMarkRight", "()Z"⟩, 5), (⟨"ListingRowModel", "use", "()I"⟩, 29), (⟨"ListingRowModel", "isName", "(I)Z"⟩, 29), (⟨"ListingRowModel", "entryOfTape", "(I)I"⟩, 29), (⟨"ListingRowModel", "orderOfTape", "(II)I"⟩, 29), (⟨"ListingRowModel", "nameByte", "(II)I"⟩, 29), (⟨"ListingRowModel", "knownAt", "(J)I"⟩, 29), (⟨"ListingRowModel", "sort", "()V"⟩, 29), (⟨"ListingRowModel", "isBefore", "(II)Z"⟩, 29), (⟨"ListingRowModel", "measure", "(I)I"⟩, 29), (⟨"ListingRowModel", "takes", "(IIIII)Z"⟩, 29), (⟨"ListingRowModel", "closeHeader", "(II)V"⟩, 29)]
theorem lw_r2 : ∀ q ∈ lw_privs_2, lw_okq q := List.forall_mem_cons.mpr ⟨lw_p16, List.forall_mem_cons.mpr ⟨lw_p17, List.forall_mem_cons.mpr ⟨lw_p18, List.forall_mem_cons.mpr ⟨lw_p19, List.forall_mem_cons.mpr ⟨lw_p20, List.forall_mem_cons.mpr ⟨lw_p21, List.forall_mem_cons.mpr ⟨lw_p22, List.forall_mem_cons.mpr ⟨lw_p23, List.forall_mem_cons.mpr ⟨lw_p24, List.forall_mem_cons.mpr ⟨lw_p25, List.forall_mem_cons.mpr ⟨lw_p26, List.forall_mem_cons.mpr ⟨lw_p27, List.forall_mem_cons.mpr ⟨lw_p28, List.forall_mem_cons.mpr ⟨lw_p29, List.forall_mem_cons.mpr ⟨lw_p30, List.forall_mem_cons.mpr ⟨lw_p31, fun _ h => absurd h List.not_mem_nil⟩⟩⟩⟩⟩⟩⟩⟩⟩⟩⟩⟩⟩⟩⟩⟩
theorem lw_p32 : lw_okq (⟨"ListingRowModel", "noteIndex", "(II)V"⟩, 29) := ⟨⟨by decide +kernel, by decide +kernel⟩, List.mem_of_getElem? (i := 721) (by decide +kernel), List.mem_of_getElem? (i := 886) (by decide +kernel), List.mem_of_getElem? (i := 887) (by decide +kernel)⟩
theorem lw_p33 : lw_okq (⟨"ListingRowModel", "put", "(II)V"⟩, 29) := ⟨⟨by decide +kernel, by decide +kernel⟩, List.mem_of_getElem? (i := 721) (by decide +kernel), List.mem_of_getElem? (i := 890) (by decide +kernel), List.mem_of_getElem? (i := 891) (by decide +kernel)⟩
theorem lw_p34 : lw_okq (⟨"ListingRowModel", "count", "()I"⟩, 29) := ⟨⟨by decide +kernel, by decide +kernel⟩, List.mem_of_getElem? (i := 721) (by decide +kernel), List.mem_of_getElem? (i := 922) (by decide +kernel), List.mem_of_getElem? (i := 923) (by decide +kernel)⟩
theorem lw_p35 : lw_okq (⟨"ListingRowModel", "step", "(Z)I"⟩, 29) := ⟨⟨by decide +kernel, by decide +kernel⟩, List.mem_of_getElem? (i := 721) (by decide +kernel), List.mem_of_getElem? (i := 926) (by decide +kernel), List.mem_of_getElem? (i := 927) (by decide +kernel)⟩
theorem lw_p36 : lw_okq (⟨"ListingRowModel", "u2", "(I)I"⟩, 29) := ⟨⟨by decide +kernel, by decide +kernel⟩, List.mem_of_getElem? (i := 721) (by decide +kernel), List.mem_of_getElem? (i := 930) (by decide +kernel), List.mem_of_getElem? (i := 931) (by decide +kernel)⟩
theorem lw_p37 : lw_okq (⟨"ListingRowModel", "u4", "(I)J"⟩, 29) := ⟨⟨by decide +kernel, by decide +kernel⟩, List.mem_of_getElem? (i := 721) (by decide +kernel), List.mem_of_getElem? (i := 934) (by decide +kernel), List.mem_of_getElem? (i := 935) (by decide +kernel)⟩
theorem lw_p38 : lw_okq (⟨"ListingRowModel", "isEntryRight", "()Z"⟩, 29) := ⟨⟨by decide +kernel, by decide +kernel⟩, List.mem_of_getElem? (i := 721) (by decide +kernel), List.mem_of_getElem? (i := 938) (by decide +kernel), List.mem_of_getElem? (i := 939) (by decide +kernel)⟩
theorem lw_p39 : lw_okq (⟨"ListingRowModel", "sizeHere", "()I"⟩, 29) := ⟨⟨by decide +kernel, by decide +kernel⟩, List.mem_of_getElem? (i := 721) (by decide +kernel), List.mem_of_getElem? (i := 942) (by decide +kernel), List.mem_of_getElem? (i := 943) (by decide +kernel)⟩
theorem lw_p40 : lw_okq (⟨"ListingRowModel", "byteHere", "(I)I"⟩, 29) := ⟨⟨by decide +kernel, by decide +kernel⟩, List.mem_of_getElem? (i := 721) (by decide +kernel), List.mem_of_getElem? (i := 946) (by decide +kernel), List.mem_of_getElem? (i := 947) (by decide +kernel)⟩
theorem lw_p41 : lw_okq (⟨"ListingRowModel", "numberHere", "()J"⟩, 29) := ⟨⟨by decide +kernel, by decide +kernel⟩, List.mem_of_getElem? (i := 721) (by decide +kernel), List.mem_of_getElem? (i := 950) (by decide +kernel), List.mem_of_getElem? (i := 951) (by decide +kernel)⟩
theorem lw_p42 : lw_okq (⟨"ListingRowModel", "isBehind", "(II)Z"⟩, 29) := ⟨⟨by decide +kernel, by decide +kernel⟩, List.mem_of_getElem? (i := 721) (by decide +kernel), List.mem_of_getElem? (i := 954) (by decide +kernel), List.mem_of_getElem? (i := 955) (by decide +kernel)⟩
theorem lw_p43 : lw_okq (⟨"ListingRowModel", "isIndexRight", "(I)Z"⟩, 29) := ⟨⟨by decide +kernel, by decide +kernel⟩, List.mem_of_getElem? (i := 721) (by decide +kernel), List.mem_of_getElem? (i := 958) (by decide +kernel), List.mem_of_getElem? (i := 959) (by decide +kernel)⟩
theorem lw_p44 : lw_okq (⟨"ListingRowModel", "isIndexHere", "(I)Z"⟩, 29) := ⟨⟨by decide +kernel, by decide +kernel⟩, List.mem_of_getElem? (i := 721) (by decide +kernel), List.mem_of_getElem? (i := 962) (by decide +kernel), List.mem_of_getElem? (i := 963) (by decide +kernel)⟩
theorem lw_p45 : lw_okq (⟨"ListingRowModel", "orderOfIndex", "(II)I"⟩, 29) := ⟨⟨by decide +kernel, by decide +kernel⟩, List.mem_of_getElem? (i := 721) (by decide +kernel), List.mem_of_getElem? (i := 974) (by decide +kernel), List.mem_of_getElem? (i := 975) (by decide +kernel)⟩
theorem lw_p46 : lw_okq (⟨"ListingRowModel", "orderHere", "(I)I"⟩, 29) := ⟨⟨by decide +kernel, by decide +kernel⟩, List.mem_of_getElem? (i := 721) (by decide +kernel), List.mem_of_getElem? (i := 978) (by decide +kernel), List.mem_of_getElem? (i := 979) (by decide +kernel)⟩
def lw_privs_3 : List (MethodName × Nat) := [(⟨"ListingRowModel", "noteIndex", "(II)V"⟩, 29), (⟨"ListingRowModel", "put", "(II)V"⟩, 29), (⟨"ListingRowModel", "count", "()I"⟩, 29), (⟨"ListingRowModel", "step", "(Z)I"⟩, 29), (⟨"ListingRowModel", "u2", "(I)I"⟩, 29), (⟨"ListingRowModel", "u4", "(I)J"⟩, 29), (⟨"ListingRowModel", "isEntryRight", "()Z"⟩, 29), (⟨"ListingRowModel", "sizeHere", "()I"⟩, 29), (⟨"ListingRowModel", "byteHere", "(I)I"⟩, 29), (⟨"ListingRowModel", "numberHere", "()J"⟩, 29), (⟨"ListingRowModel", "isBehind", "(II)Z"⟩, 29), (⟨"ListingRowModel", "isIndexRight", "(I)Z"⟩, 29), (⟨"ListingRowModel", "isIndexHere", "(I)Z"⟩, 29), (⟨"ListingRowModel", "orderOfIndex", "(II)I"⟩, 29), (⟨"ListingRowModel", "orderHere", "(I)I"⟩, 29)]
theorem lw_r3 : ∀ q ∈ lw_privs_3, lw_okq q := List.forall_mem_cons.mpr ⟨lw_p32, List.forall_mem_cons.mpr ⟨lw_p33, List.forall_mem_cons.mpr ⟨lw_p34, List.forall_mem_cons.mpr ⟨lw_p35, List.forall_mem_cons.mpr ⟨lw_p36, List.forall_mem_cons.mpr ⟨lw_p37, List.forall_mem_cons.mpr ⟨lw_p38, List.forall_mem_cons.mpr ⟨lw_p39, List.forall_mem_cons.mpr ⟨lw_p40, List.forall_mem_cons.mpr ⟨lw_p41, List.forall_mem_cons.mpr ⟨lw_p42, List.forall_mem_cons.mpr ⟨lw_p43, List.forall_mem_cons.mpr ⟨lw_p44, List.forall_mem_cons.mpr ⟨lw_p45, List.forall_mem_cons.mpr ⟨lw_p46, fun _ h => absurd h List.not_mem_nil⟩⟩⟩⟩⟩⟩⟩⟩⟩⟩⟩⟩⟩⟩⟩
def lw_privs : List (MethodName × Nat) := lw_privs_1 ++ (lw_privs_2 ++ (lw_privs_3))
def lw_tbl : List Cond := k2_sels lw_privs ++ tables_1
theorem lw_privs_ok : ∀ q ∈ lw_privs, lw_okq q := by
  show ∀ q ∈ lw_privs_1 ++ (lw_privs_2 ++ (lw_privs_3)), lw_okq q
  exact List.forall_mem_append.mpr ⟨lw_r1, List.forall_mem_append.mpr ⟨lw_r2, lw_r3⟩⟩
end
section
/-! NAMES, by program: classes, fields, methods; each word of the tables by its place -/
def R_Row : String := "ListingRow"
def F_Row : u_T := fun k => match k with
  | 0 => ("ListingRow", "tape", "LListingRow$Tape;", true)
  | 1 => ("ListingRow", "directory", "LListingRow$Directory;", true)
  | 2 => ("ListingRow", "known", "LListingRow$Known;", true)
  | 3 => ("ListingRow", "listing", "LListingRow$Listing;", true)
  | 4 => ("ListingRow", "walk", "LListingRow$Walk;", true)
  | 5 => ("ListingRow", "judge", "LListingRow$Judge;", true)
  | _ => ("ListingRow", "passedEntries", "I", false)
def t_Row : Nat → FieldType := fun k => match k with
  | 0 => .object "ListingRow$Tape"
  | 1 => .object "ListingRow$Directory"
  | 2 => .object "ListingRow$Known"
  | 3 => .object "ListingRow$Listing"
  | 4 => .object "ListingRow$Walk"
  | 5 => .object "ListingRow$Judge"
  | _ => .int
theorem n_Row : ∀ a, a < 7 → ∀ b, b < 7 → a ≠ b → (F_Row a).2.1 ≠ (F_Row b).2.1 := by decide +kernel
theorem t_Row_ok : ∀ k, k < 7 → parseFieldDescriptor (F_Row k).2.2.1 = some (t_Row k) := by decide +kernel
def R_Tape : String := "ListingRow$Tape"
def F_Tape : u_T := fun k => match k with
  | 0 => ("ListingRow$Tape", "row", "[B", true)
  | _ => ("ListingRow$Tape", "length", "I", false)
def t_Tape : Nat → FieldType := fun k => match k with
  | 0 => .array (.byte)
  | _ => .int
theorem n_Tape : ∀ a, a < 2 → ∀ b, b < 2 → a ≠ b → (F_Tape a).2.1 ≠ (F_Tape b).2.1 := by decide +kernel
theorem t_Tape_ok : ∀ k, k < 2 → parseFieldDescriptor (F_Tape k).2.2.1 = some (t_Tape k) := by decide +kernel
def R_Dir : String := "ListingRow$Directory"
def F_Dir : u_T := fun k => match k with
  | _ => ("ListingRow$Directory", "entries", "Ljava/util/ArrayList;", true)
def t_Dir : Nat → FieldType := fun k => match k with
  | _ => .object "java/util/ArrayList"
theorem n_Dir : ∀ a, a < 1 → ∀ b, b < 1 → a ≠ b → (F_Dir a).2.1 ≠ (F_Dir b).2.1 := by decide +kernel
theorem t_Dir_ok : ∀ k, k < 1 → parseFieldDescriptor (F_Dir k).2.2.1 = some (t_Dir k) := by decide +kernel
def R_AL : String := "java/util/ArrayList"
def F_AL : u_T := fun k => match k with
  | 0 => ("java/util/AbstractList", "modCount", "I", false)
  | 1 => ("java/util/ArrayList", "elementData", "[Ljava/lang/Object;", false)
  | _ => ("java/util/ArrayList", "size", "I", false)
def t_AL : Nat → FieldType := fun k => match k with
  | 0 => .int
  | 1 => .array (.object "java/lang/Object")
  | _ => .int
theorem n_AL : ∀ a, a < 3 → ∀ b, b < 3 → a ≠ b → (F_AL a).2.1 ≠ (F_AL b).2.1 := by decide +kernel
theorem t_AL_ok : ∀ k, k < 3 → parseFieldDescriptor (F_AL k).2.2.1 = some (t_AL k) := by decide +kernel
def R_Known : String := "ListingRow$Known"
def F_Known : u_T := fun k => match k with
  | _ => ("ListingRow$Known", "latest", "Ljava/util/ArrayList;", true)
def t_Known : Nat → FieldType := fun k => match k with
  | _ => .object "java/util/ArrayList"
theorem n_Known : ∀ a, a < 1 → ∀ b, b < 1 → a ≠ b → (F_Known a).2.1 ≠ (F_Known b).2.1 := by decide +kernel
theorem t_Known_ok : ∀ k, k < 1 → parseFieldDescriptor (F_Known k).2.2.1 = some (t_Known k) := by decide +kernel
def R_Lst : String := "ListingRow$Listing"
def F_Lst : u_T := fun k => match k with
  | 0 => ("ListingRow$Listing", "row", "[B", false)
  | 1 => ("ListingRow$Listing", "length", "I", false)
  | 2 => ("ListingRow$Listing", "headers", "I", false)
  | 3 => ("ListingRow$Listing", "begin", "I", false)
  | 4 => ("ListingRow$Listing", "marks", "Ljava/util/ArrayList;", true)
  | _ => ("ListingRow$Listing", "layout", "LListingRow$Layout;", true)
def t_Lst : Nat → FieldType := fun k => match k with
  | 0 => .array (.byte)
  | 1 => .int
  | 2 => .int
  | 3 => .int
  | 4 => .object "java/util/ArrayList"
  | _ => .object "ListingRow$Layout"
theorem n_Lst : ∀ a, a < 6 → ∀ b, b < 6 → a ≠ b → (F_Lst a).2.1 ≠ (F_Lst b).2.1 := by decide +kernel
theorem t_Lst_ok : ∀ k, k < 6 → parseFieldDescriptor (F_Lst k).2.2.1 = some (t_Lst k) := by decide +kernel
def R_Lay : String := "ListingRow$Layout"
def F_Lay : u_T := fun k => match k with
  | 0 => ("ListingRow$Layout", "begin", "I", false)
  | 1 => ("ListingRow$Layout", "headerStart", "I", false)
  | 2 => ("ListingRow$Layout", "end", "I", false)
  | 3 => ("ListingRow$Layout", "headerAt", "I", false)
  | 4 => ("ListingRow$Layout", "headerNumber", "I", false)
  | 5 => ("ListingRow$Layout", "headerEntries", "I", false)
  | _ => ("ListingRow$Layout", "entryAt", "I", false)
def t_Lay : Nat → FieldType := fun k => match k with
  | 0 => .int
  | 1 => .int
  | 2 => .int
  | 3 => .int
  | 4 => .int
  | 5 => .int
  | _ => .int
theorem n_Lay : ∀ a, a < 7 → ∀ b, b < 7 → a ≠ b → (F_Lay a).2.1 ≠ (F_Lay b).2.1 := by decide +kernel
theorem t_Lay_ok : ∀ k, k < 7 → parseFieldDescriptor (F_Lay k).2.2.1 = some (t_Lay k) := by decide +kernel
def R_Walk : String := "ListingRow$Walk"
def F_Walk : u_T := fun k => match k with
  | 0 => ("ListingRow$Walk", "listing", "LListingRow$Listing;", true)
  | 1 => ("ListingRow$Walk", "end", "I", false)
  | 2 => ("ListingRow$Walk", "entriesLeft", "I", false)
  | 3 => ("ListingRow$Walk", "headerNumber", "J", false)
  | 4 => ("ListingRow$Walk", "headerAt", "I", false)
  | 5 => ("ListingRow$Walk", "isFirst", "Z", false)
  | 6 => ("ListingRow$Walk", "number", "J", false)
  | 7 => ("ListingRow$Walk", "start", "J", false)
  | 8 => ("ListingRow$Walk", "place", "I", false)
  | 9 => ("ListingRow$Walk", "kind", "I", false)
  | 10 => ("ListingRow$Walk", "nameAt", "I", false)
  | _ => ("ListingRow$Walk", "nameLength", "I", false)
def t_Walk : Nat → FieldType := fun k => match k with
  | 0 => .object "ListingRow$Listing"
  | 1 => .int
  | 2 => .int
  | 3 => .long
  | 4 => .int
  | 5 => .boolean
  | 6 => .long
  | 7 => .long
  | 8 => .int
  | 9 => .int
  | 10 => .int
  | _ => .int
theorem n_Walk : ∀ a, a < 12 → ∀ b, b < 12 → a ≠ b → (F_Walk a).2.1 ≠ (F_Walk b).2.1 := by decide +kernel
theorem t_Walk_ok : ∀ k, k < 12 → parseFieldDescriptor (F_Walk k).2.2.1 = some (t_Walk k) := by decide +kernel
def R_Judge : String := "ListingRow$Judge"
def F_Judge : u_T := fun k => match k with
  | 0 => ("ListingRow$Judge", "listing", "LListingRow$Listing;", true)
  | 1 => ("ListingRow$Judge", "walk", "LListingRow$Walk;", true)
  | 2 => ("ListingRow$Judge", "known", "LListingRow$Known;", true)
  | 3 => ("ListingRow$Judge", "verdict", "I", false)
  | _ => ("ListingRow$Judge", "marksMet", "I", false)
def t_Judge : Nat → FieldType := fun k => match k with
  | 0 => .object "ListingRow$Listing"
  | 1 => .object "ListingRow$Walk"
  | 2 => .object "ListingRow$Known"
  | 3 => .int
  | _ => .int
theorem n_Judge : ∀ a, a < 5 → ∀ b, b < 5 → a ≠ b → (F_Judge a).2.1 ≠ (F_Judge b).2.1 := by decide +kernel
theorem t_Judge_ok : ∀ k, k < 5 → parseFieldDescriptor (F_Judge k).2.2.1 = some (t_Judge k) := by decide +kernel
def R_Ent : String := "ListingRow$Entry"
def F_Ent : u_T := fun k => match k with
  | 0 => ("ListingRow$Entry", "name", "[B", true)
  | 1 => ("ListingRow$Entry", "number", "I", true)
  | 2 => ("ListingRow$Entry", "start", "I", true)
  | 3 => ("ListingRow$Entry", "place", "I", true)
  | _ => ("ListingRow$Entry", "kind", "I", true)
def t_Ent : Nat → FieldType := fun k => match k with
  | 0 => .array (.byte)
  | 1 => .int
  | 2 => .int
  | 3 => .int
  | _ => .int
theorem n_Ent : ∀ a, a < 5 → ∀ b, b < 5 → a ≠ b → (F_Ent a).2.1 ≠ (F_Ent b).2.1 := by decide +kernel
theorem t_Ent_ok : ∀ k, k < 5 → parseFieldDescriptor (F_Ent k).2.2.1 = some (t_Ent k) := by decide +kernel
def R_Mark : String := "ListingRow$Mark"
def F_Mark : u_T := fun k => match k with
  | 0 => ("ListingRow$Mark", "place", "I", true)
  | 1 => ("ListingRow$Mark", "start", "I", true)
  | _ => ("ListingRow$Mark", "name", "[B", true)
def t_Mark : Nat → FieldType := fun k => match k with
  | 0 => .int
  | 1 => .int
  | _ => .array (.byte)
theorem n_Mark : ∀ a, a < 3 → ∀ b, b < 3 → a ≠ b → (F_Mark a).2.1 ≠ (F_Mark b).2.1 := by decide +kernel
theorem t_Mark_ok : ∀ k, k < 3 → parseFieldDescriptor (F_Mark k).2.2.1 = some (t_Mark k) := by decide +kernel
def R_Mod : String := "ListingRowModel"
def F_Mod : u_T := fun k => match k with
  | 0 => ("ListingRowModel", "tapeSize", "I", false)
  | 1 => ("ListingRowModel", "tape", "[I", true)
  | 2 => ("ListingRowModel", "entries", "I", false)
  | 3 => ("ListingRowModel", "nameSize", "[I", true)
  | 4 => ("ListingRowModel", "names", "[B", true)
  | 5 => ("ListingRowModel", "number", "[I", true)
  | 6 => ("ListingRowModel", "start", "[I", true)
  | 7 => ("ListingRowModel", "place", "[I", true)
  | 8 => ("ListingRowModel", "kind", "[I", true)
  | 9 => ("ListingRowModel", "known", "I", false)
  | 10 => ("ListingRowModel", "knownNumber", "[I", true)
  | 11 => ("ListingRowModel", "knownStart", "[I", true)
  | 12 => ("ListingRowModel", "knownPlace", "[I", true)
  | 13 => ("ListingRowModel", "knownKind", "[I", true)
  | 14 => ("ListingRowModel", "begin", "I", false)
  | 15 => ("ListingRowModel", "size", "I", false)
  | 16 => ("ListingRowModel", "headers", "I", false)
  | 17 => ("ListingRowModel", "listing", "[B", true)
  | 18 => ("ListingRowModel", "indexes", "I", false)
  | 19 => ("ListingRowModel", "indexPlace", "[I", true)
  | 20 => ("ListingRowModel", "indexStart", "[I", true)
  | 21 => ("ListingRowModel", "indexSize", "[I", true)
  | 22 => ("ListingRowModel", "indexName", "[I", true)
  | 23 => ("ListingRowModel", "ordered", "[I", true)
  | 24 => ("ListingRowModel", "at", "I", false)
  | 25 => ("ListingRowModel", "header", "I", false)
  | 26 => ("ListingRowModel", "left", "I", false)
  | 27 => ("ListingRowModel", "seen", "I", false)
  | _ => ("ListingRowModel", "passed", "I", false)
def t_Mod : Nat → FieldType := fun k => match k with
  | 0 => .int
  | 1 => .array (.int)
  | 2 => .int
  | 3 => .array (.int)
  | 4 => .array (.byte)
  | 5 => .array (.int)
  | 6 => .array (.int)
  | 7 => .array (.int)
  | 8 => .array (.int)
  | 9 => .int
  | 10 => .array (.int)
  | 11 => .array (.int)
  | 12 => .array (.int)
  | 13 => .array (.int)
  | 14 => .int
  | 15 => .int
  | 16 => .int
  | 17 => .array (.byte)
  | 18 => .int
  | 19 => .array (.int)
  | 20 => .array (.int)
  | 21 => .array (.int)
  | 22 => .array (.int)
  | 23 => .array (.int)
  | 24 => .int
  | 25 => .int
  | 26 => .int
  | 27 => .int
  | _ => .int
theorem n_Mod : ∀ a, a < 29 → ∀ b, b < 29 → a ≠ b → (F_Mod a).2.1 ≠ (F_Mod b).2.1 := by decide +kernel
theorem t_Mod_ok : ∀ k, k < 29 → parseFieldDescriptor (F_Mod k).2.2.1 = some (t_Mod k) := by decide +kernel
abbrev classes : List vw_C := [(R_Row, F_Row, 7), (R_Tape, F_Tape, 2), (R_Dir, F_Dir, 1), (R_AL, F_AL, 3), (R_Known, F_Known, 1), (R_Lst, F_Lst, 6), (R_Lay, F_Lay, 7), (R_Walk, F_Walk, 12), (R_Judge, F_Judge, 5), (R_Ent, F_Ent, 5), (R_Mark, F_Mark, 3), (R_Mod, F_Mod, 29)]
abbrev b_Row_init : ByteArray := prog_1_method_1_code
def y_Row_init : MethodName := ⟨"ListingRow", "<init>", "()V"⟩
abbrev b_Tape_init : ByteArray := prog_10_method_1_code
def y_Tape_init : MethodName := ⟨"ListingRow$Tape", "<init>", "()V"⟩
abbrev b_Dir_init : ByteArray := prog_2_method_1_code
def y_Dir_init : MethodName := ⟨"ListingRow$Directory", "<init>", "()V"⟩
abbrev b_AL_init : ByteArray := prog_21_method_2_code
def y_AL_init : MethodName := ⟨"java/util/ArrayList", "<init>", "()V"⟩
abbrev b_ABL_init : ByteArray := prog_20_method_1_code
def y_ABL_init : MethodName := ⟨"java/util/AbstractList", "<init>", "()V"⟩
abbrev b_ABC_init : ByteArray := prog_19_method_1_code
def y_ABC_init : MethodName := ⟨"java/util/AbstractCollection", "<init>", "()V"⟩
abbrev b_Known_init : ByteArray := prog_5_method_1_code
def y_Known_init : MethodName := ⟨"ListingRow$Known", "<init>", "()V"⟩
abbrev b_Lst_init : ByteArray := prog_7_method_1_code
def y_Lst_init : MethodName := ⟨"ListingRow$Listing", "<init>", "()V"⟩
abbrev b_Lay_init : ByteArray := prog_6_method_1_code
def y_Lay_init : MethodName := ⟨"ListingRow$Layout", "<init>", "()V"⟩
abbrev b_Walk_init : ByteArray := prog_11_method_1_code
def y_Walk_init : MethodName := ⟨"ListingRow$Walk", "<init>", "(LListingRow$Listing;)V"⟩
abbrev b_Judge_init : ByteArray := prog_4_method_1_code
def y_Judge_init : MethodName := ⟨"ListingRow$Judge", "<init>", "(LListingRow$Listing;LListingRow$Walk;LListingRow$Known;)V"⟩
abbrev b_Row_feed : ByteArray := prog_1_method_2_code
def y_Row_feed : MethodName := ⟨"ListingRow", "feed", "(JI)I"⟩
abbrev b_Tape_append : ByteArray := prog_10_method_2_code
def y_Tape_append : MethodName := ⟨"ListingRow$Tape", "append", "(JI)Z"⟩
abbrev b_Row_add : ByteArray := prog_1_method_3_code
def y_Row_add : MethodName := ⟨"ListingRow", "add", "(IIII)I"⟩
abbrev b_Tape_useUp : ByteArray := prog_10_method_3_code
def y_Tape_useUp : MethodName := ⟨"ListingRow$Tape", "useUp", "()I"⟩
abbrev b_Nam_isName : ByteArray := prog_9_method_2_code
def y_Nam_isName : MethodName := ⟨"ListingRow$Names", "isName", "([BII)Z"⟩
abbrev b_Ent_canHave : ByteArray := prog_3_method_2_code
def y_Ent_canHave : MethodName := ⟨"ListingRow$Entry", "canHave", "(IIII)Z"⟩
abbrev b_Dir_placeOf : ByteArray := prog_2_method_4_code
def y_Dir_placeOf : MethodName := ⟨"ListingRow$Directory", "placeOf", "([BI)I"⟩
abbrev b_AL_size : ByteArray := prog_21_method_8_code
def y_AL_size : MethodName := ⟨"java/util/ArrayList", "size", "()I"⟩
abbrev b_Dir_compareAt : ByteArray := prog_2_method_6_code
def y_Dir_compareAt : MethodName := ⟨"ListingRow$Directory", "compareAt", "(I[BI)I"⟩
abbrev b_AL_get : ByteArray := prog_21_method_20_code
def y_AL_get : MethodName := ⟨"java/util/ArrayList", "get", "(I)Ljava/lang/Object;"⟩
abbrev b_OBJ_checkIndex : ByteArray := prog_25_method_17_code
def y_OBJ_checkIndex : MethodName := ⟨"java/util/Objects", "checkIndex", "(II)I"⟩
abbrev b_PRE_checkIndex : ByteArray := prog_29_method_11_code
def y_PRE_checkIndex : MethodName := ⟨"jdk/internal/util/Preconditions", "checkIndex", "(IILjava/util/function/BiFunction;)I"⟩
abbrev b_AL_elementData : ByteArray := prog_21_method_18_code
def y_AL_elementData : MethodName := ⟨"java/util/ArrayList", "elementData", "(I)Ljava/lang/Object;"⟩
abbrev b_Nam_compare : ByteArray := prog_9_method_3_code
def y_Nam_compare : MethodName := ⟨"ListingRow$Names", "compare", "([BII[BII)I"⟩
abbrev b_MTH_min : ByteArray := prog_17_method_69_code
def y_MTH_min : MethodName := ⟨"java/lang/Math", "min", "(II)I"⟩
abbrev b_Dir_hasAt : ByteArray := prog_2_method_5_code
def y_Dir_hasAt : MethodName := ⟨"ListingRow$Directory", "hasAt", "(I[BI)Z"⟩
abbrev b_Dir_isFull : ByteArray := prog_2_method_3_code
def y_Dir_isFull : MethodName := ⟨"ListingRow$Directory", "isFull", "()Z"⟩
abbrev b_Known_hasRoomFor : ByteArray := prog_5_method_4_code
def y_Known_hasRoomFor : MethodName := ⟨"ListingRow$Known", "hasRoomFor", "(I)Z"⟩
abbrev b_Known_placeOf : ByteArray := prog_5_method_2_code
def y_Known_placeOf : MethodName := ⟨"ListingRow$Known", "placeOf", "(I)I"⟩
abbrev b_Known_hasAt : ByteArray := prog_5_method_3_code
def y_Known_hasAt : MethodName := ⟨"ListingRow$Known", "hasAt", "(II)Z"⟩
abbrev b_ARR_copyB : ByteArray := prog_22_method_121_code
def y_ARR_copyB : MethodName := ⟨"java/util/Arrays", "copyOf", "([BI)[B"⟩
abbrev b_Ent_init : ByteArray := prog_3_method_1_code
def y_Ent_init : MethodName := ⟨"ListingRow$Entry", "<init>", "([BIIII)V"⟩
abbrev b_Dir_insert : ByteArray := prog_2_method_7_code
def y_Dir_insert : MethodName := ⟨"ListingRow$Directory", "insert", "(ILListingRow$Entry;)V"⟩
abbrev b_AL_add2 : ByteArray := prog_21_method_26_code
def y_AL_add2 : MethodName := ⟨"java/util/ArrayList", "add", "(ILjava/lang/Object;)V"⟩
abbrev b_AL_rangeCheckForAdd : ByteArray := prog_21_method_45_code
def y_AL_rangeCheckForAdd : MethodName := ⟨"java/util/ArrayList", "rangeCheckForAdd", "(I)V"⟩
abbrev b_AL_grow0 : ByteArray := prog_21_method_7_code
def y_AL_grow0 : MethodName := ⟨"java/util/ArrayList", "grow", "()[Ljava/lang/Object;"⟩
abbrev b_AL_grow1 : ByteArray := prog_21_method_6_code
def y_AL_grow1 : MethodName := ⟨"java/util/ArrayList", "grow", "(I)[Ljava/lang/Object;"⟩
abbrev b_ASP_newLength : ByteArray := prog_28_method_27_code
def y_ASP_newLength : MethodName := ⟨"jdk/internal/util/ArraysSupport", "newLength", "(III)I"⟩
abbrev b_MTH_max : ByteArray := prog_17_method_65_code
def y_MTH_max : MethodName := ⟨"java/lang/Math", "max", "(II)I"⟩
abbrev b_ASP_hugeLength : ByteArray := prog_28_method_28_code
def y_ASP_hugeLength : MethodName := ⟨"jdk/internal/util/ArraysSupport", "hugeLength", "(II)I"⟩
abbrev b_ARR_copy2 : ByteArray := prog_22_method_119_code
def y_ARR_copy2 : MethodName := ⟨"java/util/Arrays", "copyOf", "([Ljava/lang/Object;I)[Ljava/lang/Object;"⟩
abbrev b_ARR_copy3 : ByteArray := prog_22_method_120_code
def y_ARR_copy3 : MethodName := ⟨"java/util/Arrays", "copyOf", "([Ljava/lang/Object;ILjava/lang/Class;)[Ljava/lang/Object;"⟩
abbrev b_Known_learn : ByteArray := prog_5_method_5_code
def y_Known_learn : MethodName := ⟨"ListingRow$Known", "learn", "(LListingRow$Entry;)V"⟩
abbrev b_AL_set : ByteArray := prog_21_method_23_code
def y_AL_set : MethodName := ⟨"java/util/ArrayList", "set", "(ILjava/lang/Object;)Ljava/lang/Object;"⟩
abbrev b_Judge_forget : ByteArray := prog_4_method_2_code
def y_Judge_forget : MethodName := ⟨"ListingRow$Judge", "forget", "()V"⟩
abbrev b_Dir_count : ByteArray := prog_2_method_2_code
def y_Dir_count : MethodName := ⟨"ListingRow$Directory", "count", "()I"⟩
abbrev b_Row_drop : ByteArray := prog_1_method_4_code
def y_Row_drop : MethodName := ⟨"ListingRow", "drop", "()I"⟩
abbrev b_Dir_removeAt : ByteArray := prog_2_method_8_code
def y_Dir_removeAt : MethodName := ⟨"ListingRow$Directory", "removeAt", "(I)V"⟩
abbrev b_AL_remove : ByteArray := prog_21_method_29_code
def y_AL_remove : MethodName := ⟨"java/util/ArrayList", "remove", "(I)Ljava/lang/Object;"⟩
abbrev b_AL_fastRemove : ByteArray := prog_21_method_39_code
def y_AL_fastRemove : MethodName := ⟨"java/util/ArrayList", "fastRemove", "([Ljava/lang/Object;I)V"⟩
abbrev b_Row_clear : ByteArray := prog_1_method_5_code
def y_Row_clear : MethodName := ⟨"ListingRow", "clear", "()I"⟩
abbrev b_Dir_removeAll : ByteArray := prog_2_method_9_code
def y_Dir_removeAll : MethodName := ⟨"ListingRow$Directory", "removeAll", "()V"⟩
abbrev b_AL_clear : ByteArray := prog_21_method_40_code
def y_AL_clear : MethodName := ⟨"java/util/ArrayList", "clear", "()V"⟩
abbrev b_Row_make : ByteArray := prog_1_method_6_code
def y_Row_make : MethodName := ⟨"ListingRow", "make", "(I)I"⟩
abbrev b_Lst_write : ByteArray := prog_7_method_2_code
def y_Lst_write : MethodName := ⟨"ListingRow$Listing", "write", "(LListingRow$Directory;I)Z"⟩
abbrev b_Lst_measure : ByteArray := prog_7_method_3_code
def y_Lst_measure : MethodName := ⟨"ListingRow$Listing", "measure", "(LListingRow$Directory;I)I"⟩
abbrev b_Lay_restart : ByteArray := prog_6_method_2_code
def y_Lay_restart : MethodName := ⟨"ListingRow$Layout", "restart", "(I)V"⟩
abbrev b_Lay_lay : ByteArray := prog_6_method_3_code
def y_Lay_lay : MethodName := ⟨"ListingRow$Layout", "lay", "(LListingRow$Entry;)Z"⟩
abbrev b_Lay_fitsUnderHeader : ByteArray := prog_6_method_4_code
def y_Lay_fitsUnderHeader : MethodName := ⟨"ListingRow$Layout", "fitsUnderHeader", "(LListingRow$Entry;)Z"⟩
abbrev b_Lay_pieceOf : ByteArray := prog_6_method_6_code
def y_Lay_pieceOf : MethodName := ⟨"ListingRow$Layout", "pieceOf", "(II)I"⟩
abbrev b_Lay_openHeader : ByteArray := prog_6_method_5_code
def y_Lay_openHeader : MethodName := ⟨"ListingRow$Layout", "openHeader", "(LListingRow$Entry;)V"⟩
abbrev b_Lst_writeNext : ByteArray := prog_7_method_4_code
def y_Lst_writeNext : MethodName := ⟨"ListingRow$Listing", "writeNext", "(LListingRow$Entry;)V"⟩
abbrev b_Lst_writeHeader : ByteArray := prog_7_method_5_code
def y_Lst_writeHeader : MethodName := ⟨"ListingRow$Listing", "writeHeader", "(LListingRow$Entry;I)V"⟩
abbrev b_Lst_putU4 : ByteArray := prog_7_method_14_code
def y_Lst_putU4 : MethodName := ⟨"ListingRow$Listing", "putU4", "(II)V"⟩
abbrev b_Lst_putU2 : ByteArray := prog_7_method_13_code
def y_Lst_putU2 : MethodName := ⟨"ListingRow$Listing", "putU2", "(II)V"⟩
abbrev b_Lst_pieceOf : ByteArray := prog_7_method_6_code
def y_Lst_pieceOf : MethodName := ⟨"ListingRow$Listing", "pieceOf", "(I)I"⟩
abbrev b_Lst_startOfPieceWith : ByteArray := prog_7_method_7_code
def y_Lst_startOfPieceWith : MethodName := ⟨"ListingRow$Listing", "startOfPieceWith", "(I)I"⟩
abbrev b_Mark_init : ByteArray := prog_8_method_1_code
def y_Mark_init : MethodName := ⟨"ListingRow$Mark", "<init>", "(II[B)V"⟩
abbrev b_AL_add1 : ByteArray := prog_21_method_25_code
def y_AL_add1 : MethodName := ⟨"java/util/ArrayList", "add", "(Ljava/lang/Object;)Z"⟩
abbrev b_AL_add3 : ByteArray := prog_21_method_24_code
def y_AL_add3 : MethodName := ⟨"java/util/ArrayList", "add", "(Ljava/lang/Object;[Ljava/lang/Object;I)V"⟩
abbrev b_Row_size : ByteArray := prog_1_method_7_code
def y_Row_size : MethodName := ⟨"ListingRow", "size", "(I)I"⟩
abbrev b_Row_bytes : ByteArray := prog_1_method_8_code
def y_Row_bytes : MethodName := ⟨"ListingRow", "bytes", "(I)J"⟩
abbrev b_Lst_byteOrZero : ByteArray := prog_7_method_10_code
def y_Lst_byteOrZero : MethodName := ⟨"ListingRow$Listing", "byteOrZero", "(I)I"⟩
abbrev b_Row_index : ByteArray := prog_1_method_9_code
def y_Row_index : MethodName := ⟨"ListingRow", "index", "(II)I"⟩
abbrev b_Lst_hasMark : ByteArray := prog_7_method_8_code
def y_Lst_hasMark : MethodName := ⟨"ListingRow$Listing", "hasMark", "(I)Z"⟩
abbrev b_Row_patch : ByteArray := prog_1_method_10_code
def y_Row_patch : MethodName := ⟨"ListingRow", "patch", "(II)I"⟩
abbrev b_Row_cut : ByteArray := prog_1_method_11_code
def y_Row_cut : MethodName := ⟨"ListingRow", "cut", "(I)I"⟩
abbrev b_Row_set : ByteArray := prog_1_method_12_code
def y_Row_set : MethodName := ⟨"ListingRow", "set", "(III)I"⟩
abbrev b_Row_check : ByteArray := prog_1_method_13_code
def y_Row_check : MethodName := ⟨"ListingRow", "check", "()I"⟩
abbrev b_Judge_entriesIfRight : ByteArray := prog_4_method_3_code
def y_Judge_entriesIfRight : MethodName := ⟨"ListingRow$Judge", "entriesIfRight", "()I"⟩
abbrev b_Judge_judgeAnew : ByteArray := prog_4_method_4_code
def y_Judge_judgeAnew : MethodName := ⟨"ListingRow$Judge", "judgeAnew", "()I"⟩
abbrev b_Walk_goTo : ByteArray := prog_11_method_2_code
def y_Walk_goTo : MethodName := ⟨"ListingRow$Walk", "goTo", "(I)V"⟩
abbrev b_Walk_isAtEnd : ByteArray := prog_11_method_4_code
def y_Walk_isAtEnd : MethodName := ⟨"ListingRow$Walk", "isAtEnd", "()Z"⟩
abbrev b_Walk_step : ByteArray := prog_11_method_5_code
def y_Walk_step : MethodName := ⟨"ListingRow$Walk", "step", "()Z"⟩
abbrev b_Walk_readHeader : ByteArray := prog_11_method_6_code
def y_Walk_readHeader : MethodName := ⟨"ListingRow$Walk", "readHeader", "()Z"⟩
abbrev b_Lst_u4 : ByteArray := prog_7_method_12_code
def y_Lst_u4 : MethodName := ⟨"ListingRow$Listing", "u4", "(I)J"⟩
abbrev b_Walk_readEntry : ByteArray := prog_11_method_7_code
def y_Walk_readEntry : MethodName := ⟨"ListingRow$Walk", "readEntry", "()Z"⟩
abbrev b_Lst_u2 : ByteArray := prog_7_method_11_code
def y_Lst_u2 : MethodName := ⟨"ListingRow$Listing", "u2", "(I)I"⟩
abbrev b_Judge_isEntryRight : ByteArray := prog_4_method_5_code
def y_Judge_isEntryRight : MethodName := ⟨"ListingRow$Judge", "isEntryRight", "(II)Z"⟩
abbrev b_Walk_compareNameWith : ByteArray := prog_11_method_8_code
def y_Walk_compareNameWith : MethodName := ⟨"ListingRow$Walk", "compareNameWith", "([BII)I"⟩
abbrev b_Known_agrees : ByteArray := prog_5_method_6_code
def y_Known_agrees : MethodName := ⟨"ListingRow$Known", "agrees", "(JJII)Z"⟩
abbrev b_Judge_isMarkRight : ByteArray := prog_4_method_6_code
def y_Judge_isMarkRight : MethodName := ⟨"ListingRow$Judge", "isMarkRight", "()Z"⟩
abbrev b_Row_entry : ByteArray := prog_1_method_14_code
def y_Row_entry : MethodName := ⟨"ListingRow", "entry", "(II)I"⟩
abbrev b_Walk_goToEntry : ByteArray := prog_11_method_3_code
def y_Walk_goToEntry : MethodName := ⟨"ListingRow$Walk", "goToEntry", "(I)Z"⟩
abbrev b_Row_find : ByteArray := prog_1_method_15_code
def y_Row_find : MethodName := ⟨"ListingRow", "find", "()I"⟩
abbrev b_Lst_placeToLookFrom : ByteArray := prog_7_method_9_code
def y_Lst_placeToLookFrom : MethodName := ⟨"ListingRow$Listing", "placeToLookFrom", "([BI)I"⟩
abbrev b_Row_passed : ByteArray := prog_1_method_16_code
def y_Row_passed : MethodName := ⟨"ListingRow", "passed", "()I"⟩
abbrev b_Mod_init : ByteArray := prog_13_method_1_code
def y_Mod_init : MethodName := ⟨"ListingRowModel", "<init>", "()V"⟩
abbrev b_Mod_feed : ByteArray := prog_13_method_2_code
def y_Mod_feed : MethodName := ⟨"ListingRowModel", "feed", "(JI)I"⟩
abbrev b_Mod_add : ByteArray := prog_13_method_9_code
def y_Mod_add : MethodName := ⟨"ListingRowModel", "add", "(IIII)I"⟩
abbrev b_Mod_use : ByteArray := prog_13_method_3_code
def y_Mod_use : MethodName := ⟨"ListingRowModel", "use", "()I"⟩
abbrev b_Mod_isName : ByteArray := prog_13_method_4_code
def y_Mod_isName : MethodName := ⟨"ListingRowModel", "isName", "(I)Z"⟩
abbrev b_Mod_entryOfTape : ByteArray := prog_13_method_7_code
def y_Mod_entryOfTape : MethodName := ⟨"ListingRowModel", "entryOfTape", "(I)I"⟩
abbrev b_Mod_orderOfTape : ByteArray := prog_13_method_6_code
def y_Mod_orderOfTape : MethodName := ⟨"ListingRowModel", "orderOfTape", "(II)I"⟩
abbrev b_Mod_nameByte : ByteArray := prog_13_method_5_code
def y_Mod_nameByte : MethodName := ⟨"ListingRowModel", "nameByte", "(II)I"⟩
abbrev b_Mod_knownAt : ByteArray := prog_13_method_8_code
def y_Mod_knownAt : MethodName := ⟨"ListingRowModel", "knownAt", "(J)I"⟩
abbrev b_Mod_drop : ByteArray := prog_13_method_10_code
def y_Mod_drop : MethodName := ⟨"ListingRowModel", "drop", "()I"⟩
abbrev b_Mod_clear : ByteArray := prog_13_method_11_code
def y_Mod_clear : MethodName := ⟨"ListingRowModel", "clear", "()I"⟩
abbrev b_Mod_make : ByteArray := prog_13_method_18_code
def y_Mod_make : MethodName := ⟨"ListingRowModel", "make", "(I)I"⟩
abbrev b_Mod_sort : ByteArray := prog_13_method_13_code
def y_Mod_sort : MethodName := ⟨"ListingRowModel", "sort", "()V"⟩
abbrev b_Mod_isBefore : ByteArray := prog_13_method_12_code
def y_Mod_isBefore : MethodName := ⟨"ListingRowModel", "isBefore", "(II)Z"⟩
abbrev b_Mod_measure : ByteArray := prog_13_method_15_code
def y_Mod_measure : MethodName := ⟨"ListingRowModel", "measure", "(I)I"⟩
abbrev b_Mod_takes : ByteArray := prog_13_method_14_code
def y_Mod_takes : MethodName := ⟨"ListingRowModel", "takes", "(IIIII)Z"⟩
abbrev b_Mod_closeHeader : ByteArray := prog_13_method_19_code
def y_Mod_closeHeader : MethodName := ⟨"ListingRowModel", "closeHeader", "(II)V"⟩
abbrev b_Mod_noteIndex : ByteArray := prog_13_method_17_code
def y_Mod_noteIndex : MethodName := ⟨"ListingRowModel", "noteIndex", "(II)V"⟩
abbrev b_Mod_put : ByteArray := prog_13_method_16_code
def y_Mod_put : MethodName := ⟨"ListingRowModel", "put", "(II)V"⟩
abbrev b_Mod_size : ByteArray := prog_13_method_20_code
def y_Mod_size : MethodName := ⟨"ListingRowModel", "size", "(I)I"⟩
abbrev b_Mod_bytes : ByteArray := prog_13_method_21_code
def y_Mod_bytes : MethodName := ⟨"ListingRowModel", "bytes", "(I)J"⟩
abbrev b_Mod_index : ByteArray := prog_13_method_22_code
def y_Mod_index : MethodName := ⟨"ListingRowModel", "index", "(II)I"⟩
abbrev b_Mod_patch : ByteArray := prog_13_method_23_code
def y_Mod_patch : MethodName := ⟨"ListingRowModel", "patch", "(II)I"⟩
abbrev b_Mod_cut : ByteArray := prog_13_method_24_code
def y_Mod_cut : MethodName := ⟨"ListingRowModel", "cut", "(I)I"⟩
abbrev b_Mod_set : ByteArray := prog_13_method_25_code
def y_Mod_set : MethodName := ⟨"ListingRowModel", "set", "(III)I"⟩
abbrev b_Mod_check : ByteArray := prog_13_method_37_code
def y_Mod_check : MethodName := ⟨"ListingRowModel", "check", "()I"⟩
abbrev b_Mod_count : ByteArray := prog_13_method_36_code
def y_Mod_count : MethodName := ⟨"ListingRowModel", "count", "()I"⟩
abbrev b_Mod_step : ByteArray := prog_13_method_28_code
def y_Mod_step : MethodName := ⟨"ListingRowModel", "step", "(Z)I"⟩
abbrev b_Mod_u2 : ByteArray := prog_13_method_26_code
def y_Mod_u2 : MethodName := ⟨"ListingRowModel", "u2", "(I)I"⟩
abbrev b_Mod_u4 : ByteArray := prog_13_method_27_code
def y_Mod_u4 : MethodName := ⟨"ListingRowModel", "u4", "(I)J"⟩
abbrev b_Mod_isEntryRight : ByteArray := prog_13_method_32_code
def y_Mod_isEntryRight : MethodName := ⟨"ListingRowModel", "isEntryRight", "()Z"⟩
abbrev b_Mod_sizeHere : ByteArray := prog_13_method_30_code
def y_Mod_sizeHere : MethodName := ⟨"ListingRowModel", "sizeHere", "()I"⟩
abbrev b_Mod_byteHere : ByteArray := prog_13_method_31_code
def y_Mod_byteHere : MethodName := ⟨"ListingRowModel", "byteHere", "(I)I"⟩
abbrev b_Mod_numberHere : ByteArray := prog_13_method_29_code
def y_Mod_numberHere : MethodName := ⟨"ListingRowModel", "numberHere", "()J"⟩
abbrev b_Mod_isBehind : ByteArray := prog_13_method_33_code
def y_Mod_isBehind : MethodName := ⟨"ListingRowModel", "isBehind", "(II)Z"⟩
abbrev b_Mod_isIndexRight : ByteArray := prog_13_method_35_code
def y_Mod_isIndexRight : MethodName := ⟨"ListingRowModel", "isIndexRight", "(I)Z"⟩
abbrev b_Mod_isIndexHere : ByteArray := prog_13_method_34_code
def y_Mod_isIndexHere : MethodName := ⟨"ListingRowModel", "isIndexHere", "(I)Z"⟩
abbrev b_Mod_entry : ByteArray := prog_13_method_38_code
def y_Mod_entry : MethodName := ⟨"ListingRowModel", "entry", "(II)I"⟩
abbrev b_Mod_find : ByteArray := prog_13_method_41_code
def y_Mod_find : MethodName := ⟨"ListingRowModel", "find", "()I"⟩
abbrev b_Mod_orderOfIndex : ByteArray := prog_13_method_39_code
def y_Mod_orderOfIndex : MethodName := ⟨"ListingRowModel", "orderOfIndex", "(II)I"⟩
abbrev b_Mod_orderHere : ByteArray := prog_13_method_40_code
def y_Mod_orderHere : MethodName := ⟨"ListingRowModel", "orderHere", "(I)I"⟩
abbrev b_Mod_passed : ByteArray := prog_13_method_42_code
def y_Mod_passed : MethodName := ⟨"ListingRowModel", "passed", "()I"⟩
end
section
/-! the words, by their places -/
theorem kt {w : Cond} (i : Nat) (h : tables_1[i]? = some w) : w ∈ lw_tbl := List.mem_append_right _ (List.mem_of_getElem? h)
theorem k_0 : Cond.initialized "ListingRowLaw" ∈ lw_tbl := kt 0 (by decide +kernel)
theorem k_1 : Cond.initialized "ListingRow" ∈ lw_tbl := kt 1 (by decide +kernel)
theorem k_2 : Cond.initialized "ListingRow$Tape" ∈ lw_tbl := kt 2 (by decide +kernel)
theorem k_3 : Cond.initialized "ListingRow$Directory" ∈ lw_tbl := kt 3 (by decide +kernel)
theorem k_4 : Cond.initialized "java/util/AbstractCollection" ∈ lw_tbl := kt 4 (by decide +kernel)
theorem k_5 : Cond.initialized "java/util/AbstractList" ∈ lw_tbl := kt 5 (by decide +kernel)
theorem k_6 : Cond.initialized "java/util/ArrayList" ∈ lw_tbl := kt 6 (by decide +kernel)
theorem k_7 : Cond.initialized "ListingRow$Known" ∈ lw_tbl := kt 7 (by decide +kernel)
theorem k_8 : Cond.initialized "ListingRow$Listing" ∈ lw_tbl := kt 8 (by decide +kernel)
theorem k_9 : Cond.initialized "ListingRow$Layout" ∈ lw_tbl := kt 9 (by decide +kernel)
theorem k_10 : Cond.initialized "ListingRow$Walk" ∈ lw_tbl := kt 10 (by decide +kernel)
theorem k_11 : Cond.initialized "ListingRow$Judge" ∈ lw_tbl := kt 11 (by decide +kernel)
theorem k_12 : Cond.initialized "ListingRowModel" ∈ lw_tbl := kt 12 (by decide +kernel)
theorem k_13 : Cond.initialized "ListingRow$Names" ∈ lw_tbl := kt 13 (by decide +kernel)
theorem k_14 : Cond.initialized "ListingRow$Entry" ∈ lw_tbl := kt 14 (by decide +kernel)
theorem k_15 : Cond.initialized "java/util/Objects" ∈ lw_tbl := kt 15 (by decide +kernel)
theorem k_16 : Cond.initialized "jdk/internal/util/Preconditions" ∈ lw_tbl := kt 16 (by decide +kernel)
theorem k_17 : Cond.initialized "java/lang/Math" ∈ lw_tbl := kt 17 (by decide +kernel)
theorem k_18 : Cond.initialized "java/util/Arrays" ∈ lw_tbl := kt 18 (by decide +kernel)
theorem k_19 : Cond.initialized "java/lang/System" ∈ lw_tbl := kt 19 (by decide +kernel)
theorem k_20 : Cond.initialized "jdk/internal/util/ArraysSupport" ∈ lw_tbl := kt 20 (by decide +kernel)
theorem k_21 : Cond.initialized "ListingRow$Mark" ∈ lw_tbl := kt 21 (by decide +kernel)
theorem k_22 : Cond.classLink "ListingRowLaw" 7 "ListingRow" ∈ lw_tbl := kt 22 (by decide +kernel)
theorem k_23 : Cond.instantiable "ListingRow" 7 ∈ lw_tbl := kt 23 (by decide +kernel)
theorem k_24 : Cond.methodLink "ListingRowLaw" 9 y_Row_init ∈ lw_tbl := kt 24 (by decide +kernel)
theorem k_25 : Cond.instanceMethod y_Row_init ∈ lw_tbl := kt 25 (by decide +kernel)
set_option maxRecDepth 20000 in
theorem k_26 : Cond.code y_Row_init b_Row_init 1 (none) ∈ lw_tbl := kt 26 rfl
theorem k_27 : Cond.methodLink "ListingRow" 1 ⟨"java/lang/Object", "<init>", "()V"⟩ ∈ lw_tbl := kt 27 (by decide +kernel)
theorem k_28 : Cond.instanceMethod ⟨"java/lang/Object", "<init>", "()V"⟩ ∈ lw_tbl := kt 28 (by decide +kernel)
set_option maxRecDepth 20000 in
theorem k_29 : Cond.code ⟨"java/lang/Object", "<init>", "()V"⟩ object_method_1_code 1 (none) ∈ lw_tbl := kt 29 rfl
theorem k_30 : Cond.classLink "ListingRow" 7 "ListingRow$Tape" ∈ lw_tbl := kt 30 (by decide +kernel)
theorem k_31 : Cond.instantiable "ListingRow$Tape" 2 ∈ lw_tbl := kt 31 (by decide +kernel)
theorem k_32 : Cond.methodLinkNest "ListingRow" 9 y_Tape_init "ListingRow" ∈ lw_tbl := kt 32 (by decide +kernel)
theorem k_33 : Cond.instanceMethod y_Tape_init ∈ lw_tbl := kt 33 (by decide +kernel)
set_option maxRecDepth 20000 in
theorem k_34 : Cond.code y_Tape_init b_Tape_init 1 (none) ∈ lw_tbl := kt 34 rfl
theorem k_35 : Cond.methodLink "ListingRow$Tape" 3 ⟨"java/lang/Object", "<init>", "()V"⟩ ∈ lw_tbl := kt 35 (by decide +kernel)
theorem k_36 : Cond.fieldLink "ListingRow$Tape" 9 "ListingRow$Tape" "row" "[B" ∈ lw_tbl := kt 36 (by decide +kernel)
theorem k_37 : Cond.fieldLink "ListingRow" 70 "ListingRow$Tape" "row" "[B" ∈ lw_tbl := kt 37 (by decide +kernel)
theorem k_38 : Cond.fieldLink "ListingRow$Tape" 15 "ListingRow$Tape" "length" "I" ∈ lw_tbl := kt 38 (by decide +kernel)
theorem k_39 : Cond.fieldLink "ListingRow" 63 "ListingRow$Tape" "length" "I" ∈ lw_tbl := kt 39 (by decide +kernel)
theorem k_40 : Cond.laysFinal "ListingRow$Tape" "ListingRow$Tape" "row" "[B" ∈ lw_tbl := kt 40 (by decide +kernel)
theorem k_42 : Cond.lays "ListingRow$Tape" "ListingRow$Tape" "length" "I" ∈ lw_tbl := kt 42 (by decide +kernel)
theorem k_45 : Cond.arrayClass (.byte) ∈ lw_tbl := kt 45 (by decide +kernel)
theorem k_46 : Cond.classLink "ListingRow" 16 "ListingRow$Directory" ∈ lw_tbl := kt 46 (by decide +kernel)
theorem k_47 : Cond.instantiable "ListingRow$Directory" 1 ∈ lw_tbl := kt 47 (by decide +kernel)
theorem k_48 : Cond.methodLinkNest "ListingRow" 18 y_Dir_init "ListingRow" ∈ lw_tbl := kt 48 (by decide +kernel)
theorem k_49 : Cond.instanceMethod y_Dir_init ∈ lw_tbl := kt 49 (by decide +kernel)
set_option maxRecDepth 20000 in
theorem k_50 : Cond.code y_Dir_init b_Dir_init 1 (none) ∈ lw_tbl := kt 50 rfl
theorem k_51 : Cond.methodLink "ListingRow$Directory" 3 ⟨"java/lang/Object", "<init>", "()V"⟩ ∈ lw_tbl := kt 51 (by decide +kernel)
theorem k_52 : Cond.classLink "ListingRow$Directory" 9 "java/util/ArrayList" ∈ lw_tbl := kt 52 (by decide +kernel)
theorem k_53 : Cond.instantiable "java/util/ArrayList" 3 ∈ lw_tbl := kt 53 (by decide +kernel)
theorem k_54 : Cond.methodLink "ListingRow$Directory" 11 y_AL_init ∈ lw_tbl := kt 54 (by decide +kernel)
theorem k_55 : Cond.instanceMethod y_AL_init ∈ lw_tbl := kt 55 (by decide +kernel)
set_option maxRecDepth 20000 in
theorem k_56 : Cond.code y_AL_init b_AL_init 1 (none) ∈ lw_tbl := kt 56 rfl
theorem k_57 : Cond.methodLink "java/util/ArrayList" 1 y_ABL_init ∈ lw_tbl := kt 57 (by decide +kernel)
theorem k_58 : Cond.instanceMethod y_ABL_init ∈ lw_tbl := kt 58 (by decide +kernel)
set_option maxRecDepth 20000 in
theorem k_59 : Cond.code y_ABL_init b_ABL_init 1 (none) ∈ lw_tbl := kt 59 rfl
theorem k_60 : Cond.methodLink "java/util/AbstractList" 1 y_ABC_init ∈ lw_tbl := kt 60 (by decide +kernel)
theorem k_61 : Cond.instanceMethod y_ABC_init ∈ lw_tbl := kt 61 (by decide +kernel)
set_option maxRecDepth 20000 in
theorem k_62 : Cond.code y_ABC_init b_ABC_init 1 (none) ∈ lw_tbl := kt 62 rfl
theorem k_63 : Cond.methodLink "java/util/AbstractCollection" 1 ⟨"java/lang/Object", "<init>", "()V"⟩ ∈ lw_tbl := kt 63 (by decide +kernel)
theorem k_64 : Cond.fieldLink "java/util/ArrayList" 39 "java/util/ArrayList" "DEFAULTCAPACITY_EMPTY_ELEMENTDATA" "[Ljava/lang/Object;" ∈ lw_tbl := kt 64 (by decide +kernel)
theorem k_65 : Cond.laysStatic "java/util/ArrayList" "DEFAULTCAPACITY_EMPTY_ELEMENTDATA" "[Ljava/lang/Object;" ∈ lw_tbl := kt 65 (by decide +kernel)
theorem k_66 : Cond.fieldLink "java/util/ArrayList" 9 "java/util/ArrayList" "elementData" "[Ljava/lang/Object;" ∈ lw_tbl := kt 66 (by decide +kernel)
theorem k_67 : Cond.fieldLink "java/util/ArrayList" 48 "java/util/ArrayList" "size" "I" ∈ lw_tbl := kt 67 (by decide +kernel)
theorem k_68 : Cond.fieldLink "java/util/AbstractList" 7 "java/util/AbstractList" "modCount" "I" ∈ lw_tbl := kt 68 (by decide +kernel)
theorem k_69 : Cond.fieldLink "java/util/ArrayList" 63 "java/util/ArrayList" "modCount" "I" ∈ lw_tbl := kt 69 (by decide +kernel)
theorem k_70 : Cond.sameField "java/util/ArrayList" "java/util/AbstractList" "modCount" "I" ∈ lw_tbl := kt 70 (by decide +kernel)
theorem k_71 : Cond.lays "java/util/ArrayList" "java/util/ArrayList" "elementData" "[Ljava/lang/Object;" ∈ lw_tbl := kt 71 (by decide +kernel)
theorem k_73 : Cond.lays "java/util/ArrayList" "java/util/ArrayList" "size" "I" ∈ lw_tbl := kt 73 (by decide +kernel)
theorem k_75 : Cond.lays "java/util/ArrayList" "java/util/AbstractList" "modCount" "I" ∈ lw_tbl := kt 75 (by decide +kernel)
theorem k_78 : Cond.fieldLink "ListingRow$Directory" 12 "ListingRow$Directory" "entries" "Ljava/util/ArrayList;" ∈ lw_tbl := kt 78 (by decide +kernel)
theorem k_79 : Cond.fieldLink "ListingRow$Listing" 51 "ListingRow$Directory" "entries" "Ljava/util/ArrayList;" ∈ lw_tbl := kt 79 (by decide +kernel)
theorem k_80 : Cond.laysFinal "ListingRow$Directory" "ListingRow$Directory" "entries" "Ljava/util/ArrayList;" ∈ lw_tbl := kt 80 (by decide +kernel)
theorem k_83 : Cond.classLink "ListingRow" 23 "ListingRow$Known" ∈ lw_tbl := kt 83 (by decide +kernel)
theorem k_84 : Cond.instantiable "ListingRow$Known" 1 ∈ lw_tbl := kt 84 (by decide +kernel)
theorem k_85 : Cond.methodLinkNest "ListingRow" 25 y_Known_init "ListingRow" ∈ lw_tbl := kt 85 (by decide +kernel)
theorem k_86 : Cond.instanceMethod y_Known_init ∈ lw_tbl := kt 86 (by decide +kernel)
set_option maxRecDepth 20000 in
theorem k_87 : Cond.code y_Known_init b_Known_init 1 (none) ∈ lw_tbl := kt 87 rfl
theorem k_88 : Cond.methodLink "ListingRow$Known" 3 ⟨"java/lang/Object", "<init>", "()V"⟩ ∈ lw_tbl := kt 88 (by decide +kernel)
theorem k_89 : Cond.classLink "ListingRow$Known" 9 "java/util/ArrayList" ∈ lw_tbl := kt 89 (by decide +kernel)
theorem k_90 : Cond.methodLink "ListingRow$Known" 11 y_AL_init ∈ lw_tbl := kt 90 (by decide +kernel)
theorem k_91 : Cond.fieldLink "ListingRow$Known" 12 "ListingRow$Known" "latest" "Ljava/util/ArrayList;" ∈ lw_tbl := kt 91 (by decide +kernel)
theorem k_92 : Cond.laysFinal "ListingRow$Known" "ListingRow$Known" "latest" "Ljava/util/ArrayList;" ∈ lw_tbl := kt 92 (by decide +kernel)
theorem k_95 : Cond.classLink "ListingRow" 30 "ListingRow$Listing" ∈ lw_tbl := kt 95 (by decide +kernel)
theorem k_96 : Cond.instantiable "ListingRow$Listing" 6 ∈ lw_tbl := kt 96 (by decide +kernel)
theorem k_97 : Cond.methodLinkNest "ListingRow" 32 y_Lst_init "ListingRow" ∈ lw_tbl := kt 97 (by decide +kernel)
theorem k_98 : Cond.instanceMethod y_Lst_init ∈ lw_tbl := kt 98 (by decide +kernel)
set_option maxRecDepth 20000 in
theorem k_99 : Cond.code y_Lst_init b_Lst_init 1 (none) ∈ lw_tbl := kt 99 rfl
theorem k_100 : Cond.methodLink "ListingRow$Listing" 3 ⟨"java/lang/Object", "<init>", "()V"⟩ ∈ lw_tbl := kt 100 (by decide +kernel)
theorem k_101 : Cond.classLink "ListingRow$Listing" 25 "java/util/ArrayList" ∈ lw_tbl := kt 101 (by decide +kernel)
theorem k_102 : Cond.methodLink "ListingRow$Listing" 27 y_AL_init ∈ lw_tbl := kt 102 (by decide +kernel)
theorem k_103 : Cond.classLink "ListingRow$Listing" 32 "ListingRow$Layout" ∈ lw_tbl := kt 103 (by decide +kernel)
theorem k_104 : Cond.instantiable "ListingRow$Layout" 7 ∈ lw_tbl := kt 104 (by decide +kernel)
theorem k_105 : Cond.methodLinkNest "ListingRow$Listing" 34 y_Lay_init "ListingRow" ∈ lw_tbl := kt 105 (by decide +kernel)
theorem k_106 : Cond.instanceMethod y_Lay_init ∈ lw_tbl := kt 106 (by decide +kernel)
set_option maxRecDepth 20000 in
theorem k_107 : Cond.code y_Lay_init b_Lay_init 1 (none) ∈ lw_tbl := kt 107 rfl
theorem k_108 : Cond.methodLink "ListingRow$Layout" 3 ⟨"java/lang/Object", "<init>", "()V"⟩ ∈ lw_tbl := kt 108 (by decide +kernel)
theorem k_109 : Cond.fieldLink "ListingRow$Layout" 9 "ListingRow$Layout" "begin" "I" ∈ lw_tbl := kt 109 (by decide +kernel)
theorem k_110 : Cond.fieldLink "ListingRow$Layout" 50 "ListingRow$Layout" "headerStart" "I" ∈ lw_tbl := kt 110 (by decide +kernel)
theorem k_111 : Cond.fieldLink "ListingRow$Layout" 15 "ListingRow$Layout" "end" "I" ∈ lw_tbl := kt 111 (by decide +kernel)
theorem k_112 : Cond.fieldLink "ListingRow$Listing" 74 "ListingRow$Layout" "end" "I" ∈ lw_tbl := kt 112 (by decide +kernel)
theorem k_113 : Cond.fieldLink "ListingRow$Layout" 18 "ListingRow$Layout" "headerAt" "I" ∈ lw_tbl := kt 113 (by decide +kernel)
theorem k_114 : Cond.fieldLink "ListingRow$Listing" 77 "ListingRow$Layout" "headerAt" "I" ∈ lw_tbl := kt 114 (by decide +kernel)
theorem k_115 : Cond.fieldLink "ListingRow$Layout" 44 "ListingRow$Layout" "headerNumber" "I" ∈ lw_tbl := kt 115 (by decide +kernel)
theorem k_116 : Cond.fieldLink "ListingRow$Listing" 103 "ListingRow$Layout" "headerNumber" "I" ∈ lw_tbl := kt 116 (by decide +kernel)
theorem k_117 : Cond.fieldLink "ListingRow$Layout" 21 "ListingRow$Layout" "headerEntries" "I" ∈ lw_tbl := kt 117 (by decide +kernel)
theorem k_118 : Cond.fieldLink "ListingRow$Listing" 84 "ListingRow$Layout" "headerEntries" "I" ∈ lw_tbl := kt 118 (by decide +kernel)
theorem k_119 : Cond.fieldLink "ListingRow$Layout" 32 "ListingRow$Layout" "entryAt" "I" ∈ lw_tbl := kt 119 (by decide +kernel)
theorem k_120 : Cond.fieldLink "ListingRow$Listing" 91 "ListingRow$Layout" "entryAt" "I" ∈ lw_tbl := kt 120 (by decide +kernel)
theorem k_121 : Cond.lays "ListingRow$Layout" "ListingRow$Layout" "begin" "I" ∈ lw_tbl := kt 121 (by decide +kernel)
theorem k_123 : Cond.lays "ListingRow$Layout" "ListingRow$Layout" "headerStart" "I" ∈ lw_tbl := kt 123 (by decide +kernel)
theorem k_125 : Cond.lays "ListingRow$Layout" "ListingRow$Layout" "end" "I" ∈ lw_tbl := kt 125 (by decide +kernel)
theorem k_127 : Cond.lays "ListingRow$Layout" "ListingRow$Layout" "headerAt" "I" ∈ lw_tbl := kt 127 (by decide +kernel)
theorem k_129 : Cond.lays "ListingRow$Layout" "ListingRow$Layout" "headerNumber" "I" ∈ lw_tbl := kt 129 (by decide +kernel)
theorem k_131 : Cond.lays "ListingRow$Layout" "ListingRow$Layout" "headerEntries" "I" ∈ lw_tbl := kt 131 (by decide +kernel)
theorem k_133 : Cond.lays "ListingRow$Layout" "ListingRow$Layout" "entryAt" "I" ∈ lw_tbl := kt 133 (by decide +kernel)
theorem k_136 : Cond.fieldLink "ListingRow$Listing" 11 "ListingRow$Listing" "row" "[B" ∈ lw_tbl := kt 136 (by decide +kernel)
theorem k_137 : Cond.fieldLink "ListingRow$Judge" 81 "ListingRow$Listing" "row" "[B" ∈ lw_tbl := kt 137 (by decide +kernel)
theorem k_138 : Cond.fieldLink "ListingRow$Walk" 80 "ListingRow$Listing" "row" "[B" ∈ lw_tbl := kt 138 (by decide +kernel)
theorem k_139 : Cond.fieldLink "ListingRow" 175 "ListingRow$Listing" "row" "[B" ∈ lw_tbl := kt 139 (by decide +kernel)
theorem k_140 : Cond.fieldLink "ListingRow$Listing" 15 "ListingRow$Listing" "length" "I" ∈ lw_tbl := kt 140 (by decide +kernel)
theorem k_141 : Cond.fieldLink "ListingRow$Walk" 30 "ListingRow$Listing" "length" "I" ∈ lw_tbl := kt 141 (by decide +kernel)
theorem k_142 : Cond.fieldLink "ListingRow$Judge" 40 "ListingRow$Listing" "length" "I" ∈ lw_tbl := kt 142 (by decide +kernel)
theorem k_143 : Cond.fieldLink "ListingRow" 137 "ListingRow$Listing" "length" "I" ∈ lw_tbl := kt 143 (by decide +kernel)
theorem k_144 : Cond.fieldLink "ListingRow$Listing" 19 "ListingRow$Listing" "headers" "I" ∈ lw_tbl := kt 144 (by decide +kernel)
theorem k_145 : Cond.fieldLink "ListingRow" 138 "ListingRow$Listing" "headers" "I" ∈ lw_tbl := kt 145 (by decide +kernel)
theorem k_146 : Cond.fieldLink "ListingRow$Listing" 22 "ListingRow$Listing" "begin" "I" ∈ lw_tbl := kt 146 (by decide +kernel)
theorem k_147 : Cond.fieldLink "ListingRow" 150 "ListingRow$Listing" "begin" "I" ∈ lw_tbl := kt 147 (by decide +kernel)
theorem k_148 : Cond.fieldLink "ListingRow$Listing" 28 "ListingRow$Listing" "marks" "Ljava/util/ArrayList;" ∈ lw_tbl := kt 148 (by decide +kernel)
theorem k_149 : Cond.fieldLink "ListingRow$Judge" 49 "ListingRow$Listing" "marks" "Ljava/util/ArrayList;" ∈ lw_tbl := kt 149 (by decide +kernel)
theorem k_150 : Cond.fieldLink "ListingRow" 141 "ListingRow$Listing" "marks" "Ljava/util/ArrayList;" ∈ lw_tbl := kt 150 (by decide +kernel)
theorem k_151 : Cond.fieldLink "ListingRow$Listing" 35 "ListingRow$Listing" "layout" "LListingRow$Layout;" ∈ lw_tbl := kt 151 (by decide +kernel)
theorem k_152 : Cond.lays "ListingRow$Listing" "ListingRow$Listing" "row" "[B" ∈ lw_tbl := kt 152 (by decide +kernel)
theorem k_154 : Cond.lays "ListingRow$Listing" "ListingRow$Listing" "length" "I" ∈ lw_tbl := kt 154 (by decide +kernel)
theorem k_156 : Cond.lays "ListingRow$Listing" "ListingRow$Listing" "headers" "I" ∈ lw_tbl := kt 156 (by decide +kernel)
theorem k_158 : Cond.lays "ListingRow$Listing" "ListingRow$Listing" "begin" "I" ∈ lw_tbl := kt 158 (by decide +kernel)
theorem k_160 : Cond.laysFinal "ListingRow$Listing" "ListingRow$Listing" "marks" "Ljava/util/ArrayList;" ∈ lw_tbl := kt 160 (by decide +kernel)
theorem k_162 : Cond.laysFinal "ListingRow$Listing" "ListingRow$Listing" "layout" "LListingRow$Layout;" ∈ lw_tbl := kt 162 (by decide +kernel)
theorem k_165 : Cond.classLink "ListingRow" 37 "ListingRow$Walk" ∈ lw_tbl := kt 165 (by decide +kernel)
theorem k_166 : Cond.instantiable "ListingRow$Walk" 12 ∈ lw_tbl := kt 166 (by decide +kernel)
theorem k_167 : Cond.methodLink "ListingRow" 39 y_Walk_init ∈ lw_tbl := kt 167 (by decide +kernel)
theorem k_168 : Cond.instanceMethod y_Walk_init ∈ lw_tbl := kt 168 (by decide +kernel)
set_option maxRecDepth 20000 in
theorem k_169 : Cond.code y_Walk_init b_Walk_init 2 (none) ∈ lw_tbl := kt 169 rfl
theorem k_170 : Cond.methodLink "ListingRow$Walk" 3 ⟨"java/lang/Object", "<init>", "()V"⟩ ∈ lw_tbl := kt 170 (by decide +kernel)
theorem k_171 : Cond.fieldLink "ListingRow$Walk" 9 "ListingRow$Walk" "listing" "LListingRow$Listing;" ∈ lw_tbl := kt 171 (by decide +kernel)
theorem k_172 : Cond.fieldLink "ListingRow$Walk" 15 "ListingRow$Walk" "end" "I" ∈ lw_tbl := kt 172 (by decide +kernel)
theorem k_173 : Cond.fieldLink "ListingRow$Walk" 19 "ListingRow$Walk" "entriesLeft" "I" ∈ lw_tbl := kt 173 (by decide +kernel)
theorem k_174 : Cond.fieldLink "ListingRow$Walk" 58 "ListingRow$Walk" "headerNumber" "J" ∈ lw_tbl := kt 174 (by decide +kernel)
theorem k_175 : Cond.fieldLink "ListingRow$Judge" 69 "ListingRow$Walk" "headerAt" "I" ∈ lw_tbl := kt 175 (by decide +kernel)
theorem k_176 : Cond.fieldLink "ListingRow$Walk" 51 "ListingRow$Walk" "headerAt" "I" ∈ lw_tbl := kt 176 (by decide +kernel)
theorem k_177 : Cond.fieldLink "ListingRow$Judge" 65 "ListingRow$Walk" "isFirst" "Z" ∈ lw_tbl := kt 177 (by decide +kernel)
theorem k_178 : Cond.fieldLink "ListingRow$Walk" 35 "ListingRow$Walk" "isFirst" "Z" ∈ lw_tbl := kt 178 (by decide +kernel)
theorem k_179 : Cond.fieldLink "ListingRow$Judge" 95 "ListingRow$Walk" "number" "J" ∈ lw_tbl := kt 179 (by decide +kernel)
theorem k_180 : Cond.fieldLink "ListingRow$Walk" 68 "ListingRow$Walk" "number" "J" ∈ lw_tbl := kt 180 (by decide +kernel)
theorem k_181 : Cond.fieldLink "ListingRow" 189 "ListingRow$Walk" "number" "J" ∈ lw_tbl := kt 181 (by decide +kernel)
theorem k_182 : Cond.fieldLink "ListingRow$Judge" 99 "ListingRow$Walk" "start" "J" ∈ lw_tbl := kt 182 (by decide +kernel)
theorem k_183 : Cond.fieldLink "ListingRow$Walk" 54 "ListingRow$Walk" "start" "J" ∈ lw_tbl := kt 183 (by decide +kernel)
theorem k_184 : Cond.fieldLink "ListingRow" 197 "ListingRow$Walk" "start" "J" ∈ lw_tbl := kt 184 (by decide +kernel)
theorem k_185 : Cond.fieldLink "ListingRow$Judge" 102 "ListingRow$Walk" "place" "I" ∈ lw_tbl := kt 185 (by decide +kernel)
theorem k_186 : Cond.fieldLink "ListingRow$Walk" 65 "ListingRow$Walk" "place" "I" ∈ lw_tbl := kt 186 (by decide +kernel)
theorem k_187 : Cond.fieldLink "ListingRow" 196 "ListingRow$Walk" "place" "I" ∈ lw_tbl := kt 187 (by decide +kernel)
theorem k_188 : Cond.fieldLink "ListingRow$Judge" 105 "ListingRow$Walk" "kind" "I" ∈ lw_tbl := kt 188 (by decide +kernel)
theorem k_189 : Cond.fieldLink "ListingRow$Walk" 71 "ListingRow$Walk" "kind" "I" ∈ lw_tbl := kt 189 (by decide +kernel)
theorem k_190 : Cond.fieldLink "ListingRow" 193 "ListingRow$Walk" "kind" "I" ∈ lw_tbl := kt 190 (by decide +kernel)
theorem k_191 : Cond.fieldLink "ListingRow$Judge" 75 "ListingRow$Walk" "nameAt" "I" ∈ lw_tbl := kt 191 (by decide +kernel)
theorem k_192 : Cond.fieldLink "ListingRow$Walk" 77 "ListingRow$Walk" "nameAt" "I" ∈ lw_tbl := kt 192 (by decide +kernel)
theorem k_193 : Cond.fieldLink "ListingRow$Judge" 78 "ListingRow$Walk" "nameLength" "I" ∈ lw_tbl := kt 193 (by decide +kernel)
theorem k_194 : Cond.fieldLink "ListingRow$Walk" 74 "ListingRow$Walk" "nameLength" "I" ∈ lw_tbl := kt 194 (by decide +kernel)
theorem k_195 : Cond.fieldLink "ListingRow" 199 "ListingRow$Walk" "nameLength" "I" ∈ lw_tbl := kt 195 (by decide +kernel)
theorem k_196 : Cond.laysFinal "ListingRow$Walk" "ListingRow$Walk" "listing" "LListingRow$Listing;" ∈ lw_tbl := kt 196 (by decide +kernel)
theorem k_198 : Cond.lays "ListingRow$Walk" "ListingRow$Walk" "end" "I" ∈ lw_tbl := kt 198 (by decide +kernel)
theorem k_200 : Cond.lays "ListingRow$Walk" "ListingRow$Walk" "entriesLeft" "I" ∈ lw_tbl := kt 200 (by decide +kernel)
theorem k_202 : Cond.lays "ListingRow$Walk" "ListingRow$Walk" "headerNumber" "J" ∈ lw_tbl := kt 202 (by decide +kernel)
theorem k_204 : Cond.lays "ListingRow$Walk" "ListingRow$Walk" "headerAt" "I" ∈ lw_tbl := kt 204 (by decide +kernel)
theorem k_206 : Cond.lays "ListingRow$Walk" "ListingRow$Walk" "isFirst" "Z" ∈ lw_tbl := kt 206 (by decide +kernel)
theorem k_208 : Cond.lays "ListingRow$Walk" "ListingRow$Walk" "number" "J" ∈ lw_tbl := kt 208 (by decide +kernel)
theorem k_210 : Cond.lays "ListingRow$Walk" "ListingRow$Walk" "start" "J" ∈ lw_tbl := kt 210 (by decide +kernel)
theorem k_212 : Cond.lays "ListingRow$Walk" "ListingRow$Walk" "place" "I" ∈ lw_tbl := kt 212 (by decide +kernel)
theorem k_214 : Cond.lays "ListingRow$Walk" "ListingRow$Walk" "kind" "I" ∈ lw_tbl := kt 214 (by decide +kernel)
theorem k_216 : Cond.lays "ListingRow$Walk" "ListingRow$Walk" "nameAt" "I" ∈ lw_tbl := kt 216 (by decide +kernel)
theorem k_218 : Cond.lays "ListingRow$Walk" "ListingRow$Walk" "nameLength" "I" ∈ lw_tbl := kt 218 (by decide +kernel)
theorem k_221 : Cond.classLink "ListingRow" 46 "ListingRow$Judge" ∈ lw_tbl := kt 221 (by decide +kernel)
theorem k_222 : Cond.instantiable "ListingRow$Judge" 5 ∈ lw_tbl := kt 222 (by decide +kernel)
theorem k_223 : Cond.methodLink "ListingRow" 48 y_Judge_init ∈ lw_tbl := kt 223 (by decide +kernel)
theorem k_224 : Cond.instanceMethod y_Judge_init ∈ lw_tbl := kt 224 (by decide +kernel)
set_option maxRecDepth 20000 in
theorem k_225 : Cond.code y_Judge_init b_Judge_init 4 (none) ∈ lw_tbl := kt 225 rfl
theorem k_226 : Cond.methodLink "ListingRow$Judge" 3 ⟨"java/lang/Object", "<init>", "()V"⟩ ∈ lw_tbl := kt 226 (by decide +kernel)
theorem k_227 : Cond.fieldLink "ListingRow$Judge" 18 "ListingRow$Judge" "listing" "LListingRow$Listing;" ∈ lw_tbl := kt 227 (by decide +kernel)
theorem k_228 : Cond.fieldLink "ListingRow$Judge" 22 "ListingRow$Judge" "walk" "LListingRow$Walk;" ∈ lw_tbl := kt 228 (by decide +kernel)
theorem k_229 : Cond.fieldLink "ListingRow$Judge" 26 "ListingRow$Judge" "known" "LListingRow$Known;" ∈ lw_tbl := kt 229 (by decide +kernel)
theorem k_230 : Cond.fieldLink "ListingRow$Judge" 11 "ListingRow$Judge" "verdict" "I" ∈ lw_tbl := kt 230 (by decide +kernel)
theorem k_231 : Cond.fieldLink "ListingRow$Judge" 15 "ListingRow$Judge" "marksMet" "I" ∈ lw_tbl := kt 231 (by decide +kernel)
theorem k_232 : Cond.laysFinal "ListingRow$Judge" "ListingRow$Judge" "listing" "LListingRow$Listing;" ∈ lw_tbl := kt 232 (by decide +kernel)
theorem k_234 : Cond.laysFinal "ListingRow$Judge" "ListingRow$Judge" "walk" "LListingRow$Walk;" ∈ lw_tbl := kt 234 (by decide +kernel)
theorem k_236 : Cond.laysFinal "ListingRow$Judge" "ListingRow$Judge" "known" "LListingRow$Known;" ∈ lw_tbl := kt 236 (by decide +kernel)
theorem k_238 : Cond.lays "ListingRow$Judge" "ListingRow$Judge" "verdict" "I" ∈ lw_tbl := kt 238 (by decide +kernel)
theorem k_240 : Cond.lays "ListingRow$Judge" "ListingRow$Judge" "marksMet" "I" ∈ lw_tbl := kt 240 (by decide +kernel)
theorem k_243 : Cond.fieldLink "ListingRow" 10 "ListingRow" "tape" "LListingRow$Tape;" ∈ lw_tbl := kt 243 (by decide +kernel)
theorem k_244 : Cond.fieldLink "ListingRow" 19 "ListingRow" "directory" "LListingRow$Directory;" ∈ lw_tbl := kt 244 (by decide +kernel)
theorem k_245 : Cond.fieldLink "ListingRow" 26 "ListingRow" "known" "LListingRow$Known;" ∈ lw_tbl := kt 245 (by decide +kernel)
theorem k_246 : Cond.fieldLink "ListingRow" 33 "ListingRow" "listing" "LListingRow$Listing;" ∈ lw_tbl := kt 246 (by decide +kernel)
theorem k_247 : Cond.fieldLink "ListingRow" 42 "ListingRow" "walk" "LListingRow$Walk;" ∈ lw_tbl := kt 247 (by decide +kernel)
theorem k_248 : Cond.fieldLink "ListingRow" 51 "ListingRow" "judge" "LListingRow$Judge;" ∈ lw_tbl := kt 248 (by decide +kernel)
theorem k_249 : Cond.fieldLink "ListingRow" 55 "ListingRow" "passedEntries" "I" ∈ lw_tbl := kt 249 (by decide +kernel)
theorem k_250 : Cond.laysFinal "ListingRow" "ListingRow" "tape" "LListingRow$Tape;" ∈ lw_tbl := kt 250 (by decide +kernel)
theorem k_252 : Cond.laysFinal "ListingRow" "ListingRow" "directory" "LListingRow$Directory;" ∈ lw_tbl := kt 252 (by decide +kernel)
theorem k_254 : Cond.laysFinal "ListingRow" "ListingRow" "known" "LListingRow$Known;" ∈ lw_tbl := kt 254 (by decide +kernel)
theorem k_256 : Cond.laysFinal "ListingRow" "ListingRow" "listing" "LListingRow$Listing;" ∈ lw_tbl := kt 256 (by decide +kernel)
theorem k_258 : Cond.laysFinal "ListingRow" "ListingRow" "walk" "LListingRow$Walk;" ∈ lw_tbl := kt 258 (by decide +kernel)
theorem k_260 : Cond.laysFinal "ListingRow" "ListingRow" "judge" "LListingRow$Judge;" ∈ lw_tbl := kt 260 (by decide +kernel)
theorem k_262 : Cond.lays "ListingRow" "ListingRow" "passedEntries" "I" ∈ lw_tbl := kt 262 (by decide +kernel)
theorem k_265 : Cond.methodLink "ListingRowLaw" 15 y_Row_feed ∈ lw_tbl := kt 265 (by decide +kernel)
theorem k_266 : Cond.instanceMethod y_Row_feed ∈ lw_tbl := kt 266 (by decide +kernel)
theorem k_267 : Cond.selects "ListingRow" y_Row_feed y_Row_feed ∈ lw_tbl := kt 267 (by decide +kernel)
set_option maxRecDepth 20000 in
theorem k_268 : Cond.code y_Row_feed b_Row_feed 4 (some .int) ∈ lw_tbl := kt 268 rfl
theorem k_269 : Cond.methodLink "ListingRow" 59 y_Tape_append ∈ lw_tbl := kt 269 (by decide +kernel)
theorem k_270 : Cond.instanceMethod y_Tape_append ∈ lw_tbl := kt 270 (by decide +kernel)
theorem k_271 : Cond.selects "ListingRow$Tape" y_Tape_append y_Tape_append ∈ lw_tbl := kt 271 (by decide +kernel)
set_option maxRecDepth 20000 in
theorem k_272 : Cond.code y_Tape_append b_Tape_append 5 (some .boolean) ∈ lw_tbl := kt 272 rfl
theorem k_273 : Cond.methodLink "ListingRowLaw" 20 y_Row_add ∈ lw_tbl := kt 273 (by decide +kernel)
theorem k_274 : Cond.instanceMethod y_Row_add ∈ lw_tbl := kt 274 (by decide +kernel)
theorem k_275 : Cond.selects "ListingRow" y_Row_add y_Row_add ∈ lw_tbl := kt 275 (by decide +kernel)
set_option maxRecDepth 20000 in
theorem k_276 : Cond.code y_Row_add b_Row_add 8 (some .int) ∈ lw_tbl := kt 276 rfl
theorem k_277 : Cond.methodLink "ListingRow" 66 y_Tape_useUp ∈ lw_tbl := kt 277 (by decide +kernel)
theorem k_278 : Cond.instanceMethod y_Tape_useUp ∈ lw_tbl := kt 278 (by decide +kernel)
theorem k_279 : Cond.selects "ListingRow$Tape" y_Tape_useUp y_Tape_useUp ∈ lw_tbl := kt 279 (by decide +kernel)
set_option maxRecDepth 20000 in
theorem k_280 : Cond.code y_Tape_useUp b_Tape_useUp 2 (some .int) ∈ lw_tbl := kt 280 rfl
theorem k_281 : Cond.methodLink "ListingRow" 74 y_Nam_isName ∈ lw_tbl := kt 281 (by decide +kernel)
theorem k_282 : Cond.static y_Nam_isName ∈ lw_tbl := kt 282 (by decide +kernel)
set_option maxRecDepth 20000 in
theorem k_283 : Cond.code y_Nam_isName b_Nam_isName 5 (some .boolean) ∈ lw_tbl := kt 283 rfl
theorem k_284 : Cond.methodLink "ListingRow" 80 y_Ent_canHave ∈ lw_tbl := kt 284 (by decide +kernel)
theorem k_285 : Cond.static y_Ent_canHave ∈ lw_tbl := kt 285 (by decide +kernel)
set_option maxRecDepth 20000 in
theorem k_286 : Cond.code y_Ent_canHave b_Ent_canHave 4 (some .boolean) ∈ lw_tbl := kt 286 rfl
theorem k_287 : Cond.constant "ListingRow$Entry" 28 100000 ∈ lw_tbl := kt 287 (by decide +kernel)
theorem k_288 : Cond.constant "ListingRow$Entry" 29 65535 ∈ lw_tbl := kt 288 (by decide +kernel)
theorem k_289 : Cond.methodLink "ListingRow" 86 y_Dir_placeOf ∈ lw_tbl := kt 289 (by decide +kernel)
theorem k_290 : Cond.instanceMethod y_Dir_placeOf ∈ lw_tbl := kt 290 (by decide +kernel)
theorem k_291 : Cond.selects "ListingRow$Directory" y_Dir_placeOf y_Dir_placeOf ∈ lw_tbl := kt 291 (by decide +kernel)
set_option maxRecDepth 20000 in
theorem k_292 : Cond.code y_Dir_placeOf b_Dir_placeOf 7 (some .int) ∈ lw_tbl := kt 292 rfl
theorem k_293 : Cond.methodLink "ListingRow$Directory" 18 y_AL_size ∈ lw_tbl := kt 293 (by decide +kernel)
theorem k_294 : Cond.instanceMethod y_AL_size ∈ lw_tbl := kt 294 (by decide +kernel)
theorem k_295 : Cond.selects "java/util/ArrayList" y_AL_size y_AL_size ∈ lw_tbl := kt 295 (by decide +kernel)
set_option maxRecDepth 20000 in
theorem k_296 : Cond.code y_AL_size b_AL_size 1 (some .int) ∈ lw_tbl := kt 296 rfl
theorem k_297 : Cond.methodLink "ListingRow$Directory" 22 y_Dir_compareAt ∈ lw_tbl := kt 297 (by decide +kernel)
theorem k_299 : Cond.instanceMethod y_Dir_compareAt ∈ lw_tbl := kt 299 (by decide +kernel)
set_option maxRecDepth 20000 in
theorem k_300 : Cond.code y_Dir_compareAt b_Dir_compareAt 5 (some .int) ∈ lw_tbl := kt 300 rfl
theorem k_301 : Cond.methodLink "ListingRow$Directory" 26 y_AL_get ∈ lw_tbl := kt 301 (by decide +kernel)
theorem k_302 : Cond.instanceMethod y_AL_get ∈ lw_tbl := kt 302 (by decide +kernel)
theorem k_303 : Cond.selects "java/util/ArrayList" y_AL_get y_AL_get ∈ lw_tbl := kt 303 (by decide +kernel)
set_option maxRecDepth 20000 in
theorem k_304 : Cond.code y_AL_get b_AL_get 2 (some (.object "java/lang/Object")) ∈ lw_tbl := kt 304 rfl
theorem k_305 : Cond.methodLink "java/util/ArrayList" 118 y_OBJ_checkIndex ∈ lw_tbl := kt 305 (by decide +kernel)
theorem k_306 : Cond.static y_OBJ_checkIndex ∈ lw_tbl := kt 306 (by decide +kernel)
set_option maxRecDepth 20000 in
theorem k_307 : Cond.code y_OBJ_checkIndex b_OBJ_checkIndex 2 (some .int) ∈ lw_tbl := kt 307 rfl
theorem k_308 : Cond.methodLink "java/util/Objects" 105 y_PRE_checkIndex ∈ lw_tbl := kt 308 (by decide +kernel)
theorem k_309 : Cond.static y_PRE_checkIndex ∈ lw_tbl := kt 309 (by decide +kernel)
set_option maxRecDepth 20000 in
theorem k_310 : Cond.code y_PRE_checkIndex b_PRE_checkIndex 3 (some .int) ∈ lw_tbl := kt 310 rfl
theorem k_311 : Cond.methodLink "java/util/ArrayList" 123 y_AL_elementData ∈ lw_tbl := kt 311 (by decide +kernel)
theorem k_312 : Cond.instanceMethod y_AL_elementData ∈ lw_tbl := kt 312 (by decide +kernel)
theorem k_313 : Cond.selects "java/util/ArrayList" y_AL_elementData y_AL_elementData ∈ lw_tbl := kt 313 (by decide +kernel)
set_option maxRecDepth 20000 in
theorem k_314 : Cond.code y_AL_elementData b_AL_elementData 2 (some (.object "java/lang/Object")) ∈ lw_tbl := kt 314 rfl
theorem k_315 : Cond.classLink "ListingRow$Directory" 30 "ListingRow$Entry" ∈ lw_tbl := kt 315 (by decide +kernel)
theorem k_316 : Cond.methodLink "ListingRow$Directory" 36 y_Nam_compare ∈ lw_tbl := kt 316 (by decide +kernel)
theorem k_317 : Cond.static y_Nam_compare ∈ lw_tbl := kt 317 (by decide +kernel)
set_option maxRecDepth 20000 in
theorem k_318 : Cond.code y_Nam_compare b_Nam_compare 9 (some .int) ∈ lw_tbl := kt 318 rfl
theorem k_319 : Cond.methodLink "ListingRow$Names" 9 y_MTH_min ∈ lw_tbl := kt 319 (by decide +kernel)
theorem k_320 : Cond.static y_MTH_min ∈ lw_tbl := kt 320 (by decide +kernel)
set_option maxRecDepth 20000 in
theorem k_321 : Cond.code y_MTH_min b_MTH_min 2 (some .int) ∈ lw_tbl := kt 321 rfl
theorem k_322 : Cond.methodLink "ListingRow" 90 y_Dir_hasAt ∈ lw_tbl := kt 322 (by decide +kernel)
theorem k_323 : Cond.instanceMethod y_Dir_hasAt ∈ lw_tbl := kt 323 (by decide +kernel)
theorem k_324 : Cond.selects "ListingRow$Directory" y_Dir_hasAt y_Dir_hasAt ∈ lw_tbl := kt 324 (by decide +kernel)
set_option maxRecDepth 20000 in
theorem k_325 : Cond.code y_Dir_hasAt b_Dir_hasAt 4 (some .boolean) ∈ lw_tbl := kt 325 rfl
theorem k_326 : Cond.methodLink "ListingRow" 94 y_Dir_isFull ∈ lw_tbl := kt 326 (by decide +kernel)
theorem k_327 : Cond.instanceMethod y_Dir_isFull ∈ lw_tbl := kt 327 (by decide +kernel)
theorem k_328 : Cond.selects "ListingRow$Directory" y_Dir_isFull y_Dir_isFull ∈ lw_tbl := kt 328 (by decide +kernel)
set_option maxRecDepth 20000 in
theorem k_329 : Cond.code y_Dir_isFull b_Dir_isFull 1 (some .boolean) ∈ lw_tbl := kt 329 rfl
theorem k_330 : Cond.methodLink "ListingRow" 98 y_Known_hasRoomFor ∈ lw_tbl := kt 330 (by decide +kernel)
theorem k_331 : Cond.instanceMethod y_Known_hasRoomFor ∈ lw_tbl := kt 331 (by decide +kernel)
theorem k_332 : Cond.selects "ListingRow$Known" y_Known_hasRoomFor y_Known_hasRoomFor ∈ lw_tbl := kt 332 (by decide +kernel)
set_option maxRecDepth 20000 in
theorem k_333 : Cond.code y_Known_hasRoomFor b_Known_hasRoomFor 2 (some .boolean) ∈ lw_tbl := kt 333 rfl
theorem k_334 : Cond.methodLink "ListingRow$Known" 18 y_AL_size ∈ lw_tbl := kt 334 (by decide +kernel)
theorem k_335 : Cond.methodLink "ListingRow$Known" 32 y_Known_placeOf ∈ lw_tbl := kt 335 (by decide +kernel)
theorem k_337 : Cond.instanceMethod y_Known_placeOf ∈ lw_tbl := kt 337 (by decide +kernel)
set_option maxRecDepth 20000 in
theorem k_338 : Cond.code y_Known_placeOf b_Known_placeOf 6 (some .int) ∈ lw_tbl := kt 338 rfl
theorem k_339 : Cond.methodLink "ListingRow$Known" 22 y_AL_get ∈ lw_tbl := kt 339 (by decide +kernel)
theorem k_340 : Cond.classLink "ListingRow$Known" 26 "ListingRow$Entry" ∈ lw_tbl := kt 340 (by decide +kernel)
theorem k_341 : Cond.methodLink "ListingRow$Known" 36 y_Known_hasAt ∈ lw_tbl := kt 341 (by decide +kernel)
theorem k_343 : Cond.instanceMethod y_Known_hasAt ∈ lw_tbl := kt 343 (by decide +kernel)
set_option maxRecDepth 20000 in
theorem k_344 : Cond.code y_Known_hasAt b_Known_hasAt 3 (some .boolean) ∈ lw_tbl := kt 344 rfl
theorem k_345 : Cond.classLink "ListingRow" 81 "ListingRow$Entry" ∈ lw_tbl := kt 345 (by decide +kernel)
theorem k_346 : Cond.instantiable "ListingRow$Entry" 5 ∈ lw_tbl := kt 346 (by decide +kernel)
theorem k_347 : Cond.methodLink "ListingRow" 102 y_ARR_copyB ∈ lw_tbl := kt 347 (by decide +kernel)
theorem k_348 : Cond.static y_ARR_copyB ∈ lw_tbl := kt 348 (by decide +kernel)
set_option maxRecDepth 20000 in
theorem k_349 : Cond.code y_ARR_copyB b_ARR_copyB 3 (some (.array .byte)) ∈ lw_tbl := kt 349 rfl
theorem k_350 : Cond.methodLink "java/util/Arrays" 310 ⟨"[B", "clone", "()Ljava/lang/Object;"⟩ ∈ lw_tbl := kt 350 (by decide +kernel)
theorem k_351 : Cond.sameMethod "[B" "java/lang/Object" "clone" "()Ljava/lang/Object;" ∈ lw_tbl := kt 351 (by decide +kernel)
theorem k_352 : Cond.native ⟨"java/lang/Object", "clone", "()Ljava/lang/Object;"⟩ ∈ lw_tbl := kt 352 (by decide +kernel)
theorem k_353 : Cond.instanceMethod ⟨"java/lang/Object", "clone", "()Ljava/lang/Object;"⟩ ∈ lw_tbl := kt 353 (by decide +kernel)
theorem k_354 : Cond.selects "[B" ⟨"[B", "clone", "()Ljava/lang/Object;"⟩ ⟨"java/lang/Object", "clone", "()Ljava/lang/Object;"⟩ ∈ lw_tbl := kt 354 (by decide +kernel)
theorem k_355 : Cond.castable "[B" "java/lang/Cloneable" ∈ lw_tbl := kt 355 (by decide +kernel)
theorem k_356 : Cond.classLink "java/util/Arrays" 311 "[B" ∈ lw_tbl := kt 356 (by decide +kernel)
theorem k_357 : Cond.methodLink "java/util/Arrays" 304 y_MTH_min ∈ lw_tbl := kt 357 (by decide +kernel)
theorem k_358 : Cond.methodLink "java/util/Arrays" 150 ⟨"java/lang/System", "arraycopy", "(Ljava/lang/Object;ILjava/lang/Object;II)V"⟩ ∈ lw_tbl := kt 358 (by decide +kernel)
theorem k_359 : Cond.static ⟨"java/lang/System", "arraycopy", "(Ljava/lang/Object;ILjava/lang/Object;II)V"⟩ ∈ lw_tbl := kt 359 (by decide +kernel)
theorem k_360 : Cond.native ⟨"java/lang/System", "arraycopy", "(Ljava/lang/Object;ILjava/lang/Object;II)V"⟩ ∈ lw_tbl := kt 360 (by decide +kernel)
theorem k_361 : Cond.methodLink "ListingRow" 108 y_Ent_init ∈ lw_tbl := kt 361 (by decide +kernel)
theorem k_362 : Cond.instanceMethod y_Ent_init ∈ lw_tbl := kt 362 (by decide +kernel)
set_option maxRecDepth 20000 in
theorem k_363 : Cond.code y_Ent_init b_Ent_init 6 (none) ∈ lw_tbl := kt 363 rfl
theorem k_364 : Cond.methodLink "ListingRow$Entry" 3 ⟨"java/lang/Object", "<init>", "()V"⟩ ∈ lw_tbl := kt 364 (by decide +kernel)
theorem k_365 : Cond.fieldLink "ListingRow$Entry" 9 "ListingRow$Entry" "name" "[B" ∈ lw_tbl := kt 365 (by decide +kernel)
theorem k_366 : Cond.fieldLink "ListingRow$Layout" 35 "ListingRow$Entry" "name" "[B" ∈ lw_tbl := kt 366 (by decide +kernel)
theorem k_367 : Cond.fieldLink "ListingRow$Listing" 109 "ListingRow$Entry" "name" "[B" ∈ lw_tbl := kt 367 (by decide +kernel)
theorem k_368 : Cond.fieldLink "ListingRow$Directory" 32 "ListingRow$Entry" "name" "[B" ∈ lw_tbl := kt 368 (by decide +kernel)
theorem k_369 : Cond.fieldLink "ListingRow$Entry" 15 "ListingRow$Entry" "number" "I" ∈ lw_tbl := kt 369 (by decide +kernel)
theorem k_370 : Cond.fieldLink "ListingRow$Known" 28 "ListingRow$Entry" "number" "I" ∈ lw_tbl := kt 370 (by decide +kernel)
theorem k_371 : Cond.fieldLink "ListingRow$Layout" 41 "ListingRow$Entry" "number" "I" ∈ lw_tbl := kt 371 (by decide +kernel)
theorem k_372 : Cond.fieldLink "ListingRow$Listing" 100 "ListingRow$Entry" "number" "I" ∈ lw_tbl := kt 372 (by decide +kernel)
theorem k_373 : Cond.fieldLink "ListingRow$Entry" 19 "ListingRow$Entry" "start" "I" ∈ lw_tbl := kt 373 (by decide +kernel)
theorem k_374 : Cond.fieldLink "ListingRow$Layout" 47 "ListingRow$Entry" "start" "I" ∈ lw_tbl := kt 374 (by decide +kernel)
theorem k_375 : Cond.fieldLink "ListingRow$Listing" 118 "ListingRow$Entry" "start" "I" ∈ lw_tbl := kt 375 (by decide +kernel)
theorem k_376 : Cond.fieldLink "ListingRow$Known" 50 "ListingRow$Entry" "start" "I" ∈ lw_tbl := kt 376 (by decide +kernel)
theorem k_377 : Cond.fieldLink "ListingRow$Entry" 22 "ListingRow$Entry" "place" "I" ∈ lw_tbl := kt 377 (by decide +kernel)
theorem k_378 : Cond.fieldLink "ListingRow$Listing" 94 "ListingRow$Entry" "place" "I" ∈ lw_tbl := kt 378 (by decide +kernel)
theorem k_379 : Cond.fieldLink "ListingRow$Known" 53 "ListingRow$Entry" "place" "I" ∈ lw_tbl := kt 379 (by decide +kernel)
theorem k_380 : Cond.fieldLink "ListingRow$Entry" 25 "ListingRow$Entry" "kind" "I" ∈ lw_tbl := kt 380 (by decide +kernel)
theorem k_381 : Cond.fieldLink "ListingRow$Listing" 106 "ListingRow$Entry" "kind" "I" ∈ lw_tbl := kt 381 (by decide +kernel)
theorem k_382 : Cond.fieldLink "ListingRow$Known" 56 "ListingRow$Entry" "kind" "I" ∈ lw_tbl := kt 382 (by decide +kernel)
theorem k_383 : Cond.laysFinal "ListingRow$Entry" "ListingRow$Entry" "name" "[B" ∈ lw_tbl := kt 383 (by decide +kernel)
theorem k_385 : Cond.laysFinal "ListingRow$Entry" "ListingRow$Entry" "number" "I" ∈ lw_tbl := kt 385 (by decide +kernel)
theorem k_387 : Cond.laysFinal "ListingRow$Entry" "ListingRow$Entry" "start" "I" ∈ lw_tbl := kt 387 (by decide +kernel)
theorem k_389 : Cond.laysFinal "ListingRow$Entry" "ListingRow$Entry" "place" "I" ∈ lw_tbl := kt 389 (by decide +kernel)
theorem k_391 : Cond.laysFinal "ListingRow$Entry" "ListingRow$Entry" "kind" "I" ∈ lw_tbl := kt 391 (by decide +kernel)
theorem k_394 : Cond.methodLink "ListingRow" 111 y_Dir_insert ∈ lw_tbl := kt 394 (by decide +kernel)
theorem k_395 : Cond.instanceMethod y_Dir_insert ∈ lw_tbl := kt 395 (by decide +kernel)
theorem k_396 : Cond.selects "ListingRow$Directory" y_Dir_insert y_Dir_insert ∈ lw_tbl := kt 396 (by decide +kernel)
set_option maxRecDepth 20000 in
theorem k_397 : Cond.code y_Dir_insert b_Dir_insert 3 (none) ∈ lw_tbl := kt 397 rfl
theorem k_398 : Cond.methodLink "ListingRow$Directory" 42 y_AL_add2 ∈ lw_tbl := kt 398 (by decide +kernel)
theorem k_399 : Cond.instanceMethod y_AL_add2 ∈ lw_tbl := kt 399 (by decide +kernel)
theorem k_400 : Cond.selects "java/util/ArrayList" y_AL_add2 y_AL_add2 ∈ lw_tbl := kt 400 (by decide +kernel)
set_option maxRecDepth 20000 in
theorem k_401 : Cond.code y_AL_add2 b_AL_add2 5 (none) ∈ lw_tbl := kt 401 rfl
theorem k_402 : Cond.methodLink "java/util/ArrayList" 135 y_AL_rangeCheckForAdd ∈ lw_tbl := kt 402 (by decide +kernel)
theorem k_404 : Cond.instanceMethod y_AL_rangeCheckForAdd ∈ lw_tbl := kt 404 (by decide +kernel)
set_option maxRecDepth 20000 in
theorem k_405 : Cond.code y_AL_rangeCheckForAdd b_AL_rangeCheckForAdd 2 (none) ∈ lw_tbl := kt 405 rfl
theorem k_406 : Cond.methodLink "java/util/ArrayList" 129 y_AL_grow0 ∈ lw_tbl := kt 406 (by decide +kernel)
theorem k_408 : Cond.instanceMethod y_AL_grow0 ∈ lw_tbl := kt 408 (by decide +kernel)
set_option maxRecDepth 20000 in
theorem k_409 : Cond.code y_AL_grow0 b_AL_grow0 1 (some (.array (.object "java/lang/Object"))) ∈ lw_tbl := kt 409 rfl
theorem k_410 : Cond.methodLink "java/util/ArrayList" 69 y_AL_grow1 ∈ lw_tbl := kt 410 (by decide +kernel)
theorem k_412 : Cond.instanceMethod y_AL_grow1 ∈ lw_tbl := kt 412 (by decide +kernel)
set_option maxRecDepth 20000 in
theorem k_413 : Cond.code y_AL_grow1 b_AL_grow1 4 (some (.array (.object "java/lang/Object"))) ∈ lw_tbl := kt 413 rfl
theorem k_414 : Cond.methodLink "java/util/ArrayList" 73 y_ASP_newLength ∈ lw_tbl := kt 414 (by decide +kernel)
theorem k_415 : Cond.static y_ASP_newLength ∈ lw_tbl := kt 415 (by decide +kernel)
set_option maxRecDepth 20000 in
theorem k_416 : Cond.code y_ASP_newLength b_ASP_newLength 4 (some .int) ∈ lw_tbl := kt 416 rfl
theorem k_417 : Cond.methodLink "jdk/internal/util/ArraysSupport" 194 y_MTH_max ∈ lw_tbl := kt 417 (by decide +kernel)
theorem k_418 : Cond.static y_MTH_max ∈ lw_tbl := kt 418 (by decide +kernel)
set_option maxRecDepth 20000 in
theorem k_419 : Cond.code y_MTH_max b_MTH_max 2 (some .int) ∈ lw_tbl := kt 419 rfl
theorem k_420 : Cond.constant "jdk/internal/util/ArraysSupport" 200 2147483639 ∈ lw_tbl := kt 420 (by decide +kernel)
theorem k_421 : Cond.methodLink "jdk/internal/util/ArraysSupport" 201 y_ASP_hugeLength ∈ lw_tbl := kt 421 (by decide +kernel)
theorem k_422 : Cond.static y_ASP_hugeLength ∈ lw_tbl := kt 422 (by decide +kernel)
set_option maxRecDepth 20000 in
theorem k_423 : Cond.code y_ASP_hugeLength b_ASP_hugeLength 3 (some .int) ∈ lw_tbl := kt 423 rfl
theorem k_424 : Cond.methodLink "java/util/ArrayList" 66 y_ARR_copy2 ∈ lw_tbl := kt 424 (by decide +kernel)
theorem k_425 : Cond.static y_ARR_copy2 ∈ lw_tbl := kt 425 (by decide +kernel)
set_option maxRecDepth 20000 in
theorem k_426 : Cond.code y_ARR_copy2 b_ARR_copy2 2 (some (.array (.object "java/lang/Object"))) ∈ lw_tbl := kt 426 rfl
theorem k_427 : Cond.methodLink "java/util/Arrays" 86 ⟨"java/lang/Object", "getClass", "()Ljava/lang/Class;"⟩ ∈ lw_tbl := kt 427 (by decide +kernel)
theorem k_428 : Cond.instanceMethod ⟨"java/lang/Object", "getClass", "()Ljava/lang/Class;"⟩ ∈ lw_tbl := kt 428 (by decide +kernel)
theorem k_429 : Cond.sameMethod "java/lang/Object" "java/lang/Object" "getClass" "()Ljava/lang/Class;" ∈ lw_tbl := kt 429 (by decide +kernel)
theorem k_430 : Cond.selects "ListingRow" ⟨"java/lang/Object", "getClass", "()Ljava/lang/Class;"⟩ ⟨"java/lang/Object", "getClass", "()Ljava/lang/Class;"⟩ ∈ lw_tbl := kt 430 (by decide +kernel)
theorem k_431 : Cond.selects "ListingRow$Directory" ⟨"java/lang/Object", "getClass", "()Ljava/lang/Class;"⟩ ⟨"java/lang/Object", "getClass", "()Ljava/lang/Class;"⟩ ∈ lw_tbl := kt 431 (by decide +kernel)
theorem k_432 : Cond.selects "ListingRow$Entry" ⟨"java/lang/Object", "getClass", "()Ljava/lang/Class;"⟩ ⟨"java/lang/Object", "getClass", "()Ljava/lang/Class;"⟩ ∈ lw_tbl := kt 432 (by decide +kernel)
theorem k_433 : Cond.selects "ListingRow$Judge" ⟨"java/lang/Object", "getClass", "()Ljava/lang/Class;"⟩ ⟨"java/lang/Object", "getClass", "()Ljava/lang/Class;"⟩ ∈ lw_tbl := kt 433 (by decide +kernel)
theorem k_434 : Cond.selects "ListingRow$Known" ⟨"java/lang/Object", "getClass", "()Ljava/lang/Class;"⟩ ⟨"java/lang/Object", "getClass", "()Ljava/lang/Class;"⟩ ∈ lw_tbl := kt 434 (by decide +kernel)
theorem k_435 : Cond.selects "ListingRow$Layout" ⟨"java/lang/Object", "getClass", "()Ljava/lang/Class;"⟩ ⟨"java/lang/Object", "getClass", "()Ljava/lang/Class;"⟩ ∈ lw_tbl := kt 435 (by decide +kernel)
theorem k_436 : Cond.selects "ListingRow$Listing" ⟨"java/lang/Object", "getClass", "()Ljava/lang/Class;"⟩ ⟨"java/lang/Object", "getClass", "()Ljava/lang/Class;"⟩ ∈ lw_tbl := kt 436 (by decide +kernel)
theorem k_437 : Cond.selects "ListingRow$Mark" ⟨"java/lang/Object", "getClass", "()Ljava/lang/Class;"⟩ ⟨"java/lang/Object", "getClass", "()Ljava/lang/Class;"⟩ ∈ lw_tbl := kt 437 (by decide +kernel)
theorem k_438 : Cond.selects "ListingRow$Tape" ⟨"java/lang/Object", "getClass", "()Ljava/lang/Class;"⟩ ⟨"java/lang/Object", "getClass", "()Ljava/lang/Class;"⟩ ∈ lw_tbl := kt 438 (by decide +kernel)
theorem k_439 : Cond.selects "ListingRow$Walk" ⟨"java/lang/Object", "getClass", "()Ljava/lang/Class;"⟩ ⟨"java/lang/Object", "getClass", "()Ljava/lang/Class;"⟩ ∈ lw_tbl := kt 439 (by decide +kernel)
theorem k_440 : Cond.selects "ListingRowModel" ⟨"java/lang/Object", "getClass", "()Ljava/lang/Class;"⟩ ⟨"java/lang/Object", "getClass", "()Ljava/lang/Class;"⟩ ∈ lw_tbl := kt 440 (by decide +kernel)
theorem k_441 : Cond.selects "java/util/ArrayList" ⟨"java/lang/Object", "getClass", "()Ljava/lang/Class;"⟩ ⟨"java/lang/Object", "getClass", "()Ljava/lang/Class;"⟩ ∈ lw_tbl := kt 441 (by decide +kernel)
theorem k_442 : Cond.native ⟨"java/lang/Object", "getClass", "()Ljava/lang/Class;"⟩ ∈ lw_tbl := kt 442 (by decide +kernel)
theorem k_443 : Cond.methodLink "java/util/Arrays" 300 y_ARR_copy3 ∈ lw_tbl := kt 443 (by decide +kernel)
theorem k_444 : Cond.static y_ARR_copy3 ∈ lw_tbl := kt 444 (by decide +kernel)
set_option maxRecDepth 20000 in
theorem k_445 : Cond.code y_ARR_copy3 b_ARR_copy3 4 (some (.array (.object "java/lang/Object"))) ∈ lw_tbl := kt 445 rfl
theorem k_446 : Cond.classLink "java/util/Arrays" 110 "[Ljava/lang/Object;" ∈ lw_tbl := kt 446 (by decide +kernel)
theorem k_447 : Cond.arrayOver (.object "java/lang/Object") ∈ lw_tbl := kt 447 (by decide +kernel)
theorem k_448 : Cond.classLink "java/util/Arrays" 2 "java/lang/Object" ∈ lw_tbl := kt 448 (by decide +kernel)
theorem k_449 : Cond.methodLink "java/util/ArrayList" 79 y_MTH_max ∈ lw_tbl := kt 449 (by decide +kernel)
theorem k_450 : Cond.classLink "java/util/ArrayList" 7 "java/lang/Object" ∈ lw_tbl := kt 450 (by decide +kernel)
theorem k_451 : Cond.methodLink "java/util/ArrayList" 112 ⟨"java/lang/System", "arraycopy", "(Ljava/lang/Object;ILjava/lang/Object;II)V"⟩ ∈ lw_tbl := kt 451 (by decide +kernel)
theorem k_452 : Cond.methodLink "ListingRow" 115 y_Known_learn ∈ lw_tbl := kt 452 (by decide +kernel)
theorem k_453 : Cond.instanceMethod y_Known_learn ∈ lw_tbl := kt 453 (by decide +kernel)
theorem k_454 : Cond.selects "ListingRow$Known" y_Known_learn y_Known_learn ∈ lw_tbl := kt 454 (by decide +kernel)
set_option maxRecDepth 20000 in
theorem k_455 : Cond.code y_Known_learn b_Known_learn 3 (none) ∈ lw_tbl := kt 455 rfl
theorem k_456 : Cond.methodLink "ListingRow$Known" 40 y_AL_set ∈ lw_tbl := kt 456 (by decide +kernel)
theorem k_457 : Cond.instanceMethod y_AL_set ∈ lw_tbl := kt 457 (by decide +kernel)
theorem k_458 : Cond.selects "java/util/ArrayList" y_AL_set y_AL_set ∈ lw_tbl := kt 458 (by decide +kernel)
set_option maxRecDepth 20000 in
theorem k_459 : Cond.code y_AL_set b_AL_set 4 (some (.object "java/lang/Object")) ∈ lw_tbl := kt 459 rfl
theorem k_460 : Cond.methodLink "ListingRow$Known" 44 y_AL_add2 ∈ lw_tbl := kt 460 (by decide +kernel)
theorem k_461 : Cond.methodLink "ListingRow" 119 y_Judge_forget ∈ lw_tbl := kt 461 (by decide +kernel)
theorem k_462 : Cond.instanceMethod y_Judge_forget ∈ lw_tbl := kt 462 (by decide +kernel)
theorem k_463 : Cond.selects "ListingRow$Judge" y_Judge_forget y_Judge_forget ∈ lw_tbl := kt 463 (by decide +kernel)
set_option maxRecDepth 20000 in
theorem k_464 : Cond.code y_Judge_forget b_Judge_forget 1 (none) ∈ lw_tbl := kt 464 rfl
theorem k_465 : Cond.methodLink "ListingRow" 122 y_Dir_count ∈ lw_tbl := kt 465 (by decide +kernel)
theorem k_466 : Cond.instanceMethod y_Dir_count ∈ lw_tbl := kt 466 (by decide +kernel)
theorem k_467 : Cond.selects "ListingRow$Directory" y_Dir_count y_Dir_count ∈ lw_tbl := kt 467 (by decide +kernel)
set_option maxRecDepth 20000 in
theorem k_468 : Cond.code y_Dir_count b_Dir_count 1 (some .int) ∈ lw_tbl := kt 468 rfl
theorem k_469 : Cond.methodLink "ListingRowLaw" 25 y_Row_drop ∈ lw_tbl := kt 469 (by decide +kernel)
theorem k_470 : Cond.instanceMethod y_Row_drop ∈ lw_tbl := kt 470 (by decide +kernel)
theorem k_471 : Cond.selects "ListingRow" y_Row_drop y_Row_drop ∈ lw_tbl := kt 471 (by decide +kernel)
set_option maxRecDepth 20000 in
theorem k_472 : Cond.code y_Row_drop b_Row_drop 3 (some .int) ∈ lw_tbl := kt 472 rfl
theorem k_473 : Cond.methodLink "ListingRow" 125 y_Dir_removeAt ∈ lw_tbl := kt 473 (by decide +kernel)
theorem k_474 : Cond.instanceMethod y_Dir_removeAt ∈ lw_tbl := kt 474 (by decide +kernel)
theorem k_475 : Cond.selects "ListingRow$Directory" y_Dir_removeAt y_Dir_removeAt ∈ lw_tbl := kt 475 (by decide +kernel)
set_option maxRecDepth 20000 in
theorem k_476 : Cond.code y_Dir_removeAt b_Dir_removeAt 2 (none) ∈ lw_tbl := kt 476 rfl
theorem k_477 : Cond.methodLink "ListingRow$Directory" 46 y_AL_remove ∈ lw_tbl := kt 477 (by decide +kernel)
theorem k_478 : Cond.instanceMethod y_AL_remove ∈ lw_tbl := kt 478 (by decide +kernel)
theorem k_479 : Cond.selects "java/util/ArrayList" y_AL_remove y_AL_remove ∈ lw_tbl := kt 479 (by decide +kernel)
set_option maxRecDepth 20000 in
theorem k_480 : Cond.code y_AL_remove b_AL_remove 4 (some (.object "java/lang/Object")) ∈ lw_tbl := kt 480 rfl
theorem k_481 : Cond.methodLink "java/util/ArrayList" 144 y_AL_fastRemove ∈ lw_tbl := kt 481 (by decide +kernel)
theorem k_483 : Cond.instanceMethod y_AL_fastRemove ∈ lw_tbl := kt 483 (by decide +kernel)
set_option maxRecDepth 20000 in
theorem k_484 : Cond.code y_AL_fastRemove b_AL_fastRemove 4 (none) ∈ lw_tbl := kt 484 rfl
theorem k_485 : Cond.methodLink "ListingRowLaw" 30 y_Row_clear ∈ lw_tbl := kt 485 (by decide +kernel)
theorem k_486 : Cond.instanceMethod y_Row_clear ∈ lw_tbl := kt 486 (by decide +kernel)
theorem k_487 : Cond.selects "ListingRow" y_Row_clear y_Row_clear ∈ lw_tbl := kt 487 (by decide +kernel)
set_option maxRecDepth 20000 in
theorem k_488 : Cond.code y_Row_clear b_Row_clear 2 (some .int) ∈ lw_tbl := kt 488 rfl
theorem k_489 : Cond.methodLink "ListingRow" 129 y_Dir_removeAll ∈ lw_tbl := kt 489 (by decide +kernel)
theorem k_490 : Cond.instanceMethod y_Dir_removeAll ∈ lw_tbl := kt 490 (by decide +kernel)
theorem k_491 : Cond.selects "ListingRow$Directory" y_Dir_removeAll y_Dir_removeAll ∈ lw_tbl := kt 491 (by decide +kernel)
set_option maxRecDepth 20000 in
theorem k_492 : Cond.code y_Dir_removeAll b_Dir_removeAll 1 (none) ∈ lw_tbl := kt 492 rfl
theorem k_493 : Cond.methodLink "ListingRow$Directory" 49 y_AL_clear ∈ lw_tbl := kt 493 (by decide +kernel)
theorem k_494 : Cond.instanceMethod y_AL_clear ∈ lw_tbl := kt 494 (by decide +kernel)
theorem k_495 : Cond.selects "java/util/ArrayList" y_AL_clear y_AL_clear ∈ lw_tbl := kt 495 (by decide +kernel)
set_option maxRecDepth 20000 in
theorem k_496 : Cond.code y_AL_clear b_AL_clear 4 (none) ∈ lw_tbl := kt 496 rfl
theorem k_497 : Cond.methodLink "ListingRowLaw" 34 y_Row_make ∈ lw_tbl := kt 497 (by decide +kernel)
theorem k_498 : Cond.instanceMethod y_Row_make ∈ lw_tbl := kt 498 (by decide +kernel)
theorem k_499 : Cond.selects "ListingRow" y_Row_make y_Row_make ∈ lw_tbl := kt 499 (by decide +kernel)
set_option maxRecDepth 20000 in
theorem k_500 : Cond.code y_Row_make b_Row_make 2 (some .int) ∈ lw_tbl := kt 500 rfl
theorem k_501 : Cond.constant "ListingRow" 132 40000 ∈ lw_tbl := kt 501 (by decide +kernel)
theorem k_502 : Cond.methodLink "ListingRow" 133 y_Lst_write ∈ lw_tbl := kt 502 (by decide +kernel)
theorem k_503 : Cond.instanceMethod y_Lst_write ∈ lw_tbl := kt 503 (by decide +kernel)
theorem k_504 : Cond.selects "ListingRow$Listing" y_Lst_write y_Lst_write ∈ lw_tbl := kt 504 (by decide +kernel)
set_option maxRecDepth 20000 in
theorem k_505 : Cond.code y_Lst_write b_Lst_write 5 (some .boolean) ∈ lw_tbl := kt 505 rfl
theorem k_506 : Cond.methodLink "ListingRow$Listing" 39 y_Lst_measure ∈ lw_tbl := kt 506 (by decide +kernel)
theorem k_508 : Cond.instanceMethod y_Lst_measure ∈ lw_tbl := kt 508 (by decide +kernel)
set_option maxRecDepth 20000 in
theorem k_509 : Cond.code y_Lst_measure b_Lst_measure 4 (some .int) ∈ lw_tbl := kt 509 rfl
theorem k_510 : Cond.methodLink "ListingRow$Listing" 47 y_Lay_restart ∈ lw_tbl := kt 510 (by decide +kernel)
theorem k_511 : Cond.instanceMethod y_Lay_restart ∈ lw_tbl := kt 511 (by decide +kernel)
theorem k_512 : Cond.selects "ListingRow$Layout" y_Lay_restart y_Lay_restart ∈ lw_tbl := kt 512 (by decide +kernel)
set_option maxRecDepth 20000 in
theorem k_513 : Cond.code y_Lay_restart b_Lay_restart 2 (none) ∈ lw_tbl := kt 513 rfl
theorem k_514 : Cond.methodLink "ListingRow$Listing" 56 y_AL_size ∈ lw_tbl := kt 514 (by decide +kernel)
theorem k_515 : Cond.methodLink "ListingRow$Listing" 60 y_AL_get ∈ lw_tbl := kt 515 (by decide +kernel)
theorem k_516 : Cond.classLink "ListingRow$Listing" 64 "ListingRow$Entry" ∈ lw_tbl := kt 516 (by decide +kernel)
theorem k_517 : Cond.methodLink "ListingRow$Listing" 70 y_Lay_lay ∈ lw_tbl := kt 517 (by decide +kernel)
theorem k_518 : Cond.instanceMethod y_Lay_lay ∈ lw_tbl := kt 518 (by decide +kernel)
theorem k_519 : Cond.selects "ListingRow$Layout" y_Lay_lay y_Lay_lay ∈ lw_tbl := kt 519 (by decide +kernel)
set_option maxRecDepth 20000 in
theorem k_520 : Cond.code y_Lay_lay b_Lay_lay 3 (some .boolean) ∈ lw_tbl := kt 520 rfl
theorem k_521 : Cond.methodLink "ListingRow$Layout" 24 y_Lay_fitsUnderHeader ∈ lw_tbl := kt 521 (by decide +kernel)
theorem k_523 : Cond.instanceMethod y_Lay_fitsUnderHeader ∈ lw_tbl := kt 523 (by decide +kernel)
set_option maxRecDepth 20000 in
theorem k_524 : Cond.code y_Lay_fitsUnderHeader b_Lay_fitsUnderHeader 3 (some .boolean) ∈ lw_tbl := kt 524 rfl
theorem k_525 : Cond.methodLink "ListingRow$Layout" 53 y_Lay_pieceOf ∈ lw_tbl := kt 525 (by decide +kernel)
theorem k_526 : Cond.static y_Lay_pieceOf ∈ lw_tbl := kt 526 (by decide +kernel)
set_option maxRecDepth 20000 in
theorem k_527 : Cond.code y_Lay_pieceOf b_Lay_pieceOf 2 (some .int) ∈ lw_tbl := kt 527 rfl
theorem k_528 : Cond.methodLink "ListingRow$Layout" 28 y_Lay_openHeader ∈ lw_tbl := kt 528 (by decide +kernel)
theorem k_530 : Cond.instanceMethod y_Lay_openHeader ∈ lw_tbl := kt 530 (by decide +kernel)
set_option maxRecDepth 20000 in
theorem k_531 : Cond.code y_Lay_openHeader b_Lay_openHeader 2 (none) ∈ lw_tbl := kt 531 rfl
theorem k_532 : Cond.constant "ListingRow$Listing" 43 65536 ∈ lw_tbl := kt 532 (by decide +kernel)
theorem k_533 : Cond.methodLink "ListingRow$Listing" 44 y_AL_clear ∈ lw_tbl := kt 533 (by decide +kernel)
theorem k_534 : Cond.methodLink "ListingRow$Listing" 66 y_Lst_writeNext ∈ lw_tbl := kt 534 (by decide +kernel)
theorem k_536 : Cond.instanceMethod y_Lst_writeNext ∈ lw_tbl := kt 536 (by decide +kernel)
set_option maxRecDepth 20000 in
theorem k_537 : Cond.code y_Lst_writeNext b_Lst_writeNext 4 (none) ∈ lw_tbl := kt 537 rfl
theorem k_538 : Cond.methodLink "ListingRow$Listing" 80 y_Lst_writeHeader ∈ lw_tbl := kt 538 (by decide +kernel)
theorem k_540 : Cond.instanceMethod y_Lst_writeHeader ∈ lw_tbl := kt 540 (by decide +kernel)
set_option maxRecDepth 20000 in
theorem k_541 : Cond.code y_Lst_writeHeader b_Lst_writeHeader 4 (none) ∈ lw_tbl := kt 541 rfl
theorem k_542 : Cond.methodLink "ListingRow$Listing" 87 y_Lst_putU4 ∈ lw_tbl := kt 542 (by decide +kernel)
theorem k_544 : Cond.instanceMethod y_Lst_putU4 ∈ lw_tbl := kt 544 (by decide +kernel)
set_option maxRecDepth 20000 in
theorem k_545 : Cond.code y_Lst_putU4 b_Lst_putU4 3 (none) ∈ lw_tbl := kt 545 rfl
theorem k_546 : Cond.methodLink "ListingRow$Listing" 97 y_Lst_putU2 ∈ lw_tbl := kt 546 (by decide +kernel)
theorem k_548 : Cond.instanceMethod y_Lst_putU2 ∈ lw_tbl := kt 548 (by decide +kernel)
set_option maxRecDepth 20000 in
theorem k_549 : Cond.code y_Lst_putU2 b_Lst_putU2 3 (none) ∈ lw_tbl := kt 549 rfl
theorem k_550 : Cond.methodLink "ListingRow$Listing" 121 y_Lst_pieceOf ∈ lw_tbl := kt 550 (by decide +kernel)
theorem k_552 : Cond.instanceMethod y_Lst_pieceOf ∈ lw_tbl := kt 552 (by decide +kernel)
set_option maxRecDepth 20000 in
theorem k_553 : Cond.code y_Lst_pieceOf b_Lst_pieceOf 2 (some .int) ∈ lw_tbl := kt 553 rfl
theorem k_554 : Cond.methodLink "ListingRow$Listing" 137 y_Lay_pieceOf ∈ lw_tbl := kt 554 (by decide +kernel)
theorem k_555 : Cond.classLink "ListingRow$Listing" 125 "ListingRow$Mark" ∈ lw_tbl := kt 555 (by decide +kernel)
theorem k_556 : Cond.instantiable "ListingRow$Mark" 3 ∈ lw_tbl := kt 556 (by decide +kernel)
theorem k_557 : Cond.methodLink "ListingRow$Listing" 127 y_Lst_startOfPieceWith ∈ lw_tbl := kt 557 (by decide +kernel)
theorem k_558 : Cond.instanceMethod y_Lst_startOfPieceWith ∈ lw_tbl := kt 558 (by decide +kernel)
theorem k_559 : Cond.selects "ListingRow$Listing" y_Lst_startOfPieceWith y_Lst_startOfPieceWith ∈ lw_tbl := kt 559 (by decide +kernel)
set_option maxRecDepth 20000 in
theorem k_560 : Cond.code y_Lst_startOfPieceWith b_Lst_startOfPieceWith 2 (some .int) ∈ lw_tbl := kt 560 rfl
theorem k_561 : Cond.methodLink "ListingRow$Listing" 130 y_Mark_init ∈ lw_tbl := kt 561 (by decide +kernel)
theorem k_562 : Cond.instanceMethod y_Mark_init ∈ lw_tbl := kt 562 (by decide +kernel)
set_option maxRecDepth 20000 in
theorem k_563 : Cond.code y_Mark_init b_Mark_init 4 (none) ∈ lw_tbl := kt 563 rfl
theorem k_564 : Cond.methodLink "ListingRow$Mark" 1 ⟨"java/lang/Object", "<init>", "()V"⟩ ∈ lw_tbl := kt 564 (by decide +kernel)
theorem k_565 : Cond.fieldLink "ListingRow$Mark" 7 "ListingRow$Mark" "place" "I" ∈ lw_tbl := kt 565 (by decide +kernel)
theorem k_566 : Cond.fieldLink "ListingRow$Judge" 120 "ListingRow$Mark" "place" "I" ∈ lw_tbl := kt 566 (by decide +kernel)
theorem k_567 : Cond.fieldLink "ListingRow$Listing" 147 "ListingRow$Mark" "place" "I" ∈ lw_tbl := kt 567 (by decide +kernel)
theorem k_568 : Cond.fieldLink "ListingRow" 166 "ListingRow$Mark" "place" "I" ∈ lw_tbl := kt 568 (by decide +kernel)
theorem k_569 : Cond.fieldLink "ListingRow$Mark" 13 "ListingRow$Mark" "start" "I" ∈ lw_tbl := kt 569 (by decide +kernel)
theorem k_570 : Cond.fieldLink "ListingRow$Judge" 121 "ListingRow$Mark" "start" "I" ∈ lw_tbl := kt 570 (by decide +kernel)
theorem k_571 : Cond.fieldLink "ListingRow" 169 "ListingRow$Mark" "start" "I" ∈ lw_tbl := kt 571 (by decide +kernel)
theorem k_572 : Cond.fieldLink "ListingRow$Mark" 16 "ListingRow$Mark" "name" "[B" ∈ lw_tbl := kt 572 (by decide +kernel)
theorem k_573 : Cond.fieldLink "ListingRow$Judge" 127 "ListingRow$Mark" "name" "[B" ∈ lw_tbl := kt 573 (by decide +kernel)
theorem k_574 : Cond.fieldLink "ListingRow$Listing" 140 "ListingRow$Mark" "name" "[B" ∈ lw_tbl := kt 574 (by decide +kernel)
theorem k_575 : Cond.fieldLink "ListingRow" 172 "ListingRow$Mark" "name" "[B" ∈ lw_tbl := kt 575 (by decide +kernel)
theorem k_576 : Cond.laysFinal "ListingRow$Mark" "ListingRow$Mark" "place" "I" ∈ lw_tbl := kt 576 (by decide +kernel)
theorem k_578 : Cond.laysFinal "ListingRow$Mark" "ListingRow$Mark" "start" "I" ∈ lw_tbl := kt 578 (by decide +kernel)
theorem k_580 : Cond.laysFinal "ListingRow$Mark" "ListingRow$Mark" "name" "[B" ∈ lw_tbl := kt 580 (by decide +kernel)
theorem k_583 : Cond.methodLink "ListingRow$Listing" 133 y_AL_add1 ∈ lw_tbl := kt 583 (by decide +kernel)
theorem k_584 : Cond.instanceMethod y_AL_add1 ∈ lw_tbl := kt 584 (by decide +kernel)
theorem k_585 : Cond.selects "java/util/ArrayList" y_AL_add1 y_AL_add1 ∈ lw_tbl := kt 585 (by decide +kernel)
set_option maxRecDepth 20000 in
theorem k_586 : Cond.code y_AL_add1 b_AL_add1 2 (some .boolean) ∈ lw_tbl := kt 586 rfl
theorem k_587 : Cond.methodLink "java/util/ArrayList" 131 y_AL_add3 ∈ lw_tbl := kt 587 (by decide +kernel)
theorem k_589 : Cond.instanceMethod y_AL_add3 ∈ lw_tbl := kt 589 (by decide +kernel)
set_option maxRecDepth 20000 in
theorem k_590 : Cond.code y_AL_add3 b_AL_add3 4 (none) ∈ lw_tbl := kt 590 rfl
theorem k_591 : Cond.methodLink "ListingRow$Listing" 112 ⟨"java/lang/System", "arraycopy", "(Ljava/lang/Object;ILjava/lang/Object;II)V"⟩ ∈ lw_tbl := kt 591 (by decide +kernel)
theorem k_592 : Cond.methodLink "ListingRowLaw" 39 y_Row_size ∈ lw_tbl := kt 592 (by decide +kernel)
theorem k_593 : Cond.instanceMethod y_Row_size ∈ lw_tbl := kt 593 (by decide +kernel)
theorem k_594 : Cond.selects "ListingRow" y_Row_size y_Row_size ∈ lw_tbl := kt 594 (by decide +kernel)
set_option maxRecDepth 20000 in
theorem k_595 : Cond.code y_Row_size b_Row_size 2 (some .int) ∈ lw_tbl := kt 595 rfl
theorem k_596 : Cond.methodLink "ListingRow" 145 y_AL_size ∈ lw_tbl := kt 596 (by decide +kernel)
theorem k_597 : Cond.methodLink "ListingRowLaw" 43 y_Row_bytes ∈ lw_tbl := kt 597 (by decide +kernel)
theorem k_598 : Cond.instanceMethod y_Row_bytes ∈ lw_tbl := kt 598 (by decide +kernel)
theorem k_599 : Cond.selects "ListingRow" y_Row_bytes y_Row_bytes ∈ lw_tbl := kt 599 (by decide +kernel)
set_option maxRecDepth 20000 in
theorem k_600 : Cond.code y_Row_bytes b_Row_bytes 5 (some .long) ∈ lw_tbl := kt 600 rfl
theorem k_601 : Cond.methodLink "ListingRow" 153 y_Lst_byteOrZero ∈ lw_tbl := kt 601 (by decide +kernel)
theorem k_602 : Cond.instanceMethod y_Lst_byteOrZero ∈ lw_tbl := kt 602 (by decide +kernel)
theorem k_603 : Cond.selects "ListingRow$Listing" y_Lst_byteOrZero y_Lst_byteOrZero ∈ lw_tbl := kt 603 (by decide +kernel)
set_option maxRecDepth 20000 in
theorem k_604 : Cond.code y_Lst_byteOrZero b_Lst_byteOrZero 2 (some .int) ∈ lw_tbl := kt 604 rfl
theorem k_605 : Cond.methodLink "ListingRowLaw" 48 y_Row_index ∈ lw_tbl := kt 605 (by decide +kernel)
theorem k_606 : Cond.instanceMethod y_Row_index ∈ lw_tbl := kt 606 (by decide +kernel)
theorem k_607 : Cond.selects "ListingRow" y_Row_index y_Row_index ∈ lw_tbl := kt 607 (by decide +kernel)
set_option maxRecDepth 20000 in
theorem k_608 : Cond.code y_Row_index b_Row_index 4 (some .int) ∈ lw_tbl := kt 608 rfl
theorem k_609 : Cond.methodLink "ListingRow" 157 y_Lst_hasMark ∈ lw_tbl := kt 609 (by decide +kernel)
theorem k_610 : Cond.instanceMethod y_Lst_hasMark ∈ lw_tbl := kt 610 (by decide +kernel)
theorem k_611 : Cond.selects "ListingRow$Listing" y_Lst_hasMark y_Lst_hasMark ∈ lw_tbl := kt 611 (by decide +kernel)
set_option maxRecDepth 20000 in
theorem k_612 : Cond.code y_Lst_hasMark b_Lst_hasMark 2 (some .boolean) ∈ lw_tbl := kt 612 rfl
theorem k_613 : Cond.methodLink "ListingRow" 160 y_AL_get ∈ lw_tbl := kt 613 (by decide +kernel)
theorem k_614 : Cond.classLink "ListingRow" 164 "ListingRow$Mark" ∈ lw_tbl := kt 614 (by decide +kernel)
theorem k_615 : Cond.methodLink "ListingRowLaw" 53 y_Row_patch ∈ lw_tbl := kt 615 (by decide +kernel)
theorem k_616 : Cond.instanceMethod y_Row_patch ∈ lw_tbl := kt 616 (by decide +kernel)
theorem k_617 : Cond.selects "ListingRow" y_Row_patch y_Row_patch ∈ lw_tbl := kt 617 (by decide +kernel)
set_option maxRecDepth 20000 in
theorem k_618 : Cond.code y_Row_patch b_Row_patch 4 (some .int) ∈ lw_tbl := kt 618 rfl
theorem k_619 : Cond.methodLink "ListingRowLaw" 57 y_Row_cut ∈ lw_tbl := kt 619 (by decide +kernel)
theorem k_620 : Cond.instanceMethod y_Row_cut ∈ lw_tbl := kt 620 (by decide +kernel)
theorem k_621 : Cond.selects "ListingRow" y_Row_cut y_Row_cut ∈ lw_tbl := kt 621 (by decide +kernel)
set_option maxRecDepth 20000 in
theorem k_622 : Cond.code y_Row_cut b_Row_cut 3 (some .int) ∈ lw_tbl := kt 622 rfl
theorem k_623 : Cond.methodLink "ListingRowLaw" 61 y_Row_set ∈ lw_tbl := kt 623 (by decide +kernel)
theorem k_624 : Cond.instanceMethod y_Row_set ∈ lw_tbl := kt 624 (by decide +kernel)
theorem k_625 : Cond.selects "ListingRow" y_Row_set y_Row_set ∈ lw_tbl := kt 625 (by decide +kernel)
set_option maxRecDepth 20000 in
theorem k_626 : Cond.code y_Row_set b_Row_set 5 (some .int) ∈ lw_tbl := kt 626 rfl
theorem k_627 : Cond.methodLink "ListingRow" 176 y_Mark_init ∈ lw_tbl := kt 627 (by decide +kernel)
theorem k_628 : Cond.methodLink "ListingRow" 179 y_AL_set ∈ lw_tbl := kt 628 (by decide +kernel)
theorem k_629 : Cond.methodLink "ListingRowLaw" 66 y_Row_check ∈ lw_tbl := kt 629 (by decide +kernel)
theorem k_630 : Cond.instanceMethod y_Row_check ∈ lw_tbl := kt 630 (by decide +kernel)
theorem k_631 : Cond.selects "ListingRow" y_Row_check y_Row_check ∈ lw_tbl := kt 631 (by decide +kernel)
set_option maxRecDepth 20000 in
theorem k_632 : Cond.code y_Row_check b_Row_check 1 (some .int) ∈ lw_tbl := kt 632 rfl
theorem k_633 : Cond.methodLink "ListingRow" 183 y_Judge_entriesIfRight ∈ lw_tbl := kt 633 (by decide +kernel)
theorem k_634 : Cond.instanceMethod y_Judge_entriesIfRight ∈ lw_tbl := kt 634 (by decide +kernel)
theorem k_635 : Cond.selects "ListingRow$Judge" y_Judge_entriesIfRight y_Judge_entriesIfRight ∈ lw_tbl := kt 635 (by decide +kernel)
set_option maxRecDepth 20000 in
theorem k_636 : Cond.code y_Judge_entriesIfRight b_Judge_entriesIfRight 1 (some .int) ∈ lw_tbl := kt 636 rfl
theorem k_637 : Cond.methodLink "ListingRow$Judge" 30 y_Judge_judgeAnew ∈ lw_tbl := kt 637 (by decide +kernel)
theorem k_639 : Cond.instanceMethod y_Judge_judgeAnew ∈ lw_tbl := kt 639 (by decide +kernel)
set_option maxRecDepth 20000 in
theorem k_640 : Cond.code y_Judge_judgeAnew b_Judge_judgeAnew 4 (some .int) ∈ lw_tbl := kt 640 rfl
theorem k_641 : Cond.methodLink "ListingRow$Judge" 34 y_Walk_goTo ∈ lw_tbl := kt 641 (by decide +kernel)
theorem k_642 : Cond.instanceMethod y_Walk_goTo ∈ lw_tbl := kt 642 (by decide +kernel)
theorem k_643 : Cond.selects "ListingRow$Walk" y_Walk_goTo y_Walk_goTo ∈ lw_tbl := kt 643 (by decide +kernel)
set_option maxRecDepth 20000 in
theorem k_644 : Cond.code y_Walk_goTo b_Walk_goTo 2 (none) ∈ lw_tbl := kt 644 rfl
theorem k_645 : Cond.methodLink "ListingRow$Judge" 45 y_Walk_isAtEnd ∈ lw_tbl := kt 645 (by decide +kernel)
theorem k_646 : Cond.instanceMethod y_Walk_isAtEnd ∈ lw_tbl := kt 646 (by decide +kernel)
theorem k_647 : Cond.selects "ListingRow$Walk" y_Walk_isAtEnd y_Walk_isAtEnd ∈ lw_tbl := kt 647 (by decide +kernel)
set_option maxRecDepth 20000 in
theorem k_648 : Cond.code y_Walk_isAtEnd b_Walk_isAtEnd 1 (some .boolean) ∈ lw_tbl := kt 648 rfl
theorem k_649 : Cond.methodLink "ListingRow$Judge" 53 y_AL_size ∈ lw_tbl := kt 649 (by decide +kernel)
theorem k_650 : Cond.methodLink "ListingRow$Judge" 58 y_Walk_step ∈ lw_tbl := kt 650 (by decide +kernel)
theorem k_651 : Cond.instanceMethod y_Walk_step ∈ lw_tbl := kt 651 (by decide +kernel)
theorem k_652 : Cond.selects "ListingRow$Walk" y_Walk_step y_Walk_step ∈ lw_tbl := kt 652 (by decide +kernel)
set_option maxRecDepth 20000 in
theorem k_653 : Cond.code y_Walk_step b_Walk_step 1 (some .boolean) ∈ lw_tbl := kt 653 rfl
theorem k_654 : Cond.methodLink "ListingRow$Walk" 39 y_Walk_readHeader ∈ lw_tbl := kt 654 (by decide +kernel)
theorem k_656 : Cond.instanceMethod y_Walk_readHeader ∈ lw_tbl := kt 656 (by decide +kernel)
set_option maxRecDepth 20000 in
theorem k_657 : Cond.code y_Walk_readHeader b_Walk_readHeader 1 (some .boolean) ∈ lw_tbl := kt 657 rfl
theorem k_658 : Cond.methodLink "ListingRow$Walk" 45 y_Lst_u4 ∈ lw_tbl := kt 658 (by decide +kernel)
theorem k_659 : Cond.instanceMethod y_Lst_u4 ∈ lw_tbl := kt 659 (by decide +kernel)
theorem k_660 : Cond.selects "ListingRow$Listing" y_Lst_u4 y_Lst_u4 ∈ lw_tbl := kt 660 (by decide +kernel)
set_option maxRecDepth 20000 in
theorem k_661 : Cond.code y_Lst_u4 b_Lst_u4 2 (some .long) ∈ lw_tbl := kt 661 rfl
theorem k_662 : Cond.methodLink "ListingRow$Listing" 148 y_Lst_byteOrZero ∈ lw_tbl := kt 662 (by decide +kernel)
theorem k_663 : Cond.constantLong "ListingRow$Walk" 49 256 ∈ lw_tbl := kt 663 (by decide +kernel)
theorem k_664 : Cond.methodLink "ListingRow$Walk" 42 y_Walk_readEntry ∈ lw_tbl := kt 664 (by decide +kernel)
theorem k_666 : Cond.instanceMethod y_Walk_readEntry ∈ lw_tbl := kt 666 (by decide +kernel)
set_option maxRecDepth 20000 in
theorem k_667 : Cond.code y_Walk_readEntry b_Walk_readEntry 1 (some .boolean) ∈ lw_tbl := kt 667 rfl
theorem k_668 : Cond.methodLink "ListingRow$Walk" 61 y_Lst_u2 ∈ lw_tbl := kt 668 (by decide +kernel)
theorem k_669 : Cond.instanceMethod y_Lst_u2 ∈ lw_tbl := kt 669 (by decide +kernel)
theorem k_670 : Cond.selects "ListingRow$Listing" y_Lst_u2 y_Lst_u2 ∈ lw_tbl := kt 670 (by decide +kernel)
set_option maxRecDepth 20000 in
theorem k_671 : Cond.code y_Lst_u2 b_Lst_u2 2 (some .int) ∈ lw_tbl := kt 671 rfl
theorem k_672 : Cond.methodLink "ListingRow$Judge" 61 y_Judge_isEntryRight ∈ lw_tbl := kt 672 (by decide +kernel)
theorem k_674 : Cond.instanceMethod y_Judge_isEntryRight ∈ lw_tbl := kt 674 (by decide +kernel)
set_option maxRecDepth 20000 in
theorem k_675 : Cond.code y_Judge_isEntryRight b_Judge_isEntryRight 3 (some .boolean) ∈ lw_tbl := kt 675 rfl
theorem k_676 : Cond.methodLink "ListingRow$Judge" 85 y_Nam_isName ∈ lw_tbl := kt 676 (by decide +kernel)
theorem k_677 : Cond.methodLink "ListingRow$Judge" 91 y_Walk_compareNameWith ∈ lw_tbl := kt 677 (by decide +kernel)
theorem k_678 : Cond.instanceMethod y_Walk_compareNameWith ∈ lw_tbl := kt 678 (by decide +kernel)
theorem k_679 : Cond.selects "ListingRow$Walk" y_Walk_compareNameWith y_Walk_compareNameWith ∈ lw_tbl := kt 679 (by decide +kernel)
set_option maxRecDepth 20000 in
theorem k_680 : Cond.code y_Walk_compareNameWith b_Walk_compareNameWith 4 (some .int) ∈ lw_tbl := kt 680 rfl
theorem k_681 : Cond.methodLink "ListingRow$Walk" 84 y_Nam_compare ∈ lw_tbl := kt 681 (by decide +kernel)
theorem k_682 : Cond.methodLink "ListingRow$Judge" 108 y_Known_agrees ∈ lw_tbl := kt 682 (by decide +kernel)
theorem k_683 : Cond.instanceMethod y_Known_agrees ∈ lw_tbl := kt 683 (by decide +kernel)
theorem k_684 : Cond.selects "ListingRow$Known" y_Known_agrees y_Known_agrees ∈ lw_tbl := kt 684 (by decide +kernel)
set_option maxRecDepth 20000 in
theorem k_685 : Cond.code y_Known_agrees b_Known_agrees 9 (some .boolean) ∈ lw_tbl := kt 685 rfl
theorem k_686 : Cond.constantLong "ListingRow$Known" 48 100000 ∈ lw_tbl := kt 686 (by decide +kernel)
theorem k_687 : Cond.methodLink "ListingRow$Judge" 72 y_Judge_isMarkRight ∈ lw_tbl := kt 687 (by decide +kernel)
theorem k_689 : Cond.instanceMethod y_Judge_isMarkRight ∈ lw_tbl := kt 689 (by decide +kernel)
set_option maxRecDepth 20000 in
theorem k_690 : Cond.code y_Judge_isMarkRight b_Judge_isMarkRight 2 (some .boolean) ∈ lw_tbl := kt 690 rfl
theorem k_691 : Cond.methodLink "ListingRow$Judge" 114 y_AL_get ∈ lw_tbl := kt 691 (by decide +kernel)
theorem k_692 : Cond.classLink "ListingRow$Judge" 118 "ListingRow$Mark" ∈ lw_tbl := kt 692 (by decide +kernel)
theorem k_693 : Cond.methodLink "ListingRow$Judge" 123 y_Lst_startOfPieceWith ∈ lw_tbl := kt 693 (by decide +kernel)
theorem k_694 : Cond.methodLink "ListingRowLaw" 70 y_Row_entry ∈ lw_tbl := kt 694 (by decide +kernel)
theorem k_695 : Cond.instanceMethod y_Row_entry ∈ lw_tbl := kt 695 (by decide +kernel)
theorem k_696 : Cond.selects "ListingRow" y_Row_entry y_Row_entry ∈ lw_tbl := kt 696 (by decide +kernel)
set_option maxRecDepth 20000 in
theorem k_697 : Cond.code y_Row_entry b_Row_entry 3 (some .int) ∈ lw_tbl := kt 697 rfl
theorem k_698 : Cond.methodLink "ListingRow" 186 y_Walk_goToEntry ∈ lw_tbl := kt 698 (by decide +kernel)
theorem k_699 : Cond.instanceMethod y_Walk_goToEntry ∈ lw_tbl := kt 699 (by decide +kernel)
theorem k_700 : Cond.selects "ListingRow$Walk" y_Walk_goToEntry y_Walk_goToEntry ∈ lw_tbl := kt 700 (by decide +kernel)
set_option maxRecDepth 20000 in
theorem k_701 : Cond.code y_Walk_goToEntry b_Walk_goToEntry 4 (some .boolean) ∈ lw_tbl := kt 701 rfl
theorem k_702 : Cond.methodLink "ListingRow$Walk" 22 y_Walk_goTo ∈ lw_tbl := kt 702 (by decide +kernel)
theorem k_703 : Cond.methodLink "ListingRow$Walk" 26 y_Walk_step ∈ lw_tbl := kt 703 (by decide +kernel)
theorem k_704 : Cond.methodLink "ListingRowLaw" 74 y_Row_find ∈ lw_tbl := kt 704 (by decide +kernel)
theorem k_705 : Cond.instanceMethod y_Row_find ∈ lw_tbl := kt 705 (by decide +kernel)
theorem k_706 : Cond.selects "ListingRow" y_Row_find y_Row_find ∈ lw_tbl := kt 706 (by decide +kernel)
set_option maxRecDepth 20000 in
theorem k_707 : Cond.code y_Row_find b_Row_find 5 (some .int) ∈ lw_tbl := kt 707 rfl
theorem k_708 : Cond.methodLink "ListingRow" 202 y_Lst_placeToLookFrom ∈ lw_tbl := kt 708 (by decide +kernel)
theorem k_709 : Cond.instanceMethod y_Lst_placeToLookFrom ∈ lw_tbl := kt 709 (by decide +kernel)
theorem k_710 : Cond.selects "ListingRow$Listing" y_Lst_placeToLookFrom y_Lst_placeToLookFrom ∈ lw_tbl := kt 710 (by decide +kernel)
set_option maxRecDepth 20000 in
theorem k_711 : Cond.code y_Lst_placeToLookFrom b_Lst_placeToLookFrom 6 (some .int) ∈ lw_tbl := kt 711 rfl
theorem k_712 : Cond.methodLink "ListingRow$Listing" 141 y_Nam_compare ∈ lw_tbl := kt 712 (by decide +kernel)
theorem k_713 : Cond.methodLink "ListingRow" 205 y_Walk_goTo ∈ lw_tbl := kt 713 (by decide +kernel)
theorem k_714 : Cond.methodLink "ListingRow" 208 y_Walk_step ∈ lw_tbl := kt 714 (by decide +kernel)
theorem k_715 : Cond.methodLink "ListingRow" 211 y_Walk_compareNameWith ∈ lw_tbl := kt 715 (by decide +kernel)
theorem k_716 : Cond.methodLink "ListingRowLaw" 78 y_Row_passed ∈ lw_tbl := kt 716 (by decide +kernel)
theorem k_717 : Cond.instanceMethod y_Row_passed ∈ lw_tbl := kt 717 (by decide +kernel)
theorem k_718 : Cond.selects "ListingRow" y_Row_passed y_Row_passed ∈ lw_tbl := kt 718 (by decide +kernel)
set_option maxRecDepth 20000 in
theorem k_719 : Cond.code y_Row_passed b_Row_passed 1 (some .int) ∈ lw_tbl := kt 719 rfl
theorem k_720 : Cond.classLink "ListingRowLaw" 10 "ListingRowModel" ∈ lw_tbl := kt 720 (by decide +kernel)
theorem k_721 : Cond.instantiable "ListingRowModel" 29 ∈ lw_tbl := kt 721 (by decide +kernel)
theorem k_722 : Cond.methodLink "ListingRowLaw" 12 y_Mod_init ∈ lw_tbl := kt 722 (by decide +kernel)
theorem k_723 : Cond.instanceMethod y_Mod_init ∈ lw_tbl := kt 723 (by decide +kernel)
set_option maxRecDepth 20000 in
theorem k_724 : Cond.code y_Mod_init b_Mod_init 1 (none) ∈ lw_tbl := kt 724 rfl
theorem k_725 : Cond.methodLink "ListingRowModel" 1 ⟨"java/lang/Object", "<init>", "()V"⟩ ∈ lw_tbl := kt 725 (by decide +kernel)
theorem k_726 : Cond.constant "ListingRowModel" 16 153600 ∈ lw_tbl := kt 726 (by decide +kernel)
theorem k_727 : Cond.constant "ListingRowModel" 45 65536 ∈ lw_tbl := kt 727 (by decide +kernel)
theorem k_728 : Cond.fieldLink "ListingRowModel" 64 "ListingRowModel" "tapeSize" "I" ∈ lw_tbl := kt 728 (by decide +kernel)
theorem k_729 : Cond.fieldLink "ListingRowModel" 7 "ListingRowModel" "tape" "[I" ∈ lw_tbl := kt 729 (by decide +kernel)
theorem k_730 : Cond.fieldLink "ListingRowModel" 74 "ListingRowModel" "entries" "I" ∈ lw_tbl := kt 730 (by decide +kernel)
theorem k_731 : Cond.fieldLink "ListingRowModel" 13 "ListingRowModel" "nameSize" "[I" ∈ lw_tbl := kt 731 (by decide +kernel)
theorem k_732 : Cond.fieldLink "ListingRowModel" 17 "ListingRowModel" "names" "[B" ∈ lw_tbl := kt 732 (by decide +kernel)
theorem k_733 : Cond.fieldLink "ListingRowModel" 21 "ListingRowModel" "number" "[I" ∈ lw_tbl := kt 733 (by decide +kernel)
theorem k_734 : Cond.fieldLink "ListingRowModel" 24 "ListingRowModel" "start" "[I" ∈ lw_tbl := kt 734 (by decide +kernel)
theorem k_735 : Cond.fieldLink "ListingRowModel" 27 "ListingRowModel" "place" "[I" ∈ lw_tbl := kt 735 (by decide +kernel)
theorem k_736 : Cond.fieldLink "ListingRowModel" 30 "ListingRowModel" "kind" "[I" ∈ lw_tbl := kt 736 (by decide +kernel)
theorem k_737 : Cond.fieldLink "ListingRowModel" 80 "ListingRowModel" "known" "I" ∈ lw_tbl := kt 737 (by decide +kernel)
theorem k_738 : Cond.fieldLink "ListingRowModel" 33 "ListingRowModel" "knownNumber" "[I" ∈ lw_tbl := kt 738 (by decide +kernel)
theorem k_739 : Cond.fieldLink "ListingRowModel" 36 "ListingRowModel" "knownStart" "[I" ∈ lw_tbl := kt 739 (by decide +kernel)
theorem k_740 : Cond.fieldLink "ListingRowModel" 39 "ListingRowModel" "knownPlace" "[I" ∈ lw_tbl := kt 740 (by decide +kernel)
theorem k_741 : Cond.fieldLink "ListingRowModel" 42 "ListingRowModel" "knownKind" "[I" ∈ lw_tbl := kt 741 (by decide +kernel)
theorem k_742 : Cond.fieldLink "ListingRowModel" 115 "ListingRowModel" "begin" "I" ∈ lw_tbl := kt 742 (by decide +kernel)
theorem k_743 : Cond.fieldLink "ListingRowModel" 109 "ListingRowModel" "size" "I" ∈ lw_tbl := kt 743 (by decide +kernel)
theorem k_744 : Cond.fieldLink "ListingRowModel" 125 "ListingRowModel" "headers" "I" ∈ lw_tbl := kt 744 (by decide +kernel)
theorem k_745 : Cond.fieldLink "ListingRowModel" 46 "ListingRowModel" "listing" "[B" ∈ lw_tbl := kt 745 (by decide +kernel)
theorem k_746 : Cond.fieldLink "ListingRowModel" 112 "ListingRowModel" "indexes" "I" ∈ lw_tbl := kt 746 (by decide +kernel)
theorem k_747 : Cond.fieldLink "ListingRowModel" 49 "ListingRowModel" "indexPlace" "[I" ∈ lw_tbl := kt 747 (by decide +kernel)
theorem k_748 : Cond.fieldLink "ListingRowModel" 52 "ListingRowModel" "indexStart" "[I" ∈ lw_tbl := kt 748 (by decide +kernel)
theorem k_749 : Cond.fieldLink "ListingRowModel" 55 "ListingRowModel" "indexSize" "[I" ∈ lw_tbl := kt 749 (by decide +kernel)
theorem k_750 : Cond.fieldLink "ListingRowModel" 58 "ListingRowModel" "indexName" "[I" ∈ lw_tbl := kt 750 (by decide +kernel)
theorem k_751 : Cond.fieldLink "ListingRowModel" 61 "ListingRowModel" "ordered" "[I" ∈ lw_tbl := kt 751 (by decide +kernel)
theorem k_752 : Cond.fieldLink "ListingRowModel" 141 "ListingRowModel" "at" "I" ∈ lw_tbl := kt 752 (by decide +kernel)
theorem k_753 : Cond.fieldLink "ListingRowModel" 144 "ListingRowModel" "header" "I" ∈ lw_tbl := kt 753 (by decide +kernel)
theorem k_754 : Cond.fieldLink "ListingRowModel" 147 "ListingRowModel" "left" "I" ∈ lw_tbl := kt 754 (by decide +kernel)
theorem k_755 : Cond.fieldLink "ListingRowModel" 150 "ListingRowModel" "seen" "I" ∈ lw_tbl := kt 755 (by decide +kernel)
theorem k_756 : Cond.fieldLink "ListingRowModel" 187 "ListingRowModel" "passed" "I" ∈ lw_tbl := kt 756 (by decide +kernel)
theorem k_757 : Cond.lays "ListingRowModel" "ListingRowModel" "tapeSize" "I" ∈ lw_tbl := kt 757 (by decide +kernel)
theorem k_759 : Cond.laysFinal "ListingRowModel" "ListingRowModel" "tape" "[I" ∈ lw_tbl := kt 759 (by decide +kernel)
theorem k_761 : Cond.lays "ListingRowModel" "ListingRowModel" "entries" "I" ∈ lw_tbl := kt 761 (by decide +kernel)
theorem k_763 : Cond.laysFinal "ListingRowModel" "ListingRowModel" "nameSize" "[I" ∈ lw_tbl := kt 763 (by decide +kernel)
theorem k_765 : Cond.laysFinal "ListingRowModel" "ListingRowModel" "names" "[B" ∈ lw_tbl := kt 765 (by decide +kernel)
theorem k_767 : Cond.laysFinal "ListingRowModel" "ListingRowModel" "number" "[I" ∈ lw_tbl := kt 767 (by decide +kernel)
theorem k_769 : Cond.laysFinal "ListingRowModel" "ListingRowModel" "start" "[I" ∈ lw_tbl := kt 769 (by decide +kernel)
theorem k_771 : Cond.laysFinal "ListingRowModel" "ListingRowModel" "place" "[I" ∈ lw_tbl := kt 771 (by decide +kernel)
theorem k_773 : Cond.laysFinal "ListingRowModel" "ListingRowModel" "kind" "[I" ∈ lw_tbl := kt 773 (by decide +kernel)
theorem k_775 : Cond.lays "ListingRowModel" "ListingRowModel" "known" "I" ∈ lw_tbl := kt 775 (by decide +kernel)
theorem k_777 : Cond.laysFinal "ListingRowModel" "ListingRowModel" "knownNumber" "[I" ∈ lw_tbl := kt 777 (by decide +kernel)
theorem k_779 : Cond.laysFinal "ListingRowModel" "ListingRowModel" "knownStart" "[I" ∈ lw_tbl := kt 779 (by decide +kernel)
theorem k_781 : Cond.laysFinal "ListingRowModel" "ListingRowModel" "knownPlace" "[I" ∈ lw_tbl := kt 781 (by decide +kernel)
theorem k_783 : Cond.laysFinal "ListingRowModel" "ListingRowModel" "knownKind" "[I" ∈ lw_tbl := kt 783 (by decide +kernel)
theorem k_785 : Cond.lays "ListingRowModel" "ListingRowModel" "begin" "I" ∈ lw_tbl := kt 785 (by decide +kernel)
theorem k_787 : Cond.lays "ListingRowModel" "ListingRowModel" "size" "I" ∈ lw_tbl := kt 787 (by decide +kernel)
theorem k_789 : Cond.lays "ListingRowModel" "ListingRowModel" "headers" "I" ∈ lw_tbl := kt 789 (by decide +kernel)
theorem k_791 : Cond.laysFinal "ListingRowModel" "ListingRowModel" "listing" "[B" ∈ lw_tbl := kt 791 (by decide +kernel)
theorem k_793 : Cond.lays "ListingRowModel" "ListingRowModel" "indexes" "I" ∈ lw_tbl := kt 793 (by decide +kernel)
theorem k_795 : Cond.laysFinal "ListingRowModel" "ListingRowModel" "indexPlace" "[I" ∈ lw_tbl := kt 795 (by decide +kernel)
theorem k_797 : Cond.laysFinal "ListingRowModel" "ListingRowModel" "indexStart" "[I" ∈ lw_tbl := kt 797 (by decide +kernel)
theorem k_799 : Cond.laysFinal "ListingRowModel" "ListingRowModel" "indexSize" "[I" ∈ lw_tbl := kt 799 (by decide +kernel)
theorem k_801 : Cond.laysFinal "ListingRowModel" "ListingRowModel" "indexName" "[I" ∈ lw_tbl := kt 801 (by decide +kernel)
theorem k_803 : Cond.laysFinal "ListingRowModel" "ListingRowModel" "ordered" "[I" ∈ lw_tbl := kt 803 (by decide +kernel)
theorem k_805 : Cond.lays "ListingRowModel" "ListingRowModel" "at" "I" ∈ lw_tbl := kt 805 (by decide +kernel)
theorem k_807 : Cond.lays "ListingRowModel" "ListingRowModel" "header" "I" ∈ lw_tbl := kt 807 (by decide +kernel)
theorem k_809 : Cond.lays "ListingRowModel" "ListingRowModel" "left" "I" ∈ lw_tbl := kt 809 (by decide +kernel)
theorem k_811 : Cond.lays "ListingRowModel" "ListingRowModel" "seen" "I" ∈ lw_tbl := kt 811 (by decide +kernel)
theorem k_813 : Cond.lays "ListingRowModel" "ListingRowModel" "passed" "I" ∈ lw_tbl := kt 813 (by decide +kernel)
theorem k_816 : Cond.arrayClass (.int) ∈ lw_tbl := kt 816 (by decide +kernel)
theorem k_817 : Cond.methodLink "ListingRowLaw" 19 y_Mod_feed ∈ lw_tbl := kt 817 (by decide +kernel)
theorem k_818 : Cond.instanceMethod y_Mod_feed ∈ lw_tbl := kt 818 (by decide +kernel)
theorem k_819 : Cond.selects "ListingRowModel" y_Mod_feed y_Mod_feed ∈ lw_tbl := kt 819 (by decide +kernel)
set_option maxRecDepth 20000 in
theorem k_820 : Cond.code y_Mod_feed b_Mod_feed 5 (some .int) ∈ lw_tbl := kt 820 rfl
theorem k_821 : Cond.constantLong "ListingRowModel" 68 255 ∈ lw_tbl := kt 821 (by decide +kernel)
theorem k_822 : Cond.methodLink "ListingRowLaw" 24 y_Mod_add ∈ lw_tbl := kt 822 (by decide +kernel)
theorem k_823 : Cond.instanceMethod y_Mod_add ∈ lw_tbl := kt 823 (by decide +kernel)
theorem k_824 : Cond.selects "ListingRowModel" y_Mod_add y_Mod_add ∈ lw_tbl := kt 824 (by decide +kernel)
set_option maxRecDepth 20000 in
theorem k_825 : Cond.code y_Mod_add b_Mod_add 9 (some .int) ∈ lw_tbl := kt 825 rfl
theorem k_826 : Cond.methodLink "ListingRowModel" 83 y_Mod_use ∈ lw_tbl := kt 826 (by decide +kernel)
theorem k_828 : Cond.instanceMethod y_Mod_use ∈ lw_tbl := kt 828 (by decide +kernel)
set_option maxRecDepth 20000 in
theorem k_829 : Cond.code y_Mod_use b_Mod_use 2 (some .int) ∈ lw_tbl := kt 829 rfl
theorem k_830 : Cond.constant "ListingRowModel" 87 100000 ∈ lw_tbl := kt 830 (by decide +kernel)
theorem k_831 : Cond.methodLink "ListingRowModel" 88 y_Mod_isName ∈ lw_tbl := kt 831 (by decide +kernel)
theorem k_833 : Cond.instanceMethod y_Mod_isName ∈ lw_tbl := kt 833 (by decide +kernel)
set_option maxRecDepth 20000 in
theorem k_834 : Cond.code y_Mod_isName b_Mod_isName 5 (some .boolean) ∈ lw_tbl := kt 834 rfl
theorem k_835 : Cond.methodLink "ListingRowModel" 92 y_Mod_entryOfTape ∈ lw_tbl := kt 835 (by decide +kernel)
theorem k_837 : Cond.instanceMethod y_Mod_entryOfTape ∈ lw_tbl := kt 837 (by decide +kernel)
set_option maxRecDepth 20000 in
theorem k_838 : Cond.code y_Mod_entryOfTape b_Mod_entryOfTape 4 (some .int) ∈ lw_tbl := kt 838 rfl
theorem k_839 : Cond.methodLink "ListingRowModel" 77 y_Mod_orderOfTape ∈ lw_tbl := kt 839 (by decide +kernel)
theorem k_841 : Cond.instanceMethod y_Mod_orderOfTape ∈ lw_tbl := kt 841 (by decide +kernel)
set_option maxRecDepth 20000 in
theorem k_842 : Cond.code y_Mod_orderOfTape b_Mod_orderOfTape 4 (some .int) ∈ lw_tbl := kt 842 rfl
theorem k_843 : Cond.methodLink "ListingRowModel" 70 y_Mod_nameByte ∈ lw_tbl := kt 843 (by decide +kernel)
theorem k_845 : Cond.instanceMethod y_Mod_nameByte ∈ lw_tbl := kt 845 (by decide +kernel)
set_option maxRecDepth 20000 in
theorem k_846 : Cond.code y_Mod_nameByte b_Mod_nameByte 3 (some .int) ∈ lw_tbl := kt 846 rfl
theorem k_847 : Cond.methodLink "ListingRowModel" 96 y_Mod_knownAt ∈ lw_tbl := kt 847 (by decide +kernel)
theorem k_849 : Cond.instanceMethod y_Mod_knownAt ∈ lw_tbl := kt 849 (by decide +kernel)
set_option maxRecDepth 20000 in
theorem k_850 : Cond.code y_Mod_knownAt b_Mod_knownAt 5 (some .int) ∈ lw_tbl := kt 850 rfl
theorem k_851 : Cond.methodLink "ListingRowLaw" 29 y_Mod_drop ∈ lw_tbl := kt 851 (by decide +kernel)
theorem k_852 : Cond.instanceMethod y_Mod_drop ∈ lw_tbl := kt 852 (by decide +kernel)
theorem k_853 : Cond.selects "ListingRowModel" y_Mod_drop y_Mod_drop ∈ lw_tbl := kt 853 (by decide +kernel)
set_option maxRecDepth 20000 in
theorem k_854 : Cond.code y_Mod_drop b_Mod_drop 4 (some .int) ∈ lw_tbl := kt 854 rfl
theorem k_855 : Cond.methodLink "ListingRowLaw" 33 y_Mod_clear ∈ lw_tbl := kt 855 (by decide +kernel)
theorem k_856 : Cond.instanceMethod y_Mod_clear ∈ lw_tbl := kt 856 (by decide +kernel)
theorem k_857 : Cond.selects "ListingRowModel" y_Mod_clear y_Mod_clear ∈ lw_tbl := kt 857 (by decide +kernel)
set_option maxRecDepth 20000 in
theorem k_858 : Cond.code y_Mod_clear b_Mod_clear 2 (some .int) ∈ lw_tbl := kt 858 rfl
theorem k_859 : Cond.methodLink "ListingRowLaw" 38 y_Mod_make ∈ lw_tbl := kt 859 (by decide +kernel)
theorem k_860 : Cond.instanceMethod y_Mod_make ∈ lw_tbl := kt 860 (by decide +kernel)
theorem k_861 : Cond.selects "ListingRowModel" y_Mod_make y_Mod_make ∈ lw_tbl := kt 861 (by decide +kernel)
set_option maxRecDepth 20000 in
theorem k_862 : Cond.code y_Mod_make b_Mod_make 7 (some .int) ∈ lw_tbl := kt 862 rfl
theorem k_863 : Cond.constant "ListingRowModel" 118 40000 ∈ lw_tbl := kt 863 (by decide +kernel)
theorem k_864 : Cond.methodLink "ListingRowModel" 119 y_Mod_sort ∈ lw_tbl := kt 864 (by decide +kernel)
theorem k_866 : Cond.instanceMethod y_Mod_sort ∈ lw_tbl := kt 866 (by decide +kernel)
set_option maxRecDepth 20000 in
theorem k_867 : Cond.code y_Mod_sort b_Mod_sort 4 (none) ∈ lw_tbl := kt 867 rfl
theorem k_868 : Cond.methodLink "ListingRowModel" 100 y_Mod_isBefore ∈ lw_tbl := kt 868 (by decide +kernel)
theorem k_870 : Cond.instanceMethod y_Mod_isBefore ∈ lw_tbl := kt 870 (by decide +kernel)
set_option maxRecDepth 20000 in
theorem k_871 : Cond.code y_Mod_isBefore b_Mod_isBefore 4 (some .boolean) ∈ lw_tbl := kt 871 rfl
theorem k_872 : Cond.methodLink "ListingRowModel" 122 y_Mod_measure ∈ lw_tbl := kt 872 (by decide +kernel)
theorem k_874 : Cond.instanceMethod y_Mod_measure ∈ lw_tbl := kt 874 (by decide +kernel)
set_option maxRecDepth 20000 in
theorem k_875 : Cond.code y_Mod_measure b_Mod_measure 6 (some .int) ∈ lw_tbl := kt 875 rfl
theorem k_876 : Cond.methodLink "ListingRowModel" 105 y_Mod_takes ∈ lw_tbl := kt 876 (by decide +kernel)
theorem k_878 : Cond.instanceMethod y_Mod_takes ∈ lw_tbl := kt 878 (by decide +kernel)
set_option maxRecDepth 20000 in
theorem k_879 : Cond.code y_Mod_takes b_Mod_takes 9 (some .boolean) ∈ lw_tbl := kt 879 rfl
theorem k_880 : Cond.constant "ListingRowModel" 104 32768 ∈ lw_tbl := kt 880 (by decide +kernel)
theorem k_881 : Cond.methodLink "ListingRowModel" 128 y_Mod_closeHeader ∈ lw_tbl := kt 881 (by decide +kernel)
theorem k_883 : Cond.instanceMethod y_Mod_closeHeader ∈ lw_tbl := kt 883 (by decide +kernel)
set_option maxRecDepth 20000 in
theorem k_884 : Cond.code y_Mod_closeHeader b_Mod_closeHeader 3 (none) ∈ lw_tbl := kt 884 rfl
theorem k_885 : Cond.methodLink "ListingRowModel" 132 y_Mod_noteIndex ∈ lw_tbl := kt 885 (by decide +kernel)
theorem k_887 : Cond.instanceMethod y_Mod_noteIndex ∈ lw_tbl := kt 887 (by decide +kernel)
set_option maxRecDepth 20000 in
theorem k_888 : Cond.code y_Mod_noteIndex b_Mod_noteIndex 4 (none) ∈ lw_tbl := kt 888 rfl
theorem k_889 : Cond.methodLink "ListingRowModel" 135 y_Mod_put ∈ lw_tbl := kt 889 (by decide +kernel)
theorem k_891 : Cond.instanceMethod y_Mod_put ∈ lw_tbl := kt 891 (by decide +kernel)
set_option maxRecDepth 20000 in
theorem k_892 : Cond.code y_Mod_put b_Mod_put 4 (none) ∈ lw_tbl := kt 892 rfl
theorem k_893 : Cond.methodLink "ListingRowLaw" 42 y_Mod_size ∈ lw_tbl := kt 893 (by decide +kernel)
theorem k_894 : Cond.instanceMethod y_Mod_size ∈ lw_tbl := kt 894 (by decide +kernel)
theorem k_895 : Cond.selects "ListingRowModel" y_Mod_size y_Mod_size ∈ lw_tbl := kt 895 (by decide +kernel)
set_option maxRecDepth 20000 in
theorem k_896 : Cond.code y_Mod_size b_Mod_size 2 (some .int) ∈ lw_tbl := kt 896 rfl
theorem k_897 : Cond.methodLink "ListingRowLaw" 47 y_Mod_bytes ∈ lw_tbl := kt 897 (by decide +kernel)
theorem k_898 : Cond.instanceMethod y_Mod_bytes ∈ lw_tbl := kt 898 (by decide +kernel)
theorem k_899 : Cond.selects "ListingRowModel" y_Mod_bytes y_Mod_bytes ∈ lw_tbl := kt 899 (by decide +kernel)
set_option maxRecDepth 20000 in
theorem k_900 : Cond.code y_Mod_bytes b_Mod_bytes 5 (some .long) ∈ lw_tbl := kt 900 rfl
theorem k_901 : Cond.methodLink "ListingRowLaw" 52 y_Mod_index ∈ lw_tbl := kt 901 (by decide +kernel)
theorem k_902 : Cond.instanceMethod y_Mod_index ∈ lw_tbl := kt 902 (by decide +kernel)
theorem k_903 : Cond.selects "ListingRowModel" y_Mod_index y_Mod_index ∈ lw_tbl := kt 903 (by decide +kernel)
set_option maxRecDepth 20000 in
theorem k_904 : Cond.code y_Mod_index b_Mod_index 3 (some .int) ∈ lw_tbl := kt 904 rfl
theorem k_905 : Cond.methodLink "ListingRowLaw" 56 y_Mod_patch ∈ lw_tbl := kt 905 (by decide +kernel)
theorem k_906 : Cond.instanceMethod y_Mod_patch ∈ lw_tbl := kt 906 (by decide +kernel)
theorem k_907 : Cond.selects "ListingRowModel" y_Mod_patch y_Mod_patch ∈ lw_tbl := kt 907 (by decide +kernel)
set_option maxRecDepth 20000 in
theorem k_908 : Cond.code y_Mod_patch b_Mod_patch 4 (some .int) ∈ lw_tbl := kt 908 rfl
theorem k_909 : Cond.methodLink "ListingRowLaw" 60 y_Mod_cut ∈ lw_tbl := kt 909 (by decide +kernel)
theorem k_910 : Cond.instanceMethod y_Mod_cut ∈ lw_tbl := kt 910 (by decide +kernel)
theorem k_911 : Cond.selects "ListingRowModel" y_Mod_cut y_Mod_cut ∈ lw_tbl := kt 911 (by decide +kernel)
set_option maxRecDepth 20000 in
theorem k_912 : Cond.code y_Mod_cut b_Mod_cut 3 (some .int) ∈ lw_tbl := kt 912 rfl
theorem k_913 : Cond.methodLink "ListingRowLaw" 65 y_Mod_set ∈ lw_tbl := kt 913 (by decide +kernel)
theorem k_914 : Cond.instanceMethod y_Mod_set ∈ lw_tbl := kt 914 (by decide +kernel)
theorem k_915 : Cond.selects "ListingRowModel" y_Mod_set y_Mod_set ∈ lw_tbl := kt 915 (by decide +kernel)
set_option maxRecDepth 20000 in
theorem k_916 : Cond.code y_Mod_set b_Mod_set 6 (some .int) ∈ lw_tbl := kt 916 rfl
theorem k_917 : Cond.methodLink "ListingRowLaw" 69 y_Mod_check ∈ lw_tbl := kt 917 (by decide +kernel)
theorem k_918 : Cond.instanceMethod y_Mod_check ∈ lw_tbl := kt 918 (by decide +kernel)
theorem k_919 : Cond.selects "ListingRowModel" y_Mod_check y_Mod_check ∈ lw_tbl := kt 919 (by decide +kernel)
set_option maxRecDepth 20000 in
theorem k_920 : Cond.code y_Mod_check b_Mod_check 1 (some .int) ∈ lw_tbl := kt 920 rfl
theorem k_921 : Cond.methodLink "ListingRowModel" 184 y_Mod_count ∈ lw_tbl := kt 921 (by decide +kernel)
theorem k_923 : Cond.instanceMethod y_Mod_count ∈ lw_tbl := kt 923 (by decide +kernel)
set_option maxRecDepth 20000 in
theorem k_924 : Cond.code y_Mod_count b_Mod_count 7 (some .int) ∈ lw_tbl := kt 924 rfl
theorem k_925 : Cond.methodLink "ListingRowModel" 167 y_Mod_step ∈ lw_tbl := kt 925 (by decide +kernel)
theorem k_927 : Cond.instanceMethod y_Mod_step ∈ lw_tbl := kt 927 (by decide +kernel)
set_option maxRecDepth 20000 in
theorem k_928 : Cond.code y_Mod_step b_Mod_step 3 (some .int) ∈ lw_tbl := kt 928 rfl
theorem k_929 : Cond.methodLink "ListingRowModel" 138 y_Mod_u2 ∈ lw_tbl := kt 929 (by decide +kernel)
theorem k_931 : Cond.instanceMethod y_Mod_u2 ∈ lw_tbl := kt 931 (by decide +kernel)
set_option maxRecDepth 20000 in
theorem k_932 : Cond.code y_Mod_u2 b_Mod_u2 2 (some .int) ∈ lw_tbl := kt 932 rfl
theorem k_933 : Cond.methodLink "ListingRowModel" 153 y_Mod_u4 ∈ lw_tbl := kt 933 (by decide +kernel)
theorem k_935 : Cond.instanceMethod y_Mod_u4 ∈ lw_tbl := kt 935 (by decide +kernel)
set_option maxRecDepth 20000 in
theorem k_936 : Cond.code y_Mod_u4 b_Mod_u4 2 (some .long) ∈ lw_tbl := kt 936 rfl
theorem k_937 : Cond.methodLink "ListingRowModel" 174 y_Mod_isEntryRight ∈ lw_tbl := kt 937 (by decide +kernel)
theorem k_939 : Cond.instanceMethod y_Mod_isEntryRight ∈ lw_tbl := kt 939 (by decide +kernel)
set_option maxRecDepth 20000 in
theorem k_940 : Cond.code y_Mod_isEntryRight b_Mod_isEntryRight 4 (some .boolean) ∈ lw_tbl := kt 940 rfl
theorem k_941 : Cond.methodLink "ListingRowModel" 157 y_Mod_sizeHere ∈ lw_tbl := kt 941 (by decide +kernel)
theorem k_943 : Cond.instanceMethod y_Mod_sizeHere ∈ lw_tbl := kt 943 (by decide +kernel)
set_option maxRecDepth 20000 in
theorem k_944 : Cond.code y_Mod_sizeHere b_Mod_sizeHere 1 (some .int) ∈ lw_tbl := kt 944 rfl
theorem k_945 : Cond.methodLink "ListingRowModel" 160 y_Mod_byteHere ∈ lw_tbl := kt 945 (by decide +kernel)
theorem k_947 : Cond.instanceMethod y_Mod_byteHere ∈ lw_tbl := kt 947 (by decide +kernel)
set_option maxRecDepth 20000 in
theorem k_948 : Cond.code y_Mod_byteHere b_Mod_byteHere 2 (some .int) ∈ lw_tbl := kt 948 rfl
theorem k_949 : Cond.methodLink "ListingRowModel" 163 y_Mod_numberHere ∈ lw_tbl := kt 949 (by decide +kernel)
theorem k_951 : Cond.instanceMethod y_Mod_numberHere ∈ lw_tbl := kt 951 (by decide +kernel)
set_option maxRecDepth 20000 in
theorem k_952 : Cond.code y_Mod_numberHere b_Mod_numberHere 1 (some .long) ∈ lw_tbl := kt 952 rfl
theorem k_953 : Cond.methodLink "ListingRowModel" 178 y_Mod_isBehind ∈ lw_tbl := kt 953 (by decide +kernel)
theorem k_955 : Cond.instanceMethod y_Mod_isBehind ∈ lw_tbl := kt 955 (by decide +kernel)
set_option maxRecDepth 20000 in
theorem k_956 : Cond.code y_Mod_isBehind b_Mod_isBehind 5 (some .boolean) ∈ lw_tbl := kt 956 rfl
theorem k_957 : Cond.methodLink "ListingRowModel" 181 y_Mod_isIndexRight ∈ lw_tbl := kt 957 (by decide +kernel)
theorem k_959 : Cond.instanceMethod y_Mod_isIndexRight ∈ lw_tbl := kt 959 (by decide +kernel)
set_option maxRecDepth 20000 in
theorem k_960 : Cond.code y_Mod_isIndexRight b_Mod_isIndexRight 4 (some .boolean) ∈ lw_tbl := kt 960 rfl
theorem k_961 : Cond.methodLink "ListingRowModel" 171 y_Mod_isIndexHere ∈ lw_tbl := kt 961 (by decide +kernel)
theorem k_963 : Cond.instanceMethod y_Mod_isIndexHere ∈ lw_tbl := kt 963 (by decide +kernel)
set_option maxRecDepth 20000 in
theorem k_964 : Cond.code y_Mod_isIndexHere b_Mod_isIndexHere 4 (some .boolean) ∈ lw_tbl := kt 964 rfl
theorem k_965 : Cond.methodLink "ListingRowLaw" 73 y_Mod_entry ∈ lw_tbl := kt 965 (by decide +kernel)
theorem k_966 : Cond.instanceMethod y_Mod_entry ∈ lw_tbl := kt 966 (by decide +kernel)
theorem k_967 : Cond.selects "ListingRowModel" y_Mod_entry y_Mod_entry ∈ lw_tbl := kt 967 (by decide +kernel)
set_option maxRecDepth 20000 in
theorem k_968 : Cond.code y_Mod_entry b_Mod_entry 4 (some .int) ∈ lw_tbl := kt 968 rfl
theorem k_969 : Cond.methodLink "ListingRowLaw" 77 y_Mod_find ∈ lw_tbl := kt 969 (by decide +kernel)
theorem k_970 : Cond.instanceMethod y_Mod_find ∈ lw_tbl := kt 970 (by decide +kernel)
theorem k_971 : Cond.selects "ListingRowModel" y_Mod_find y_Mod_find ∈ lw_tbl := kt 971 (by decide +kernel)
set_option maxRecDepth 20000 in
theorem k_972 : Cond.code y_Mod_find b_Mod_find 5 (some .int) ∈ lw_tbl := kt 972 rfl
theorem k_973 : Cond.methodLink "ListingRowModel" 190 y_Mod_orderOfIndex ∈ lw_tbl := kt 973 (by decide +kernel)
theorem k_975 : Cond.instanceMethod y_Mod_orderOfIndex ∈ lw_tbl := kt 975 (by decide +kernel)
set_option maxRecDepth 20000 in
theorem k_976 : Cond.code y_Mod_orderOfIndex b_Mod_orderOfIndex 4 (some .int) ∈ lw_tbl := kt 976 rfl
theorem k_977 : Cond.methodLink "ListingRowModel" 193 y_Mod_orderHere ∈ lw_tbl := kt 977 (by decide +kernel)
theorem k_979 : Cond.instanceMethod y_Mod_orderHere ∈ lw_tbl := kt 979 (by decide +kernel)
set_option maxRecDepth 20000 in
theorem k_980 : Cond.code y_Mod_orderHere b_Mod_orderHere 3 (some .int) ∈ lw_tbl := kt 980 rfl
theorem k_981 : Cond.methodLink "ListingRowLaw" 81 y_Mod_passed ∈ lw_tbl := kt 981 (by decide +kernel)
theorem k_982 : Cond.instanceMethod y_Mod_passed ∈ lw_tbl := kt 982 (by decide +kernel)
theorem k_983 : Cond.selects "ListingRowModel" y_Mod_passed y_Mod_passed ∈ lw_tbl := kt 983 (by decide +kernel)
set_option maxRecDepth 20000 in
theorem k_984 : Cond.code y_Mod_passed b_Mod_passed 1 (some .int) ∈ lw_tbl := kt 984 rfl
theorem k_985 : Cond.constantLong "ListingRowLaw" 13 4294967295 ∈ lw_tbl := kt 985 (by decide +kernel)
theorem k_986 : Cond.castable "ListingRow$Entry" "ListingRow$Entry" ∈ lw_tbl := kt 986 (by decide +kernel)
theorem k_987 : Cond.castable "ListingRow$Mark" "ListingRow$Mark" ∈ lw_tbl := kt 987 (by decide +kernel)
theorem k_988 : Cond.sameMethod "[Ljava/lang/Object;" "java/lang/Object" "getClass" "()Ljava/lang/Class;" ∈ lw_tbl := kt 988 (by decide +kernel)
theorem k_989 : Cond.selects "[Ljava/lang/Object;" ⟨"java/lang/Object", "getClass", "()Ljava/lang/Class;"⟩ ⟨"java/lang/Object", "getClass", "()Ljava/lang/Class;"⟩ ∈ lw_tbl := kt 989 (by decide +kernel)
theorem k_990 : Cond.declares ⟨"java/lang/Object", "getClass", "()Ljava/lang/Class;"⟩ ∈ lw_tbl := kt 990 (by decide +kernel)
theorem k_991 : Cond.castable "ListingRow" "java/lang/Object" ∈ lw_tbl := kt 991 (by decide +kernel)
theorem k_992 : Cond.castable "ListingRow$Tape" "java/lang/Object" ∈ lw_tbl := kt 992 (by decide +kernel)
theorem k_993 : Cond.castable "ListingRow$Directory" "java/lang/Object" ∈ lw_tbl := kt 993 (by decide +kernel)
theorem k_994 : Cond.castable "ListingRow$Known" "java/lang/Object" ∈ lw_tbl := kt 994 (by decide +kernel)
theorem k_995 : Cond.castable "ListingRow$Listing" "java/lang/Object" ∈ lw_tbl := kt 995 (by decide +kernel)
theorem k_996 : Cond.castable "ListingRow$Layout" "java/lang/Object" ∈ lw_tbl := kt 996 (by decide +kernel)
theorem k_997 : Cond.castable "ListingRow$Walk" "java/lang/Object" ∈ lw_tbl := kt 997 (by decide +kernel)
theorem k_998 : Cond.castable "ListingRow$Judge" "java/lang/Object" ∈ lw_tbl := kt 998 (by decide +kernel)
theorem k_999 : Cond.castable "ListingRowModel" "java/lang/Object" ∈ lw_tbl := kt 999 (by decide +kernel)
theorem k_1000 : Cond.castable "ListingRow$Entry" "java/lang/Object" ∈ lw_tbl := kt 1000 (by decide +kernel)
theorem k_1001 : Cond.castable "ListingRow$Mark" "java/lang/Object" ∈ lw_tbl := kt 1001 (by decide +kernel)
theorem ks_Dir_compareAt : Cond.selects "ListingRow$Directory" y_Dir_compareAt y_Dir_compareAt ∈ lw_tbl := List.mem_append_left _ (List.mem_of_getElem? (i := 0) (by decide +kernel))
theorem ks_Known_placeOf : Cond.selects "ListingRow$Known" y_Known_placeOf y_Known_placeOf ∈ lw_tbl := List.mem_append_left _ (List.mem_of_getElem? (i := 1) (by decide +kernel))
theorem ks_Known_hasAt : Cond.selects "ListingRow$Known" y_Known_hasAt y_Known_hasAt ∈ lw_tbl := List.mem_append_left _ (List.mem_of_getElem? (i := 2) (by decide +kernel))
theorem ks_AL_rangeCheckForAdd : Cond.selects "java/util/ArrayList" y_AL_rangeCheckForAdd y_AL_rangeCheckForAdd ∈ lw_tbl := List.mem_append_left _ (List.mem_of_getElem? (i := 3) (by decide +kernel))
theorem ks_AL_grow0 : Cond.selects "java/util/ArrayList" y_AL_grow0 y_AL_grow0 ∈ lw_tbl := List.mem_append_left _ (List.mem_of_getElem? (i := 4) (by decide +kernel))
theorem ks_AL_grow1 : Cond.selects "java/util/ArrayList" y_AL_grow1 y_AL_grow1 ∈ lw_tbl := List.mem_append_left _ (List.mem_of_getElem? (i := 5) (by decide +kernel))
theorem ks_AL_fastRemove : Cond.selects "java/util/ArrayList" y_AL_fastRemove y_AL_fastRemove ∈ lw_tbl := List.mem_append_left _ (List.mem_of_getElem? (i := 6) (by decide +kernel))
theorem ks_Lst_measure : Cond.selects "ListingRow$Listing" y_Lst_measure y_Lst_measure ∈ lw_tbl := List.mem_append_left _ (List.mem_of_getElem? (i := 7) (by decide +kernel))
theorem ks_Lay_fitsUnderHeader : Cond.selects "ListingRow$Layout" y_Lay_fitsUnderHeader y_Lay_fitsUnderHeader ∈ lw_tbl := List.mem_append_left _ (List.mem_of_getElem? (i := 8) (by decide +kernel))
theorem ks_Lay_openHeader : Cond.selects "ListingRow$Layout" y_Lay_openHeader y_Lay_openHeader ∈ lw_tbl := List.mem_append_left _ (List.mem_of_getElem? (i := 9) (by decide +kernel))
theorem ks_Lst_writeNext : Cond.selects "ListingRow$Listing" y_Lst_writeNext y_Lst_writeNext ∈ lw_tbl := List.mem_append_left _ (List.mem_of_getElem? (i := 10) (by decide +kernel))
theorem ks_Lst_writeHeader : Cond.selects "ListingRow$Listing" y_Lst_writeHeader y_Lst_writeHeader ∈ lw_tbl := List.mem_append_left _ (List.mem_of_getElem? (i := 11) (by decide +kernel))
theorem ks_Lst_putU4 : Cond.selects "ListingRow$Listing" y_Lst_putU4 y_Lst_putU4 ∈ lw_tbl := List.mem_append_left _ (List.mem_of_getElem? (i := 12) (by decide +kernel))
theorem ks_Lst_putU2 : Cond.selects "ListingRow$Listing" y_Lst_putU2 y_Lst_putU2 ∈ lw_tbl := List.mem_append_left _ (List.mem_of_getElem? (i := 13) (by decide +kernel))
theorem ks_Lst_pieceOf : Cond.selects "ListingRow$Listing" y_Lst_pieceOf y_Lst_pieceOf ∈ lw_tbl := List.mem_append_left _ (List.mem_of_getElem? (i := 14) (by decide +kernel))
theorem ks_AL_add3 : Cond.selects "java/util/ArrayList" y_AL_add3 y_AL_add3 ∈ lw_tbl := List.mem_append_left _ (List.mem_of_getElem? (i := 15) (by decide +kernel))
theorem ks_Judge_judgeAnew : Cond.selects "ListingRow$Judge" y_Judge_judgeAnew y_Judge_judgeAnew ∈ lw_tbl := List.mem_append_left _ (List.mem_of_getElem? (i := 16) (by decide +kernel))
theorem ks_Walk_readHeader : Cond.selects "ListingRow$Walk" y_Walk_readHeader y_Walk_readHeader ∈ lw_tbl := List.mem_append_left _ (List.mem_of_getElem? (i := 17) (by decide +kernel))
theorem ks_Walk_readEntry : Cond.selects "ListingRow$Walk" y_Walk_readEntry y_Walk_readEntry ∈ lw_tbl := List.mem_append_left _ (List.mem_of_getElem? (i := 18) (by decide +kernel))
theorem ks_Judge_isEntryRight : Cond.selects "ListingRow$Judge" y_Judge_isEntryRight y_Judge_isEntryRight ∈ lw_tbl := List.mem_append_left _ (List.mem_of_getElem? (i := 19) (by decide +kernel))
theorem ks_Judge_isMarkRight : Cond.selects "ListingRow$Judge" y_Judge_isMarkRight y_Judge_isMarkRight ∈ lw_tbl := List.mem_append_left _ (List.mem_of_getElem? (i := 20) (by decide +kernel))
theorem ks_Mod_use : Cond.selects "ListingRowModel" y_Mod_use y_Mod_use ∈ lw_tbl := List.mem_append_left _ (List.mem_of_getElem? (i := 21) (by decide +kernel))
theorem ks_Mod_isName : Cond.selects "ListingRowModel" y_Mod_isName y_Mod_isName ∈ lw_tbl := List.mem_append_left _ (List.mem_of_getElem? (i := 22) (by decide +kernel))
theorem ks_Mod_entryOfTape : Cond.selects "ListingRowModel" y_Mod_entryOfTape y_Mod_entryOfTape ∈ lw_tbl := List.mem_append_left _ (List.mem_of_getElem? (i := 23) (by decide +kernel))
theorem ks_Mod_orderOfTape : Cond.selects "ListingRowModel" y_Mod_orderOfTape y_Mod_orderOfTape ∈ lw_tbl := List.mem_append_left _ (List.mem_of_getElem? (i := 24) (by decide +kernel))
theorem ks_Mod_nameByte : Cond.selects "ListingRowModel" y_Mod_nameByte y_Mod_nameByte ∈ lw_tbl := List.mem_append_left _ (List.mem_of_getElem? (i := 25) (by decide +kernel))
theorem ks_Mod_knownAt : Cond.selects "ListingRowModel" y_Mod_knownAt y_Mod_knownAt ∈ lw_tbl := List.mem_append_left _ (List.mem_of_getElem? (i := 26) (by decide +kernel))
theorem ks_Mod_sort : Cond.selects "ListingRowModel" y_Mod_sort y_Mod_sort ∈ lw_tbl := List.mem_append_left _ (List.mem_of_getElem? (i := 27) (by decide +kernel))
theorem ks_Mod_isBefore : Cond.selects "ListingRowModel" y_Mod_isBefore y_Mod_isBefore ∈ lw_tbl := List.mem_append_left _ (List.mem_of_getElem? (i := 28) (by decide +kernel))
theorem ks_Mod_measure : Cond.selects "ListingRowModel" y_Mod_measure y_Mod_measure ∈ lw_tbl := List.mem_append_left _ (List.mem_of_getElem? (i := 29) (by decide +kernel))
theorem ks_Mod_takes : Cond.selects "ListingRowModel" y_Mod_takes y_Mod_takes ∈ lw_tbl := List.mem_append_left _ (List.mem_of_getElem? (i := 30) (by decide +kernel))
theorem ks_Mod_closeHeader : Cond.selects "ListingRowModel" y_Mod_closeHeader y_Mod_closeHeader ∈ lw_tbl := List.mem_append_left _ (List.mem_of_getElem? (i := 31) (by decide +kernel))
theorem ks_Mod_noteIndex : Cond.selects "ListingRowModel" y_Mod_noteIndex y_Mod_noteIndex ∈ lw_tbl := List.mem_append_left _ (List.mem_of_getElem? (i := 32) (by decide +kernel))
theorem ks_Mod_put : Cond.selects "ListingRowModel" y_Mod_put y_Mod_put ∈ lw_tbl := List.mem_append_left _ (List.mem_of_getElem? (i := 33) (by decide +kernel))
theorem ks_Mod_count : Cond.selects "ListingRowModel" y_Mod_count y_Mod_count ∈ lw_tbl := List.mem_append_left _ (List.mem_of_getElem? (i := 34) (by decide +kernel))
theorem ks_Mod_step : Cond.selects "ListingRowModel" y_Mod_step y_Mod_step ∈ lw_tbl := List.mem_append_left _ (List.mem_of_getElem? (i := 35) (by decide +kernel))
theorem ks_Mod_u2 : Cond.selects "ListingRowModel" y_Mod_u2 y_Mod_u2 ∈ lw_tbl := List.mem_append_left _ (List.mem_of_getElem? (i := 36) (by decide +kernel))
theorem ks_Mod_u4 : Cond.selects "ListingRowModel" y_Mod_u4 y_Mod_u4 ∈ lw_tbl := List.mem_append_left _ (List.mem_of_getElem? (i := 37) (by decide +kernel))
theorem ks_Mod_isEntryRight : Cond.selects "ListingRowModel" y_Mod_isEntryRight y_Mod_isEntryRight ∈ lw_tbl := List.mem_append_left _ (List.mem_of_getElem? (i := 38) (by decide +kernel))
theorem ks_Mod_sizeHere : Cond.selects "ListingRowModel" y_Mod_sizeHere y_Mod_sizeHere ∈ lw_tbl := List.mem_append_left _ (List.mem_of_getElem? (i := 39) (by decide +kernel))
theorem ks_Mod_byteHere : Cond.selects "ListingRowModel" y_Mod_byteHere y_Mod_byteHere ∈ lw_tbl := List.mem_append_left _ (List.mem_of_getElem? (i := 40) (by decide +kernel))
theorem ks_Mod_numberHere : Cond.selects "ListingRowModel" y_Mod_numberHere y_Mod_numberHere ∈ lw_tbl := List.mem_append_left _ (List.mem_of_getElem? (i := 41) (by decide +kernel))
theorem ks_Mod_isBehind : Cond.selects "ListingRowModel" y_Mod_isBehind y_Mod_isBehind ∈ lw_tbl := List.mem_append_left _ (List.mem_of_getElem? (i := 42) (by decide +kernel))
theorem ks_Mod_isIndexRight : Cond.selects "ListingRowModel" y_Mod_isIndexRight y_Mod_isIndexRight ∈ lw_tbl := List.mem_append_left _ (List.mem_of_getElem? (i := 43) (by decide +kernel))
theorem ks_Mod_isIndexHere : Cond.selects "ListingRowModel" y_Mod_isIndexHere y_Mod_isIndexHere ∈ lw_tbl := List.mem_append_left _ (List.mem_of_getElem? (i := 44) (by decide +kernel))
theorem ks_Mod_orderOfIndex : Cond.selects "ListingRowModel" y_Mod_orderOfIndex y_Mod_orderOfIndex ∈ lw_tbl := List.mem_append_left _ (List.mem_of_getElem? (i := 45) (by decide +kernel))
theorem ks_Mod_orderHere : Cond.selects "ListingRowModel" y_Mod_orderHere y_Mod_orderHere ∈ lw_tbl := List.mem_append_left _ (List.mem_of_getElem? (i := 46) (by decide +kernel))
end
section
/-! THE LAYER: all words in one list; worlds as lists with a rest; one ground for all methods -/
def zTB : List Cond := lw_tbl.filter goodWord
def zNb : Cond → Bool
  | .methodLinkNest _ _ _ _ => true
  | .castable _ _ => true
  | .declares _ => true
  | _ => false
def zNS : List Cond := lw_tbl.filter zNb
theorem z_ns {w : Cond} (h : w ∈ lw_tbl) (hg : zNb w = true) : w ∈ zNS := List.mem_filter.mpr ⟨h, hg⟩
abbrev zw (y : MethodName) (b : ByteArray) (n : Nat) (ret : Option FieldType) : List Cond := Cond.code y b n ret :: zTB
theorem z_in {w : Cond} (h : w ∈ lw_tbl) (hg : goodWord w = true) : w ∈ zTB := List.mem_filter.mpr ⟨h, hg⟩
theorem z_gw {w : Cond} (h : w ∈ zTB) : (w.onTables && w.keeps) = true ∨ ∃ ty, w = .arrayClass ty := good_of_word (List.mem_filter.mp h).2
theorem z_good {y : MethodName} {b : ByteArray} {n : Nat} {ret : Option FieldType} (h : Cond.code y b n ret ∈ zTB) : GoodIn zTB (zw y b n ret) := by
  intro w hw
  rcases List.mem_cons.mp hw with rfl | hw
  · exact ⟨h, z_gw h⟩
  · exact ⟨hw, z_gw hw⟩
abbrev zR (d lo mc ms : Nat) : Room := { frames := d, cells := mc, slots := ms, locals := lo }
/-! worlds: membership, permutation -/
theorem z_Pm {D : va_G} {cl : List vw_C} {ws : va_W} {H : Heap} (h : va_P D cl ws H) {q : Nat × va_E} (hq : q ∈ ws) : va_at D cl q H := by
  obtain ⟨k, hk⟩ := List.getElem?_of_mem hq
  exact h k q hk
theorem z_Pi {D : va_G} {cl : List vw_C} {ws : va_W} {H : Heap} (h : ∀ q ∈ ws, va_at D cl q H) : va_P D cl ws H := fun _ q hk => h q (List.mem_of_getElem? hk)
theorem z_Ps {D : va_G} {cl : List vw_C} {ws ws' : va_W} {H : Heap} (h : va_P D cl ws H) (hs : ∀ q ∈ ws', q ∈ ws) : va_P D cl ws' H := z_Pi fun q hq => z_Pm h (hs q hq)
theorem z_Dp {A : Nat → Prop} {ws : va_W} : va_D A ws ↔ ws.Pairwise (fun p q => p.1 ≠ q.1) ∧ ∀ q ∈ ws, A q.1 := by
  constructor
  · intro h
    refine ⟨List.pairwise_iff_getElem.mpr fun i j hi hj hij he => ?_, fun q hq => ?_⟩
    · have := h.1 i j _ _ (List.getElem?_eq_getElem hi) (List.getElem?_eq_getElem hj) he
      omega
    · obtain ⟨k, hk⟩ := List.getElem?_of_mem hq
      exact h.2 k q hk
  · intro h
    refine ⟨fun i j p q hi hj he => ?_, fun k q hk => h.2 q (List.mem_of_getElem? hk)⟩
    obtain ⟨li, ei⟩ := List.getElem?_eq_some_iff.mp hi
    obtain ⟨lj, ej⟩ := List.getElem?_eq_some_iff.mp hj
    rcases Nat.lt_trichotomy i j with q1 | q1 | q1
    · exact absurd (by rw [ei, ej]; exact he) (List.pairwise_iff_getElem.mp h.1 i j li lj q1)
    · exact q1
    · exact absurd (by rw [ei, ej]; exact he.symm) (List.pairwise_iff_getElem.mp h.1 j i lj li q1)
theorem z_Pq {D : va_G} {cl : List vw_C} {ws ws' : va_W} {H : Heap} (hp : ws.Perm ws') (h : va_P D cl ws H) : va_P D cl ws' H := z_Ps h fun _ hq => hp.mem_iff.mpr hq
theorem z_Dq {A : Nat → Prop} {ws ws' : va_W} (hp : ws.Perm ws') (h : va_D A ws) : va_D A ws' :=
  z_Dp.mpr ⟨(hp.pairwise_iff (fun h => Ne.symm h)).mp (z_Dp.mp h).1, fun q hq => (z_Dp.mp h).2 q (hp.mem_iff.mpr hq)⟩
/-- blocks, the last one without a tail -/
def zF : List va_W → va_W
  | [] => []
  | [b] => b
  | b :: c :: r => b ++ zF (c :: r)
theorem zF_flat : ∀ bs : List va_W, zF bs = bs.flatten
  | [] => rfl
  | [b] => by simp [zF]
  | b :: c :: r => by
    show b ++ zF (c :: r) = _
    rw [zF_flat (c :: r)]
    rfl
theorem z_some {α : Type} : ∀ l : List α, (l.map some).filterMap id = l
  | [] => rfl
  | a :: l => by
    show (some a :: l.map some).filterMap id = a :: l
    rw [List.filterMap_cons]
    show a :: _ = _
    rw [z_some l]
theorem z_rng {α : Type} (bs : List α) : (List.range bs.length).map (fun i => bs[i]?) = bs.map some := by
  apply List.ext_getElem?
  intro i
  rw [List.getElem?_map, List.getElem?_map]
  by_cases h : i < bs.length
  · rw [List.getElem?_range h, List.getElem?_eq_getElem h]
    show some (bs[i]?) = some (some bs[i])
    rw [List.getElem?_eq_getElem h]
  · rw [List.getElem?_eq_none (by simpa using h), List.getElem?_eq_none (by omega)]
    rfl
theorem z_blk {bs bs' : List va_W} (is : List Nat) (h1 : is.map (fun i => bs[i]?) = bs'.map some) (h2 : is.Perm (List.range bs.length)) : (zF bs).Perm (zF bs') := by
  have h3 : (bs'.map some).Perm (bs.map some) := by
    rw [← h1, ← z_rng bs]
    exact h2.map _
  have h4 := h3.filterMap id
  rw [z_some, z_some] at h4
  rw [zF_flat, zF_flat]
  exact h4.symm.flatten

/-! THE GROUND: numbers and slots; the array kinds; the first address of ours; the lists' empty row; the mirror of the rows of references -/
abbrev zT : Type := va_G × (Nat → ClassId) × Nat × Nat × Nat
abbrev zA (g : zT) : Nat → Prop := fun q => g.2.2.1 ≤ q
def zty (g : zT) : List (ClassId × FieldType) := [(g.2.1 0, .byte), (g.2.1 1, .int), (g.2.1 2, .object "java/lang/Object")]
def zG (g : zT) (U : State) : Prop :=
  g.2.2.1 ≤ U.heap.size ∧ va_K g.1 classes (zty g) U ∧ (∀ w ∈ zNS, va_Nw w U) ∧
  (va_Z "java/util/ArrayList" "DEFAULTCAPACITY_EMPTY_ELEMENTDATA" "[Ljava/lang/Object;" (.ref g.2.2.2.1) (zA g) U U.heap ∧ va_T (.object "java/lang/Object") g.2.2.2.1 0 (fun _ => .null) (zA g) U U.heap) ∧
  va_AO "java/lang/Object" U ∧ va_Mi "[Ljava/lang/Object;" g.2.2.2.2 U
theorem zG.go {g : zT} {s U : State} {H : Heap} {locs : List Loc} (h : zG g s) (hS : va_S (zA g) s.heap H locs) (hU : U.heap = H) (hW : s.WarmedH U.vm) : zG g U := by
  obtain ⟨h1, h2, h3, ⟨h4, h5⟩, h6, h7⟩ := h
  have hk : ∀ a : Nat, a < s.heap.size → ¬ zA g a → U.heap[a]? = s.heap[a]? := fun a ha hn => by rw [hU]; exact hS.2.1 a ha hn
  refine ⟨by rw [hU]; exact Nat.le_trans h1 hS.1, va_K.moved hW.alike h2, fun w hw => ?_, ⟨(va_Z.moved hW.alike h4).kept hk, (va_T.moved hW.alike h5).kept hk⟩, h6.moved hW.alike, h7.moved hW.alike⟩
  have hz := h3 w hw
  have hb := (List.mem_filter.mp hw).2
  cases w <;> first | (simp [zNb] at hb; done) | exact va_Nw.warmM hW hz | exact va_Nw.warmC hW hz | exact va_Nw.warmD hW hz
theorem zG.same {g : zT} {u U : State} (h : zG g u) (hh : U.heap = u.heap) (hv : U.vm = u.vm) : zG g U := by
  have hal : u.vm.Alike U.vm := by rw [hv]; exact Vm.Alike.refl _
  obtain ⟨h1, h2, h3, ⟨h4, h5⟩, h6, h7⟩ := h
  refine ⟨by rw [hh]; exact h1, va_K.moved hal h2, fun w hw => ?_, ⟨by rw [hh]; exact va_Z.moved hal h4, by rw [hh]; exact va_T.moved hal h5⟩, h6.moved hal, h7.moved hal⟩
  have hz := h3 w hw
  have hb := (List.mem_filter.mp hw).2
  cases w <;> first | (simp [zNb] at hb; done) | exact va_Nw.same rfl hv.symm hz
/-! starts and ends -/
def zP (g : zT) (av : List Value) (ws : va_W) : Array Value → State → Prop := va_Pc av (fun U => zG g U ∧ va_P g.1 classes ws U.heap ∧ va_D (zA g) ws)
abbrev zB (g : zT) : va_W → State → Prop := fun w t => va_P g.1 classes w t.heap ∧ va_D (zA g) w
def zQi (g : zT) (post : Int32 → va_W → Prop) : Array Value → State → Outcome → State → Prop := va_Qi post (zB g) (zA g)
def zQl (g : zT) (post : Int64 → va_W → Prop) : Array Value → State → Outcome → State → Prop := va_Ql post (zB g) (zA g)
def zQv (g : zT) (post : va_W → Prop) : Array Value → State → Outcome → State → Prop := va_Qv post (zB g) (zA g)
def zQq (g : zT) (post : Option Nat → va_W → Prop) : Array Value → State → Outcome → State → Prop := va_Qq post (zB g) (zA g)
theorem zP.blind {g : zT} {av : List Value} {ws : va_W} : FrameBlind (zP g av ws) := fun _ U gg mk q => ⟨q.1, zG.same q.2.1 rfl rfl, q.2.2⟩
/-- what holds all through a method's body -/
def zC (g : zT) (p : Program) (m : MethodId) (c : Code) (cc : ByteArray) (nL : Nat) (s : State) (args : Array Value) (own : String) : Prop := CallFix p m c cc nL s args zTB own ∧ zG g s
theorem zMet {l : Launch} {g : zT} {y : MethodName} {b : ByteArray} {n d lo mc ms : Nat} {ret : Option FieldType} {av : List Value} {ws : va_W} {Qc : Array Value → State → Outcome → State → Prop} (hy : plainName y.cls = true) (hn : (lg_sl av).length ≤ n)
    (body : ∀ (p : Program) (e : Env) (s : State) (m : MethodId) (below : List Frame) (meth : Method) (c : Code) (ls : Array Slot), zC g p m c b n s av.toArray y.cls → meth.sig.returnType = ret → meth.locks = false → meth.name = y.name → va_P g.1 classes ws s.heap → va_D (zA g) ws → lv_has ls n (lv_args 0 av) →
      W p l e (zR d lo mc ms) s m av.toArray below meth c s.heap [] 0 0 (MQ below Qc av.toArray s mc ms (zA g)) (F0 m 0 ls [])) : Met l y (zw y b n ret) (zR d lo mc ms) (zP g av ws) Qc mc ms (zA g) := by
  refine Met.ofW (cc := b) (maxL := n) (ret := ret) hy rfl ?_
  intro p e s m args below meth c s₁ B hml hv
  obtain ⟨rfl, hG, hP, hD⟩ := hv
  have hts := atoms_spec (ws := zw y b n ret) B.pre
  rw [lg_entry_eq]
  exact body p e s m below meth c _ ⟨⟨B.exec, B.bytes, hml, findClass_of_methodNamed B.named, fun w hw => hts w (List.mem_cons_of_mem _ hw)⟩, hG⟩ B.returns B.notSynchronized (name_of_methodNamed B.named B.method).1 hP hD (lv_entry av hn)

section ZL
variable {p : Program} {l : Launch} {e : Env} {R : Room} {s : State} {m : MethodId} {args : Array Value} {below : List Frame} {meth : Method} {c : Code} {H : Heap} {locs : List Loc} {cells slots : Nat} {Q : State → Prop}
variable {cc : ByteArray} {nL pc : Nat} {ls : Array Slot} {rest : List Value} {own : String} {g : zT} {ws : va_W}

theorem z_iadd (C : zC g p m c cc nL s args own) {x : Int32} {y : Int32} {v : Int32} (hdg : decode cc pc = .ok (.iadd, 1)) (hv : x + y = v)
    (k : W p l e R s m args below meth c H locs cells slots Q (F0 m (pc + 1) ls (.int v :: rest))) : W p l e R s m args below meth c H locs cells slots Q (F0 m pc ls (.int y :: .int x :: rest)) := by
  subst hv
  exact lv_iadd C.1.1 C.1.2.1 hdg k
theorem z_isub (C : zC g p m c cc nL s args own) {x : Int32} {y : Int32} {v : Int32} (hdg : decode cc pc = .ok (.isub, 1)) (hv : x - y = v)
    (k : W p l e R s m args below meth c H locs cells slots Q (F0 m (pc + 1) ls (.int v :: rest))) : W p l e R s m args below meth c H locs cells slots Q (F0 m pc ls (.int y :: .int x :: rest)) := by
  subst hv
  exact lv_isub C.1.1 C.1.2.1 hdg k
theorem z_imul (C : zC g p m c cc nL s args own) {x : Int32} {y : Int32} {v : Int32} (hdg : decode cc pc = .ok (.imul, 1)) (hv : x * y = v)
    (k : W p l e R s m args below meth c H locs cells slots Q (F0 m (pc + 1) ls (.int v :: rest))) : W p l e R s m args below meth c H locs cells slots Q (F0 m pc ls (.int y :: .int x :: rest)) := by
  subst hv
  exact lv_imul C.1.1 C.1.2.1 hdg k
theorem z_iand (C : zC g p m c cc nL s args own) {x : Int32} {y : Int32} {v : Int32} (hdg : decode cc pc = .ok (.iand, 1)) (hv : x &&& y = v)
    (k : W p l e R s m args below meth c H locs cells slots Q (F0 m (pc + 1) ls (.int v :: rest))) : W p l e R s m args below meth c H locs cells slots Q (F0 m pc ls (.int y :: .int x :: rest)) := by
  subst hv
  exact lv_iand C.1.1 C.1.2.1 hdg k
theorem z_ior (C : zC g p m c cc nL s args own) {x : Int32} {y : Int32} {v : Int32} (hdg : decode cc pc = .ok (.ior, 1)) (hv : x ||| y = v)
    (k : W p l e R s m args below meth c H locs cells slots Q (F0 m (pc + 1) ls (.int v :: rest))) : W p l e R s m args below meth c H locs cells slots Q (F0 m pc ls (.int y :: .int x :: rest)) := by
  subst hv
  exact lv_ior C.1.1 C.1.2.1 hdg k
theorem z_ixor (C : zC g p m c cc nL s args own) {x : Int32} {y : Int32} {v : Int32} (hdg : decode cc pc = .ok (.ixor, 1)) (hv : x ^^^ y = v)
    (k : W p l e R s m args below meth c H locs cells slots Q (F0 m (pc + 1) ls (.int v :: rest))) : W p l e R s m args below meth c H locs cells slots Q (F0 m pc ls (.int y :: .int x :: rest)) := by
  subst hv
  exact lv_ixor C.1.1 C.1.2.1 hdg k
theorem z_ishl (C : zC g p m c cc nL s args own) {x : Int32} {y : Int32} {v : Int32} (hdg : decode cc pc = .ok (.ishl, 1)) (hv : x <<< (y &&& 31) = v)
    (k : W p l e R s m args below meth c H locs cells slots Q (F0 m (pc + 1) ls (.int v :: rest))) : W p l e R s m args below meth c H locs cells slots Q (F0 m pc ls (.int y :: .int x :: rest)) := by
  subst hv
  exact lv_ishl C.1.1 C.1.2.1 hdg k
theorem z_ishr (C : zC g p m c cc nL s args own) {x : Int32} {y : Int32} {v : Int32} (hdg : decode cc pc = .ok (.ishr, 1)) (hv : x >>> (y &&& 31) = v)
    (k : W p l e R s m args below meth c H locs cells slots Q (F0 m (pc + 1) ls (.int v :: rest))) : W p l e R s m args below meth c H locs cells slots Q (F0 m pc ls (.int y :: .int x :: rest)) := by
  subst hv
  exact lv_ishr C.1.1 C.1.2.1 hdg k
theorem z_ladd (C : zC g p m c cc nL s args own) {x : Int64} {y : Int64} {v : Int64} (hdg : decode cc pc = .ok (.ladd, 1)) (hv : x + y = v)
    (k : W p l e R s m args below meth c H locs cells slots Q (F0 m (pc + 1) ls (.long v :: rest))) : W p l e R s m args below meth c H locs cells slots Q (F0 m pc ls (.long y :: .long x :: rest)) := by
  subst hv
  exact lv_ladd C.1.1 C.1.2.1 hdg k
theorem z_lsub (C : zC g p m c cc nL s args own) {x : Int64} {y : Int64} {v : Int64} (hdg : decode cc pc = .ok (.lsub, 1)) (hv : x - y = v)
    (k : W p l e R s m args below meth c H locs cells slots Q (F0 m (pc + 1) ls (.long v :: rest))) : W p l e R s m args below meth c H locs cells slots Q (F0 m pc ls (.long y :: .long x :: rest)) := by
  subst hv
  exact lv_lsub C.1.1 C.1.2.1 hdg k
theorem z_land (C : zC g p m c cc nL s args own) {x : Int64} {y : Int64} {v : Int64} (hdg : decode cc pc = .ok (.land, 1)) (hv : x &&& y = v)
    (k : W p l e R s m args below meth c H locs cells slots Q (F0 m (pc + 1) ls (.long v :: rest))) : W p l e R s m args below meth c H locs cells slots Q (F0 m pc ls (.long y :: .long x :: rest)) := by
  subst hv
  exact lv_land C.1.1 C.1.2.1 hdg k
theorem z_lor (C : zC g p m c cc nL s args own) {x : Int64} {y : Int64} {v : Int64} (hdg : decode cc pc = .ok (.lor, 1)) (hv : x ||| y = v)
    (k : W p l e R s m args below meth c H locs cells slots Q (F0 m (pc + 1) ls (.long v :: rest))) : W p l e R s m args below meth c H locs cells slots Q (F0 m pc ls (.long y :: .long x :: rest)) := by
  subst hv
  exact lv_lor C.1.1 C.1.2.1 hdg k
end ZL
end
section
/-! bytes -/
def sb (u : UInt8) : Int32 := u.toInt8.toInt32
def zu (x : Int32) : UInt8 := x.toInt8.toUInt8
theorem sb_zu (x : Int32) : sb (zu x) = x.toInt8.toInt32 := by
  unfold sb zu
  rfl
theorem z_u8 {Pr : UInt8 → Prop} (h : ∀ n : Nat, n < 256 → Pr (UInt8.ofNat n)) (u : UInt8) : Pr u := by
  have h1 := h u.toNat u.toNat_lt
  rwa [UInt8.ofNat_toNat] at h1
theorem sb_and (u : UInt8) : sb u &&& 255 = nI u.toNat := z_u8 (Pr := fun u => sb u &&& 255 = nI u.toNat) (by decide +kernel) u
theorem zu_sb (u : UInt8) : zu (sb u) = u := z_u8 (Pr := fun u => zu (sb u) = u) (by decide +kernel) u
theorem sb_nar (u : UInt8) : vp_nar .byte (sb u) = sb u := z_u8 (Pr := fun u => vp_nar .byte (sb u) = sb u) (by decide +kernel) u
theorem sb_fit (u : UInt8) : fits .byte (.int (sb u)) = true := z_u8 (Pr := fun u => fits .byte (.int (sb u)) = true) (by decide +kernel) u
theorem sb_inj {u v : UInt8} (h : sb u = sb v) : u = v := by rw [← zu_sb u, h, zu_sb]
def uB (f : Nat → UInt8) (k : Nat) (x : UInt8) : Nat → UInt8 := fun j => if j = k then x else f j
theorem uB_s {f : Nat → UInt8} {k : Nat} {x : UInt8} : uB f k x k = x := if_pos rfl
theorem uB_n {f : Nat → UInt8} {k j : Nat} {x : UInt8} (h : j ≠ k) : uB f k x j = f j := if_neg h
theorem uB_sb (f : Nat → UInt8) (k : Nat) (x : UInt8) : upd (fun j => sb (f j)) k (sb x) = fun j => sb (uB f k x j) := by
  funext j
  unfold upd uB
  split <;> rfl
/-! cells -/
abbrev zBy (g : zT) (n : Nat) (f : Nat → UInt8) : va_E := .inl (g.2.1 0, n, .inl (fun j => sb (f j)))
abbrev zIn (g : zT) (n : Nat) (f : Nat → Int32) : va_E := .inl (g.2.1 1, n, .inl f)
abbrev zOb (g : zT) (n : Nat) (f : Nat → Option Nat) : va_E := .inl (g.2.1 2, n, .inr (.inr (.inr (.inr f))))
abbrev zo (ci : Nat) (fs : List Value) : va_E := .inr (ci, fs)
/-- a kind of object: its fields' words, types, names -/
def zK (ci : Nat) (Cn : String) (T : u_T) (N : Nat) (ty : Nat → FieldType) : Prop := classes[ci]? = some (Cn, T, N) ∧ (∀ w ∈ u_ws Cn T N, w ∈ zTB) ∧ (∀ k, k < N → parseFieldDescriptor (T k).2.2.1 = some (ty k)) ∧ ∀ a, a < N → ∀ b, b < N → a ≠ b → (T a).2.1 ≠ (T b).2.1
theorem z_at {A : Nat → Prop} {ws : va_W} {q : Nat × va_E} (h : q ∈ ws) : ∃ k : Nat, ws[k]? = some q := List.getElem?_of_mem h
section ZR
variable {p : Program} {l : Launch} {e : Env} {R : Room} {s : State} {m : MethodId} {args : Array Value} {below : List Frame} {meth : Method} {c : Code} {H : Heap} {locs : List Loc} {cells slots : Nat} {Q : State → Prop}
variable {cc : ByteArray} {nL pc : Nat} {ls : Array Slot} {rest : List Value} {own : String} {g : zT} {ws : va_W} {a ci N n : Nat} {fs : List Value} {Cn : String} {T : u_T} {ty : Nat → FieldType}
theorem zC.ts (C : zC g p m c cc nL s args own) {w : Cond} (h : w ∈ lw_tbl) (hg : goodWord w = true) : w.before args s = true := C.1.2.2.2.2 w (z_in h hg)
theorem z_get (C : zC g p m c cc nL s args own) (hP : va_P g.1 classes ws H) (hm : (a, zo ci fs) ∈ ws) (hk : zK ci Cn T N ty) (k : Nat) (hkN : k < N) {idx : Nat} {ref : String} (hl : Cond.fieldLink own idx ref (T k).2.1 (T k).2.2.1 ∈ lw_tbl) (hsame : ∀ x, s.fieldFound? (T k).1 (T k).2.1 (T k).2.2.1 = some x → s.fieldFound? ref (T k).2.1 (T k).2.2.1 = some x) {v : Value} (hv : fs[k]? = some v) (hdg : decode cc pc = .ok (.getfield idx, 3))
    (kk : W p l e R s m args below meth c H locs cells slots Q (F0 m (pc + 3) ls (v :: rest))) : W p l e R s m args below meth c H locs cells slots Q (F0 m pc ls (.ref a :: rest)) := by
  obtain ⟨q0, hq⟩ := List.getElem?_of_mem hm
  exact va_get (D := g.1) C.1.1 C.1.2.1 C.1.2.2.2.2 hk.2.1 C.1.2.2.2.1 C.2.2.1 hP q0 hq hk.1 k hkN (C.ts hl rfl) hsame hv hdg kk
theorem z_put (C : zC g p m c cc nL s args own) (hP : va_P g.1 classes ws H) (hD : va_D (zA g) ws) (hS : va_S (zA g) s.heap H locs) (q0 : Nat) (he : ws[q0]? = some (a, zo ci fs)) (hk : zK ci Cn T N ty) (k : Nat) (hkN : k < N) {idx : Nat} {ref : String} (hl : Cond.fieldLink own idx ref (T k).2.1 (T k).2.2.1 ∈ lw_tbl) (hsame : ∀ x, s.fieldFound? (T k).1 (T k).2.1 (T k).2.2.1 = some x → s.fieldFound? ref (T k).2.1 (T k).2.2.1 = some x) (hfin : (T k).2.2.2 = false) {v : Value} (hn : narrow (ty k) v = v) (hfit : fits (ty k) v = true) (hlen : k < fs.length) (hdg : decode cc pc = .ok (.putfield idx, 3)) {ws' : va_W} (hw : ws.set q0 (a, zo ci (fs.set k v)) = ws')
    (kk : ∀ (H : Heap) (locs : List Loc), va_P g.1 classes ws' H → va_D (zA g) ws' → va_S (zA g) s.heap H locs → W p l e R s m args below meth c H locs cells slots Q (F0 m (pc + 3) ls rest)) : W p l e R s m args below meth c H locs cells slots Q (F0 m pc ls (v :: .ref a :: rest)) := by
  subst hw
  exact va_put (D := g.1) C.1.1 C.1.2.1 C.1.2.2.2.2 hk.2.1 ty hk.2.2.1 hk.2.2.2 C.1.2.2.2.1 C.2.2.1 hP hD hS q0 he hk.1 k hkN (C.ts hl rfl) hsame hfin (hk.2.2.1 k hkN) hn hfit hlen hdg kk
theorem z_putF (C : zC g p m c cc nL s args own) (hP : va_P g.1 classes ws H) (hD : va_D (zA g) ws) (hS : va_S (zA g) s.heap H locs) (hin : meth.name = "<init>") (q0 : Nat) (he : ws[q0]? = some (a, zo ci fs)) (hk : zK ci Cn T N ty) (k : Nat) (hkN : k < N) {idx : Nat} {ref : String} (hl : Cond.fieldLink own idx ref (T k).2.1 (T k).2.2.1 ∈ lw_tbl) (hsame : ∀ x, s.fieldFound? (T k).1 (T k).2.1 (T k).2.2.1 = some x → s.fieldFound? ref (T k).2.1 (T k).2.2.1 = some x) (hfin : (T k).2.2.2 = true) (hdecl : (T k).1 = own) {v : Value} (hn : narrow (ty k) v = v) (hfit : fits (ty k) v = true) (hlen : k < fs.length) (hdg : decode cc pc = .ok (.putfield idx, 3)) {ws' : va_W} (hw : ws.set q0 (a, zo ci (fs.set k v)) = ws')
    (kk : ∀ (H : Heap) (locs : List Loc), va_P g.1 classes ws' H → va_D (zA g) ws' → va_S (zA g) s.heap H locs → W p l e R s m args below meth c H locs cells slots Q (F0 m (pc + 3) ls rest)) : W p l e R s m args below meth c H locs cells slots Q (F0 m pc ls (v :: .ref a :: rest)) := by
  subst hw
  exact va_putF (D := g.1) C.1.1 C.1.2.1 C.1.2.2.2.2 hk.2.1 ty hk.2.2.1 hk.2.2.2 C.1.2.2.2.1 C.2.2.1 hP hD hS q0 he hk.1 k hkN (C.ts hl rfl) hsame hfin hin hdecl (hk.2.2.1 k hkN) hn hfit hlen hdg kk
theorem z_bald (C : zC g p m c cc nL s args own) (hP : va_P g.1 classes ws H) {f : Nat → UInt8} (hm : (a, zBy g n f) ∈ ws) (k : Nat) (hk : k < n) (hn : n < 2 ^ 31) (hdg : decode cc pc = .ok (.baload, 1))
    (kk : W p l e R s m args below meth c H locs cells slots Q (F0 m (pc + 1) ls (.int (sb (f k)) :: rest))) : W p l e R s m args below meth c H locs cells slots Q (F0 m pc ls (.int (nI k) :: .ref a :: rest)) := by
  obtain ⟨q0, hq⟩ := List.getElem?_of_mem hm
  refine va_bald (D := g.1) C.1.1 C.1.2.1 C.2.2.1 hP q0 0 hq rfl (vp_in_nI hk hn) hdg ?_
  rw [nI_clamp (by omega)]
  exact kk
theorem z_iald (C : zC g p m c cc nL s args own) (hP : va_P g.1 classes ws H) {f : Nat → Int32} (hm : (a, zIn g n f) ∈ ws) (k : Nat) (hk : k < n) (hn : n < 2 ^ 31) (hdg : decode cc pc = .ok (.iaload, 1))
    (kk : W p l e R s m args below meth c H locs cells slots Q (F0 m (pc + 1) ls (.int (f k) :: rest))) : W p l e R s m args below meth c H locs cells slots Q (F0 m pc ls (.int (nI k) :: .ref a :: rest)) := by
  obtain ⟨q0, hq⟩ := List.getElem?_of_mem hm
  refine va_iald (D := g.1) C.1.1 C.1.2.1 C.2.2.1 hP q0 1 hq rfl (vp_in_nI hk hn) hdg ?_
  rw [nI_clamp (by omega)]
  exact kk
theorem z_aald (C : zC g p m c cc nL s args own) (hP : va_P g.1 classes ws H) {f : Nat → Option Nat} (hm : (a, zOb g n f) ∈ ws) (k : Nat) (hk : k < n) (hn : n < 2 ^ 31) (hdg : decode cc pc = .ok (.aaload, 1))
    (kk : W p l e R s m args below meth c H locs cells slots Q (F0 m (pc + 1) ls (va_rf (f k) :: rest))) : W p l e R s m args below meth c H locs cells slots Q (F0 m pc ls (.int (nI k) :: .ref a :: rest)) := by
  obtain ⟨q0, hq⟩ := List.getElem?_of_mem hm
  refine va_aldq (D := g.1) (C := "java/lang/Object") C.1.1 C.1.2.1 C.2.2.1 hP q0 2 hq rfl (vp_in_nI hk hn) hdg ?_
  rw [nI_clamp (by omega)]
  exact kk
theorem z_bast (C : zC g p m c cc nL s args own) (hP : va_P g.1 classes ws H) (hD : va_D (zA g) ws) (hS : va_S (zA g) s.heap H locs) (q0 : Nat) {f : Nat → UInt8} (he : ws[q0]? = some (a, zBy g n f)) (k : Nat) (hk : k < n) (hn : n < 2 ^ 31) {u : UInt8} (hdg : decode cc pc = .ok (.bastore, 1)) {ws' : va_W} (hw : ws.set q0 (a, zBy g n (uB f k u)) = ws')
    (kk : ∀ (H : Heap) (locs : List Loc), va_P g.1 classes ws' H → va_D (zA g) ws' → va_S (zA g) s.heap H locs → W p l e R s m args below meth c H locs cells slots Q (F0 m (pc + 1) ls rest)) : W p l e R s m args below meth c H locs cells slots Q (F0 m pc ls (.int (sb u) :: .int (nI k) :: .ref a :: rest)) := by
  subst hw
  refine va_bast (D := g.1) C.1.1 C.1.2.1 C.2.2.1 hP hD hS q0 0 he rfl (vp_in_nI hk hn) hdg ?_
  rw [nI_clamp (by omega), sb_nar, uB_sb]
  exact kk
theorem z_iast (C : zC g p m c cc nL s args own) (hP : va_P g.1 classes ws H) (hD : va_D (zA g) ws) (hS : va_S (zA g) s.heap H locs) (q0 : Nat) {f : Nat → Int32} (he : ws[q0]? = some (a, zIn g n f)) (k : Nat) (hk : k < n) (hn : n < 2 ^ 31) {x : Int32} (hdg : decode cc pc = .ok (.iastore, 1)) {ws' : va_W} (hw : ws.set q0 (a, zIn g n (upd f k x)) = ws')
    (kk : ∀ (H : Heap) (locs : List Loc), va_P g.1 classes ws' H → va_D (zA g) ws' → va_S (zA g) s.heap H locs → W p l e R s m args below meth c H locs cells slots Q (F0 m (pc + 1) ls rest)) : W p l e R s m args below meth c H locs cells slots Q (F0 m pc ls (.int x :: .int (nI k) :: .ref a :: rest)) := by
  subst hw
  refine va_iast (D := g.1) C.1.1 C.1.2.1 C.2.2.1 hP hD hS q0 1 he rfl (vp_in_nI hk hn) hdg ?_
  rw [nI_clamp (by omega)]
  exact kk
theorem z_alenB (C : zC g p m c cc nL s args own) (hP : va_P g.1 classes ws H) {f : Nat → UInt8} (hm : (a, zBy g n f) ∈ ws) (hdg : decode cc pc = .ok (.arraylength, 1))
    (kk : W p l e R s m args below meth c H locs cells slots Q (F0 m (pc + 1) ls (.int (nI n) :: rest))) : W p l e R s m args below meth c H locs cells slots Q (F0 m pc ls (.ref a :: rest)) := by
  obtain ⟨q0, hq⟩ := List.getElem?_of_mem hm
  exact va_alen (D := g.1) C.1.1 C.1.2.1 C.2.2.1 hP q0 0 hq rfl rfl hdg kk
theorem z_alenO (C : zC g p m c cc nL s args own) (hP : va_P g.1 classes ws H) {f : Nat → Option Nat} (hm : (a, zOb g n f) ∈ ws) (hdg : decode cc pc = .ok (.arraylength, 1))
    (kk : W p l e R s m args below meth c H locs cells slots Q (F0 m (pc + 1) ls (.int (nI n) :: rest))) : W p l e R s m args below meth c H locs cells slots Q (F0 m pc ls (.ref a :: rest)) := by
  obtain ⟨q0, hq⟩ := List.getElem?_of_mem hm
  exact va_alen (D := g.1) C.1.1 C.1.2.1 C.2.2.1 hP q0 2 hq rfl rfl hdg kk

/-! ends -/
theorem z_iret {mc ms : Nat} {post : Int32 → va_W → Prop} {v : Int32} (C : zC g p m c cc nL s args own) (hr : meth.sig.returnType = some .int) (hlk : meth.locks = false) (hP : va_P g.1 classes ws H) (hD : va_D (zA g) ws) (hS : va_S (zA g) s.heap H locs) (hc : cells ≤ mc) (hs : slots ≤ ms) (hp : post v ws) (hdg : decode cc pc = .ok (.ireturn, 1)) : W p l e R s m args below meth c H locs cells slots (MQ below (zQi g post) args s mc ms (zA g)) (F0 m pc ls [.int v]) := by
  refine W.widen hc hs ?_
  exact W.iret (v := v) C.1.1 C.1.2.1 hr (fun t ht hW => ⟨⟨v, ws, rfl, hp, by rw [ht]; exact hP, hD⟩, hS.F ht⟩) hS.2.2 hdg hlk
theorem z_zret {mc ms : Nat} {post : Int32 → va_W → Prop} {v : Int32} (C : zC g p m c cc nL s args own) (hr : meth.sig.returnType = some .boolean) (hlk : meth.locks = false) (hP : va_P g.1 classes ws H) (hD : va_D (zA g) ws) (hS : va_S (zA g) s.heap H locs) (hc : cells ≤ mc) (hs : slots ≤ ms) (hv : v = 0 ∨ v = 1) (hp : post v ws) (hdg : decode cc pc = .ok (.ireturn, 1)) : W p l e R s m args below meth c H locs cells slots (MQ below (zQi g post) args s mc ms (zA g)) (F0 m pc ls [.int v]) := by
  refine W.widen hc hs ?_
  exact W.zret (v := v) C.1.1 C.1.2.1 hr (by rcases hv with rfl | rfl <;> rfl) (fun t ht hW => ⟨⟨v, ws, rfl, hp, by rw [ht]; exact hP, hD⟩, hS.F ht⟩) hS.2.2 hdg hlk
theorem z_lret {mc ms : Nat} {post : Int64 → va_W → Prop} {v : Int64} (C : zC g p m c cc nL s args own) (hr : meth.sig.returnType = some .long) (hlk : meth.locks = false) (hP : va_P g.1 classes ws H) (hD : va_D (zA g) ws) (hS : va_S (zA g) s.heap H locs) (hc : cells ≤ mc) (hs : slots ≤ ms) (hp : post v ws) (hdg : decode cc pc = .ok (.lreturn, 1)) : W p l e R s m args below meth c H locs cells slots (MQ below (zQl g post) args s mc ms (zA g)) (F0 m pc ls [.long v]) := by
  refine W.widen hc hs ?_
  exact W.lret (v := v) C.1.1 C.1.2.1 hr (fun t ht hW => ⟨⟨v, ws, rfl, hp, by rw [ht]; exact hP, hD⟩, hS.F ht⟩) hS.2.2 hdg hlk
theorem z_vret {mc ms : Nat} {post : va_W → Prop} (C : zC g p m c cc nL s args own) (hr : meth.sig.returnType = none) (hlk : meth.locks = false) (hP : va_P g.1 classes ws H) (hD : va_D (zA g) ws) (hS : va_S (zA g) s.heap H locs) (hc : cells ≤ mc) (hs : slots ≤ ms) (hp : post ws) (hdg : decode cc pc = .ok (.return_, 1)) : W p l e R s m args below meth c H locs cells slots (MQ below (zQv g post) args s mc ms (zA g)) (F0 m pc ls []) := by
  refine W.widen hc hs ?_
  exact W.vret C.1.1 C.1.2.1 hr (fun t ht hW => ⟨⟨ws, rfl, hp, by rw [ht]; exact hP, hD⟩, hS.F ht⟩) hS.2.2 hdg hlk
theorem z_aret {mc ms : Nat} {post : Option Nat → va_W → Prop} {v : Option Nat} {rt : FieldType} (C : zC g p m c cc nL s args own) (hr : meth.sig.returnType = some rt) (hrt : (∃ n, rt = .object n) ∨ ∃ t, rt = .array t) (hlk : meth.locks = false) (hP : va_P g.1 classes ws H) (hD : va_D (zA g) ws) (hS : va_S (zA g) s.heap H locs) (hc : cells ≤ mc) (hs : slots ≤ ms) (hp : post v ws) (hdg : decode cc pc = .ok (.areturn, 1)) : W p l e R s m args below meth c H locs cells slots (MQ below (zQq g post) args s mc ms (zA g)) (F0 m pc ls [va_rf v]) := by
  refine W.widen hc hs ?_
  exact W.aret C.1.1 C.1.2.1 hr hrt (va_rf_or v) (fun t ht hW => ⟨⟨v, ws, rfl, hp, by rw [ht]; exact hP, hD⟩, hS.F ht⟩) hS.2.2 hdg hlk
/-! calls: what is called runs, then the walk goes on -/
section ZCALL
variable {mc ms : Nat} {st0 : List Value} {a1 : Array Value}
theorem z_ki {post : Int32 → va_W → Prop} (hr : va_Run p l e R s m args below meth c H locs cells slots mc ms (F0 m pc ls st0) rest (zQi g post a1) (zA g)) (hS : va_S (zA g) s.heap H locs)
    (kk : ∀ (r : Int32) (w : va_W) (H : Heap) (locs : List Loc), post r w → va_P g.1 classes w H → va_D (zA g) w → va_S (zA g) s.heap H locs → W p l e R s m args below meth c H locs (cells + mc) (slots + ms) Q (F0 m (pc + 3) ls (.int r :: rest))) : W p l e R s m args below meth c H locs cells slots Q (F0 m pc ls st0) :=
  va_calli hr hS (fun _ _ h => h) (fun _ h => h) (fun r u t H1 locs1 ht _ hw hB _ _ hS1 => kk r u H1 locs1 hw (by rw [← ht]; exact hB.1) hB.2 hS1)
theorem z_kl {post : Int64 → va_W → Prop} (hr : va_Run p l e R s m args below meth c H locs cells slots mc ms (F0 m pc ls st0) rest (zQl g post a1) (zA g)) (hS : va_S (zA g) s.heap H locs)
    (kk : ∀ (r : Int64) (w : va_W) (H : Heap) (locs : List Loc), post r w → va_P g.1 classes w H → va_D (zA g) w → va_S (zA g) s.heap H locs → W p l e R s m args below meth c H locs (cells + mc) (slots + ms) Q (F0 m (pc + 3) ls (.long r :: rest))) : W p l e R s m args below meth c H locs cells slots Q (F0 m pc ls st0) :=
  va_calll hr hS (fun _ _ h => h) (fun _ h => h) (fun r u t H1 locs1 ht _ hw hB _ _ hS1 => kk r u H1 locs1 hw (by rw [← ht]; exact hB.1) hB.2 hS1)
theorem z_kv {post : va_W → Prop} (hr : va_Run p l e R s m args below meth c H locs cells slots mc ms (F0 m pc ls st0) rest (zQv g post a1) (zA g)) (hS : va_S (zA g) s.heap H locs)
    (kk : ∀ (w : va_W) (H : Heap) (locs : List Loc), post w → va_P g.1 classes w H → va_D (zA g) w → va_S (zA g) s.heap H locs → W p l e R s m args below meth c H locs (cells + mc) (slots + ms) Q (F0 m (pc + 3) ls rest)) : W p l e R s m args below meth c H locs cells slots Q (F0 m pc ls st0) :=
  va_callv hr hS (fun _ _ h => h) (fun _ h => h) (fun u t H1 locs1 ht _ hw hB _ _ hS1 => kk u H1 locs1 hw (by rw [← ht]; exact hB.1) hB.2 hS1)
theorem z_kq {post : Option Nat → va_W → Prop} (hr : va_Run p l e R s m args below meth c H locs cells slots mc ms (F0 m pc ls st0) rest (zQq g post a1) (zA g)) (hS : va_S (zA g) s.heap H locs)
    (kk : ∀ (r : Option Nat) (w : va_W) (H : Heap) (locs : List Loc), post r w → va_P g.1 classes w H → va_D (zA g) w → va_S (zA g) s.heap H locs → W p l e R s m args below meth c H locs (cells + mc) (slots + ms) Q (F0 m (pc + 3) ls (va_rf r :: rest))) : W p l e R s m args below meth c H locs cells slots Q (F0 m pc ls st0) :=
  va_callq hr hS (fun _ _ h => h) (fun _ h => h) (fun r u t H1 locs1 ht _ hw hB _ _ hS1 => kk r u H1 locs1 hw (by rw [← ht]; exact hB.1) hB.2 hS1)
variable {y : MethodName} {bytes : ByteArray} {maxL d lo idx np : Nat} {ret : Option FieldType} {Qc : Array Value → State → Outcome → State → Prop} {b : Nat} {As : List Value} {C0 : String}
theorem z_B (C : zC g p m c cc nL s args own) (hcode : Cond.code y bytes maxL ret ∈ lw_tbl) (hini : Cond.initialized y.cls ∈ lw_tbl) (hlink : Cond.methodLink own idx y ∈ lw_tbl) (hy : y.cls ≠ "java/lang/invoke/MethodHandle" ∧ y.cls ≠ "java/lang/invoke/VarHandle" ∧ (parseMethodDescriptor y.desc).map (fun d => d.parameters.length) = some np) (hR : d + 1 ≤ R.frames ∧ 8 + (maxL + 11) + lo ≤ R.locals) : CallB R s args own idx y bytes maxL ret (zw y bytes maxL ret) (zR d lo mc ms) mc ms np :=
  callB_of np C.1.2.2.2.2 (z_good (z_in hcode rfl)) rfl rfl rfl (C.ts hini rfl) (C.ts hlink rfl) hy hR
theorem z_pre (C : zC g p m c cc nL s args own) (hP : va_P g.1 classes ws H) (hD : va_D (zA g) ws) (hS : va_S (zA g) s.heap H locs) (av : List Value) : FrameBlind (zP g av ws) ∧ ∀ U : State, U.heap = H → s.WarmedH U.vm → zP g av ws av.toArray U :=
  ⟨zP.blind, fun U hU hW => ⟨rfl, zG.go C.2 hS hU hW, by rw [hU]; exact hP, hD⟩⟩
theorem z_runV (C : zC g p m c cc nL s args own) (hM : Met l y (zw y bytes maxL ret) (zR d lo mc ms) (zP g (.ref b :: As) ws) Qc mc ms (zA g)) (hP : va_P g.1 classes ws H) (hD : va_D (zA g) ws) (hS : va_S (zA g) s.heap H locs) (hm : (b, zo ci fs) ∈ ws) (hc : classes[ci]? = some (C0, T, N)) (hcode : Cond.code y bytes maxL ret ∈ lw_tbl) (hini : Cond.initialized y.cls ∈ lw_tbl) (hlink : Cond.methodLink own idx y ∈ lw_tbl) (hinst : Cond.instanceMethod y ∈ lw_tbl) (hsel : Cond.selects C0 y y ∈ lw_tbl) (hy : y.cls ≠ "java/lang/invoke/MethodHandle" ∧ y.cls ≠ "java/lang/invoke/VarHandle" ∧ (parseMethodDescriptor y.desc).map (fun d => d.parameters.length) = some np) (hR : d + 1 ≤ R.frames ∧ 8 + (maxL + 11) + lo ≤ R.locals) (hn : As.length = np) (hl : ls.size = nL) (hst : st0 = As.reverse ++ .ref b :: rest) (hcat : (rest.map fun v => v.category).sum ≤ 8) (hdg : decode cc pc = .ok (.invokevirtual idx, 3)) (hf : cells + mc ≤ R.cells ∧ slots + ms ≤ R.slots) :
    va_Run p l e R s m args below meth c H locs cells slots mc ms (F0 m pc ls st0) rest (Qc (Value.ref b :: As).toArray) (zA g) := by
  obtain ⟨q0, hq⟩ := List.getElem?_of_mem hm
  exact va_runV C.1 hM ⟨z_B C hcode hini hlink hy hR, C.ts hinst rfl, C.ts hsel rfl⟩ ⟨(z_pre C hP hD hS _).1, va_recv (q := (C0, T, N)) C.2.2.1 hP hc hq, (z_pre C hP hD hS _).2⟩ rfl hn hl hst (by show 2 * 0 + _ ≤ 8; omega) hdg hf
theorem z_runS (C : zC g p m c cc nL s args own) (hM : Met l y (zw y bytes maxL ret) (zR d lo mc ms) (zP g As ws) Qc mc ms (zA g)) (hP : va_P g.1 classes ws H) (hD : va_D (zA g) ws) (hS : va_S (zA g) s.heap H locs) (hcode : Cond.code y bytes maxL ret ∈ lw_tbl) (hini : Cond.initialized y.cls ∈ lw_tbl) (hlink : Cond.methodLink own idx y ∈ lw_tbl) (hstat : Cond.static y ∈ lw_tbl) (hy : y.cls ≠ "java/lang/invoke/MethodHandle" ∧ y.cls ≠ "java/lang/invoke/VarHandle" ∧ (parseMethodDescriptor y.desc).map (fun d => d.parameters.length) = some np) (hR : d + 1 ≤ R.frames ∧ 8 + (maxL + 11) + lo ≤ R.locals) (hn : As.length = np) (hl : ls.size = nL) (hst : st0 = As.reverse ++ rest) (hcat : (rest.map fun v => v.category).sum ≤ 8) (hdg : decode cc pc = .ok (.invokestatic idx, 3)) (hf : cells + mc ≤ R.cells ∧ slots + ms ≤ R.slots) :
    va_Run p l e R s m args below meth c H locs cells slots mc ms (F0 m pc ls st0) rest (Qc As.toArray) (zA g) :=
  va_runS C.1 hM ⟨z_B C hcode hini hlink hy hR, C.ts hstat rfl⟩ (z_pre C hP hD hS _) rfl hn hl hst (by show 2 * 0 + _ ≤ 8; omega) hdg hf
theorem z_runI (C : zC g p m c cc nL s args own) (hM : Met l y (zw y bytes maxL none) (zR d lo mc ms) (zP g (.ref b :: As) ws) Qc mc ms (zA g)) (hP : va_P g.1 classes ws H) (hD : va_D (zA g) ws) (hS : va_S (zA g) s.heap H locs) (hcode : Cond.code y bytes maxL none ∈ lw_tbl) (hini : Cond.initialized y.cls ∈ lw_tbl) (hlink : Cond.methodLink own idx y ∈ lw_tbl) (hinst : Cond.instanceMethod y ∈ lw_tbl) (hnm : y.name = "<init>") (hy : y.cls ≠ "java/lang/invoke/MethodHandle" ∧ y.cls ≠ "java/lang/invoke/VarHandle" ∧ (parseMethodDescriptor y.desc).map (fun d => d.parameters.length) = some np) (hR : d + 1 ≤ R.frames ∧ 8 + (maxL + 11) + lo ≤ R.locals) (hn : As.length = np) (hl : ls.size = nL) (hst : st0 = As.reverse ++ .ref b :: rest) (hcat : (rest.map fun v => v.category).sum ≤ 8) (hdg : decode cc pc = .ok (.invokespecial idx, 3)) (hf : cells + mc ≤ R.cells ∧ slots + ms ≤ R.slots) :
    va_Run p l e R s m args below meth c H locs cells slots mc ms (F0 m pc ls st0) rest (Qc (Value.ref b :: As).toArray) (zA g) :=
  va_runI C.1 hM ⟨z_B C hcode hini hlink hy hR, hnm, C.ts hinst rfl⟩ (z_pre C hP hD hS _) rfl hn hl hst (by show 2 * 0 + _ ≤ 8; omega) hdg hf
theorem z_runIN {host : String} (C : zC g p m c cc nL s args own) (hM : Met l y (zw y bytes maxL none) (zR d lo mc ms) (zP g (.ref b :: As) ws) Qc mc ms (zA g)) (hP : va_P g.1 classes ws H) (hD : va_D (zA g) ws) (hS : va_S (zA g) s.heap H locs) (hcode : Cond.code y bytes maxL none ∈ lw_tbl) (hini : Cond.initialized y.cls ∈ lw_tbl) (hlink : Cond.methodLinkNest own idx y host ∈ lw_tbl) (hinst : Cond.instanceMethod y ∈ lw_tbl) (hnm : y.name = "<init>") (hy : y.cls ≠ "java/lang/invoke/MethodHandle" ∧ y.cls ≠ "java/lang/invoke/VarHandle" ∧ (parseMethodDescriptor y.desc).map (fun d => d.parameters.length) = some np) (hR : d + 1 ≤ R.frames ∧ 8 + (maxL + 11) + lo ≤ R.locals) (hn : As.length = np) (hl : ls.size = nL) (hst : st0 = As.reverse ++ .ref b :: rest) (hcat : (rest.map fun v => v.category).sum ≤ 8) (hdg : decode cc pc = .ok (.invokespecial idx, 3)) (hf : cells + mc ≤ R.cells ∧ slots + ms ≤ R.slots) :
    va_Run p l e R s m args below meth c H locs cells slots mc ms (F0 m pc ls st0) rest (Qc (Value.ref b :: As).toArray) (zA g) :=
  va_runIN C.1 hM ⟨va_cnB np C.1.2.2.2.2 (z_good (z_in hcode rfl)) rfl rfl rfl (C.2.2.2.1 _ (z_ns hlink rfl)) (C.ts hini rfl) hy hR, hnm, C.ts hinst rfl⟩ (z_pre C hP hD hS _) rfl hn hl hst (by show 2 * 0 + _ ≤ 8; omega) hdg hf
end ZCALL
/-! new cells: at the head of the world -/
theorem z_hd {q : Nat × va_E} : (ws ++ [q]).Perm (q :: ws) := List.perm_append_comm
theorem z_new (C : zC g p m c cc nL s args own) (hP : va_P g.1 classes ws H) (hD : va_D (zA g) ws) (hS : va_S (zA g) s.heap H locs) (hk : zK ci Cn T N ty) {idx : Nat} (hcl : Cond.classLink own idx Cn ∈ lw_tbl) (hins : Cond.instantiable Cn N ∈ lw_tbl) (hini : Cond.initialized Cn ∈ lw_tbl) (fs : List Value) (hfs : ∀ j, j < N → defaultValue (ty j) = vp_V fs j) (hcells : cells + 1 ≤ R.cells) (hslots : slots + N ≤ R.slots) (hdg : decode cc pc = .ok (.new idx, 3))
    (kk : ∀ (q : Nat) (H : Heap), va_P g.1 classes ((q, zo ci fs) :: ws) H → va_D (zA g) ((q, zo ci fs) :: ws) → va_S (zA g) s.heap H locs → W p l e R s m args below meth c H locs (cells + 1) (slots + N) Q (F0 m (pc + 3) ls (.ref q :: rest))) : W p l e R s m args below meth c H locs cells slots Q (F0 m pc ls rest) :=
  va_new C.1.1 C.1.2.1 C.1.2.2.2.2 hk.2.1 ty hk.2.2.1 C.1.2.2.2.1 (C.ts hcl rfl) (C.ts hins rfl) (C.ts hini rfl) C.2.2.1 hP hD hS (fun q h => Nat.le_trans C.2.1 h) hk.1 hfs hcells hslots hdg (fun q H1 hP1 hD1 hS1 => kk q H1 (z_Pq z_hd hP1) (z_Dq z_hd hD1) hS1)
theorem z_newa {at_ : ArrayType} {fty : FieldType} {a0 : vp_A} (j : Nat) (C : zC g p m c cc nL s args own) (hP : va_P g.1 classes ws H) (hD : va_D (zA g) ws) (hS : va_S (zA g) s.heap H locs) (hty : newarray.typeOf at_ = fty) (hj : (zty g)[j]? = some (g.2.1 j, fty)) (hRA : ∀ cA, va_RA s cA fty → va_RA s (g.2.1 j) fty → cA = g.2.1 j) (harr : Cond.arrayClass (newarray.typeOf at_) ∈ lw_tbl) (k : Nat) (hk : k < 2 ^ 31) (ha : ∀ cA : ClassId, vp_cell cA a0 = arrV cA k (fun _ => defaultValue fty)) (hbytes : k * componentBytes fty ≤ 536870912) (hcells : cells + 1 ≤ R.cells) (hslots : slots + k ≤ R.slots) (hdg : decode cc pc = .ok (.newarray at_, 2))
    (kk : ∀ (q : Nat) (H : Heap), va_P g.1 classes ((q, .inl (g.2.1 j, a0)) :: ws) H → va_D (zA g) ((q, .inl (g.2.1 j, a0)) :: ws) → va_S (zA g) s.heap H locs → W p l e R s m args below meth c H locs (cells + 1) (slots + k) Q (F0 m (pc + 2) ls (.ref q :: rest))) : W p l e R s m args below meth c H locs cells slots Q (F0 m pc ls (.int (nI k) :: rest)) :=
  va_newa C.1.1 C.1.2.1 (C.ts harr rfl) hty C.2.2.1 hP hD hS (fun q h => Nat.le_trans C.2.1 h) ha (nI_pos hk) (nI_clamp hk) hbytes hcells hslots hdg (fun q cA H1 hK1 hP1 hD1 hS1 => by
    have e : cA = g.2.1 j := hRA cA (hK1.2 (zty g).length (cA, fty) (by rw [List.getElem?_append_right (Nat.le_refl _), Nat.sub_self]; rfl)).2 (C.2.2.1.2 j _ hj).2
    subst e
    exact kk q H1 (z_Pq z_hd hP1) (z_Dq z_hd hD1) hS1)
theorem z_RAp {cA cB : ClassId} {nm : String} (h1 : s.vm.findClass nm = some cA) (h2 : s.vm.findClass nm = some cB) : cA = cB := Option.some.inj (h1.symm.trans h2)
theorem z_newB (C : zC g p m c cc nL s args own) (hP : va_P g.1 classes ws H) (hD : va_D (zA g) ws) (hS : va_S (zA g) s.heap H locs) (harr : Cond.arrayClass .byte ∈ lw_tbl) (k : Nat) (hk : k ≤ 536870912) (hcells : cells + 1 ≤ R.cells) (hslots : slots + k ≤ R.slots) (hdg : decode cc pc = .ok (.newarray .byte, 2))
    (kk : ∀ (q : Nat) (H : Heap), va_P g.1 classes ((q, zBy g k (fun _ => 0)) :: ws) H → va_D (zA g) ((q, zBy g k (fun _ => 0)) :: ws) → va_S (zA g) s.heap H locs → W p l e R s m args below meth c H locs (cells + 1) (slots + k) Q (F0 m (pc + 2) ls (.ref q :: rest))) : W p l e R s m args below meth c H locs cells slots Q (F0 m pc ls (.int (nI k) :: rest)) :=
  z_newa (at_ := .byte) (fty := .byte) (a0 := (k, .inl (fun _ => sb 0))) 0 C hP hD hS rfl rfl (fun _ h1 h2 => z_RAp h1 h2) harr k (by omega) (fun _ => rfl) (by show k * 1 ≤ _; omega) hcells hslots hdg kk
theorem z_newI (C : zC g p m c cc nL s args own) (hP : va_P g.1 classes ws H) (hD : va_D (zA g) ws) (hS : va_S (zA g) s.heap H locs) (harr : Cond.arrayClass .int ∈ lw_tbl) (k : Nat) (hk : k ≤ 134217728) (hcells : cells + 1 ≤ R.cells) (hslots : slots + k ≤ R.slots) (hdg : decode cc pc = .ok (.newarray .int, 2))
    (kk : ∀ (q : Nat) (H : Heap), va_P g.1 classes ((q, zIn g k (fun _ => 0)) :: ws) H → va_D (zA g) ((q, zIn g k (fun _ => 0)) :: ws) → va_S (zA g) s.heap H locs → W p l e R s m args below meth c H locs (cells + 1) (slots + k) Q (F0 m (pc + 2) ls (.ref q :: rest))) : W p l e R s m args below meth c H locs cells slots Q (F0 m pc ls (.int (nI k) :: rest)) :=
  z_newa (at_ := .int) (fty := .int) (a0 := (k, .inl (fun _ => 0))) 1 C hP hD hS rfl rfl (fun _ h1 h2 => z_RAp h1 h2) harr k (by omega) (fun _ => rfl) (by show k * 4 ≤ _; omega) hcells hslots hdg kk
end ZR
end
section
theorem q_Row : zK 0 R_Row F_Row 7 t_Row := ⟨rfl, fun w hw => by
    obtain ⟨k, hk, rfl⟩ := List.mem_map.mp hw
    have hk := List.mem_range.mp hk
    match k, hk with
    | 0, _ => exact z_in k_250 rfl
    | 1, _ => exact z_in k_252 rfl
    | 2, _ => exact z_in k_254 rfl
    | 3, _ => exact z_in k_256 rfl
    | 4, _ => exact z_in k_258 rfl
    | 5, _ => exact z_in k_260 rfl
    | 6, _ => exact z_in k_262 rfl
    | k + 7, h => exact absurd h (by omega), t_Row_ok, n_Row⟩
theorem q_Tape : zK 1 R_Tape F_Tape 2 t_Tape := ⟨rfl, fun w hw => by
    obtain ⟨k, hk, rfl⟩ := List.mem_map.mp hw
    have hk := List.mem_range.mp hk
    match k, hk with
    | 0, _ => exact z_in k_40 rfl
    | 1, _ => exact z_in k_42 rfl
    | k + 2, h => exact absurd h (by omega), t_Tape_ok, n_Tape⟩
theorem q_Dir : zK 2 R_Dir F_Dir 1 t_Dir := ⟨rfl, fun w hw => by
    obtain ⟨k, hk, rfl⟩ := List.mem_map.mp hw
    have hk := List.mem_range.mp hk
    match k, hk with
    | 0, _ => exact z_in k_80 rfl
    | k + 1, h => exact absurd h (by omega), t_Dir_ok, n_Dir⟩
theorem q_AL : zK 3 R_AL F_AL 3 t_AL := ⟨rfl, fun w hw => by
    obtain ⟨k, hk, rfl⟩ := List.mem_map.mp hw
    have hk := List.mem_range.mp hk
    match k, hk with
    | 0, _ => exact z_in k_75 rfl
    | 1, _ => exact z_in k_71 rfl
    | 2, _ => exact z_in k_73 rfl
    | k + 3, h => exact absurd h (by omega), t_AL_ok, n_AL⟩
theorem q_Known : zK 4 R_Known F_Known 1 t_Known := ⟨rfl, fun w hw => by
    obtain ⟨k, hk, rfl⟩ := List.mem_map.mp hw
    have hk := List.mem_range.mp hk
    match k, hk with
    | 0, _ => exact z_in k_92 rfl
    | k + 1, h => exact absurd h (by omega), t_Known_ok, n_Known⟩
theorem q_Lst : zK 5 R_Lst F_Lst 6 t_Lst := ⟨rfl, fun w hw => by
    obtain ⟨k, hk, rfl⟩ := List.mem_map.mp hw
    have hk := List.mem_range.mp hk
    match k, hk with
    | 0, _ => exact z_in k_152 rfl
    | 1, _ => exact z_in k_154 rfl
    | 2, _ => exact z_in k_156 rfl
    | 3, _ => exact z_in k_158 rfl
    | 4, _ => exact z_in k_160 rfl
    | 5, _ => exact z_in k_162 rfl
    | k + 6, h => exact absurd h (by omega), t_Lst_ok, n_Lst⟩
theorem q_Lay : zK 6 R_Lay F_Lay 7 t_Lay := ⟨rfl, fun w hw => by
    obtain ⟨k, hk, rfl⟩ := List.mem_map.mp hw
    have hk := List.mem_range.mp hk
    match k, hk with
    | 0, _ => exact z_in k_121 rfl
    | 1, _ => exact z_in k_123 rfl
    | 2, _ => exact z_in k_125 rfl
    | 3, _ => exact z_in k_127 rfl
    | 4, _ => exact z_in k_129 rfl
    | 5, _ => exact z_in k_131 rfl
    | 6, _ => exact z_in k_133 rfl
    | k + 7, h => exact absurd h (by omega), t_Lay_ok, n_Lay⟩
theorem q_Walk : zK 7 R_Walk F_Walk 12 t_Walk := ⟨rfl, fun w hw => by
    obtain ⟨k, hk, rfl⟩ := List.mem_map.mp hw
    have hk := List.mem_range.mp hk
    match k, hk with
    | 0, _ => exact z_in k_196 rfl
    | 1, _ => exact z_in k_198 rfl
    | 2, _ => exact z_in k_200 rfl
    | 3, _ => exact z_in k_202 rfl
    | 4, _ => exact z_in k_204 rfl
    | 5, _ => exact z_in k_206 rfl
    | 6, _ => exact z_in k_208 rfl
    | 7, _ => exact z_in k_210 rfl
    | 8, _ => exact z_in k_212 rfl
    | 9, _ => exact z_in k_214 rfl
    | 10, _ => exact z_in k_216 rfl
    | 11, _ => exact z_in k_218 rfl
    | k + 12, h => exact absurd h (by omega), t_Walk_ok, n_Walk⟩
theorem q_Judge : zK 8 R_Judge F_Judge 5 t_Judge := ⟨rfl, fun w hw => by
    obtain ⟨k, hk, rfl⟩ := List.mem_map.mp hw
    have hk := List.mem_range.mp hk
    match k, hk with
    | 0, _ => exact z_in k_232 rfl
    | 1, _ => exact z_in k_234 rfl
    | 2, _ => exact z_in k_236 rfl
    | 3, _ => exact z_in k_238 rfl
    | 4, _ => exact z_in k_240 rfl
    | k + 5, h => exact absurd h (by omega), t_Judge_ok, n_Judge⟩
theorem q_Ent : zK 9 R_Ent F_Ent 5 t_Ent := ⟨rfl, fun w hw => by
    obtain ⟨k, hk, rfl⟩ := List.mem_map.mp hw
    have hk := List.mem_range.mp hk
    match k, hk with
    | 0, _ => exact z_in k_383 rfl
    | 1, _ => exact z_in k_385 rfl
    | 2, _ => exact z_in k_387 rfl
    | 3, _ => exact z_in k_389 rfl
    | 4, _ => exact z_in k_391 rfl
    | k + 5, h => exact absurd h (by omega), t_Ent_ok, n_Ent⟩
theorem q_Mark : zK 10 R_Mark F_Mark 3 t_Mark := ⟨rfl, fun w hw => by
    obtain ⟨k, hk, rfl⟩ := List.mem_map.mp hw
    have hk := List.mem_range.mp hk
    match k, hk with
    | 0, _ => exact z_in k_576 rfl
    | 1, _ => exact z_in k_578 rfl
    | 2, _ => exact z_in k_580 rfl
    | k + 3, h => exact absurd h (by omega), t_Mark_ok, n_Mark⟩
theorem q_Mod : zK 11 R_Mod F_Mod 29 t_Mod := ⟨rfl, fun w hw => by
    obtain ⟨k, hk, rfl⟩ := List.mem_map.mp hw
    have hk := List.mem_range.mp hk
    match k, hk with
    | 0, _ => exact z_in k_757 rfl
    | 1, _ => exact z_in k_759 rfl
    | 2, _ => exact z_in k_761 rfl
    | 3, _ => exact z_in k_763 rfl
    | 4, _ => exact z_in k_765 rfl
    | 5, _ => exact z_in k_767 rfl
    | 6, _ => exact z_in k_769 rfl
    | 7, _ => exact z_in k_771 rfl
    | 8, _ => exact z_in k_773 rfl
    | 9, _ => exact z_in k_775 rfl
    | 10, _ => exact z_in k_777 rfl
    | 11, _ => exact z_in k_779 rfl
    | 12, _ => exact z_in k_781 rfl
    | 13, _ => exact z_in k_783 rfl
    | 14, _ => exact z_in k_785 rfl
    | 15, _ => exact z_in k_787 rfl
    | 16, _ => exact z_in k_789 rfl
    | 17, _ => exact z_in k_791 rfl
    | 18, _ => exact z_in k_793 rfl
    | 19, _ => exact z_in k_795 rfl
    | 20, _ => exact z_in k_797 rfl
    | 21, _ => exact z_in k_799 rfl
    | 22, _ => exact z_in k_801 rfl
    | 23, _ => exact z_in k_803 rfl
    | 24, _ => exact z_in k_805 rfl
    | 25, _ => exact z_in k_807 rfl
    | 26, _ => exact z_in k_809 rfl
    | 27, _ => exact z_in k_811 rfl
    | 28, _ => exact z_in k_813 rfl
    | k + 29, h => exact absurd h (by omega), t_Mod_ok, n_Mod⟩
theorem zn_add0 (a : Nat) : nI a + nI 0 = nI a := nI_add a 0
theorem zn_dec {n : Nat} (h : 0 < n) : nI n + Int32.ofInt (-1) = nI (n - 1) := by
  obtain ⟨k, rfl⟩ : ∃ k, n = k + 1 := ⟨n - 1, by omega⟩
  rw [show Int32.ofInt (-1) = (-1) by decide, pk_m1]
  rfl
section ZX
variable {p : Program} {l : Launch} {e : Env} {R : Room} {s : State} {m : MethodId} {args : Array Value} {below : List Frame} {meth : Method} {c : Code} {H : Heap} {locs : List Loc} {cells slots : Nat} {Q : State → Prop}
variable {cc : ByteArray} {nL pc : Nat} {ls : Array Slot} {rest : List Value} {own : String} {g : zT} {ws : va_W} {a ci N n : Nat} {fs : List Value} {Cn : String} {T : u_T}
theorem z_topi {x y : Int32} (h : x = y) (k : W p l e R s m args below meth c H locs cells slots Q (F0 m pc ls (.int y :: rest))) : W p l e R s m args below meth c H locs cells slots Q (F0 m pc ls (.int x :: rest)) := by
  subst h; exact k
theorem z_topl {x y : Int64} (h : x = y) (k : W p l e R s m args below meth c H locs cells slots Q (F0 m pc ls (.long y :: rest))) : W p l e R s m args below meth c H locs cells slots Q (F0 m pc ls (.long x :: rest)) := by
  subst h; exact k
theorem z_some' {r : Option Nat} (h : r = some a) (k : W p l e R s m args below meth c H locs cells slots Q (F0 m pc ls (.ref a :: rest))) : W p l e R s m args below meth c H locs cells slots Q (F0 m pc ls (va_rf r :: rest)) := by
  subst h; exact k
theorem z_idiv (C : zC g p m c cc nL s args own) {x y v : Int32} (hdg : decode cc pc = .ok (.idiv, 1)) (hne : ¬ y = 0) (hv : x / y = v)
    (k : W p l e R s m args below meth c H locs cells slots Q (F0 m (pc + 1) ls (.int v :: rest))) : W p l e R s m args below meth c H locs cells slots Q (F0 m pc ls (.int y :: .int x :: rest)) := by
  subst hv
  exact lv_idiv C.1.1 C.1.2.1 hdg hne k
theorem z_cast {idx : Nat} {nm : String} (C : zC g p m c cc nL s args own) (hP : va_P g.1 classes ws H) (hm : (a, zo ci fs) ∈ ws) (hc : classes[ci]? = some (Cn, T, N)) (hlink : Cond.classLink own idx nm ∈ lw_tbl) (hcast : Cond.castable Cn nm ∈ lw_tbl) (hdg : decode cc pc = .ok (.checkcast idx, 3))
    (k : W p l e R s m args below meth c H locs cells slots Q (F0 m (pc + 3) ls (.ref a :: rest))) : W p l e R s m args below meth c H locs cells slots Q (F0 m pc ls (.ref a :: rest)) := by
  obtain ⟨q0, hq⟩ := List.getElem?_of_mem hm
  exact va_castY C.1.1 C.1.2.1 C.1.2.2.2.1 (C.ts hlink rfl) (C.2.2.2.1 _ (z_ns hcast rfl)) (va_recv (q := (Cn, T, N)) C.2.2.1 hP hc hq) hdg k
end ZX
end
