section
-- ===== PART A: goes FIRST, ahead of the names: the tables' words, and 'selects' of the private methods out of them =====
/-- a private method of a class that the tables say can be made, by its rows of tables_1 -/
def lw_okq (q : MethodName × Nat) : Prop := (q.1.cls ≠ "java/lang/invoke/MethodHandle" ∧ q.1.cls ≠ "java/lang/invoke/VarHandle") ∧ Cond.instantiable q.1.cls q.2 ∈ tables_1 ∧ Cond.privateMethod q.1 ∈ tables_1 ∧ Cond.instanceMethod q.1 ∈ tables_1
theorem lw_p0 : lw_okq (⟨"NodTax", "goneThrough", "(I)LNodTax$Walk;"⟩, 11) := ⟨⟨by decide +kernel, by decide +kernel⟩, List.mem_of_getElem? (i := 15) (by decide +kernel), List.mem_of_getElem? (i := 396) (by decide +kernel), List.mem_of_getElem? (i := 397) (by decide +kernel)⟩
theorem lw_p1 : lw_okq (⟨"NodTax$Walk", "changeLevels", "(LNodTax$Parish;IIZ)V"⟩, 13) := ⟨⟨by decide +kernel, by decide +kernel⟩, List.mem_of_getElem? (i := 217) (by decide +kernel), List.mem_of_getElem? (i := 419) (by decide +kernel), List.mem_of_getElem? (i := 420) (by decide +kernel)⟩
theorem lw_p2 : lw_okq (⟨"NodTax$Walk", "startled", "(LNodTax$Parish;I)I"⟩, 13) := ⟨⟨by decide +kernel, by decide +kernel⟩, List.mem_of_getElem? (i := 217) (by decide +kernel), List.mem_of_getElem? (i := 427) (by decide +kernel), List.mem_of_getElem? (i := 428) (by decide +kernel)⟩
theorem lw_p3 : lw_okq (⟨"NodTax$Walk", "findHeads", "(LNodTax$Parish;I)V"⟩, 13) := ⟨⟨by decide +kernel, by decide +kernel⟩, List.mem_of_getElem? (i := 217) (by decide +kernel), List.mem_of_getElem? (i := 437) (by decide +kernel), List.mem_of_getElem? (i := 438) (by decide +kernel)⟩
theorem lw_p4 : lw_okq (⟨"NodTax$Walk", "elbow", "(LNodTax$Parish;)V"⟩, 13) := ⟨⟨by decide +kernel, by decide +kernel⟩, List.mem_of_getElem? (i := 217) (by decide +kernel), List.mem_of_getElem? (i := 451) (by decide +kernel), List.mem_of_getElem? (i := 452) (by decide +kernel)⟩
theorem lw_p5 : lw_okq (⟨"NodTax$Walk", "count", "(LNodTax$Parish;I)V"⟩, 13) := ⟨⟨by decide +kernel, by decide +kernel⟩, List.mem_of_getElem? (i := 217) (by decide +kernel), List.mem_of_getElem? (i := 455) (by decide +kernel), List.mem_of_getElem? (i := 456) (by decide +kernel)⟩
theorem lw_p6 : lw_okq (⟨"NodTax$CheapestOrder", "loss", "(LNodTax$Walk;)I"⟩, 7) := ⟨⟨by decide +kernel, by decide +kernel⟩, List.mem_of_getElem? (i := 117) (by decide +kernel), List.mem_of_getElem? (i := 517) (by decide +kernel), List.mem_of_getElem? (i := 518) (by decide +kernel)⟩
theorem lw_p7 : lw_okq (⟨"NodTax", "bestStart", "(Z)I"⟩, 11) := ⟨⟨by decide +kernel, by decide +kernel⟩, List.mem_of_getElem? (i := 15) (by decide +kernel), List.mem_of_getElem? (i := 560) (by decide +kernel), List.mem_of_getElem? (i := 561) (by decide +kernel)⟩
theorem lw_p8 : lw_okq (⟨"NodTax", "bestChange", "(Z)I"⟩, 11) := ⟨⟨by decide +kernel, by decide +kernel⟩, List.mem_of_getElem? (i := 15) (by decide +kernel), List.mem_of_getElem? (i := 570) (by decide +kernel), List.mem_of_getElem? (i := 571) (by decide +kernel)⟩
theorem lw_p9 : lw_okq (⟨"NodTax", "isNewChange", "(II)Z"⟩, 11) := ⟨⟨by decide +kernel, by decide +kernel⟩, List.mem_of_getElem? (i := 15) (by decide +kernel), List.mem_of_getElem? (i := 574) (by decide +kernel), List.mem_of_getElem? (i := 575) (by decide +kernel)⟩
theorem lw_p10 : lw_okq (⟨"NodTax", "nodsWhenChanged", "(II)I"⟩, 11) := ⟨⟨by decide +kernel, by decide +kernel⟩, List.mem_of_getElem? (i := 15) (by decide +kernel), List.mem_of_getElem? (i := 578) (by decide +kernel), List.mem_of_getElem? (i := 579) (by decide +kernel)⟩
theorem lw_p11 : lw_okq (⟨"NodTax", "fewestUprights", "(I)I"⟩, 11) := ⟨⟨by decide +kernel, by decide +kernel⟩, List.mem_of_getElem? (i := 15) (by decide +kernel), List.mem_of_getElem? (i := 591) (by decide +kernel), List.mem_of_getElem? (i := 592) (by decide +kernel)⟩
theorem lw_p12 : lw_okq (⟨"NodTax", "isTrialTaxWithin", "(I)Z"⟩, 11) := ⟨⟨by decide +kernel, by decide +kernel⟩, List.mem_of_getElem? (i := 15) (by decide +kernel), List.mem_of_getElem? (i := 596) (by decide +kernel), List.mem_of_getElem? (i := 597) (by decide +kernel)⟩
theorem lw_p13 : lw_okq (⟨"NodTax", "rateAgainstHell", "()I"⟩, 11) := ⟨⟨by decide +kernel, by decide +kernel⟩, List.mem_of_getElem? (i := 15) (by decide +kernel), List.mem_of_getElem? (i := 604) (by decide +kernel), List.mem_of_getElem? (i := 605) (by decide +kernel)⟩
theorem lw_p14 : lw_okq (⟨"NodTax", "preachedRefusal", "()I"⟩, 11) := ⟨⟨by decide +kernel, by decide +kernel⟩, List.mem_of_getElem? (i := 15) (by decide +kernel), List.mem_of_getElem? (i := 624) (by decide +kernel), List.mem_of_getElem? (i := 625) (by decide +kernel)⟩
theorem lw_p15 : lw_okq (⟨"NodTax", "dipBits", "(IZ)I"⟩, 11) := ⟨⟨by decide +kernel, by decide +kernel⟩, List.mem_of_getElem? (i := 15) (by decide +kernel), List.mem_of_getElem? (i := 650) (by decide +kernel), List.mem_of_getElem? (i := 651) (by decide +kernel)⟩
def lw_privs_1 : List (MethodName × Nat) := [(⟨"NodTax", "goneThrough", "(I)LNodTax$Walk;"⟩, 11), (⟨"NodTax$Walk", "changeLevels", "(LNodTax$Parish;IIZ)V"⟩, 13), (⟨"NodTax$Walk", "startled", "(LNodTax$Parish;I)I"⟩, 13), (⟨"NodTax$Walk", "findHeads", "(LNodTax$Parish;I)V"⟩, 13), (⟨"NodTax$Walk", "elbow", "(LNodTax$Parish;)V"⟩, 13), (⟨"NodTax$Walk", "count", "(LNodTax$Parish;I)V"⟩, 13), (⟨"NodTax$CheapestOrder", "loss", "(LNodTax$Walk;)I"⟩, 7), (⟨"NodTax", "bestStart", "(Z)I"⟩, 11), (⟨"NodTax", "bestChange", "(Z)I"⟩, 11), (⟨"NodTax", "isNewChange", "(II)Z"⟩, 11), (⟨"NodTax", "nodsWhenChanged", "(II)I"⟩, 11), (⟨"NodTax", "fewestUprights", "(I)I"⟩, 11), (⟨"NodTax", "isTrialTaxWithin", "(I)Z"⟩, 11), (⟨"NodTax", "rateAgainstHell", "()I"⟩, 11), (⟨"NodTax", "preachedRefusal", "()I"⟩, 11), (⟨"NodTax", "dipBits", "(IZ)I"⟩, 11)]
theorem lw_r1 : ∀ q ∈ lw_privs_1, lw_okq q := List.forall_mem_cons.mpr ⟨lw_p0, List.forall_mem_cons.mpr ⟨lw_p1, List.forall_mem_cons.mpr ⟨lw_p2, List.forall_mem_cons.mpr ⟨lw_p3, List.forall_mem_cons.mpr ⟨lw_p4, List.forall_mem_cons.mpr ⟨lw_p5, List.forall_mem_cons.mpr ⟨lw_p6, List.forall_mem_cons.mpr ⟨lw_p7, List.forall_mem_cons.mpr ⟨lw_p8, List.forall_mem_cons.mpr ⟨lw_p9, List.forall_mem_cons.mpr ⟨lw_p10, List.forall_mem_cons.mpr ⟨lw_p11, List.forall_mem_cons.mpr ⟨lw_p12, List.forall_mem_cons.mpr ⟨lw_p13, List.forall_mem_cons.mpr ⟨lw_p14, List.forall_mem_cons.mpr ⟨lw_p15, fun _ h => absurd h List.not_mem_nil⟩⟩⟩⟩⟩⟩⟩⟩⟩⟩⟩⟩⟩⟩⟩⟩
theorem lw_p16 : lw_okq (⟨"NodTax", "fillDipRows", "()V"⟩, 11) := ⟨⟨by decide +kernel, by decide +kernel⟩, List.mem_of_getElem? (i := 15) (by decide +kernel), List.mem_of_getElem? (i := 659) (by decide +kernel), List.mem_of_getElem? (i := 660) (by decide +kernel)⟩
theorem lw_p17 : lw_okq (⟨"NodTax", "pairsAlike", "()I"⟩, 11) := ⟨⟨by decide +kernel, by decide +kernel⟩, List.mem_of_getElem? (i := 15) (by decide +kernel), List.mem_of_getElem? (i := 663) (by decide +kernel), List.mem_of_getElem? (i := 664) (by decide +kernel)⟩
theorem lw_p18 : lw_okq (⟨"NodTax", "areAlike", "(II)Z"⟩, 11) := ⟨⟨by decide +kernel, by decide +kernel⟩, List.mem_of_getElem? (i := 15) (by decide +kernel), List.mem_of_getElem? (i := 667) (by decide +kernel), List.mem_of_getElem? (i := 668) (by decide +kernel)⟩
theorem lw_p19 : lw_okq (⟨"NodTax", "pairAlike", "(I)I"⟩, 11) := ⟨⟨by decide +kernel, by decide +kernel⟩, List.mem_of_getElem? (i := 15) (by decide +kernel), List.mem_of_getElem? (i := 671) (by decide +kernel), List.mem_of_getElem? (i := 672) (by decide +kernel)⟩
theorem lw_p20 : lw_okq (⟨"NodTax$Rivals", "doesAnybodyGo", "(LNodTax$Parish;)Z"⟩, 3) := ⟨⟨by decide +kernel, by decide +kernel⟩, List.mem_of_getElem? (i := 200) (by decide +kernel), List.mem_of_getElem? (i := 684) (by decide +kernel), List.mem_of_getElem? (i := 685) (by decide +kernel)⟩
theorem lw_p21 : lw_okq (⟨"NodTax$Rivals", "bestChurch", "(II)I"⟩, 3) := ⟨⟨by decide +kernel, by decide +kernel⟩, List.mem_of_getElem? (i := 200) (by decide +kernel), List.mem_of_getElem? (i := 689) (by decide +kernel), List.mem_of_getElem? (i := 690) (by decide +kernel)⟩
theorem lw_p22 : lw_okq (⟨"NodTax$Rivals", "liking", "(III)I"⟩, 3) := ⟨⟨by decide +kernel, by decide +kernel⟩, List.mem_of_getElem? (i := 200) (by decide +kernel), List.mem_of_getElem? (i := 693) (by decide +kernel), List.mem_of_getElem? (i := 694) (by decide +kernel)⟩
theorem lw_p23 : lw_okq (⟨"NodTax$Weather", "goOn", "(LNodTax$Parish;LNodTax$Pad;[LNodTax$Walk;IJ)V"⟩, 4) := ⟨⟨by decide +kernel, by decide +kernel⟩, List.mem_of_getElem? (i := 178) (by decide +kernel), List.mem_of_getElem? (i := 710) (by decide +kernel), List.mem_of_getElem? (i := 711) (by decide +kernel)⟩
theorem lw_p24 : lw_okq (⟨"NodTax", "yearTotal", "(III)I"⟩, 11) := ⟨⟨by decide +kernel, by decide +kernel⟩, List.mem_of_getElem? (i := 15) (by decide +kernel), List.mem_of_getElem? (i := 726) (by decide +kernel), List.mem_of_getElem? (i := 727) (by decide +kernel)⟩
theorem lw_p25 : lw_okq (⟨"NodTax", "toldOf", "(II)I"⟩, 11) := ⟨⟨by decide +kernel, by decide +kernel⟩, List.mem_of_getElem? (i := 15) (by decide +kernel), List.mem_of_getElem? (i := 745) (by decide +kernel), List.mem_of_getElem? (i := 746) (by decide +kernel)⟩
theorem lw_p26 : lw_okq (⟨"NodTaxModel", "whoSits", "(I)I"⟩, 37) := ⟨⟨by decide +kernel, by decide +kernel⟩, List.mem_of_getElem? (i := 750) (by decide +kernel), List.mem_of_getElem? (i := 879) (by decide +kernel), List.mem_of_getElem? (i := 880) (by decide +kernel)⟩
theorem lw_p27 : lw_okq (⟨"NodTaxModel", "isThere", "(I)Z"⟩, 37) := ⟨⟨by decide +kernel, by decide +kernel⟩, List.mem_of_getElem? (i := 750) (by decide +kernel), List.mem_of_getElem? (i := 893) (by decide +kernel), List.mem_of_getElem? (i := 894) (by decide +kernel)⟩
theorem lw_p28 : lw_okq (⟨"NodTaxModel", "faultOf", "()I"⟩, 37) := ⟨⟨by decide +kernel, by decide +kernel⟩, List.mem_of_getElem? (i := 750) (by decide +kernel), List.mem_of_getElem? (i := 913) (by decide +kernel), List.mem_of_getElem? (i := 914) (by decide +kernel)⟩
theorem lw_p29 : lw_okq (⟨"NodTaxModel", "lay", "()V"⟩, 37) := ⟨⟨by decide +kernel, by decide +kernel⟩, List.mem_of_getElem? (i := 750) (by decide +kernel), List.mem_of_getElem? (i := 924) (by decide +kernel), List.mem_of_getElem? (i := 925) (by decide +kernel)⟩
theorem lw_p30 : lw_okq (⟨"NodTaxModel", "preach", "(I)V"⟩, 37) := ⟨⟨by decide +kernel, by decide +kernel⟩, List.mem_of_getElem? (i := 750) (by decide +kernel), List.mem_of_getElem? (i := 928) (by decide +kernel), List.mem_of_getElem? (i := 929) (by decide +kernel)⟩
theorem lw_p31 : lw_okq (⟨"NodTaxModel", "minute", "(I)V"⟩, 37) := ⟨⟨by decide +kernel, by decide +kernel⟩, List.mem_of_getElem? (i := 750) (by decide +kernel), List.mem_of_getElem? (i := 932) (by decide +kernel), List.mem_of_getElem? (i := 933) (by decide +kernel)⟩
def lw_privs_2 : List (MethodName × Nat) := [(⟨"NodTax", "fillDipRows", "()V"⟩, 11), (⟨"NodTax", "pairsAlike", "()I"⟩, 11), (⟨"NodTax", "areAlike", "(II)Z"⟩, 11), (⟨"NodTax", "pairAlike", "(I)I"⟩, 11), (⟨"NodTax$Rivals", "doesAnybodyGo", "(LNodTax$Parish;)Z"⟩, 3), (⟨"NodTax$Rivals", "bestChurch", "(II)I"⟩, 3), (⟨"NodTax$Rivals", "liking", "(III)I"⟩, 3), (⟨"NodTax$Weather", "goOn", "(LNodTax$Parish;LNodTax$Pad;[LNodTax$Walk;IJ)V"⟩, 4), (⟨"NodTax", "yearTotal", "(III)I"⟩, 11), (⟨"NodTax", "toldOf", "(II)I"⟩, 11), (⟨"NodTaxModel", "whoSits", "(I)I"⟩, 37), (⟨"NodTaxModel", "isThere", "(I)Z"⟩, 37), (⟨"NodTaxModel", "faultOf", "()I"⟩, 37), (⟨"NodTaxModel", "lay", "()V"⟩, 37), (⟨"NodTaxModel", "preach", "(I)V"⟩, 37), (⟨"NodTaxModel", "minute", "(I)V"⟩, 37)]
theorem lw_r2 : ∀ q ∈ lw_privs_2, lw_okq q := List.forall_mem_cons.mpr ⟨lw_p16, List.forall_mem_cons.mpr ⟨lw_p17, List.forall_mem_cons.mpr ⟨lw_p18, List.forall_mem_cons.mpr ⟨lw_p19, List.forall_mem_cons.mpr ⟨lw_p20, List.forall_mem_cons.mpr ⟨lw_p21, List.forall_mem_cons.mpr ⟨lw_p22, List.forall_mem_cons.mpr ⟨lw_p23, List.forall_mem_cons.mpr ⟨lw_p24, List.forall_mem_cons.mpr ⟨lw_p25, List.forall_mem_cons.mpr ⟨lw_p26, List.forall_mem_cons.mpr ⟨lw_p27, List.forall_mem_cons.mpr ⟨lw_p28, List.forall_mem_cons.mpr ⟨lw_p29, List.forall_mem_cons.mpr ⟨lw_p30, List.forall_mem_cons.mpr ⟨lw_p31, fun _ h => absurd h List.not_mem_nil⟩⟩⟩⟩⟩⟩⟩⟩⟩⟩⟩⟩⟩⟩⟩⟩
theorem lw_p32 : lw_okq (⟨"NodTaxModel", "change", "(II)I"⟩, 37) := ⟨⟨by decide +kernel, by decide +kernel⟩, List.mem_of_getElem? (i := 750) (by decide +kernel), List.mem_of_getElem? (i := 936) (by decide +kernel), List.mem_of_getElem? (i := 937) (by decide +kernel)⟩
theorem lw_p33 : lw_okq (⟨"NodTaxModel", "turn", "(I)I"⟩, 37) := ⟨⟨by decide +kernel, by decide +kernel⟩, List.mem_of_getElem? (i := 750) (by decide +kernel), List.mem_of_getElem? (i := 940) (by decide +kernel), List.mem_of_getElem? (i := 941) (by decide +kernel)⟩
theorem lw_p34 : lw_okq (⟨"NodTaxModel", "beside", "(II)I"⟩, 37) := ⟨⟨by decide +kernel, by decide +kernel⟩, List.mem_of_getElem? (i := 750) (by decide +kernel), List.mem_of_getElem? (i := 944) (by decide +kernel), List.mem_of_getElem? (i := 945) (by decide +kernel)⟩
theorem lw_p35 : lw_okq (⟨"NodTaxModel", "isMinute", "(I)Z"⟩, 37) := ⟨⟨by decide +kernel, by decide +kernel⟩, List.mem_of_getElem? (i := 750) (by decide +kernel), List.mem_of_getElem? (i := 952) (by decide +kernel), List.mem_of_getElem? (i := 953) (by decide +kernel)⟩
theorem lw_p36 : lw_okq (⟨"NodTaxModel", "gainOf", "()I"⟩, 37) := ⟨⟨by decide +kernel, by decide +kernel⟩, List.mem_of_getElem? (i := 750) (by decide +kernel), List.mem_of_getElem? (i := 964) (by decide +kernel), List.mem_of_getElem? (i := 965) (by decide +kernel)⟩
theorem lw_p37 : lw_okq (⟨"NodTaxModel", "sort", "()V"⟩, 37) := ⟨⟨by decide +kernel, by decide +kernel⟩, List.mem_of_getElem? (i := 750) (by decide +kernel), List.mem_of_getElem? (i := 972) (by decide +kernel), List.mem_of_getElem? (i := 973) (by decide +kernel)⟩
theorem lw_p38 : lw_okq (⟨"NodTaxModel", "swap", "(II)V"⟩, 37) := ⟨⟨by decide +kernel, by decide +kernel⟩, List.mem_of_getElem? (i := 750) (by decide +kernel), List.mem_of_getElem? (i := 976) (by decide +kernel), List.mem_of_getElem? (i := 977) (by decide +kernel)⟩
theorem lw_p39 : lw_okq (⟨"NodTaxModel", "goOn", "()Z"⟩, 37) := ⟨⟨by decide +kernel, by decide +kernel⟩, List.mem_of_getElem? (i := 750) (by decide +kernel), List.mem_of_getElem? (i := 981) (by decide +kernel), List.mem_of_getElem? (i := 982) (by decide +kernel)⟩
theorem lw_p40 : lw_okq (⟨"NodTaxModel", "layPreached", "()I"⟩, 37) := ⟨⟨by decide +kernel, by decide +kernel⟩, List.mem_of_getElem? (i := 750) (by decide +kernel), List.mem_of_getElem? (i := 1014) (by decide +kernel), List.mem_of_getElem? (i := 1015) (by decide +kernel)⟩
theorem lw_p41 : lw_okq (⟨"NodTaxModel", "isCounted", "()Z"⟩, 37) := ⟨⟨by decide +kernel, by decide +kernel⟩, List.mem_of_getElem? (i := 750) (by decide +kernel), List.mem_of_getElem? (i := 1018) (by decide +kernel), List.mem_of_getElem? (i := 1019) (by decide +kernel)⟩
theorem lw_p42 : lw_okq (⟨"NodTaxModel", "areAlike", "(II)Z"⟩, 37) := ⟨⟨by decide +kernel, by decide +kernel⟩, List.mem_of_getElem? (i := 750) (by decide +kernel), List.mem_of_getElem? (i := 1034) (by decide +kernel), List.mem_of_getElem? (i := 1035) (by decide +kernel)⟩
theorem lw_p43 : lw_okq (⟨"NodTaxModel", "likes", "(II)I"⟩, 37) := ⟨⟨by decide +kernel, by decide +kernel⟩, List.mem_of_getElem? (i := 750) (by decide +kernel), List.mem_of_getElem? (i := 1042) (by decide +kernel), List.mem_of_getElem? (i := 1043) (by decide +kernel)⟩
def lw_privs_3 : List (MethodName × Nat) := [(⟨"NodTaxModel", "change", "(II)I"⟩, 37), (⟨"NodTaxModel", "turn", "(I)I"⟩, 37), (⟨"NodTaxModel", "beside", "(II)I"⟩, 37), (⟨"NodTaxModel", "isMinute", "(I)Z"⟩, 37), (⟨"NodTaxModel", "gainOf", "()I"⟩, 37), (⟨"NodTaxModel", "sort", "()V"⟩, 37), (⟨"NodTaxModel", "swap", "(II)V"⟩, 37), (⟨"NodTaxModel", "goOn", "()Z"⟩, 37), (⟨"NodTaxModel", "layPreached", "()I"⟩, 37), (⟨"NodTaxModel", "isCounted", "()Z"⟩, 37), (⟨"NodTaxModel", "areAlike", "(II)Z"⟩, 37), (⟨"NodTaxModel", "likes", "(II)I"⟩, 37)]
theorem lw_r3 : ∀ q ∈ lw_privs_3, lw_okq q := List.forall_mem_cons.mpr ⟨lw_p32, List.forall_mem_cons.mpr ⟨lw_p33, List.forall_mem_cons.mpr ⟨lw_p34, List.forall_mem_cons.mpr ⟨lw_p35, List.forall_mem_cons.mpr ⟨lw_p36, List.forall_mem_cons.mpr ⟨lw_p37, List.forall_mem_cons.mpr ⟨lw_p38, List.forall_mem_cons.mpr ⟨lw_p39, List.forall_mem_cons.mpr ⟨lw_p40, List.forall_mem_cons.mpr ⟨lw_p41, List.forall_mem_cons.mpr ⟨lw_p42, List.forall_mem_cons.mpr ⟨lw_p43, fun _ h => absurd h List.not_mem_nil⟩⟩⟩⟩⟩⟩⟩⟩⟩⟩⟩⟩
def lw_privs : List (MethodName × Nat) := lw_privs_1 ++ (lw_privs_2 ++ (lw_privs_3))
def lw_tbl : List Cond := k2_sels lw_privs ++ tables_1
theorem lw_privs_ok : ∀ q ∈ lw_privs, lw_okq q := by
  show ∀ q ∈ lw_privs_1 ++ (lw_privs_2 ++ (lw_privs_3)), lw_okq q
  exact List.forall_mem_append.mpr ⟨lw_r1, List.forall_mem_append.mpr ⟨lw_r2, lw_r3⟩⟩
end
section
def RX0 : String := "NodTax$CheapestOrder"
def TX0 : u_T := fun k => match k with
  | 0 => ("NodTax$Orders", "chosen", "[I", true)
  | 1 => ("NodTax$Orders", "first", "[I", true)
  | 2 => ("NodTax$Orders", "left", "[I", true)
  | 3 => ("NodTax$Orders", "length", "I", false)
  | 4 => ("NodTax$CheapestOrder", "value", "I", false)
  | 5 => ("NodTax$CheapestOrder", "leastLoss", "I", false)
  | _ => ("NodTax$CheapestOrder", "isForGain", "Z", false)
def tyX0 : Nat → FieldType := fun k => match k with
  | 0 => .array .int
  | 1 => .array .int
  | 2 => .array .int
  | 3 => .int
  | 4 => .int
  | 5 => .int
  | _ => .boolean
theorem nmX0 : ∀ a, a < 7 → ∀ b, b < 7 → a ≠ b → (TX0 a).2.1 ≠ (TX0 b).2.1 := by decide +kernel
theorem tyX0_ok : ∀ k, k < 7 → parseFieldDescriptor (TX0 k).2.2.1 = some (tyX0 k) := by decide +kernel
abbrev cX0_init : ByteArray := prog_2_method_1_code
def yX0_init : MethodName := ⟨RX0, "<init>", "()V"⟩
abbrev cX0_aimAt : ByteArray := prog_2_method_2_code
def yX0_aimAt : MethodName := ⟨RX0, "aimAt", "(Z)V"⟩
abbrev cX0_loss : ByteArray := prog_2_method_3_code
def yX0_loss : MethodName := ⟨RX0, "loss", "(LNodTax$Walk;)I"⟩
abbrev cX0_mayGoOn : ByteArray := prog_2_method_4_code
def yX0_mayGoOn : MethodName := ⟨RX0, "mayGoOn", "(LNodTax$Parish;LNodTax$Walk;I)Z"⟩
abbrev cX0_arrive : ByteArray := prog_2_method_5_code
def yX0_arrive : MethodName := ⟨RX0, "arrive", "(LNodTax$Walk;)V"⟩
abbrev cX0_signOfBest : ByteArray := prog_2_method_6_code
def yX0_signOfBest : MethodName := ⟨RX0, "signOfBest", "(I)I"⟩
def RX1 : String := "NodTax$FittingOrders"
def TX1 : u_T := fun k => match k with
  | 0 => ("NodTax$Orders", "chosen", "[I", true)
  | 1 => ("NodTax$Orders", "first", "[I", true)
  | 2 => ("NodTax$Orders", "left", "[I", true)
  | 3 => ("NodTax$Orders", "length", "I", false)
  | 4 => ("NodTax$FittingOrders", "found", "I", false)
  | _ => ("NodTax$FittingOrders", "same", "I", false)
def tyX1 : Nat → FieldType := fun k => match k with
  | 0 => .array .int
  | 1 => .array .int
  | 2 => .array .int
  | 3 => .int
  | 4 => .int
  | _ => .int
theorem nmX1 : ∀ a, a < 6 → ∀ b, b < 6 → a ≠ b → (TX1 a).2.1 ≠ (TX1 b).2.1 := by decide +kernel
theorem tyX1_ok : ∀ k, k < 6 → parseFieldDescriptor (TX1 k).2.2.1 = some (tyX1 k) := by decide +kernel
abbrev cX1_init : ByteArray := prog_3_method_1_code
def yX1_init : MethodName := ⟨RX1, "<init>", "()V"⟩
abbrev cX1_find : ByteArray := prog_3_method_2_code
def yX1_find : MethodName := ⟨RX1, "find", "(LNodTax$Parish;LNodTax$Pad;[LNodTax$Walk;)V"⟩
abbrev cX1_areMinutesThere : ByteArray := prog_3_method_3_code
def yX1_areMinutesThere : MethodName := ⟨RX1, "areMinutesThere", "(LNodTax$Parish;LNodTax$Pad;)Z"⟩
abbrev cX1_mayGoOn : ByteArray := prog_3_method_4_code
def yX1_mayGoOn : MethodName := ⟨RX1, "mayGoOn", "(LNodTax$Parish;LNodTax$Walk;I)Z"⟩
abbrev cX1_arrive : ByteArray := prog_3_method_5_code
def yX1_arrive : MethodName := ⟨RX1, "arrive", "(LNodTax$Walk;)V"⟩
abbrev cX1_signOfFirst : ByteArray := prog_3_method_6_code
def yX1_signOfFirst : MethodName := ⟨RX1, "signOfFirst", "(I)I"⟩
def RX2 : String := "NodTax$Orders"
def TX2 : u_T := fun k => match k with
  | _ => ("", "", "", false)
def tyX2 : Nat → FieldType := fun k => match k with
  | _ => .int
theorem nmX2 : ∀ a, a < 0 → ∀ b, b < 0 → a ≠ b → (TX2 a).2.1 ≠ (TX2 b).2.1 := by decide +kernel
theorem tyX2_ok : ∀ k, k < 0 → parseFieldDescriptor (TX2 k).2.2.1 = some (tyX2 k) := by decide +kernel
abbrev cX2_init : ByteArray := prog_4_method_1_code
def yX2_init : MethodName := ⟨RX2, "<init>", "()V"⟩
abbrev cX2_goThrough : ByteArray := prog_4_method_4_code
def yX2_goThrough : MethodName := ⟨RX2, "goThrough", "(LNodTax$Parish;LNodTax$Pad;[LNodTax$Walk;)V"⟩
abbrev cX2_goOn : ByteArray := prog_4_method_5_code
def yX2_goOn : MethodName := ⟨RX2, "goOn", "(LNodTax$Parish;[LNodTax$Walk;I)V"⟩
abbrev cX2_keepAsFirst : ByteArray := prog_4_method_6_code
def yX2_keepAsFirst : MethodName := ⟨RX2, "keepAsFirst", "()V"⟩
def RX3 : String := "NodTax$Pad"
def TX3 : u_T := fun k => match k with
  | 0 => ("NodTax$Pad", "signs", "[I", true)
  | _ => ("NodTax$Pad", "length", "I", false)
def tyX3 : Nat → FieldType := fun k => match k with
  | 0 => .array .int
  | _ => .int
theorem nmX3 : ∀ a, a < 2 → ∀ b, b < 2 → a ≠ b → (TX3 a).2.1 ≠ (TX3 b).2.1 := by decide +kernel
theorem tyX3_ok : ∀ k, k < 2 → parseFieldDescriptor (TX3 k).2.2.1 = some (tyX3 k) := by decide +kernel
abbrev cX3_init : ByteArray := prog_5_method_1_code
def yX3_init : MethodName := ⟨RX3, "<init>", "()V"⟩
abbrev cX3_firstFault : ByteArray := prog_5_method_2_code
def yX3_firstFault : MethodName := ⟨RX3, "firstFault", "()I"⟩
abbrev cX3_hasFault : ByteArray := prog_5_method_3_code
def yX3_hasFault : MethodName := ⟨RX3, "hasFault", "()Z"⟩
abbrev cX3_kindOf : ByteArray := prog_5_method_4_code
def yX3_kindOf : MethodName := ⟨RX3, "kindOf", "(I)I"⟩
def RX4 : String := "NodTax$Parish"
def TX4 : u_T := fun k => match k with
  | 0 => ("NodTax$Parish", "rows", "I", false)
  | 1 => ("NodTax$Parish", "reach", "I", false)
  | 2 => ("NodTax$Parish", "rate", "I", false)
  | 3 => ("NodTax$Parish", "inspector", "I", false)
  | 4 => ("NodTax$Parish", "present", "I", false)
  | 5 => ("NodTax$Parish", "uprights", "I", false)
  | 6 => ("NodTax$Parish", "sights", "I", false)
  | 7 => ("NodTax$Parish", "seat", "[I", true)
  | 8 => ("NodTax$Parish", "awake", "[I", true)
  | 9 => ("NodTax$Parish", "dull", "[I", true)
  | 10 => ("NodTax$Parish", "creed", "[I", true)
  | 11 => ("NodTax$Parish", "sightMinute", "[I", true)
  | _ => ("NodTax$Parish", "sightDips", "[I", true)
def tyX4 : Nat → FieldType := fun k => match k with
  | 0 => .int
  | 1 => .int
  | 2 => .int
  | 3 => .int
  | 4 => .int
  | 5 => .int
  | 6 => .int
  | 7 => .array .int
  | 8 => .array .int
  | 9 => .array .int
  | 10 => .array .int
  | 11 => .array .int
  | _ => .array .int
theorem nmX4 : ∀ a, a < 13 → ∀ b, b < 13 → a ≠ b → (TX4 a).2.1 ≠ (TX4 b).2.1 := by decide +kernel
theorem tyX4_ok : ∀ k, k < 13 → parseFieldDescriptor (TX4 k).2.2.1 = some (tyX4 k) := by decide +kernel
abbrev cX4_init : ByteArray := prog_6_method_1_code
def yX4_init : MethodName := ⟨RX4, "<init>", "()V"⟩
abbrev cX4_become : ByteArray := prog_6_method_2_code
def yX4_become : MethodName := ⟨RX4, "become", "(LNodTax$Parish;)V"⟩
abbrev cX4_rebuild : ByteArray := prog_6_method_3_code
def yX4_rebuild : MethodName := ⟨RX4, "rebuild", "(I)V"⟩
abbrev cX4_changeReach : ByteArray := prog_6_method_4_code
def yX4_changeReach : MethodName := ⟨RX4, "changeReach", "(I)I"⟩
abbrev cX4_changeRate : ByteArray := prog_6_method_5_code
def yX4_changeRate : MethodName := ⟨RX4, "changeRate", "(I)I"⟩
abbrev cX4_changeInspector : ByteArray := prog_6_method_6_code
def yX4_changeInspector : MethodName := ⟨RX4, "changeInspector", "(I)I"⟩
abbrev cX4_addSight : ByteArray := prog_6_method_7_code
def yX4_addSight : MethodName := ⟨RX4, "addSight", "(II)I"⟩
abbrev cX4_seats : ByteArray := prog_6_method_8_code
def yX4_seats : MethodName := ⟨RX4, "seats", "()I"⟩
abbrev cX4_howMany : ByteArray := prog_6_method_9_code
def yX4_howMany : MethodName := ⟨RX4, "howMany", "()I"⟩
abbrev cX4_isThere : ByteArray := prog_6_method_10_code
def yX4_isThere : MethodName := ⟨RX4, "isThere", "(I)Z"⟩
abbrev cX4_isUpright : ByteArray := prog_6_method_11_code
def yX4_isUpright : MethodName := ⟨RX4, "isUpright", "(I)Z"⟩
abbrev cX4_sitterAt : ByteArray := prog_6_method_12_code
def yX4_sitterAt : MethodName := ⟨RX4, "sitterAt", "(I)I"⟩
abbrev cX4_named : ByteArray := prog_6_method_13_code
def yX4_named : MethodName := ⟨RX4, "named", "(I)I"⟩
def RX5 : String := "NodTax$Rivals"
def TX5 : u_T := fun k => match k with
  | 0 => ("NodTax$Rivals", "crowd", "[I", true)
  | 1 => ("NodTax$Rivals", "rounds", "I", false)
  | _ => ("NodTax$Rivals", "at", "[I", true)
def tyX5 : Nat → FieldType := fun k => match k with
  | 0 => .array .int
  | 1 => .int
  | _ => .array .int
theorem nmX5 : ∀ a, a < 3 → ∀ b, b < 3 → a ≠ b → (TX5 a).2.1 ≠ (TX5 b).2.1 := by decide +kernel
theorem tyX5_ok : ∀ k, k < 3 → parseFieldDescriptor (TX5 k).2.2.1 = some (tyX5 k) := by decide +kernel
abbrev cX5_init : ByteArray := prog_7_method_1_code
def yX5_init : MethodName := ⟨RX5, "<init>", "()V"⟩
abbrev cX5_settle : ByteArray := prog_7_method_2_code
def yX5_settle : MethodName := ⟨RX5, "settle", "(LNodTax$Parish;)V"⟩
abbrev cX5_doesAnybodyGo : ByteArray := prog_7_method_3_code
def yX5_doesAnybodyGo : MethodName := ⟨RX5, "doesAnybodyGo", "(LNodTax$Parish;)Z"⟩
abbrev cX5_bestChurch : ByteArray := prog_7_method_4_code
def yX5_bestChurch : MethodName := ⟨RX5, "bestChurch", "(II)I"⟩
abbrev cX5_liking : ByteArray := prog_7_method_5_code
def yX5_liking : MethodName := ⟨RX5, "liking", "(III)I"⟩
def RX6 : String := "NodTax$Walk"
def TX6 : u_T := fun k => match k with
  | 0 => ("NodTax$Walk", "level", "[I", true)
  | 1 => ("NodTax$Walk", "names", "I", false)
  | 2 => ("NodTax$Walk", "starts", "I", false)
  | 3 => ("NodTax$Walk", "taken", "I", false)
  | 4 => ("NodTax$Walk", "nodding", "I", false)
  | 5 => ("NodTax$Walk", "agreeing", "I", false)
  | 6 => ("NodTax$Walk", "snoring", "I", false)
  | 7 => ("NodTax$Walk", "nods", "I", false)
  | 8 => ("NodTax$Walk", "dipped", "I", false)
  | 9 => ("NodTax$Walk", "tax", "I", false)
  | 10 => ("NodTax$Walk", "offerings", "I", false)
  | 11 => ("NodTax$Walk", "withheld", "I", false)
  | _ => ("NodTax$Walk", "snores", "I", false)
def tyX6 : Nat → FieldType := fun k => match k with
  | 0 => .array .int
  | 1 => .int
  | 2 => .int
  | 3 => .int
  | 4 => .int
  | 5 => .int
  | 6 => .int
  | 7 => .int
  | 8 => .int
  | 9 => .int
  | 10 => .int
  | 11 => .int
  | _ => .int
theorem nmX6 : ∀ a, a < 13 → ∀ b, b < 13 → a ≠ b → (TX6 a).2.1 ≠ (TX6 b).2.1 := by decide +kernel
theorem tyX6_ok : ∀ k, k < 13 → parseFieldDescriptor (TX6 k).2.2.1 = some (tyX6 k) := by decide +kernel
abbrev cX6_init : ByteArray := prog_8_method_1_code
def yX6_init : MethodName := ⟨RX6, "<init>", "()V"⟩
abbrev cX6_begin : ByteArray := prog_8_method_2_code
def yX6_begin : MethodName := ⟨RX6, "begin", "(LNodTax$Parish;)V"⟩
abbrev cX6_become : ByteArray := prog_8_method_3_code
def yX6_become : MethodName := ⟨RX6, "become", "(LNodTax$Walk;)V"⟩
abbrev cX6_passAll : ByteArray := prog_8_method_4_code
def yX6_passAll : MethodName := ⟨RX6, "passAll", "(LNodTax$Parish;LNodTax$Pad;II)V"⟩
abbrev cX6_pass : ByteArray := prog_8_method_5_code
def yX6_pass : MethodName := ⟨RX6, "pass", "(LNodTax$Parish;IZ)V"⟩
abbrev cX6_changeLevels : ByteArray := prog_8_method_6_code
def yX6_changeLevels : MethodName := ⟨RX6, "changeLevels", "(LNodTax$Parish;IIZ)V"⟩
abbrev cX6_forAll : ByteArray := prog_8_method_7_code
def yX6_forAll : MethodName := ⟨RX6, "forAll", "(I)I"⟩
abbrev cX6_startled : ByteArray := prog_8_method_8_code
def yX6_startled : MethodName := ⟨RX6, "startled", "(LNodTax$Parish;I)I"⟩
abbrev cX6_findHeads : ByteArray := prog_8_method_9_code
def yX6_findHeads : MethodName := ⟨RX6, "findHeads", "(LNodTax$Parish;I)V"⟩
abbrev cX6_rightOf : ByteArray := prog_8_method_10_code
def yX6_rightOf : MethodName := ⟨RX6, "rightOf", "(I)I"⟩
abbrev cX6_leftOf : ByteArray := prog_8_method_11_code
def yX6_leftOf : MethodName := ⟨RX6, "leftOf", "(I)I"⟩
abbrev cX6_elbow : ByteArray := prog_8_method_12_code
def yX6_elbow : MethodName := ⟨RX6, "elbow", "(LNodTax$Parish;)V"⟩
abbrev cX6_count : ByteArray := prog_8_method_13_code
def yX6_count : MethodName := ⟨RX6, "count", "(LNodTax$Parish;I)V"⟩
abbrev cX6_dipping : ByteArray := prog_8_method_14_code
def yX6_dipping : MethodName := ⟨RX6, "dipping", "()I"⟩
abbrev cX6_gained : ByteArray := prog_8_method_15_code
def yX6_gained : MethodName := ⟨RX6, "gained", "()I"⟩
abbrev cX6_didHe : ByteArray := prog_8_method_16_code
def yX6_didHe : MethodName := ⟨RX6, "didHe", "(II)I"⟩
abbrev cX6_total : ByteArray := prog_8_method_17_code
def yX6_total : MethodName := ⟨RX6, "total", "(I)I"⟩
def RX7 : String := "NodTax$Weather"
def TX7 : u_T := fun k => match k with
  | 0 => ("NodTax$Weather", "awakeWeight", "J", false)
  | 1 => ("NodTax$Weather", "nodWeight", "J", false)
  | 2 => ("NodTax$Weather", "allWeight", "J", false)
  | _ => ("NodTax$Weather", "coldTenths", "I", false)
def tyX7 : Nat → FieldType := fun k => match k with
  | 0 => .long
  | 1 => .long
  | 2 => .long
  | _ => .int
theorem nmX7 : ∀ a, a < 4 → ∀ b, b < 4 → a ≠ b → (TX7 a).2.1 ≠ (TX7 b).2.1 := by decide +kernel
theorem tyX7_ok : ∀ k, k < 4 → parseFieldDescriptor (TX7 k).2.2.1 = some (tyX7 k) := by decide +kernel
abbrev cX7_init : ByteArray := prog_9_method_1_code
def yX7_init : MethodName := ⟨RX7, "<init>", "()V"⟩
abbrev cX7_weigh : ByteArray := prog_9_method_2_code
def yX7_weigh : MethodName := ⟨RX7, "weigh", "(LNodTax$Parish;LNodTax$Pad;[LNodTax$Walk;I)V"⟩
abbrev cX7_goOn : ByteArray := prog_9_method_3_code
def yX7_goOn : MethodName := ⟨RX7, "goOn", "(LNodTax$Parish;LNodTax$Pad;[LNodTax$Walk;IJ)V"⟩
def RX8 : String := "NodTax"
def TX8 : u_T := fun k => match k with
  | 0 => ("NodTax", "parish", "LNodTax$Parish;", true)
  | 1 => ("NodTax", "trial", "LNodTax$Parish;", true)
  | 2 => ("NodTax", "images", "[LNodTax$Parish;", true)
  | 3 => ("NodTax", "kept", "[Z", true)
  | 4 => ("NodTax", "pad", "LNodTax$Pad;", true)
  | 5 => ("NodTax", "steps", "[LNodTax$Walk;", true)
  | 6 => ("NodTax", "cheapest", "LNodTax$CheapestOrder;", true)
  | 7 => ("NodTax", "fitting", "LNodTax$FittingOrders;", true)
  | 8 => ("NodTax", "weather", "LNodTax$Weather;", true)
  | 9 => ("NodTax", "rivals", "LNodTax$Rivals;", true)
  | _ => ("NodTax", "dipRows", "[J", true)
def tyX8 : Nat → FieldType := fun k => match k with
  | 0 => .object "NodTax$Parish"
  | 1 => .object "NodTax$Parish"
  | 2 => .array (.object "NodTax$Parish")
  | 3 => .array .boolean
  | 4 => .object "NodTax$Pad"
  | 5 => .array (.object "NodTax$Walk")
  | 6 => .object "NodTax$CheapestOrder"
  | 7 => .object "NodTax$FittingOrders"
  | 8 => .object "NodTax$Weather"
  | 9 => .object "NodTax$Rivals"
  | _ => .array .long
theorem nmX8 : ∀ a, a < 11 → ∀ b, b < 11 → a ≠ b → (TX8 a).2.1 ≠ (TX8 b).2.1 := by decide +kernel
theorem tyX8_ok : ∀ k, k < 11 → parseFieldDescriptor (TX8 k).2.2.1 = some (tyX8 k) := by decide +kernel
abbrev cX8_init : ByteArray := prog_1_method_1_code
def yX8_init : MethodName := ⟨RX8, "<init>", "()V"⟩
abbrev cX8_church : ByteArray := prog_1_method_2_code
def yX8_church : MethodName := ⟨RX8, "church", "(I)I"⟩
abbrev cX8_hearer : ByteArray := prog_1_method_3_code
def yX8_hearer : MethodName := ⟨RX8, "hearer", "(IIIIIZ)I"⟩
abbrev cX8_leave : ByteArray := prog_1_method_4_code
def yX8_leave : MethodName := ⟨RX8, "leave", "(I)I"⟩
abbrev cX8_set : ByteArray := prog_1_method_5_code
def yX8_set : MethodName := ⟨RX8, "set", "(II)I"⟩
abbrev cX8_say : ByteArray := prog_1_method_6_code
def yX8_say : MethodName := ⟨RX8, "say", "(I)I"⟩
abbrev cX8_wipe : ByteArray := prog_1_method_7_code
def yX8_wipe : MethodName := ⟨RX8, "wipe", "()I"⟩
abbrev cX8_fault : ByteArray := prog_1_method_8_code
def yX8_fault : MethodName := ⟨RX8, "fault", "()I"⟩
abbrev cX8_heard : ByteArray := prog_1_method_9_code
def yX8_heard : MethodName := ⟨RX8, "heard", "(III)I"⟩
abbrev cX8_sum : ByteArray := prog_1_method_10_code
def yX8_sum : MethodName := ⟨RX8, "sum", "(II)I"⟩
abbrev cX8_first : ByteArray := prog_1_method_11_code
def yX8_first : MethodName := ⟨RX8, "first", "(I)I"⟩
abbrev cX8_gain : ByteArray := prog_1_method_12_code
def yX8_gain : MethodName := ⟨RX8, "gain", "()I"⟩
abbrev cX8_order : ByteArray := prog_1_method_13_code
def yX8_order : MethodName := ⟨RX8, "order", "(II)I"⟩
abbrev cX8_start : ByteArray := prog_1_method_14_code
def yX8_start : MethodName := ⟨RX8, "start", "(I)I"⟩
abbrev cX8_seated : ByteArray := prog_1_method_15_code
def yX8_seated : MethodName := ⟨RX8, "seated", "(I)I"⟩
abbrev cX8_hired : ByteArray := prog_1_method_16_code
def yX8_hired : MethodName := ⟨RX8, "hired", "(II)I"⟩
abbrev cX8_least : ByteArray := prog_1_method_17_code
def yX8_least : MethodName := ⟨RX8, "least", "()I"⟩
abbrev cX8_seen : ByteArray := prog_1_method_18_code
def yX8_seen : MethodName := ⟨RX8, "seen", "(II)I"⟩
abbrev cX8_forget : ByteArray := prog_1_method_19_code
def yX8_forget : MethodName := ⟨RX8, "forget", "()I"⟩
abbrev cX8_preached : ByteArray := prog_1_method_20_code
def yX8_preached : MethodName := ⟨RX8, "preached", "(I)I"⟩
abbrev cX8_surely : ByteArray := prog_1_method_21_code
def yX8_surely : MethodName := ⟨RX8, "surely", "()I"⟩
abbrev cX8_dips : ByteArray := prog_1_method_22_code
def yX8_dips : MethodName := ⟨RX8, "dips", "(II)I"⟩
abbrev cX8_alike : ByteArray := prog_1_method_23_code
def yX8_alike : MethodName := ⟨RX8, "alike", "(I)I"⟩
abbrev cX8_parishes : ByteArray := prog_1_method_24_code
def yX8_parishes : MethodName := ⟨RX8, "parishes", "(I)I"⟩
abbrev cX8_cold : ByteArray := prog_1_method_25_code
def yX8_cold : MethodName := ⟨RX8, "cold", "(III)J"⟩
abbrev cX8_year : ByteArray := prog_1_method_26_code
def yX8_year : MethodName := ⟨RX8, "year", "(III)I"⟩
abbrev cX8_image : ByteArray := prog_1_method_27_code
def yX8_image : MethodName := ⟨RX8, "image", "(I)I"⟩
abbrev cX8_restore : ByteArray := prog_1_method_28_code
def yX8_restore : MethodName := ⟨RX8, "restore", "(I)I"⟩
abbrev cX8_told : ByteArray := prog_1_method_29_code
def yX8_told : MethodName := ⟨RX8, "told", "(I)I"⟩
abbrev cX8_isOutside : ByteArray := prog_1_method_30_code
def yX8_isOutside : MethodName := ⟨RX8, "isOutside", "(III)Z"⟩
abbrev cX8_goneThrough : ByteArray := prog_1_method_31_code
def yX8_goneThrough : MethodName := ⟨RX8, "goneThrough", "(I)LNodTax$Walk;"⟩
abbrev cX8_toldOf : ByteArray := prog_1_method_32_code
def yX8_toldOf : MethodName := ⟨RX8, "toldOf", "(II)I"⟩
abbrev cX8_bestStart : ByteArray := prog_1_method_33_code
def yX8_bestStart : MethodName := ⟨RX8, "bestStart", "(Z)I"⟩
abbrev cX8_bestChange : ByteArray := prog_1_method_34_code
def yX8_bestChange : MethodName := ⟨RX8, "bestChange", "(Z)I"⟩
abbrev cX8_isNewChange : ByteArray := prog_1_method_35_code
def yX8_isNewChange : MethodName := ⟨RX8, "isNewChange", "(II)Z"⟩
abbrev cX8_nodsWhenChanged : ByteArray := prog_1_method_36_code
def yX8_nodsWhenChanged : MethodName := ⟨RX8, "nodsWhenChanged", "(II)I"⟩
abbrev cX8_fewestUprights : ByteArray := prog_1_method_37_code
def yX8_fewestUprights : MethodName := ⟨RX8, "fewestUprights", "(I)I"⟩
abbrev cX8_isTrialTaxWithin : ByteArray := prog_1_method_38_code
def yX8_isTrialTaxWithin : MethodName := ⟨RX8, "isTrialTaxWithin", "(I)Z"⟩
abbrev cX8_rateAgainstHell : ByteArray := prog_1_method_39_code
def yX8_rateAgainstHell : MethodName := ⟨RX8, "rateAgainstHell", "()I"⟩
abbrev cX8_preachedRefusal : ByteArray := prog_1_method_40_code
def yX8_preachedRefusal : MethodName := ⟨RX8, "preachedRefusal", "()I"⟩
abbrev cX8_dipBits : ByteArray := prog_1_method_41_code
def yX8_dipBits : MethodName := ⟨RX8, "dipBits", "(IZ)I"⟩
abbrev cX8_fillDipRows : ByteArray := prog_1_method_42_code
def yX8_fillDipRows : MethodName := ⟨RX8, "fillDipRows", "()V"⟩
abbrev cX8_areAlike : ByteArray := prog_1_method_43_code
def yX8_areAlike : MethodName := ⟨RX8, "areAlike", "(II)Z"⟩
abbrev cX8_pairsAlike : ByteArray := prog_1_method_44_code
def yX8_pairsAlike : MethodName := ⟨RX8, "pairsAlike", "()I"⟩
abbrev cX8_pairAlike : ByteArray := prog_1_method_45_code
def yX8_pairAlike : MethodName := ⟨RX8, "pairAlike", "(I)I"⟩
abbrev cX8_lowestTerms : ByteArray := prog_1_method_46_code
def yX8_lowestTerms : MethodName := ⟨RX8, "lowestTerms", "(JJI)J"⟩
abbrev cX8_commonDivisor : ByteArray := prog_1_method_47_code
def yX8_commonDivisor : MethodName := ⟨RX8, "commonDivisor", "(JJ)J"⟩
abbrev cX8_yearTotal : ByteArray := prog_1_method_48_code
def yX8_yearTotal : MethodName := ⟨RX8, "yearTotal", "(III)I"⟩
def RX9 : String := "NodTaxModel"
def TX9 : u_T := fun k => match k with
  | 0 => ("NodTaxModel", "rows", "I", false)
  | 1 => ("NodTaxModel", "there", "I", false)
  | 2 => ("NodTaxModel", "seat", "[I", true)
  | 3 => ("NodTaxModel", "most", "[I", true)
  | 4 => ("NodTaxModel", "dull", "[I", true)
  | 5 => ("NodTaxModel", "creed", "[I", true)
  | 6 => ("NodTaxModel", "upright", "I", false)
  | 7 => ("NodTaxModel", "reach", "I", false)
  | 8 => ("NodTaxModel", "tax", "I", false)
  | 9 => ("NodTaxModel", "inspector", "I", false)
  | 10 => ("NodTaxModel", "sights", "I", false)
  | 11 => ("NodTaxModel", "sight", "[I", true)
  | 12 => ("NodTaxModel", "signs", "I", false)
  | 13 => ("NodTaxModel", "pad", "[I", true)
  | 14 => ("NodTaxModel", "sermon", "[I", true)
  | 15 => ("NodTaxModel", "length", "I", false)
  | 16 => ("NodTaxModel", "seats", "[I", true)
  | 17 => ("NodTaxModel", "held", "I", false)
  | 18 => ("NodTaxModel", "rate", "I", false)
  | 19 => ("NodTaxModel", "cold", "I", false)
  | 20 => ("NodTaxModel", "awake", "[I", true)
  | 21 => ("NodTaxModel", "nods", "[I", true)
  | 22 => ("NodTaxModel", "agrees", "[I", true)
  | 23 => ("NodTaxModel", "snores", "[I", true)
  | 24 => ("NodTaxModel", "behind", "[I", true)
  | 25 => ("NodTaxModel", "starts", "I", false)
  | 26 => ("NodTaxModel", "turns", "I", false)
  | 27 => ("NodTaxModel", "sumNods", "I", false)
  | 28 => ("NodTaxModel", "sumDips", "I", false)
  | 29 => ("NodTaxModel", "sumTax", "I", false)
  | 30 => ("NodTaxModel", "sumGiven", "I", false)
  | 31 => ("NodTaxModel", "sumSnores", "I", false)
  | 32 => ("NodTaxModel", "best", "[I", true)
  | 33 => ("NodTaxModel", "same", "I", false)
  | 34 => ("NodTaxModel", "goes", "[I", true)
  | 35 => ("NodTaxModel", "image", "[I", true)
  | _ => ("NodTaxModel", "isKept", "[Z", true)
def tyX9 : Nat → FieldType := fun k => match k with
  | 0 => .int
  | 1 => .int
  | 2 => .array .int
  | 3 => .array .int
  | 4 => .array .int
  | 5 => .array .int
  | 6 => .int
  | 7 => .int
  | 8 => .int
  | 9 => .int
  | 10 => .int
  | 11 => .array .int
  | 12 => .int
  | 13 => .array .int
  | 14 => .array .int
  | 15 => .int
  | 16 => .array .int
  | 17 => .int
  | 18 => .int
  | 19 => .int
  | 20 => .array .int
  | 21 => .array .int
  | 22 => .array .int
  | 23 => .array .int
  | 24 => .array .int
  | 25 => .int
  | 26 => .int
  | 27 => .int
  | 28 => .int
  | 29 => .int
  | 30 => .int
  | 31 => .int
  | 32 => .array .int
  | 33 => .int
  | 34 => .array .int
  | 35 => .array .int
  | _ => .array .boolean
theorem nmX9 : ∀ a, a < 37 → ∀ b, b < 37 → a ≠ b → (TX9 a).2.1 ≠ (TX9 b).2.1 := by decide +kernel
theorem tyX9_ok : ∀ k, k < 37 → parseFieldDescriptor (TX9 k).2.2.1 = some (tyX9 k) := by decide +kernel
abbrev cX9_init : ByteArray := prog_11_method_1_code
def yX9_init : MethodName := ⟨RX9, "<init>", "()V"⟩
abbrev cX9_in : ByteArray := prog_11_method_2_code
def yX9_in : MethodName := ⟨RX9, "in", "(III)Z"⟩
abbrev cX9_has : ByteArray := prog_11_method_3_code
def yX9_has : MethodName := ⟨RX9, "has", "(II)Z"⟩
abbrev cX9_bits : ByteArray := prog_11_method_4_code
def yX9_bits : MethodName := ⟨RX9, "bits", "(I)I"⟩
abbrev cX9_isThere : ByteArray := prog_11_method_5_code
def yX9_isThere : MethodName := ⟨RX9, "isThere", "(I)Z"⟩
abbrev cX9_church : ByteArray := prog_11_method_6_code
def yX9_church : MethodName := ⟨RX9, "church", "(I)I"⟩
abbrev cX9_whoSits : ByteArray := prog_11_method_7_code
def yX9_whoSits : MethodName := ⟨RX9, "whoSits", "(I)I"⟩
abbrev cX9_hearer : ByteArray := prog_11_method_8_code
def yX9_hearer : MethodName := ⟨RX9, "hearer", "(IIIIIZ)I"⟩
abbrev cX9_leave : ByteArray := prog_11_method_9_code
def yX9_leave : MethodName := ⟨RX9, "leave", "(I)I"⟩
abbrev cX9_set : ByteArray := prog_11_method_10_code
def yX9_set : MethodName := ⟨RX9, "set", "(II)I"⟩
abbrev cX9_say : ByteArray := prog_11_method_11_code
def yX9_say : MethodName := ⟨RX9, "say", "(I)I"⟩
abbrev cX9_wipe : ByteArray := prog_11_method_12_code
def yX9_wipe : MethodName := ⟨RX9, "wipe", "()I"⟩
abbrev cX9_isSign : ByteArray := prog_11_method_13_code
def yX9_isSign : MethodName := ⟨RX9, "isSign", "(I)Z"⟩
abbrev cX9_faultOf : ByteArray := prog_11_method_14_code
def yX9_faultOf : MethodName := ⟨RX9, "faultOf", "()I"⟩
abbrev cX9_fault : ByteArray := prog_11_method_15_code
def yX9_fault : MethodName := ⟨RX9, "fault", "()I"⟩
abbrev cX9_lay : ByteArray := prog_11_method_16_code
def yX9_lay : MethodName := ⟨RX9, "lay", "()V"⟩
abbrev cX9_beside : ByteArray := prog_11_method_17_code
def yX9_beside : MethodName := ⟨RX9, "beside", "(II)I"⟩
abbrev cX9_turn : ByteArray := prog_11_method_18_code
def yX9_turn : MethodName := ⟨RX9, "turn", "(I)I"⟩
abbrev cX9_change : ByteArray := prog_11_method_19_code
def yX9_change : MethodName := ⟨RX9, "change", "(II)I"⟩
abbrev cX9_minute : ByteArray := prog_11_method_20_code
def yX9_minute : MethodName := ⟨RX9, "minute", "(I)V"⟩
abbrev cX9_preach : ByteArray := prog_11_method_21_code
def yX9_preach : MethodName := ⟨RX9, "preach", "(I)V"⟩
abbrev cX9_isMinute : ByteArray := prog_11_method_22_code
def yX9_isMinute : MethodName := ⟨RX9, "isMinute", "(I)Z"⟩
abbrev cX9_heard : ByteArray := prog_11_method_23_code
def yX9_heard : MethodName := ⟨RX9, "heard", "(III)I"⟩
abbrev cX9_sum : ByteArray := prog_11_method_24_code
def yX9_sum : MethodName := ⟨RX9, "sum", "(II)I"⟩
abbrev cX9_first : ByteArray := prog_11_method_25_code
def yX9_first : MethodName := ⟨RX9, "first", "(I)I"⟩
abbrev cX9_gainOf : ByteArray := prog_11_method_26_code
def yX9_gainOf : MethodName := ⟨RX9, "gainOf", "()I"⟩
abbrev cX9_gain : ByteArray := prog_11_method_27_code
def yX9_gain : MethodName := ⟨RX9, "gain", "()I"⟩
abbrev cX9_sort : ByteArray := prog_11_method_28_code
def yX9_sort : MethodName := ⟨RX9, "sort", "()V"⟩
abbrev cX9_swap : ByteArray := prog_11_method_29_code
def yX9_swap : MethodName := ⟨RX9, "swap", "(II)V"⟩
abbrev cX9_goOn : ByteArray := prog_11_method_30_code
def yX9_goOn : MethodName := ⟨RX9, "goOn", "()Z"⟩
abbrev cX9_order : ByteArray := prog_11_method_31_code
def yX9_order : MethodName := ⟨RX9, "order", "(II)I"⟩
abbrev cX9_start : ByteArray := prog_11_method_32_code
def yX9_start : MethodName := ⟨RX9, "start", "(I)I"⟩
abbrev cX9_seated : ByteArray := prog_11_method_33_code
def yX9_seated : MethodName := ⟨RX9, "seated", "(I)I"⟩
abbrev cX9_hired : ByteArray := prog_11_method_34_code
def yX9_hired : MethodName := ⟨RX9, "hired", "(II)I"⟩
abbrev cX9_least : ByteArray := prog_11_method_35_code
def yX9_least : MethodName := ⟨RX9, "least", "()I"⟩
abbrev cX9_seen : ByteArray := prog_11_method_36_code
def yX9_seen : MethodName := ⟨RX9, "seen", "(II)I"⟩
abbrev cX9_forget : ByteArray := prog_11_method_37_code
def yX9_forget : MethodName := ⟨RX9, "forget", "()I"⟩
abbrev cX9_isCounted : ByteArray := prog_11_method_38_code
def yX9_isCounted : MethodName := ⟨RX9, "isCounted", "()Z"⟩
abbrev cX9_layPreached : ByteArray := prog_11_method_39_code
def yX9_layPreached : MethodName := ⟨RX9, "layPreached", "()I"⟩
abbrev cX9_preached : ByteArray := prog_11_method_40_code
def yX9_preached : MethodName := ⟨RX9, "preached", "(I)I"⟩
abbrev cX9_surely : ByteArray := prog_11_method_41_code
def yX9_surely : MethodName := ⟨RX9, "surely", "()I"⟩
abbrev cX9_dips : ByteArray := prog_11_method_42_code
def yX9_dips : MethodName := ⟨RX9, "dips", "(II)I"⟩
abbrev cX9_areAlike : ByteArray := prog_11_method_43_code
def yX9_areAlike : MethodName := ⟨RX9, "areAlike", "(II)Z"⟩
abbrev cX9_alike : ByteArray := prog_11_method_44_code
def yX9_alike : MethodName := ⟨RX9, "alike", "(I)I"⟩
abbrev cX9_likes : ByteArray := prog_11_method_45_code
def yX9_likes : MethodName := ⟨RX9, "likes", "(II)I"⟩
abbrev cX9_parishes : ByteArray := prog_11_method_46_code
def yX9_parishes : MethodName := ⟨RX9, "parishes", "(I)I"⟩
abbrev cX9_cold : ByteArray := prog_11_method_47_code
def yX9_cold : MethodName := ⟨RX9, "cold", "(III)J"⟩
abbrev cX9_signAt : ByteArray := prog_11_method_48_code
def yX9_signAt : MethodName := ⟨RX9, "signAt", "(I)I"⟩
abbrev cX9_year : ByteArray := prog_11_method_49_code
def yX9_year : MethodName := ⟨RX9, "year", "(III)I"⟩
abbrev cX9_image : ByteArray := prog_11_method_50_code
def yX9_image : MethodName := ⟨RX9, "image", "(I)I"⟩
abbrev cX9_restore : ByteArray := prog_11_method_51_code
def yX9_restore : MethodName := ⟨RX9, "restore", "(I)I"⟩
abbrev cX9_told : ByteArray := prog_11_method_52_code
def yX9_told : MethodName := ⟨RX9, "told", "(I)I"⟩
def RJ6 : String := "java/lang/Integer"
abbrev cJ6_bitCount_0f7a4 : ByteArray := prog_12_method_49_code
def yJ6_bitCount_0f7a4 : MethodName := ⟨RJ6, "bitCount", "(I)I"⟩
def RJ9 : String := "java/lang/Math"
abbrev cJ9_max_7cf53 : ByteArray := prog_13_method_65_code
def yJ9_max_7cf53 : MethodName := ⟨RJ9, "max", "(II)I"⟩
abbrev cJ9_min_7cf53 : ByteArray := prog_13_method_69_code
def yJ9_min_7cf53 : MethodName := ⟨RJ9, "min", "(II)I"⟩
def RJ10 : String := "java/lang/System"
def RL : String := "NodTaxLaw"
abbrev cL_law : ByteArray := code
def yL_law : MethodName := ⟨RL, "law", "([I)Z"⟩
abbrev vwCl : List vw_C := [(RX0, TX0, 7), (RX1, TX1, 6), (RX3, TX3, 2), (RX4, TX4, 13), (RX5, TX5, 3), (RX6, TX6, 13), (RX7, TX7, 4), (RX8, TX8, 11), (RX9, TX9, 37)]
end
section
theorem dX0_init_0 : decode cX0_init 0 = .ok (.aload_n 0, 1) := by decide +kernel
theorem dX0_init_1 : decode cX0_init 1 = .ok (.invokespecial 3, 3) := by decide +kernel
theorem dX0_init_4 : decode cX0_init 4 = .ok (.aload_n 0, 1) := by decide +kernel
theorem dX0_init_5 : decode cX0_init 5 = .ok (.iconst 0, 1) := by decide +kernel
theorem dX0_init_6 : decode cX0_init 6 = .ok (.putfield 9, 3) := by decide +kernel
theorem dX0_init_9 : decode cX0_init 9 = .ok (.aload_n 0, 1) := by decide +kernel
theorem dX0_init_10 : decode cX0_init 10 = .ok (.iconst 0, 1) := by decide +kernel
theorem dX0_init_11 : decode cX0_init 11 = .ok (.putfield 15, 3) := by decide +kernel
theorem dX0_init_14 : decode cX0_init 14 = .ok (.aload_n 0, 1) := by decide +kernel
theorem dX0_init_15 : decode cX0_init 15 = .ok (.iconst 0, 1) := by decide +kernel
theorem dX0_init_16 : decode cX0_init 16 = .ok (.putfield 18, 3) := by decide +kernel
theorem dX0_init_19 : decode cX0_init 19 = .ok (.return_, 1) := by decide +kernel
theorem dX0_aimAt_0 : decode cX0_aimAt 0 = .ok (.aload_n 0, 1) := by decide +kernel
theorem dX0_aimAt_1 : decode cX0_aimAt 1 = .ok (.iload_n 1, 1) := by decide +kernel
theorem dX0_aimAt_2 : decode cX0_aimAt 2 = .ok (.putfield 18, 3) := by decide +kernel
theorem dX0_aimAt_5 : decode cX0_aimAt 5 = .ok (.aload_n 0, 1) := by decide +kernel
theorem dX0_aimAt_6 : decode cX0_aimAt 6 = .ok (.ldc 22, 2) := by decide +kernel
theorem dX0_aimAt_8 : decode cX0_aimAt 8 = .ok (.putfield 15, 3) := by decide +kernel
theorem dX0_aimAt_11 : decode cX0_aimAt 11 = .ok (.return_, 1) := by decide +kernel
theorem dX0_loss_0 : decode cX0_loss 0 = .ok (.aload_n 0, 1) := by decide +kernel
theorem dX0_loss_1 : decode cX0_loss 1 = .ok (.getfield 18, 3) := by decide +kernel
theorem dX0_loss_4 : decode cX0_loss 4 = .ok (.ifCond .eq 15, 3) := by decide +kernel
theorem dX0_loss_7 : decode cX0_loss 7 = .ok (.aload_n 1, 1) := by decide +kernel
theorem dX0_loss_8 : decode cX0_loss 8 = .ok (.getfield 23, 3) := by decide +kernel
theorem dX0_loss_11 : decode cX0_loss 11 = .ok (.aload_n 1, 1) := by decide +kernel
theorem dX0_loss_12 : decode cX0_loss 12 = .ok (.getfield 28, 3) := by decide +kernel
theorem dX0_loss_15 : decode cX0_loss 15 = .ok (.iadd, 1) := by decide +kernel
theorem dX0_loss_16 : decode cX0_loss 16 = .ok (.goto 7, 3) := by decide +kernel
theorem dX0_loss_19 : decode cX0_loss 19 = .ok (.aload_n 1, 1) := by decide +kernel
theorem dX0_loss_20 : decode cX0_loss 20 = .ok (.getfield 23, 3) := by decide +kernel
theorem dX0_loss_23 : decode cX0_loss 23 = .ok (.ireturn, 1) := by decide +kernel
theorem dX0_mayGoOn_0 : decode cX0_mayGoOn 0 = .ok (.aload_n 0, 1) := by decide +kernel
theorem dX0_mayGoOn_1 : decode cX0_mayGoOn 1 = .ok (.aload_n 2, 1) := by decide +kernel
theorem dX0_mayGoOn_2 : decode cX0_mayGoOn 2 = .ok (.invokevirtual 31, 3) := by decide +kernel
theorem dX0_mayGoOn_5 : decode cX0_mayGoOn 5 = .ok (.aload_n 0, 1) := by decide +kernel
theorem dX0_mayGoOn_6 : decode cX0_mayGoOn 6 = .ok (.getfield 15, 3) := by decide +kernel
theorem dX0_mayGoOn_9 : decode cX0_mayGoOn 9 = .ok (.if_icmp .ge 7, 3) := by decide +kernel
theorem dX0_mayGoOn_12 : decode cX0_mayGoOn 12 = .ok (.iconst 1, 1) := by decide +kernel
theorem dX0_mayGoOn_13 : decode cX0_mayGoOn 13 = .ok (.goto 4, 3) := by decide +kernel
theorem dX0_mayGoOn_16 : decode cX0_mayGoOn 16 = .ok (.iconst 0, 1) := by decide +kernel
theorem dX0_mayGoOn_17 : decode cX0_mayGoOn 17 = .ok (.ireturn, 1) := by decide +kernel
theorem dX0_arrive_0 : decode cX0_arrive 0 = .ok (.aload_n 0, 1) := by decide +kernel
theorem dX0_arrive_1 : decode cX0_arrive 1 = .ok (.aload_n 0, 1) := by decide +kernel
theorem dX0_arrive_2 : decode cX0_arrive 2 = .ok (.aload_n 1, 1) := by decide +kernel
theorem dX0_arrive_3 : decode cX0_arrive 3 = .ok (.invokevirtual 31, 3) := by decide +kernel
theorem dX0_arrive_6 : decode cX0_arrive 6 = .ok (.putfield 15, 3) := by decide +kernel
theorem dX0_arrive_9 : decode cX0_arrive 9 = .ok (.aload_n 0, 1) := by decide +kernel
theorem dX0_arrive_10 : decode cX0_arrive 10 = .ok (.aload_n 0, 1) := by decide +kernel
theorem dX0_arrive_11 : decode cX0_arrive 11 = .ok (.getfield 18, 3) := by decide +kernel
theorem dX0_arrive_14 : decode cX0_arrive 14 = .ok (.ifCond .eq 10, 3) := by decide +kernel
theorem dX0_arrive_17 : decode cX0_arrive 17 = .ok (.aload_n 1, 1) := by decide +kernel
theorem dX0_arrive_18 : decode cX0_arrive 18 = .ok (.invokevirtual 35, 3) := by decide +kernel
theorem dX0_arrive_21 : decode cX0_arrive 21 = .ok (.goto 7, 3) := by decide +kernel
theorem dX0_arrive_24 : decode cX0_arrive 24 = .ok (.aload_n 1, 1) := by decide +kernel
theorem dX0_arrive_25 : decode cX0_arrive 25 = .ok (.getfield 23, 3) := by decide +kernel
theorem dX0_arrive_28 : decode cX0_arrive 28 = .ok (.putfield 9, 3) := by decide +kernel
theorem dX0_arrive_31 : decode cX0_arrive 31 = .ok (.aload_n 0, 1) := by decide +kernel
theorem dX0_arrive_32 : decode cX0_arrive 32 = .ok (.invokevirtual 39, 3) := by decide +kernel
theorem dX0_arrive_35 : decode cX0_arrive 35 = .ok (.return_, 1) := by decide +kernel
theorem dX0_signOfBest_0 : decode cX0_signOfBest 0 = .ok (.iload_n 1, 1) := by decide +kernel
theorem dX0_signOfBest_1 : decode cX0_signOfBest 1 = .ok (.ifCond .lt 20, 3) := by decide +kernel
theorem dX0_signOfBest_4 : decode cX0_signOfBest 4 = .ok (.iload_n 1, 1) := by decide +kernel
theorem dX0_signOfBest_5 : decode cX0_signOfBest 5 = .ok (.aload_n 0, 1) := by decide +kernel
theorem dX0_signOfBest_6 : decode cX0_signOfBest 6 = .ok (.getfield 42, 3) := by decide +kernel
theorem dX0_signOfBest_9 : decode cX0_signOfBest 9 = .ok (.if_icmp .ge 12, 3) := by decide +kernel
theorem dX0_signOfBest_12 : decode cX0_signOfBest 12 = .ok (.aload_n 0, 1) := by decide +kernel
theorem dX0_signOfBest_13 : decode cX0_signOfBest 13 = .ok (.getfield 45, 3) := by decide +kernel
theorem dX0_signOfBest_16 : decode cX0_signOfBest 16 = .ok (.iload_n 1, 1) := by decide +kernel
theorem dX0_signOfBest_17 : decode cX0_signOfBest 17 = .ok (.iaload, 1) := by decide +kernel
theorem dX0_signOfBest_18 : decode cX0_signOfBest 18 = .ok (.goto 5, 3) := by decide +kernel
theorem dX0_signOfBest_21 : decode cX0_signOfBest 21 = .ok (.bipush (-6), 2) := by decide +kernel
theorem dX0_signOfBest_23 : decode cX0_signOfBest 23 = .ok (.ireturn, 1) := by decide +kernel
theorem dX1_init_0 : decode cX1_init 0 = .ok (.aload_n 0, 1) := by decide +kernel
theorem dX1_init_1 : decode cX1_init 1 = .ok (.invokespecial 3, 3) := by decide +kernel
theorem dX1_init_4 : decode cX1_init 4 = .ok (.aload_n 0, 1) := by decide +kernel
theorem dX1_init_5 : decode cX1_init 5 = .ok (.iconst 0, 1) := by decide +kernel
theorem dX1_init_6 : decode cX1_init 6 = .ok (.putfield 9, 3) := by decide +kernel
theorem dX1_init_9 : decode cX1_init 9 = .ok (.aload_n 0, 1) := by decide +kernel
theorem dX1_init_10 : decode cX1_init 10 = .ok (.iconst 0, 1) := by decide +kernel
theorem dX1_init_11 : decode cX1_init 11 = .ok (.putfield 15, 3) := by decide +kernel
theorem dX1_init_14 : decode cX1_init 14 = .ok (.return_, 1) := by decide +kernel
theorem dX1_find_0 : decode cX1_find 0 = .ok (.aload_n 0, 1) := by decide +kernel
theorem dX1_find_1 : decode cX1_find 1 = .ok (.iconst 0, 1) := by decide +kernel
theorem dX1_find_2 : decode cX1_find 2 = .ok (.putfield 9, 3) := by decide +kernel
theorem dX1_find_5 : decode cX1_find 5 = .ok (.aload_n 0, 1) := by decide +kernel
theorem dX1_find_6 : decode cX1_find 6 = .ok (.iconst 0, 1) := by decide +kernel
theorem dX1_find_7 : decode cX1_find 7 = .ok (.putfield 15, 3) := by decide +kernel
theorem dX1_find_10 : decode cX1_find 10 = .ok (.aload_n 1, 1) := by decide +kernel
theorem dX1_find_11 : decode cX1_find 11 = .ok (.aload_n 2, 1) := by decide +kernel
theorem dX1_find_12 : decode cX1_find 12 = .ok (.invokestatic 18, 3) := by decide +kernel
theorem dX1_find_15 : decode cX1_find 15 = .ok (.ifCond .eq 10, 3) := by decide +kernel
theorem dX1_find_18 : decode cX1_find 18 = .ok (.aload_n 0, 1) := by decide +kernel
theorem dX1_find_19 : decode cX1_find 19 = .ok (.aload_n 1, 1) := by decide +kernel
theorem dX1_find_20 : decode cX1_find 20 = .ok (.aload_n 2, 1) := by decide +kernel
theorem dX1_find_21 : decode cX1_find 21 = .ok (.aload_n 3, 1) := by decide +kernel
theorem dX1_find_22 : decode cX1_find 22 = .ok (.invokevirtual 22, 3) := by decide +kernel
theorem dX1_find_25 : decode cX1_find 25 = .ok (.return_, 1) := by decide +kernel
theorem dX1_areMinutesThere_0 : decode cX1_areMinutesThere 0 = .ok (.iconst 0, 1) := by decide +kernel
theorem dX1_areMinutesThere_1 : decode cX1_areMinutesThere 1 = .ok (.istore_n 2, 1) := by decide +kernel
theorem dX1_areMinutesThere_2 : decode cX1_areMinutesThere 2 = .ok (.iload_n 2, 1) := by decide +kernel
theorem dX1_areMinutesThere_3 : decode cX1_areMinutesThere 3 = .ok (.aload_n 0, 1) := by decide +kernel
theorem dX1_areMinutesThere_4 : decode cX1_areMinutesThere 4 = .ok (.getfield 26, 3) := by decide +kernel
theorem dX1_areMinutesThere_7 : decode cX1_areMinutesThere 7 = .ok (.if_icmp .ge 24, 3) := by decide +kernel
theorem dX1_areMinutesThere_10 : decode cX1_areMinutesThere 10 = .ok (.aload_n 0, 1) := by decide +kernel
theorem dX1_areMinutesThere_11 : decode cX1_areMinutesThere 11 = .ok (.getfield 31, 3) := by decide +kernel
theorem dX1_areMinutesThere_14 : decode cX1_areMinutesThere 14 = .ok (.iload_n 2, 1) := by decide +kernel
theorem dX1_areMinutesThere_15 : decode cX1_areMinutesThere 15 = .ok (.iaload, 1) := by decide +kernel
theorem dX1_areMinutesThere_16 : decode cX1_areMinutesThere 16 = .ok (.aload_n 1, 1) := by decide +kernel
theorem dX1_areMinutesThere_17 : decode cX1_areMinutesThere 17 = .ok (.getfield 35, 3) := by decide +kernel
theorem dX1_areMinutesThere_20 : decode cX1_areMinutesThere 20 = .ok (.if_icmp .lt 5, 3) := by decide +kernel
theorem dX1_areMinutesThere_23 : decode cX1_areMinutesThere 23 = .ok (.iconst 0, 1) := by decide +kernel
theorem dX1_areMinutesThere_24 : decode cX1_areMinutesThere 24 = .ok (.ireturn, 1) := by decide +kernel
theorem dX1_areMinutesThere_25 : decode cX1_areMinutesThere 25 = .ok (.iinc 2 1, 3) := by decide +kernel
theorem dX1_areMinutesThere_28 : decode cX1_areMinutesThere 28 = .ok (.goto (-26), 3) := by decide +kernel
theorem dX1_areMinutesThere_31 : decode cX1_areMinutesThere 31 = .ok (.iconst 1, 1) := by decide +kernel
theorem dX1_areMinutesThere_32 : decode cX1_areMinutesThere 32 = .ok (.ireturn, 1) := by decide +kernel
theorem dX1_mayGoOn_0 : decode cX1_mayGoOn 0 = .ok (.iconst 0, 1) := by decide +kernel
theorem dX1_mayGoOn_1 : decode cX1_mayGoOn 1 = .ok (.istore 4, 2) := by decide +kernel
theorem dX1_mayGoOn_3 : decode cX1_mayGoOn 3 = .ok (.iload 4, 2) := by decide +kernel
theorem dX1_mayGoOn_5 : decode cX1_mayGoOn 5 = .ok (.aload_n 1, 1) := by decide +kernel
theorem dX1_mayGoOn_6 : decode cX1_mayGoOn 6 = .ok (.getfield 26, 3) := by decide +kernel
theorem dX1_mayGoOn_9 : decode cX1_mayGoOn 9 = .ok (.if_icmp .ge 39, 3) := by decide +kernel
theorem dX1_mayGoOn_12 : decode cX1_mayGoOn 12 = .ok (.aload_n 1, 1) := by decide +kernel
theorem dX1_mayGoOn_13 : decode cX1_mayGoOn 13 = .ok (.getfield 31, 3) := by decide +kernel
theorem dX1_mayGoOn_16 : decode cX1_mayGoOn 16 = .ok (.iload 4, 2) := by decide +kernel
theorem dX1_mayGoOn_18 : decode cX1_mayGoOn 18 = .ok (.iaload, 1) := by decide +kernel
theorem dX1_mayGoOn_19 : decode cX1_mayGoOn 19 = .ok (.iload_n 3, 1) := by decide +kernel
theorem dX1_mayGoOn_20 : decode cX1_mayGoOn 20 = .ok (.if_icmp .ne 22, 3) := by decide +kernel
theorem dX1_mayGoOn_23 : decode cX1_mayGoOn 23 = .ok (.aload_n 1, 1) := by decide +kernel
theorem dX1_mayGoOn_24 : decode cX1_mayGoOn 24 = .ok (.getfield 40, 3) := by decide +kernel
theorem dX1_mayGoOn_27 : decode cX1_mayGoOn 27 = .ok (.iload 4, 2) := by decide +kernel
theorem dX1_mayGoOn_29 : decode cX1_mayGoOn 29 = .ok (.iaload, 1) := by decide +kernel
theorem dX1_mayGoOn_30 : decode cX1_mayGoOn 30 = .ok (.aload_n 2, 1) := by decide +kernel
theorem dX1_mayGoOn_31 : decode cX1_mayGoOn 31 = .ok (.invokevirtual 43, 3) := by decide +kernel
theorem dX1_mayGoOn_34 : decode cX1_mayGoOn 34 = .ok (.invokestatic 49, 3) := by decide +kernel
theorem dX1_mayGoOn_37 : decode cX1_mayGoOn 37 = .ok (.if_icmp .eq 5, 3) := by decide +kernel
theorem dX1_mayGoOn_40 : decode cX1_mayGoOn 40 = .ok (.iconst 0, 1) := by decide +kernel
theorem dX1_mayGoOn_41 : decode cX1_mayGoOn 41 = .ok (.ireturn, 1) := by decide +kernel
theorem dX1_mayGoOn_42 : decode cX1_mayGoOn 42 = .ok (.iinc 4 1, 3) := by decide +kernel
theorem dX1_mayGoOn_45 : decode cX1_mayGoOn 45 = .ok (.goto (-42), 3) := by decide +kernel
theorem dX1_mayGoOn_48 : decode cX1_mayGoOn 48 = .ok (.iconst 1, 1) := by decide +kernel
theorem dX1_mayGoOn_49 : decode cX1_mayGoOn 49 = .ok (.ireturn, 1) := by decide +kernel
theorem dX1_arrive_0 : decode cX1_arrive 0 = .ok (.aload_n 0, 1) := by decide +kernel
theorem dX1_arrive_1 : decode cX1_arrive 1 = .ok (.getfield 9, 3) := by decide +kernel
theorem dX1_arrive_4 : decode cX1_arrive 4 = .ok (.ifCond .ne 19, 3) := by decide +kernel
theorem dX1_arrive_7 : decode cX1_arrive 7 = .ok (.aload_n 0, 1) := by decide +kernel
theorem dX1_arrive_8 : decode cX1_arrive 8 = .ok (.invokevirtual 55, 3) := by decide +kernel
theorem dX1_arrive_11 : decode cX1_arrive 11 = .ok (.aload_n 0, 1) := by decide +kernel
theorem dX1_arrive_12 : decode cX1_arrive 12 = .ok (.iconst 1, 1) := by decide +kernel
theorem dX1_arrive_13 : decode cX1_arrive 13 = .ok (.aload_n 0, 1) := by decide +kernel
theorem dX1_arrive_14 : decode cX1_arrive 14 = .ok (.getfield 58, 3) := by decide +kernel
theorem dX1_arrive_17 : decode cX1_arrive 17 = .ok (.ishl, 1) := by decide +kernel
theorem dX1_arrive_18 : decode cX1_arrive 18 = .ok (.iconst 1, 1) := by decide +kernel
theorem dX1_arrive_19 : decode cX1_arrive 19 = .ok (.isub, 1) := by decide +kernel
theorem dX1_arrive_20 : decode cX1_arrive 20 = .ok (.putfield 15, 3) := by decide +kernel
theorem dX1_arrive_23 : decode cX1_arrive 23 = .ok (.iconst 0, 1) := by decide +kernel
theorem dX1_arrive_24 : decode cX1_arrive 24 = .ok (.istore_n 2, 1) := by decide +kernel
theorem dX1_arrive_25 : decode cX1_arrive 25 = .ok (.iload_n 2, 1) := by decide +kernel
theorem dX1_arrive_26 : decode cX1_arrive 26 = .ok (.aload_n 0, 1) := by decide +kernel
theorem dX1_arrive_27 : decode cX1_arrive 27 = .ok (.getfield 58, 3) := by decide +kernel
theorem dX1_arrive_30 : decode cX1_arrive 30 = .ok (.if_icmp .ge 38, 3) := by decide +kernel
theorem dX1_arrive_33 : decode cX1_arrive 33 = .ok (.aload_n 0, 1) := by decide +kernel
theorem dX1_arrive_34 : decode cX1_arrive 34 = .ok (.getfield 59, 3) := by decide +kernel
theorem dX1_arrive_37 : decode cX1_arrive 37 = .ok (.iload_n 2, 1) := by decide +kernel
theorem dX1_arrive_38 : decode cX1_arrive 38 = .ok (.iaload, 1) := by decide +kernel
theorem dX1_arrive_39 : decode cX1_arrive 39 = .ok (.aload_n 0, 1) := by decide +kernel
theorem dX1_arrive_40 : decode cX1_arrive 40 = .ok (.getfield 62, 3) := by decide +kernel
theorem dX1_arrive_43 : decode cX1_arrive 43 = .ok (.iload_n 2, 1) := by decide +kernel
theorem dX1_arrive_44 : decode cX1_arrive 44 = .ok (.iaload, 1) := by decide +kernel
theorem dX1_arrive_45 : decode cX1_arrive 45 = .ok (.if_icmp .eq 17, 3) := by decide +kernel
theorem dX1_arrive_48 : decode cX1_arrive 48 = .ok (.aload_n 0, 1) := by decide +kernel
theorem dX1_arrive_49 : decode cX1_arrive 49 = .ok (.dup, 1) := by decide +kernel
theorem dX1_arrive_50 : decode cX1_arrive 50 = .ok (.getfield 15, 3) := by decide +kernel
theorem dX1_arrive_53 : decode cX1_arrive 53 = .ok (.iconst 1, 1) := by decide +kernel
theorem dX1_arrive_54 : decode cX1_arrive 54 = .ok (.iload_n 2, 1) := by decide +kernel
theorem dX1_arrive_55 : decode cX1_arrive 55 = .ok (.ishl, 1) := by decide +kernel
theorem dX1_arrive_56 : decode cX1_arrive 56 = .ok (.iconst (-1), 1) := by decide +kernel
theorem dX1_arrive_57 : decode cX1_arrive 57 = .ok (.ixor, 1) := by decide +kernel
theorem dX1_arrive_58 : decode cX1_arrive 58 = .ok (.iand, 1) := by decide +kernel
theorem dX1_arrive_59 : decode cX1_arrive 59 = .ok (.putfield 15, 3) := by decide +kernel
theorem dX1_arrive_62 : decode cX1_arrive 62 = .ok (.iinc 2 1, 3) := by decide +kernel
theorem dX1_arrive_65 : decode cX1_arrive 65 = .ok (.goto (-40), 3) := by decide +kernel
theorem dX1_arrive_68 : decode cX1_arrive 68 = .ok (.aload_n 0, 1) := by decide +kernel
theorem dX1_arrive_69 : decode cX1_arrive 69 = .ok (.dup, 1) := by decide +kernel
theorem dX1_arrive_70 : decode cX1_arrive 70 = .ok (.getfield 9, 3) := by decide +kernel
theorem dX1_arrive_73 : decode cX1_arrive 73 = .ok (.iconst 1, 1) := by decide +kernel
theorem dX1_arrive_74 : decode cX1_arrive 74 = .ok (.iadd, 1) := by decide +kernel
theorem dX1_arrive_75 : decode cX1_arrive 75 = .ok (.putfield 9, 3) := by decide +kernel
theorem dX1_arrive_78 : decode cX1_arrive 78 = .ok (.return_, 1) := by decide +kernel
theorem dX1_signOfFirst_0 : decode cX1_signOfFirst 0 = .ok (.aload_n 0, 1) := by decide +kernel
theorem dX1_signOfFirst_1 : decode cX1_signOfFirst 1 = .ok (.getfield 9, 3) := by decide +kernel
theorem dX1_signOfFirst_4 : decode cX1_signOfFirst 4 = .ok (.ifCond .le 24, 3) := by decide +kernel
theorem dX1_signOfFirst_7 : decode cX1_signOfFirst 7 = .ok (.iload_n 1, 1) := by decide +kernel
theorem dX1_signOfFirst_8 : decode cX1_signOfFirst 8 = .ok (.ifCond .lt 20, 3) := by decide +kernel
theorem dX1_signOfFirst_11 : decode cX1_signOfFirst 11 = .ok (.iload_n 1, 1) := by decide +kernel
theorem dX1_signOfFirst_12 : decode cX1_signOfFirst 12 = .ok (.aload_n 0, 1) := by decide +kernel
theorem dX1_signOfFirst_13 : decode cX1_signOfFirst 13 = .ok (.getfield 58, 3) := by decide +kernel
theorem dX1_signOfFirst_16 : decode cX1_signOfFirst 16 = .ok (.if_icmp .ge 12, 3) := by decide +kernel
theorem dX1_signOfFirst_19 : decode cX1_signOfFirst 19 = .ok (.aload_n 0, 1) := by decide +kernel
theorem dX1_signOfFirst_20 : decode cX1_signOfFirst 20 = .ok (.getfield 62, 3) := by decide +kernel
theorem dX1_signOfFirst_23 : decode cX1_signOfFirst 23 = .ok (.iload_n 1, 1) := by decide +kernel
theorem dX1_signOfFirst_24 : decode cX1_signOfFirst 24 = .ok (.iaload, 1) := by decide +kernel
theorem dX1_signOfFirst_25 : decode cX1_signOfFirst 25 = .ok (.goto 5, 3) := by decide +kernel
theorem dX1_signOfFirst_28 : decode cX1_signOfFirst 28 = .ok (.bipush (-6), 2) := by decide +kernel
theorem dX1_signOfFirst_30 : decode cX1_signOfFirst 30 = .ok (.ireturn, 1) := by decide +kernel
theorem dX2_init_0 : decode cX2_init 0 = .ok (.aload_n 0, 1) := by decide +kernel
theorem dX2_init_1 : decode cX2_init 1 = .ok (.invokespecial 3, 3) := by decide +kernel
theorem dX2_init_4 : decode cX2_init 4 = .ok (.aload_n 0, 1) := by decide +kernel
theorem dX2_init_5 : decode cX2_init 5 = .ok (.bipush 7, 2) := by decide +kernel
theorem dX2_init_7 : decode cX2_init 7 = .ok (.newarray .int, 2) := by decide +kernel
theorem dX2_init_9 : decode cX2_init 9 = .ok (.putfield 9, 3) := by decide +kernel
theorem dX2_init_12 : decode cX2_init 12 = .ok (.aload_n 0, 1) := by decide +kernel
theorem dX2_init_13 : decode cX2_init 13 = .ok (.bipush 7, 2) := by decide +kernel
theorem dX2_init_15 : decode cX2_init 15 = .ok (.newarray .int, 2) := by decide +kernel
theorem dX2_init_17 : decode cX2_init 17 = .ok (.putfield 15, 3) := by decide +kernel
theorem dX2_init_20 : decode cX2_init 20 = .ok (.aload_n 0, 1) := by decide +kernel
theorem dX2_init_21 : decode cX2_init 21 = .ok (.bipush 7, 2) := by decide +kernel
theorem dX2_init_23 : decode cX2_init 23 = .ok (.newarray .int, 2) := by decide +kernel
theorem dX2_init_25 : decode cX2_init 25 = .ok (.putfield 18, 3) := by decide +kernel
theorem dX2_init_28 : decode cX2_init 28 = .ok (.aload_n 0, 1) := by decide +kernel
theorem dX2_init_29 : decode cX2_init 29 = .ok (.iconst 0, 1) := by decide +kernel
theorem dX2_init_30 : decode cX2_init 30 = .ok (.putfield 21, 3) := by decide +kernel
theorem dX2_init_33 : decode cX2_init 33 = .ok (.return_, 1) := by decide +kernel
theorem dX2_goThrough_0 : decode cX2_goThrough 0 = .ok (.iconst 0, 1) := by decide +kernel
theorem dX2_goThrough_1 : decode cX2_goThrough 1 = .ok (.istore 4, 2) := by decide +kernel
theorem dX2_goThrough_3 : decode cX2_goThrough 3 = .ok (.iload 4, 2) := by decide +kernel
theorem dX2_goThrough_5 : decode cX2_goThrough 5 = .ok (.bipush 7, 2) := by decide +kernel
theorem dX2_goThrough_7 : decode cX2_goThrough 7 = .ok (.if_icmp .ge 17, 3) := by decide +kernel
theorem dX2_goThrough_10 : decode cX2_goThrough 10 = .ok (.aload_n 0, 1) := by decide +kernel
theorem dX2_goThrough_11 : decode cX2_goThrough 11 = .ok (.getfield 18, 3) := by decide +kernel
theorem dX2_goThrough_14 : decode cX2_goThrough 14 = .ok (.iload 4, 2) := by decide +kernel
theorem dX2_goThrough_16 : decode cX2_goThrough 16 = .ok (.iconst 0, 1) := by decide +kernel
theorem dX2_goThrough_17 : decode cX2_goThrough 17 = .ok (.iastore, 1) := by decide +kernel
theorem dX2_goThrough_18 : decode cX2_goThrough 18 = .ok (.iinc 4 1, 3) := by decide +kernel
theorem dX2_goThrough_21 : decode cX2_goThrough 21 = .ok (.goto (-18), 3) := by decide +kernel
theorem dX2_goThrough_24 : decode cX2_goThrough 24 = .ok (.aload_n 0, 1) := by decide +kernel
theorem dX2_goThrough_25 : decode cX2_goThrough 25 = .ok (.aload_n 2, 1) := by decide +kernel
theorem dX2_goThrough_26 : decode cX2_goThrough 26 = .ok (.getfield 25, 3) := by decide +kernel
theorem dX2_goThrough_29 : decode cX2_goThrough 29 = .ok (.bipush 7, 2) := by decide +kernel
theorem dX2_goThrough_31 : decode cX2_goThrough 31 = .ok (.invokestatic 28, 3) := by decide +kernel
theorem dX2_goThrough_34 : decode cX2_goThrough 34 = .ok (.putfield 21, 3) := by decide +kernel
theorem dX2_goThrough_37 : decode cX2_goThrough 37 = .ok (.iconst 0, 1) := by decide +kernel
theorem dX2_goThrough_38 : decode cX2_goThrough 38 = .ok (.istore 4, 2) := by decide +kernel
theorem dX2_goThrough_40 : decode cX2_goThrough 40 = .ok (.iload 4, 2) := by decide +kernel
theorem dX2_goThrough_42 : decode cX2_goThrough 42 = .ok (.aload_n 0, 1) := by decide +kernel
theorem dX2_goThrough_43 : decode cX2_goThrough 43 = .ok (.getfield 21, 3) := by decide +kernel
theorem dX2_goThrough_46 : decode cX2_goThrough 46 = .ok (.if_icmp .ge 39, 3) := by decide +kernel
theorem dX2_goThrough_49 : decode cX2_goThrough 49 = .ok (.aload_n 2, 1) := by decide +kernel
theorem dX2_goThrough_50 : decode cX2_goThrough 50 = .ok (.getfield 34, 3) := by decide +kernel
theorem dX2_goThrough_53 : decode cX2_goThrough 53 = .ok (.iload 4, 2) := by decide +kernel
theorem dX2_goThrough_55 : decode cX2_goThrough 55 = .ok (.iaload, 1) := by decide +kernel
theorem dX2_goThrough_56 : decode cX2_goThrough 56 = .ok (.invokestatic 37, 3) := by decide +kernel
theorem dX2_goThrough_59 : decode cX2_goThrough 59 = .ok (.istore 5, 2) := by decide +kernel
theorem dX2_goThrough_61 : decode cX2_goThrough 61 = .ok (.iload 5, 2) := by decide +kernel
theorem dX2_goThrough_63 : decode cX2_goThrough 63 = .ok (.bipush (-6), 2) := by decide +kernel
theorem dX2_goThrough_65 : decode cX2_goThrough 65 = .ok (.if_icmp .eq 14, 3) := by decide +kernel
theorem dX2_goThrough_68 : decode cX2_goThrough 68 = .ok (.aload_n 0, 1) := by decide +kernel
theorem dX2_goThrough_69 : decode cX2_goThrough 69 = .ok (.getfield 18, 3) := by decide +kernel
theorem dX2_goThrough_72 : decode cX2_goThrough 72 = .ok (.iload 5, 2) := by decide +kernel
theorem dX2_goThrough_74 : decode cX2_goThrough 74 = .ok (.dup2, 1) := by decide +kernel
theorem dX2_goThrough_75 : decode cX2_goThrough 75 = .ok (.iaload, 1) := by decide +kernel
theorem dX2_goThrough_76 : decode cX2_goThrough 76 = .ok (.iconst 1, 1) := by decide +kernel
theorem dX2_goThrough_77 : decode cX2_goThrough 77 = .ok (.iadd, 1) := by decide +kernel
theorem dX2_goThrough_78 : decode cX2_goThrough 78 = .ok (.iastore, 1) := by decide +kernel
theorem dX2_goThrough_79 : decode cX2_goThrough 79 = .ok (.iinc 4 1, 3) := by decide +kernel
theorem dX2_goThrough_82 : decode cX2_goThrough 82 = .ok (.goto (-42), 3) := by decide +kernel
theorem dX2_goThrough_85 : decode cX2_goThrough 85 = .ok (.aload_n 3, 1) := by decide +kernel
theorem dX2_goThrough_86 : decode cX2_goThrough 86 = .ok (.iconst 0, 1) := by decide +kernel
theorem dX2_goThrough_87 : decode cX2_goThrough 87 = .ok (.aaload, 1) := by decide +kernel
theorem dX2_goThrough_88 : decode cX2_goThrough 88 = .ok (.aload_n 1, 1) := by decide +kernel
theorem dX2_goThrough_89 : decode cX2_goThrough 89 = .ok (.invokevirtual 41, 3) := by decide +kernel
theorem dX2_goThrough_92 : decode cX2_goThrough 92 = .ok (.aload_n 0, 1) := by decide +kernel
theorem dX2_goThrough_93 : decode cX2_goThrough 93 = .ok (.aload_n 1, 1) := by decide +kernel
theorem dX2_goThrough_94 : decode cX2_goThrough 94 = .ok (.aload_n 3, 1) := by decide +kernel
theorem dX2_goThrough_95 : decode cX2_goThrough 95 = .ok (.iconst 0, 1) := by decide +kernel
theorem dX2_goThrough_96 : decode cX2_goThrough 96 = .ok (.invokevirtual 47, 3) := by decide +kernel
theorem dX2_goThrough_99 : decode cX2_goThrough 99 = .ok (.return_, 1) := by decide +kernel
theorem dX2_goOn_0 : decode cX2_goOn 0 = .ok (.iload_n 3, 1) := by decide +kernel
theorem dX2_goOn_1 : decode cX2_goOn 1 = .ok (.aload_n 0, 1) := by decide +kernel
theorem dX2_goOn_2 : decode cX2_goOn 2 = .ok (.getfield 21, 3) := by decide +kernel
theorem dX2_goOn_5 : decode cX2_goOn 5 = .ok (.if_icmp .lt 11, 3) := by decide +kernel
theorem dX2_goOn_8 : decode cX2_goOn 8 = .ok (.aload_n 0, 1) := by decide +kernel
theorem dX2_goOn_9 : decode cX2_goOn 9 = .ok (.aload_n 2, 1) := by decide +kernel
theorem dX2_goOn_10 : decode cX2_goOn 10 = .ok (.iload_n 3, 1) := by decide +kernel
theorem dX2_goOn_11 : decode cX2_goOn 11 = .ok (.aaload, 1) := by decide +kernel
theorem dX2_goOn_12 : decode cX2_goOn 12 = .ok (.invokevirtual 51, 3) := by decide +kernel
theorem dX2_goOn_15 : decode cX2_goOn 15 = .ok (.return_, 1) := by decide +kernel
theorem dX2_goOn_16 : decode cX2_goOn 16 = .ok (.iconst 0, 1) := by decide +kernel
theorem dX2_goOn_17 : decode cX2_goOn 17 = .ok (.istore 4, 2) := by decide +kernel
theorem dX2_goOn_19 : decode cX2_goOn 19 = .ok (.iload 4, 2) := by decide +kernel
theorem dX2_goOn_21 : decode cX2_goOn 21 = .ok (.bipush 7, 2) := by decide +kernel
theorem dX2_goOn_23 : decode cX2_goOn 23 = .ok (.if_icmp .ge 101, 3) := by decide +kernel
theorem dX2_goOn_26 : decode cX2_goOn 26 = .ok (.aload_n 0, 1) := by decide +kernel
theorem dX2_goOn_27 : decode cX2_goOn 27 = .ok (.getfield 18, 3) := by decide +kernel
theorem dX2_goOn_30 : decode cX2_goOn 30 = .ok (.iload 4, 2) := by decide +kernel
theorem dX2_goOn_32 : decode cX2_goOn 32 = .ok (.iaload, 1) := by decide +kernel
theorem dX2_goOn_33 : decode cX2_goOn 33 = .ok (.ifCond .le 85, 3) := by decide +kernel
theorem dX2_goOn_36 : decode cX2_goOn 36 = .ok (.aload_n 0, 1) := by decide +kernel
theorem dX2_goOn_37 : decode cX2_goOn 37 = .ok (.getfield 9, 3) := by decide +kernel
theorem dX2_goOn_40 : decode cX2_goOn 40 = .ok (.iload_n 3, 1) := by decide +kernel
theorem dX2_goOn_41 : decode cX2_goOn 41 = .ok (.getstatic 55, 3) := by decide +kernel
theorem dX2_goOn_44 : decode cX2_goOn 44 = .ok (.iload 4, 2) := by decide +kernel
theorem dX2_goOn_46 : decode cX2_goOn 46 = .ok (.caload, 1) := by decide +kernel
theorem dX2_goOn_47 : decode cX2_goOn 47 = .ok (.iastore, 1) := by decide +kernel
theorem dX2_goOn_48 : decode cX2_goOn 48 = .ok (.aload_n 2, 1) := by decide +kernel
theorem dX2_goOn_49 : decode cX2_goOn 49 = .ok (.iload_n 3, 1) := by decide +kernel
theorem dX2_goOn_50 : decode cX2_goOn 50 = .ok (.iconst 1, 1) := by decide +kernel
theorem dX2_goOn_51 : decode cX2_goOn 51 = .ok (.iadd, 1) := by decide +kernel
theorem dX2_goOn_52 : decode cX2_goOn 52 = .ok (.aaload, 1) := by decide +kernel
theorem dX2_goOn_53 : decode cX2_goOn 53 = .ok (.astore 5, 2) := by decide +kernel
theorem dX2_goOn_55 : decode cX2_goOn 55 = .ok (.aload 5, 2) := by decide +kernel
theorem dX2_goOn_57 : decode cX2_goOn 57 = .ok (.aload_n 2, 1) := by decide +kernel
theorem dX2_goOn_58 : decode cX2_goOn 58 = .ok (.iload_n 3, 1) := by decide +kernel
theorem dX2_goOn_59 : decode cX2_goOn 59 = .ok (.aaload, 1) := by decide +kernel
theorem dX2_goOn_60 : decode cX2_goOn 60 = .ok (.invokevirtual 59, 3) := by decide +kernel
theorem dX2_goOn_63 : decode cX2_goOn 63 = .ok (.aload 5, 2) := by decide +kernel
theorem dX2_goOn_65 : decode cX2_goOn 65 = .ok (.aload_n 1, 1) := by decide +kernel
theorem dX2_goOn_66 : decode cX2_goOn 66 = .ok (.aload_n 0, 1) := by decide +kernel
theorem dX2_goOn_67 : decode cX2_goOn 67 = .ok (.getfield 9, 3) := by decide +kernel
theorem dX2_goOn_70 : decode cX2_goOn 70 = .ok (.iload_n 3, 1) := by decide +kernel
theorem dX2_goOn_71 : decode cX2_goOn 71 = .ok (.iaload, 1) := by decide +kernel
theorem dX2_goOn_72 : decode cX2_goOn 72 = .ok (.iconst 0, 1) := by decide +kernel
theorem dX2_goOn_73 : decode cX2_goOn 73 = .ok (.invokevirtual 62, 3) := by decide +kernel
theorem dX2_goOn_76 : decode cX2_goOn 76 = .ok (.aload_n 0, 1) := by decide +kernel
theorem dX2_goOn_77 : decode cX2_goOn 77 = .ok (.aload_n 1, 1) := by decide +kernel
theorem dX2_goOn_78 : decode cX2_goOn 78 = .ok (.aload 5, 2) := by decide +kernel
theorem dX2_goOn_80 : decode cX2_goOn 80 = .ok (.iload_n 3, 1) := by decide +kernel
theorem dX2_goOn_81 : decode cX2_goOn 81 = .ok (.invokevirtual 66, 3) := by decide +kernel
theorem dX2_goOn_84 : decode cX2_goOn 84 = .ok (.ifCond .eq 34, 3) := by decide +kernel
theorem dX2_goOn_87 : decode cX2_goOn 87 = .ok (.aload_n 0, 1) := by decide +kernel
theorem dX2_goOn_88 : decode cX2_goOn 88 = .ok (.getfield 18, 3) := by decide +kernel
theorem dX2_goOn_91 : decode cX2_goOn 91 = .ok (.iload 4, 2) := by decide +kernel
theorem dX2_goOn_93 : decode cX2_goOn 93 = .ok (.dup2, 1) := by decide +kernel
theorem dX2_goOn_94 : decode cX2_goOn 94 = .ok (.iaload, 1) := by decide +kernel
theorem dX2_goOn_95 : decode cX2_goOn 95 = .ok (.iconst 1, 1) := by decide +kernel
theorem dX2_goOn_96 : decode cX2_goOn 96 = .ok (.isub, 1) := by decide +kernel
theorem dX2_goOn_97 : decode cX2_goOn 97 = .ok (.iastore, 1) := by decide +kernel
theorem dX2_goOn_98 : decode cX2_goOn 98 = .ok (.aload_n 0, 1) := by decide +kernel
theorem dX2_goOn_99 : decode cX2_goOn 99 = .ok (.aload_n 1, 1) := by decide +kernel
theorem dX2_goOn_100 : decode cX2_goOn 100 = .ok (.aload_n 2, 1) := by decide +kernel
theorem dX2_goOn_101 : decode cX2_goOn 101 = .ok (.iload_n 3, 1) := by decide +kernel
theorem dX2_goOn_102 : decode cX2_goOn 102 = .ok (.iconst 1, 1) := by decide +kernel
theorem dX2_goOn_103 : decode cX2_goOn 103 = .ok (.iadd, 1) := by decide +kernel
theorem dX2_goOn_104 : decode cX2_goOn 104 = .ok (.invokevirtual 47, 3) := by decide +kernel
theorem dX2_goOn_107 : decode cX2_goOn 107 = .ok (.aload_n 0, 1) := by decide +kernel
theorem dX2_goOn_108 : decode cX2_goOn 108 = .ok (.getfield 18, 3) := by decide +kernel
theorem dX2_goOn_111 : decode cX2_goOn 111 = .ok (.iload 4, 2) := by decide +kernel
theorem dX2_goOn_113 : decode cX2_goOn 113 = .ok (.dup2, 1) := by decide +kernel
theorem dX2_goOn_114 : decode cX2_goOn 114 = .ok (.iaload, 1) := by decide +kernel
theorem dX2_goOn_115 : decode cX2_goOn 115 = .ok (.iconst 1, 1) := by decide +kernel
theorem dX2_goOn_116 : decode cX2_goOn 116 = .ok (.iadd, 1) := by decide +kernel
theorem dX2_goOn_117 : decode cX2_goOn 117 = .ok (.iastore, 1) := by decide +kernel
theorem dX2_goOn_118 : decode cX2_goOn 118 = .ok (.iinc 4 1, 3) := by decide +kernel
theorem dX2_goOn_121 : decode cX2_goOn 121 = .ok (.goto (-102), 3) := by decide +kernel
theorem dX2_goOn_124 : decode cX2_goOn 124 = .ok (.return_, 1) := by decide +kernel
theorem dX2_keepAsFirst_0 : decode cX2_keepAsFirst 0 = .ok (.aload_n 0, 1) := by decide +kernel
theorem dX2_keepAsFirst_1 : decode cX2_keepAsFirst 1 = .ok (.getfield 9, 3) := by decide +kernel
theorem dX2_keepAsFirst_4 : decode cX2_keepAsFirst 4 = .ok (.iconst 0, 1) := by decide +kernel
theorem dX2_keepAsFirst_5 : decode cX2_keepAsFirst 5 = .ok (.aload_n 0, 1) := by decide +kernel
theorem dX2_keepAsFirst_6 : decode cX2_keepAsFirst 6 = .ok (.getfield 15, 3) := by decide +kernel
theorem dX2_keepAsFirst_9 : decode cX2_keepAsFirst 9 = .ok (.iconst 0, 1) := by decide +kernel
theorem dX2_keepAsFirst_10 : decode cX2_keepAsFirst 10 = .ok (.aload_n 0, 1) := by decide +kernel
theorem dX2_keepAsFirst_11 : decode cX2_keepAsFirst 11 = .ok (.getfield 21, 3) := by decide +kernel
theorem dX2_keepAsFirst_14 : decode cX2_keepAsFirst 14 = .ok (.invokestatic 70, 3) := by decide +kernel
theorem dX2_keepAsFirst_17 : decode cX2_keepAsFirst 17 = .ok (.return_, 1) := by decide +kernel
theorem dX3_init_0 : decode cX3_init 0 = .ok (.aload_n 0, 1) := by decide +kernel
theorem dX3_init_1 : decode cX3_init 1 = .ok (.invokespecial 3, 3) := by decide +kernel
theorem dX3_init_4 : decode cX3_init 4 = .ok (.aload_n 0, 1) := by decide +kernel
theorem dX3_init_5 : decode cX3_init 5 = .ok (.bipush 60, 2) := by decide +kernel
theorem dX3_init_7 : decode cX3_init 7 = .ok (.newarray .int, 2) := by decide +kernel
theorem dX3_init_9 : decode cX3_init 9 = .ok (.putfield 9, 3) := by decide +kernel
theorem dX3_init_12 : decode cX3_init 12 = .ok (.aload_n 0, 1) := by decide +kernel
theorem dX3_init_13 : decode cX3_init 13 = .ok (.iconst 0, 1) := by decide +kernel
theorem dX3_init_14 : decode cX3_init 14 = .ok (.putfield 15, 3) := by decide +kernel
theorem dX3_init_17 : decode cX3_init 17 = .ok (.return_, 1) := by decide +kernel
theorem dX3_firstFault_0 : decode cX3_firstFault 0 = .ok (.iconst 0, 1) := by decide +kernel
theorem dX3_firstFault_1 : decode cX3_firstFault 1 = .ok (.istore_n 1, 1) := by decide +kernel
theorem dX3_firstFault_2 : decode cX3_firstFault 2 = .ok (.iload_n 1, 1) := by decide +kernel
theorem dX3_firstFault_3 : decode cX3_firstFault 3 = .ok (.aload_n 0, 1) := by decide +kernel
theorem dX3_firstFault_4 : decode cX3_firstFault 4 = .ok (.getfield 15, 3) := by decide +kernel
theorem dX3_firstFault_7 : decode cX3_firstFault 7 = .ok (.if_icmp .ge 25, 3) := by decide +kernel
theorem dX3_firstFault_10 : decode cX3_firstFault 10 = .ok (.aload_n 0, 1) := by decide +kernel
theorem dX3_firstFault_11 : decode cX3_firstFault 11 = .ok (.getfield 9, 3) := by decide +kernel
theorem dX3_firstFault_14 : decode cX3_firstFault 14 = .ok (.iload_n 1, 1) := by decide +kernel
theorem dX3_firstFault_15 : decode cX3_firstFault 15 = .ok (.iaload, 1) := by decide +kernel
theorem dX3_firstFault_16 : decode cX3_firstFault 16 = .ok (.invokestatic 19, 3) := by decide +kernel
theorem dX3_firstFault_19 : decode cX3_firstFault 19 = .ok (.bipush (-6), 2) := by decide +kernel
theorem dX3_firstFault_21 : decode cX3_firstFault 21 = .ok (.if_icmp .ne 5, 3) := by decide +kernel
theorem dX3_firstFault_24 : decode cX3_firstFault 24 = .ok (.iload_n 1, 1) := by decide +kernel
theorem dX3_firstFault_25 : decode cX3_firstFault 25 = .ok (.ireturn, 1) := by decide +kernel
theorem dX3_firstFault_26 : decode cX3_firstFault 26 = .ok (.iinc 1 1, 3) := by decide +kernel
theorem dX3_firstFault_29 : decode cX3_firstFault 29 = .ok (.goto (-27), 3) := by decide +kernel
theorem dX3_firstFault_32 : decode cX3_firstFault 32 = .ok (.bipush (-6), 2) := by decide +kernel
theorem dX3_firstFault_34 : decode cX3_firstFault 34 = .ok (.ireturn, 1) := by decide +kernel
theorem dX3_hasFault_0 : decode cX3_hasFault 0 = .ok (.aload_n 0, 1) := by decide +kernel
theorem dX3_hasFault_1 : decode cX3_hasFault 1 = .ok (.invokevirtual 23, 3) := by decide +kernel
theorem dX3_hasFault_4 : decode cX3_hasFault 4 = .ok (.bipush (-6), 2) := by decide +kernel
theorem dX3_hasFault_6 : decode cX3_hasFault 6 = .ok (.if_icmp .eq 7, 3) := by decide +kernel
theorem dX3_hasFault_9 : decode cX3_hasFault 9 = .ok (.iconst 1, 1) := by decide +kernel
theorem dX3_hasFault_10 : decode cX3_hasFault 10 = .ok (.goto 4, 3) := by decide +kernel
theorem dX3_hasFault_13 : decode cX3_hasFault 13 = .ok (.iconst 0, 1) := by decide +kernel
theorem dX3_hasFault_14 : decode cX3_hasFault 14 = .ok (.ireturn, 1) := by decide +kernel
theorem dX3_kindOf_0 : decode cX3_kindOf 0 = .ok (.iconst 0, 1) := by decide +kernel
theorem dX3_kindOf_1 : decode cX3_kindOf 1 = .ok (.istore_n 1, 1) := by decide +kernel
theorem dX3_kindOf_2 : decode cX3_kindOf 2 = .ok (.iload_n 1, 1) := by decide +kernel
theorem dX3_kindOf_3 : decode cX3_kindOf 3 = .ok (.bipush 7, 2) := by decide +kernel
theorem dX3_kindOf_5 : decode cX3_kindOf 5 = .ok (.if_icmp .ge 20, 3) := by decide +kernel
theorem dX3_kindOf_8 : decode cX3_kindOf 8 = .ok (.getstatic 27, 3) := by decide +kernel
theorem dX3_kindOf_11 : decode cX3_kindOf 11 = .ok (.iload_n 1, 1) := by decide +kernel
theorem dX3_kindOf_12 : decode cX3_kindOf 12 = .ok (.caload, 1) := by decide +kernel
theorem dX3_kindOf_13 : decode cX3_kindOf 13 = .ok (.iload_n 0, 1) := by decide +kernel
theorem dX3_kindOf_14 : decode cX3_kindOf 14 = .ok (.if_icmp .ne 5, 3) := by decide +kernel
theorem dX3_kindOf_17 : decode cX3_kindOf 17 = .ok (.iload_n 1, 1) := by decide +kernel
theorem dX3_kindOf_18 : decode cX3_kindOf 18 = .ok (.ireturn, 1) := by decide +kernel
theorem dX3_kindOf_19 : decode cX3_kindOf 19 = .ok (.iinc 1 1, 3) := by decide +kernel
theorem dX3_kindOf_22 : decode cX3_kindOf 22 = .ok (.goto (-20), 3) := by decide +kernel
theorem dX3_kindOf_25 : decode cX3_kindOf 25 = .ok (.bipush (-6), 2) := by decide +kernel
theorem dX3_kindOf_27 : decode cX3_kindOf 27 = .ok (.ireturn, 1) := by decide +kernel
theorem dX4_init_0 : decode cX4_init 0 = .ok (.aload_n 0, 1) := by decide +kernel
theorem dX4_init_1 : decode cX4_init 1 = .ok (.invokespecial 3, 3) := by decide +kernel
theorem dX4_init_4 : decode cX4_init 4 = .ok (.aload_n 0, 1) := by decide +kernel
theorem dX4_init_5 : decode cX4_init 5 = .ok (.iconst 2, 1) := by decide +kernel
theorem dX4_init_6 : decode cX4_init 6 = .ok (.putfield 9, 3) := by decide +kernel
theorem dX4_init_9 : decode cX4_init 9 = .ok (.aload_n 0, 1) := by decide +kernel
theorem dX4_init_10 : decode cX4_init 10 = .ok (.iconst 4, 1) := by decide +kernel
theorem dX4_init_11 : decode cX4_init 11 = .ok (.putfield 15, 3) := by decide +kernel
theorem dX4_init_14 : decode cX4_init 14 = .ok (.aload_n 0, 1) := by decide +kernel
theorem dX4_init_15 : decode cX4_init 15 = .ok (.iconst 1, 1) := by decide +kernel
theorem dX4_init_16 : decode cX4_init 16 = .ok (.putfield 18, 3) := by decide +kernel
theorem dX4_init_19 : decode cX4_init 19 = .ok (.aload_n 0, 1) := by decide +kernel
theorem dX4_init_20 : decode cX4_init 20 = .ok (.iconst 0, 1) := by decide +kernel
theorem dX4_init_21 : decode cX4_init 21 = .ok (.putfield 21, 3) := by decide +kernel
theorem dX4_init_24 : decode cX4_init 24 = .ok (.aload_n 0, 1) := by decide +kernel
theorem dX4_init_25 : decode cX4_init 25 = .ok (.iconst 0, 1) := by decide +kernel
theorem dX4_init_26 : decode cX4_init 26 = .ok (.putfield 24, 3) := by decide +kernel
theorem dX4_init_29 : decode cX4_init 29 = .ok (.aload_n 0, 1) := by decide +kernel
theorem dX4_init_30 : decode cX4_init 30 = .ok (.iconst 0, 1) := by decide +kernel
theorem dX4_init_31 : decode cX4_init 31 = .ok (.putfield 27, 3) := by decide +kernel
theorem dX4_init_34 : decode cX4_init 34 = .ok (.aload_n 0, 1) := by decide +kernel
theorem dX4_init_35 : decode cX4_init 35 = .ok (.iconst 0, 1) := by decide +kernel
theorem dX4_init_36 : decode cX4_init 36 = .ok (.putfield 30, 3) := by decide +kernel
theorem dX4_init_39 : decode cX4_init 39 = .ok (.aload_n 0, 1) := by decide +kernel
theorem dX4_init_40 : decode cX4_init 40 = .ok (.bipush 8, 2) := by decide +kernel
theorem dX4_init_42 : decode cX4_init 42 = .ok (.newarray .int, 2) := by decide +kernel
theorem dX4_init_44 : decode cX4_init 44 = .ok (.putfield 33, 3) := by decide +kernel
theorem dX4_init_47 : decode cX4_init 47 = .ok (.aload_n 0, 1) := by decide +kernel
theorem dX4_init_48 : decode cX4_init 48 = .ok (.bipush 8, 2) := by decide +kernel
theorem dX4_init_50 : decode cX4_init 50 = .ok (.newarray .int, 2) := by decide +kernel
theorem dX4_init_52 : decode cX4_init 52 = .ok (.putfield 37, 3) := by decide +kernel
theorem dX4_init_55 : decode cX4_init 55 = .ok (.aload_n 0, 1) := by decide +kernel
theorem dX4_init_56 : decode cX4_init 56 = .ok (.bipush 8, 2) := by decide +kernel
theorem dX4_init_58 : decode cX4_init 58 = .ok (.newarray .int, 2) := by decide +kernel
theorem dX4_init_60 : decode cX4_init 60 = .ok (.putfield 40, 3) := by decide +kernel
theorem dX4_init_63 : decode cX4_init 63 = .ok (.aload_n 0, 1) := by decide +kernel
theorem dX4_init_64 : decode cX4_init 64 = .ok (.bipush 8, 2) := by decide +kernel
theorem dX4_init_66 : decode cX4_init 66 = .ok (.newarray .int, 2) := by decide +kernel
theorem dX4_init_68 : decode cX4_init 68 = .ok (.putfield 43, 3) := by decide +kernel
theorem dX4_init_71 : decode cX4_init 71 = .ok (.aload_n 0, 1) := by decide +kernel
theorem dX4_init_72 : decode cX4_init 72 = .ok (.bipush 8, 2) := by decide +kernel
theorem dX4_init_74 : decode cX4_init 74 = .ok (.newarray .int, 2) := by decide +kernel
theorem dX4_init_76 : decode cX4_init 76 = .ok (.putfield 46, 3) := by decide +kernel
theorem dX4_init_79 : decode cX4_init 79 = .ok (.aload_n 0, 1) := by decide +kernel
theorem dX4_init_80 : decode cX4_init 80 = .ok (.bipush 8, 2) := by decide +kernel
theorem dX4_init_82 : decode cX4_init 82 = .ok (.newarray .int, 2) := by decide +kernel
theorem dX4_init_84 : decode cX4_init 84 = .ok (.putfield 49, 3) := by decide +kernel
theorem dX4_init_87 : decode cX4_init 87 = .ok (.return_, 1) := by decide +kernel
theorem dX4_become_0 : decode cX4_become 0 = .ok (.aload_n 0, 1) := by decide +kernel
theorem dX4_become_1 : decode cX4_become 1 = .ok (.aload_n 1, 1) := by decide +kernel
theorem dX4_become_2 : decode cX4_become 2 = .ok (.getfield 9, 3) := by decide +kernel
theorem dX4_become_5 : decode cX4_become 5 = .ok (.putfield 9, 3) := by decide +kernel
theorem dX4_become_8 : decode cX4_become 8 = .ok (.aload_n 0, 1) := by decide +kernel
theorem dX4_become_9 : decode cX4_become 9 = .ok (.aload_n 1, 1) := by decide +kernel
theorem dX4_become_10 : decode cX4_become 10 = .ok (.getfield 15, 3) := by decide +kernel
theorem dX4_become_13 : decode cX4_become 13 = .ok (.putfield 15, 3) := by decide +kernel
theorem dX4_become_16 : decode cX4_become 16 = .ok (.aload_n 0, 1) := by decide +kernel
theorem dX4_become_17 : decode cX4_become 17 = .ok (.aload_n 1, 1) := by decide +kernel
theorem dX4_become_18 : decode cX4_become 18 = .ok (.getfield 18, 3) := by decide +kernel
theorem dX4_become_21 : decode cX4_become 21 = .ok (.putfield 18, 3) := by decide +kernel
theorem dX4_become_24 : decode cX4_become 24 = .ok (.aload_n 0, 1) := by decide +kernel
theorem dX4_become_25 : decode cX4_become 25 = .ok (.aload_n 1, 1) := by decide +kernel
theorem dX4_become_26 : decode cX4_become 26 = .ok (.getfield 21, 3) := by decide +kernel
theorem dX4_become_29 : decode cX4_become 29 = .ok (.putfield 21, 3) := by decide +kernel
theorem dX4_become_32 : decode cX4_become 32 = .ok (.aload_n 0, 1) := by decide +kernel
theorem dX4_become_33 : decode cX4_become 33 = .ok (.aload_n 1, 1) := by decide +kernel
theorem dX4_become_34 : decode cX4_become 34 = .ok (.getfield 24, 3) := by decide +kernel
theorem dX4_become_37 : decode cX4_become 37 = .ok (.putfield 24, 3) := by decide +kernel
theorem dX4_become_40 : decode cX4_become 40 = .ok (.aload_n 0, 1) := by decide +kernel
theorem dX4_become_41 : decode cX4_become 41 = .ok (.aload_n 1, 1) := by decide +kernel
theorem dX4_become_42 : decode cX4_become 42 = .ok (.getfield 27, 3) := by decide +kernel
theorem dX4_become_45 : decode cX4_become 45 = .ok (.putfield 27, 3) := by decide +kernel
theorem dX4_become_48 : decode cX4_become 48 = .ok (.aload_n 0, 1) := by decide +kernel
theorem dX4_become_49 : decode cX4_become 49 = .ok (.aload_n 1, 1) := by decide +kernel
theorem dX4_become_50 : decode cX4_become 50 = .ok (.getfield 30, 3) := by decide +kernel
theorem dX4_become_53 : decode cX4_become 53 = .ok (.putfield 30, 3) := by decide +kernel
theorem dX4_become_56 : decode cX4_become 56 = .ok (.aload_n 1, 1) := by decide +kernel
theorem dX4_become_57 : decode cX4_become 57 = .ok (.getfield 33, 3) := by decide +kernel
theorem dX4_become_60 : decode cX4_become 60 = .ok (.iconst 0, 1) := by decide +kernel
theorem dX4_become_61 : decode cX4_become 61 = .ok (.aload_n 0, 1) := by decide +kernel
theorem dX4_become_62 : decode cX4_become 62 = .ok (.getfield 33, 3) := by decide +kernel
theorem dX4_become_65 : decode cX4_become 65 = .ok (.iconst 0, 1) := by decide +kernel
theorem dX4_become_66 : decode cX4_become 66 = .ok (.bipush 8, 2) := by decide +kernel
theorem dX4_become_68 : decode cX4_become 68 = .ok (.invokestatic 52, 3) := by decide +kernel
theorem dX4_become_71 : decode cX4_become 71 = .ok (.aload_n 1, 1) := by decide +kernel
theorem dX4_become_72 : decode cX4_become 72 = .ok (.getfield 37, 3) := by decide +kernel
theorem dX4_become_75 : decode cX4_become 75 = .ok (.iconst 0, 1) := by decide +kernel
theorem dX4_become_76 : decode cX4_become 76 = .ok (.aload_n 0, 1) := by decide +kernel
theorem dX4_become_77 : decode cX4_become 77 = .ok (.getfield 37, 3) := by decide +kernel
theorem dX4_become_80 : decode cX4_become 80 = .ok (.iconst 0, 1) := by decide +kernel
theorem dX4_become_81 : decode cX4_become 81 = .ok (.bipush 8, 2) := by decide +kernel
theorem dX4_become_83 : decode cX4_become 83 = .ok (.invokestatic 52, 3) := by decide +kernel
theorem dX4_become_86 : decode cX4_become 86 = .ok (.aload_n 1, 1) := by decide +kernel
theorem dX4_become_87 : decode cX4_become 87 = .ok (.getfield 40, 3) := by decide +kernel
theorem dX4_become_90 : decode cX4_become 90 = .ok (.iconst 0, 1) := by decide +kernel
theorem dX4_become_91 : decode cX4_become 91 = .ok (.aload_n 0, 1) := by decide +kernel
theorem dX4_become_92 : decode cX4_become 92 = .ok (.getfield 40, 3) := by decide +kernel
theorem dX4_become_95 : decode cX4_become 95 = .ok (.iconst 0, 1) := by decide +kernel
theorem dX4_become_96 : decode cX4_become 96 = .ok (.bipush 8, 2) := by decide +kernel
theorem dX4_become_98 : decode cX4_become 98 = .ok (.invokestatic 52, 3) := by decide +kernel
theorem dX4_become_101 : decode cX4_become 101 = .ok (.aload_n 1, 1) := by decide +kernel
theorem dX4_become_102 : decode cX4_become 102 = .ok (.getfield 43, 3) := by decide +kernel
theorem dX4_become_105 : decode cX4_become 105 = .ok (.iconst 0, 1) := by decide +kernel
theorem dX4_become_106 : decode cX4_become 106 = .ok (.aload_n 0, 1) := by decide +kernel
theorem dX4_become_107 : decode cX4_become 107 = .ok (.getfield 43, 3) := by decide +kernel
theorem dX4_become_110 : decode cX4_become 110 = .ok (.iconst 0, 1) := by decide +kernel
theorem dX4_become_111 : decode cX4_become 111 = .ok (.bipush 8, 2) := by decide +kernel
theorem dX4_become_113 : decode cX4_become 113 = .ok (.invokestatic 52, 3) := by decide +kernel
theorem dX4_become_116 : decode cX4_become 116 = .ok (.aload_n 1, 1) := by decide +kernel
theorem dX4_become_117 : decode cX4_become 117 = .ok (.getfield 46, 3) := by decide +kernel
theorem dX4_become_120 : decode cX4_become 120 = .ok (.iconst 0, 1) := by decide +kernel
theorem dX4_become_121 : decode cX4_become 121 = .ok (.aload_n 0, 1) := by decide +kernel
theorem dX4_become_122 : decode cX4_become 122 = .ok (.getfield 46, 3) := by decide +kernel
theorem dX4_become_125 : decode cX4_become 125 = .ok (.iconst 0, 1) := by decide +kernel
theorem dX4_become_126 : decode cX4_become 126 = .ok (.bipush 8, 2) := by decide +kernel
theorem dX4_become_128 : decode cX4_become 128 = .ok (.invokestatic 52, 3) := by decide +kernel
theorem dX4_become_131 : decode cX4_become 131 = .ok (.aload_n 1, 1) := by decide +kernel
theorem dX4_become_132 : decode cX4_become 132 = .ok (.getfield 49, 3) := by decide +kernel
theorem dX4_become_135 : decode cX4_become 135 = .ok (.iconst 0, 1) := by decide +kernel
theorem dX4_become_136 : decode cX4_become 136 = .ok (.aload_n 0, 1) := by decide +kernel
theorem dX4_become_137 : decode cX4_become 137 = .ok (.getfield 49, 3) := by decide +kernel
theorem dX4_become_140 : decode cX4_become 140 = .ok (.iconst 0, 1) := by decide +kernel
theorem dX4_become_141 : decode cX4_become 141 = .ok (.bipush 8, 2) := by decide +kernel
theorem dX4_become_143 : decode cX4_become 143 = .ok (.invokestatic 52, 3) := by decide +kernel
theorem dX4_become_146 : decode cX4_become 146 = .ok (.return_, 1) := by decide +kernel
theorem dX4_rebuild_0 : decode cX4_rebuild 0 = .ok (.aload_n 0, 1) := by decide +kernel
theorem dX4_rebuild_1 : decode cX4_rebuild 1 = .ok (.iload_n 1, 1) := by decide +kernel
theorem dX4_rebuild_2 : decode cX4_rebuild 2 = .ok (.putfield 9, 3) := by decide +kernel
theorem dX4_rebuild_5 : decode cX4_rebuild 5 = .ok (.aload_n 0, 1) := by decide +kernel
theorem dX4_rebuild_6 : decode cX4_rebuild 6 = .ok (.iconst 0, 1) := by decide +kernel
theorem dX4_rebuild_7 : decode cX4_rebuild 7 = .ok (.putfield 21, 3) := by decide +kernel
theorem dX4_rebuild_10 : decode cX4_rebuild 10 = .ok (.aload_n 0, 1) := by decide +kernel
theorem dX4_rebuild_11 : decode cX4_rebuild 11 = .ok (.iconst 0, 1) := by decide +kernel
theorem dX4_rebuild_12 : decode cX4_rebuild 12 = .ok (.putfield 24, 3) := by decide +kernel
theorem dX4_rebuild_15 : decode cX4_rebuild 15 = .ok (.aload_n 0, 1) := by decide +kernel
theorem dX4_rebuild_16 : decode cX4_rebuild 16 = .ok (.iconst 0, 1) := by decide +kernel
theorem dX4_rebuild_17 : decode cX4_rebuild 17 = .ok (.putfield 27, 3) := by decide +kernel
theorem dX4_rebuild_20 : decode cX4_rebuild 20 = .ok (.aload_n 0, 1) := by decide +kernel
theorem dX4_rebuild_21 : decode cX4_rebuild 21 = .ok (.iconst 0, 1) := by decide +kernel
theorem dX4_rebuild_22 : decode cX4_rebuild 22 = .ok (.putfield 30, 3) := by decide +kernel
theorem dX4_rebuild_25 : decode cX4_rebuild 25 = .ok (.return_, 1) := by decide +kernel
theorem dX4_changeReach_0 : decode cX4_changeReach 0 = .ok (.aload_n 0, 1) := by decide +kernel
theorem dX4_changeReach_1 : decode cX4_changeReach 1 = .ok (.getfield 15, 3) := by decide +kernel
theorem dX4_changeReach_4 : decode cX4_changeReach 4 = .ok (.istore_n 2, 1) := by decide +kernel
theorem dX4_changeReach_5 : decode cX4_changeReach 5 = .ok (.aload_n 0, 1) := by decide +kernel
theorem dX4_changeReach_6 : decode cX4_changeReach 6 = .ok (.iload_n 1, 1) := by decide +kernel
theorem dX4_changeReach_7 : decode cX4_changeReach 7 = .ok (.putfield 15, 3) := by decide +kernel
theorem dX4_changeReach_10 : decode cX4_changeReach 10 = .ok (.iload_n 2, 1) := by decide +kernel
theorem dX4_changeReach_11 : decode cX4_changeReach 11 = .ok (.ireturn, 1) := by decide +kernel
theorem dX4_changeRate_0 : decode cX4_changeRate 0 = .ok (.aload_n 0, 1) := by decide +kernel
theorem dX4_changeRate_1 : decode cX4_changeRate 1 = .ok (.getfield 18, 3) := by decide +kernel
theorem dX4_changeRate_4 : decode cX4_changeRate 4 = .ok (.istore_n 2, 1) := by decide +kernel
theorem dX4_changeRate_5 : decode cX4_changeRate 5 = .ok (.aload_n 0, 1) := by decide +kernel
theorem dX4_changeRate_6 : decode cX4_changeRate 6 = .ok (.iload_n 1, 1) := by decide +kernel
theorem dX4_changeRate_7 : decode cX4_changeRate 7 = .ok (.putfield 18, 3) := by decide +kernel
theorem dX4_changeRate_10 : decode cX4_changeRate 10 = .ok (.iload_n 2, 1) := by decide +kernel
theorem dX4_changeRate_11 : decode cX4_changeRate 11 = .ok (.ireturn, 1) := by decide +kernel
theorem dX4_changeInspector_0 : decode cX4_changeInspector 0 = .ok (.aload_n 0, 1) := by decide +kernel
theorem dX4_changeInspector_1 : decode cX4_changeInspector 1 = .ok (.getfield 21, 3) := by decide +kernel
theorem dX4_changeInspector_4 : decode cX4_changeInspector 4 = .ok (.istore_n 2, 1) := by decide +kernel
theorem dX4_changeInspector_5 : decode cX4_changeInspector 5 = .ok (.aload_n 0, 1) := by decide +kernel
theorem dX4_changeInspector_6 : decode cX4_changeInspector 6 = .ok (.iload_n 1, 1) := by decide +kernel
theorem dX4_changeInspector_7 : decode cX4_changeInspector 7 = .ok (.putfield 21, 3) := by decide +kernel
theorem dX4_changeInspector_10 : decode cX4_changeInspector 10 = .ok (.iload_n 2, 1) := by decide +kernel
theorem dX4_changeInspector_11 : decode cX4_changeInspector 11 = .ok (.ireturn, 1) := by decide +kernel
theorem dX4_addSight_0 : decode cX4_addSight 0 = .ok (.aload_n 0, 1) := by decide +kernel
theorem dX4_addSight_1 : decode cX4_addSight 1 = .ok (.getfield 46, 3) := by decide +kernel
theorem dX4_addSight_4 : decode cX4_addSight 4 = .ok (.aload_n 0, 1) := by decide +kernel
theorem dX4_addSight_5 : decode cX4_addSight 5 = .ok (.getfield 30, 3) := by decide +kernel
theorem dX4_addSight_8 : decode cX4_addSight 8 = .ok (.iload_n 1, 1) := by decide +kernel
theorem dX4_addSight_9 : decode cX4_addSight 9 = .ok (.iastore, 1) := by decide +kernel
theorem dX4_addSight_10 : decode cX4_addSight 10 = .ok (.aload_n 0, 1) := by decide +kernel
theorem dX4_addSight_11 : decode cX4_addSight 11 = .ok (.getfield 49, 3) := by decide +kernel
theorem dX4_addSight_14 : decode cX4_addSight 14 = .ok (.aload_n 0, 1) := by decide +kernel
theorem dX4_addSight_15 : decode cX4_addSight 15 = .ok (.getfield 30, 3) := by decide +kernel
theorem dX4_addSight_18 : decode cX4_addSight 18 = .ok (.iload_n 2, 1) := by decide +kernel
theorem dX4_addSight_19 : decode cX4_addSight 19 = .ok (.iastore, 1) := by decide +kernel
theorem dX4_addSight_20 : decode cX4_addSight 20 = .ok (.aload_n 0, 1) := by decide +kernel
theorem dX4_addSight_21 : decode cX4_addSight 21 = .ok (.dup, 1) := by decide +kernel
theorem dX4_addSight_22 : decode cX4_addSight 22 = .ok (.getfield 30, 3) := by decide +kernel
theorem dX4_addSight_25 : decode cX4_addSight 25 = .ok (.iconst 1, 1) := by decide +kernel
theorem dX4_addSight_26 : decode cX4_addSight 26 = .ok (.iadd, 1) := by decide +kernel
theorem dX4_addSight_27 : decode cX4_addSight 27 = .ok (.putfield 30, 3) := by decide +kernel
theorem dX4_addSight_30 : decode cX4_addSight 30 = .ok (.aload_n 0, 1) := by decide +kernel
theorem dX4_addSight_31 : decode cX4_addSight 31 = .ok (.getfield 30, 3) := by decide +kernel
theorem dX4_addSight_34 : decode cX4_addSight 34 = .ok (.ireturn, 1) := by decide +kernel
theorem dX4_seats_0 : decode cX4_seats 0 = .ok (.aload_n 0, 1) := by decide +kernel
theorem dX4_seats_1 : decode cX4_seats 1 = .ok (.getfield 9, 3) := by decide +kernel
theorem dX4_seats_4 : decode cX4_seats 4 = .ok (.iconst 4, 1) := by decide +kernel
theorem dX4_seats_5 : decode cX4_seats 5 = .ok (.imul, 1) := by decide +kernel
theorem dX4_seats_6 : decode cX4_seats 6 = .ok (.ireturn, 1) := by decide +kernel
theorem dX4_howMany_0 : decode cX4_howMany 0 = .ok (.aload_n 0, 1) := by decide +kernel
theorem dX4_howMany_1 : decode cX4_howMany 1 = .ok (.getfield 24, 3) := by decide +kernel
theorem dX4_howMany_4 : decode cX4_howMany 4 = .ok (.invokestatic 58, 3) := by decide +kernel
theorem dX4_howMany_7 : decode cX4_howMany 7 = .ok (.ireturn, 1) := by decide +kernel
theorem dX4_isThere_0 : decode cX4_isThere 0 = .ok (.iload_n 1, 1) := by decide +kernel
theorem dX4_isThere_1 : decode cX4_isThere 1 = .ok (.ifCond .lt 24, 3) := by decide +kernel
theorem dX4_isThere_4 : decode cX4_isThere 4 = .ok (.iload_n 1, 1) := by decide +kernel
theorem dX4_isThere_5 : decode cX4_isThere 5 = .ok (.bipush 8, 2) := by decide +kernel
theorem dX4_isThere_7 : decode cX4_isThere 7 = .ok (.if_icmp .ge 18, 3) := by decide +kernel
theorem dX4_isThere_10 : decode cX4_isThere 10 = .ok (.aload_n 0, 1) := by decide +kernel
theorem dX4_isThere_11 : decode cX4_isThere 11 = .ok (.getfield 24, 3) := by decide +kernel
theorem dX4_isThere_14 : decode cX4_isThere 14 = .ok (.iload_n 1, 1) := by decide +kernel
theorem dX4_isThere_15 : decode cX4_isThere 15 = .ok (.ishr, 1) := by decide +kernel
theorem dX4_isThere_16 : decode cX4_isThere 16 = .ok (.iconst 1, 1) := by decide +kernel
theorem dX4_isThere_17 : decode cX4_isThere 17 = .ok (.iand, 1) := by decide +kernel
theorem dX4_isThere_18 : decode cX4_isThere 18 = .ok (.ifCond .eq 7, 3) := by decide +kernel
theorem dX4_isThere_21 : decode cX4_isThere 21 = .ok (.iconst 1, 1) := by decide +kernel
theorem dX4_isThere_22 : decode cX4_isThere 22 = .ok (.goto 4, 3) := by decide +kernel
theorem dX4_isThere_25 : decode cX4_isThere 25 = .ok (.iconst 0, 1) := by decide +kernel
theorem dX4_isThere_26 : decode cX4_isThere 26 = .ok (.ireturn, 1) := by decide +kernel
theorem dX4_isUpright_0 : decode cX4_isUpright 0 = .ok (.aload_n 0, 1) := by decide +kernel
theorem dX4_isUpright_1 : decode cX4_isUpright 1 = .ok (.getfield 27, 3) := by decide +kernel
theorem dX4_isUpright_4 : decode cX4_isUpright 4 = .ok (.iload_n 1, 1) := by decide +kernel
theorem dX4_isUpright_5 : decode cX4_isUpright 5 = .ok (.ishr, 1) := by decide +kernel
theorem dX4_isUpright_6 : decode cX4_isUpright 6 = .ok (.iconst 1, 1) := by decide +kernel
theorem dX4_isUpright_7 : decode cX4_isUpright 7 = .ok (.iand, 1) := by decide +kernel
theorem dX4_isUpright_8 : decode cX4_isUpright 8 = .ok (.ifCond .eq 7, 3) := by decide +kernel
theorem dX4_isUpright_11 : decode cX4_isUpright 11 = .ok (.iconst 1, 1) := by decide +kernel
theorem dX4_isUpright_12 : decode cX4_isUpright 12 = .ok (.goto 4, 3) := by decide +kernel
theorem dX4_isUpright_15 : decode cX4_isUpright 15 = .ok (.iconst 0, 1) := by decide +kernel
theorem dX4_isUpright_16 : decode cX4_isUpright 16 = .ok (.ireturn, 1) := by decide +kernel
theorem dX4_sitterAt_0 : decode cX4_sitterAt 0 = .ok (.iconst 0, 1) := by decide +kernel
theorem dX4_sitterAt_1 : decode cX4_sitterAt 1 = .ok (.istore_n 2, 1) := by decide +kernel
theorem dX4_sitterAt_2 : decode cX4_sitterAt 2 = .ok (.iload_n 2, 1) := by decide +kernel
theorem dX4_sitterAt_3 : decode cX4_sitterAt 3 = .ok (.bipush 8, 2) := by decide +kernel
theorem dX4_sitterAt_5 : decode cX4_sitterAt 5 = .ok (.if_icmp .ge 29, 3) := by decide +kernel
theorem dX4_sitterAt_8 : decode cX4_sitterAt 8 = .ok (.aload_n 0, 1) := by decide +kernel
theorem dX4_sitterAt_9 : decode cX4_sitterAt 9 = .ok (.iload_n 2, 1) := by decide +kernel
theorem dX4_sitterAt_10 : decode cX4_sitterAt 10 = .ok (.invokevirtual 64, 3) := by decide +kernel
theorem dX4_sitterAt_13 : decode cX4_sitterAt 13 = .ok (.ifCond .eq 15, 3) := by decide +kernel
theorem dX4_sitterAt_16 : decode cX4_sitterAt 16 = .ok (.aload_n 0, 1) := by decide +kernel
theorem dX4_sitterAt_17 : decode cX4_sitterAt 17 = .ok (.getfield 33, 3) := by decide +kernel
theorem dX4_sitterAt_20 : decode cX4_sitterAt 20 = .ok (.iload_n 2, 1) := by decide +kernel
theorem dX4_sitterAt_21 : decode cX4_sitterAt 21 = .ok (.iaload, 1) := by decide +kernel
theorem dX4_sitterAt_22 : decode cX4_sitterAt 22 = .ok (.iload_n 1, 1) := by decide +kernel
theorem dX4_sitterAt_23 : decode cX4_sitterAt 23 = .ok (.if_icmp .ne 5, 3) := by decide +kernel
theorem dX4_sitterAt_26 : decode cX4_sitterAt 26 = .ok (.iload_n 2, 1) := by decide +kernel
theorem dX4_sitterAt_27 : decode cX4_sitterAt 27 = .ok (.ireturn, 1) := by decide +kernel
theorem dX4_sitterAt_28 : decode cX4_sitterAt 28 = .ok (.iinc 2 1, 3) := by decide +kernel
theorem dX4_sitterAt_31 : decode cX4_sitterAt 31 = .ok (.goto (-29), 3) := by decide +kernel
theorem dX4_sitterAt_34 : decode cX4_sitterAt 34 = .ok (.bipush (-6), 2) := by decide +kernel
theorem dX4_sitterAt_36 : decode cX4_sitterAt 36 = .ok (.ireturn, 1) := by decide +kernel
theorem dX4_named_0 : decode cX4_named 0 = .ok (.aload_n 0, 1) := by decide +kernel
theorem dX4_named_1 : decode cX4_named 1 = .ok (.getfield 24, 3) := by decide +kernel
theorem dX4_named_4 : decode cX4_named 4 = .ok (.invokestatic 58, 3) := by decide +kernel
theorem dX4_named_7 : decode cX4_named 7 = .ok (.istore_n 2, 1) := by decide +kernel
theorem dX4_named_8 : decode cX4_named 8 = .ok (.iload_n 2, 1) := by decide +kernel
theorem dX4_named_9 : decode cX4_named 9 = .ok (.ifCond .ne 6, 3) := by decide +kernel
theorem dX4_named_12 : decode cX4_named 12 = .ok (.bipush (-6), 2) := by decide +kernel
theorem dX4_named_14 : decode cX4_named 14 = .ok (.ireturn, 1) := by decide +kernel
theorem dX4_named_15 : decode cX4_named 15 = .ok (.iload_n 1, 1) := by decide +kernel
theorem dX4_named_16 : decode cX4_named 16 = .ok (.iload_n 2, 1) := by decide +kernel
theorem dX4_named_17 : decode cX4_named 17 = .ok (.irem, 1) := by decide +kernel
theorem dX4_named_18 : decode cX4_named 18 = .ok (.istore_n 3, 1) := by decide +kernel
theorem dX4_named_19 : decode cX4_named 19 = .ok (.iconst 0, 1) := by decide +kernel
theorem dX4_named_20 : decode cX4_named 20 = .ok (.istore 4, 2) := by decide +kernel
theorem dX4_named_22 : decode cX4_named 22 = .ok (.iload 4, 2) := by decide +kernel
theorem dX4_named_24 : decode cX4_named 24 = .ok (.bipush 8, 2) := by decide +kernel
theorem dX4_named_26 : decode cX4_named 26 = .ok (.if_icmp .ge 28, 3) := by decide +kernel
theorem dX4_named_29 : decode cX4_named 29 = .ok (.aload_n 0, 1) := by decide +kernel
theorem dX4_named_30 : decode cX4_named 30 = .ok (.iload 4, 2) := by decide +kernel
theorem dX4_named_32 : decode cX4_named 32 = .ok (.invokevirtual 64, 3) := by decide +kernel
theorem dX4_named_35 : decode cX4_named 35 = .ok (.ifCond .eq 13, 3) := by decide +kernel
theorem dX4_named_38 : decode cX4_named 38 = .ok (.iload_n 3, 1) := by decide +kernel
theorem dX4_named_39 : decode cX4_named 39 = .ok (.ifCond .ne 6, 3) := by decide +kernel
theorem dX4_named_42 : decode cX4_named 42 = .ok (.iload 4, 2) := by decide +kernel
theorem dX4_named_44 : decode cX4_named 44 = .ok (.ireturn, 1) := by decide +kernel
theorem dX4_named_45 : decode cX4_named 45 = .ok (.iinc 3 (-1), 3) := by decide +kernel
theorem dX4_named_48 : decode cX4_named 48 = .ok (.iinc 4 1, 3) := by decide +kernel
theorem dX4_named_51 : decode cX4_named 51 = .ok (.goto (-29), 3) := by decide +kernel
theorem dX4_named_54 : decode cX4_named 54 = .ok (.bipush (-6), 2) := by decide +kernel
theorem dX4_named_56 : decode cX4_named 56 = .ok (.ireturn, 1) := by decide +kernel
theorem dX5_init_0 : decode cX5_init 0 = .ok (.aload_n 0, 1) := by decide +kernel
theorem dX5_init_1 : decode cX5_init 1 = .ok (.invokespecial 3, 3) := by decide +kernel
theorem dX5_init_4 : decode cX5_init 4 = .ok (.aload_n 0, 1) := by decide +kernel
theorem dX5_init_5 : decode cX5_init 5 = .ok (.iconst 3, 1) := by decide +kernel
theorem dX5_init_6 : decode cX5_init 6 = .ok (.newarray .int, 2) := by decide +kernel
theorem dX5_init_8 : decode cX5_init 8 = .ok (.putfield 9, 3) := by decide +kernel
theorem dX5_init_11 : decode cX5_init 11 = .ok (.aload_n 0, 1) := by decide +kernel
theorem dX5_init_12 : decode cX5_init 12 = .ok (.bipush (-6), 2) := by decide +kernel
theorem dX5_init_14 : decode cX5_init 14 = .ok (.putfield 15, 3) := by decide +kernel
theorem dX5_init_17 : decode cX5_init 17 = .ok (.aload_n 0, 1) := by decide +kernel
theorem dX5_init_18 : decode cX5_init 18 = .ok (.bipush 8, 2) := by decide +kernel
theorem dX5_init_20 : decode cX5_init 20 = .ok (.newarray .int, 2) := by decide +kernel
theorem dX5_init_22 : decode cX5_init 22 = .ok (.putfield 19, 3) := by decide +kernel
theorem dX5_init_25 : decode cX5_init 25 = .ok (.return_, 1) := by decide +kernel
theorem dX5_settle_0 : decode cX5_settle 0 = .ok (.iconst 0, 1) := by decide +kernel
theorem dX5_settle_1 : decode cX5_settle 1 = .ok (.istore_n 2, 1) := by decide +kernel
theorem dX5_settle_2 : decode cX5_settle 2 = .ok (.iload_n 2, 1) := by decide +kernel
theorem dX5_settle_3 : decode cX5_settle 3 = .ok (.bipush 8, 2) := by decide +kernel
theorem dX5_settle_5 : decode cX5_settle 5 = .ok (.if_icmp .ge 16, 3) := by decide +kernel
theorem dX5_settle_8 : decode cX5_settle 8 = .ok (.aload_n 0, 1) := by decide +kernel
theorem dX5_settle_9 : decode cX5_settle 9 = .ok (.getfield 19, 3) := by decide +kernel
theorem dX5_settle_12 : decode cX5_settle 12 = .ok (.iload_n 2, 1) := by decide +kernel
theorem dX5_settle_13 : decode cX5_settle 13 = .ok (.iconst 0, 1) := by decide +kernel
theorem dX5_settle_14 : decode cX5_settle 14 = .ok (.iastore, 1) := by decide +kernel
theorem dX5_settle_15 : decode cX5_settle 15 = .ok (.iinc 2 1, 3) := by decide +kernel
theorem dX5_settle_18 : decode cX5_settle 18 = .ok (.goto (-16), 3) := by decide +kernel
theorem dX5_settle_21 : decode cX5_settle 21 = .ok (.iconst 0, 1) := by decide +kernel
theorem dX5_settle_22 : decode cX5_settle 22 = .ok (.istore_n 2, 1) := by decide +kernel
theorem dX5_settle_23 : decode cX5_settle 23 = .ok (.iload_n 2, 1) := by decide +kernel
theorem dX5_settle_24 : decode cX5_settle 24 = .ok (.iconst 3, 1) := by decide +kernel
theorem dX5_settle_25 : decode cX5_settle 25 = .ok (.if_icmp .ge 27, 3) := by decide +kernel
theorem dX5_settle_28 : decode cX5_settle 28 = .ok (.aload_n 0, 1) := by decide +kernel
theorem dX5_settle_29 : decode cX5_settle 29 = .ok (.getfield 9, 3) := by decide +kernel
theorem dX5_settle_32 : decode cX5_settle 32 = .ok (.iload_n 2, 1) := by decide +kernel
theorem dX5_settle_33 : decode cX5_settle 33 = .ok (.iload_n 2, 1) := by decide +kernel
theorem dX5_settle_34 : decode cX5_settle 34 = .ok (.ifCond .ne 10, 3) := by decide +kernel
theorem dX5_settle_37 : decode cX5_settle 37 = .ok (.aload_n 1, 1) := by decide +kernel
theorem dX5_settle_38 : decode cX5_settle 38 = .ok (.invokevirtual 22, 3) := by decide +kernel
theorem dX5_settle_41 : decode cX5_settle 41 = .ok (.goto 4, 3) := by decide +kernel
theorem dX5_settle_44 : decode cX5_settle 44 = .ok (.iconst 0, 1) := by decide +kernel
theorem dX5_settle_45 : decode cX5_settle 45 = .ok (.iastore, 1) := by decide +kernel
theorem dX5_settle_46 : decode cX5_settle 46 = .ok (.iinc 2 1, 3) := by decide +kernel
theorem dX5_settle_49 : decode cX5_settle 49 = .ok (.goto (-26), 3) := by decide +kernel
theorem dX5_settle_52 : decode cX5_settle 52 = .ok (.aload_n 0, 1) := by decide +kernel
theorem dX5_settle_53 : decode cX5_settle 53 = .ok (.bipush (-6), 2) := by decide +kernel
theorem dX5_settle_55 : decode cX5_settle 55 = .ok (.putfield 15, 3) := by decide +kernel
theorem dX5_settle_58 : decode cX5_settle 58 = .ok (.iconst 1, 1) := by decide +kernel
theorem dX5_settle_59 : decode cX5_settle 59 = .ok (.istore_n 2, 1) := by decide +kernel
theorem dX5_settle_60 : decode cX5_settle 60 = .ok (.aload_n 0, 1) := by decide +kernel
theorem dX5_settle_61 : decode cX5_settle 61 = .ok (.getfield 15, 3) := by decide +kernel
theorem dX5_settle_64 : decode cX5_settle 64 = .ok (.bipush (-6), 2) := by decide +kernel
theorem dX5_settle_66 : decode cX5_settle 66 = .ok (.if_icmp .ne 28, 3) := by decide +kernel
theorem dX5_settle_69 : decode cX5_settle 69 = .ok (.iload_n 2, 1) := by decide +kernel
theorem dX5_settle_70 : decode cX5_settle 70 = .ok (.bipush 99, 2) := by decide +kernel
theorem dX5_settle_72 : decode cX5_settle 72 = .ok (.if_icmp .gt 22, 3) := by decide +kernel
theorem dX5_settle_75 : decode cX5_settle 75 = .ok (.aload_n 0, 1) := by decide +kernel
theorem dX5_settle_76 : decode cX5_settle 76 = .ok (.aload_n 1, 1) := by decide +kernel
theorem dX5_settle_77 : decode cX5_settle 77 = .ok (.invokevirtual 28, 3) := by decide +kernel
theorem dX5_settle_80 : decode cX5_settle 80 = .ok (.ifCond .ne 8, 3) := by decide +kernel
theorem dX5_settle_83 : decode cX5_settle 83 = .ok (.aload_n 0, 1) := by decide +kernel
theorem dX5_settle_84 : decode cX5_settle 84 = .ok (.iload_n 2, 1) := by decide +kernel
theorem dX5_settle_85 : decode cX5_settle 85 = .ok (.putfield 15, 3) := by decide +kernel
theorem dX5_settle_88 : decode cX5_settle 88 = .ok (.iinc 2 1, 3) := by decide +kernel
theorem dX5_settle_91 : decode cX5_settle 91 = .ok (.goto (-31), 3) := by decide +kernel
theorem dX5_settle_94 : decode cX5_settle 94 = .ok (.return_, 1) := by decide +kernel
theorem dX5_doesAnybodyGo_0 : decode cX5_doesAnybodyGo 0 = .ok (.iconst 0, 1) := by decide +kernel
theorem dX5_doesAnybodyGo_1 : decode cX5_doesAnybodyGo 1 = .ok (.istore_n 2, 1) := by decide +kernel
theorem dX5_doesAnybodyGo_2 : decode cX5_doesAnybodyGo 2 = .ok (.iconst 0, 1) := by decide +kernel
theorem dX5_doesAnybodyGo_3 : decode cX5_doesAnybodyGo 3 = .ok (.istore_n 3, 1) := by decide +kernel
theorem dX5_doesAnybodyGo_4 : decode cX5_doesAnybodyGo 4 = .ok (.iload_n 3, 1) := by decide +kernel
theorem dX5_doesAnybodyGo_5 : decode cX5_doesAnybodyGo 5 = .ok (.bipush 8, 2) := by decide +kernel
theorem dX5_doesAnybodyGo_7 : decode cX5_doesAnybodyGo 7 = .ok (.if_icmp .ge 77, 3) := by decide +kernel
theorem dX5_doesAnybodyGo_10 : decode cX5_doesAnybodyGo 10 = .ok (.aload_n 1, 1) := by decide +kernel
theorem dX5_doesAnybodyGo_11 : decode cX5_doesAnybodyGo 11 = .ok (.iload_n 3, 1) := by decide +kernel
theorem dX5_doesAnybodyGo_12 : decode cX5_doesAnybodyGo 12 = .ok (.invokevirtual 32, 3) := by decide +kernel
theorem dX5_doesAnybodyGo_15 : decode cX5_doesAnybodyGo 15 = .ok (.ifCond .eq 63, 3) := by decide +kernel
theorem dX5_doesAnybodyGo_18 : decode cX5_doesAnybodyGo 18 = .ok (.aload_n 0, 1) := by decide +kernel
theorem dX5_doesAnybodyGo_19 : decode cX5_doesAnybodyGo 19 = .ok (.iload_n 3, 1) := by decide +kernel
theorem dX5_doesAnybodyGo_20 : decode cX5_doesAnybodyGo 20 = .ok (.aload_n 1, 1) := by decide +kernel
theorem dX5_doesAnybodyGo_21 : decode cX5_doesAnybodyGo 21 = .ok (.getfield 36, 3) := by decide +kernel
theorem dX5_doesAnybodyGo_24 : decode cX5_doesAnybodyGo 24 = .ok (.iload_n 3, 1) := by decide +kernel
theorem dX5_doesAnybodyGo_25 : decode cX5_doesAnybodyGo 25 = .ok (.iaload, 1) := by decide +kernel
theorem dX5_doesAnybodyGo_26 : decode cX5_doesAnybodyGo 26 = .ok (.invokevirtual 39, 3) := by decide +kernel
theorem dX5_doesAnybodyGo_29 : decode cX5_doesAnybodyGo 29 = .ok (.istore 4, 2) := by decide +kernel
theorem dX5_doesAnybodyGo_31 : decode cX5_doesAnybodyGo 31 = .ok (.iload 4, 2) := by decide +kernel
theorem dX5_doesAnybodyGo_33 : decode cX5_doesAnybodyGo 33 = .ok (.aload_n 0, 1) := by decide +kernel
theorem dX5_doesAnybodyGo_34 : decode cX5_doesAnybodyGo 34 = .ok (.getfield 19, 3) := by decide +kernel
theorem dX5_doesAnybodyGo_37 : decode cX5_doesAnybodyGo 37 = .ok (.iload_n 3, 1) := by decide +kernel
theorem dX5_doesAnybodyGo_38 : decode cX5_doesAnybodyGo 38 = .ok (.iaload, 1) := by decide +kernel
theorem dX5_doesAnybodyGo_39 : decode cX5_doesAnybodyGo 39 = .ok (.if_icmp .eq 39, 3) := by decide +kernel
theorem dX5_doesAnybodyGo_42 : decode cX5_doesAnybodyGo 42 = .ok (.aload_n 0, 1) := by decide +kernel
theorem dX5_doesAnybodyGo_43 : decode cX5_doesAnybodyGo 43 = .ok (.getfield 9, 3) := by decide +kernel
theorem dX5_doesAnybodyGo_46 : decode cX5_doesAnybodyGo 46 = .ok (.aload_n 0, 1) := by decide +kernel
theorem dX5_doesAnybodyGo_47 : decode cX5_doesAnybodyGo 47 = .ok (.getfield 19, 3) := by decide +kernel
theorem dX5_doesAnybodyGo_50 : decode cX5_doesAnybodyGo 50 = .ok (.iload_n 3, 1) := by decide +kernel
theorem dX5_doesAnybodyGo_51 : decode cX5_doesAnybodyGo 51 = .ok (.iaload, 1) := by decide +kernel
theorem dX5_doesAnybodyGo_52 : decode cX5_doesAnybodyGo 52 = .ok (.dup2, 1) := by decide +kernel
theorem dX5_doesAnybodyGo_53 : decode cX5_doesAnybodyGo 53 = .ok (.iaload, 1) := by decide +kernel
theorem dX5_doesAnybodyGo_54 : decode cX5_doesAnybodyGo 54 = .ok (.iconst 1, 1) := by decide +kernel
theorem dX5_doesAnybodyGo_55 : decode cX5_doesAnybodyGo 55 = .ok (.isub, 1) := by decide +kernel
theorem dX5_doesAnybodyGo_56 : decode cX5_doesAnybodyGo 56 = .ok (.iastore, 1) := by decide +kernel
theorem dX5_doesAnybodyGo_57 : decode cX5_doesAnybodyGo 57 = .ok (.aload_n 0, 1) := by decide +kernel
theorem dX5_doesAnybodyGo_58 : decode cX5_doesAnybodyGo 58 = .ok (.getfield 9, 3) := by decide +kernel
theorem dX5_doesAnybodyGo_61 : decode cX5_doesAnybodyGo 61 = .ok (.iload 4, 2) := by decide +kernel
theorem dX5_doesAnybodyGo_63 : decode cX5_doesAnybodyGo 63 = .ok (.dup2, 1) := by decide +kernel
theorem dX5_doesAnybodyGo_64 : decode cX5_doesAnybodyGo 64 = .ok (.iaload, 1) := by decide +kernel
theorem dX5_doesAnybodyGo_65 : decode cX5_doesAnybodyGo 65 = .ok (.iconst 1, 1) := by decide +kernel
theorem dX5_doesAnybodyGo_66 : decode cX5_doesAnybodyGo 66 = .ok (.iadd, 1) := by decide +kernel
theorem dX5_doesAnybodyGo_67 : decode cX5_doesAnybodyGo 67 = .ok (.iastore, 1) := by decide +kernel
theorem dX5_doesAnybodyGo_68 : decode cX5_doesAnybodyGo 68 = .ok (.aload_n 0, 1) := by decide +kernel
theorem dX5_doesAnybodyGo_69 : decode cX5_doesAnybodyGo 69 = .ok (.getfield 19, 3) := by decide +kernel
theorem dX5_doesAnybodyGo_72 : decode cX5_doesAnybodyGo 72 = .ok (.iload_n 3, 1) := by decide +kernel
theorem dX5_doesAnybodyGo_73 : decode cX5_doesAnybodyGo 73 = .ok (.iload 4, 2) := by decide +kernel
theorem dX5_doesAnybodyGo_75 : decode cX5_doesAnybodyGo 75 = .ok (.iastore, 1) := by decide +kernel
theorem dX5_doesAnybodyGo_76 : decode cX5_doesAnybodyGo 76 = .ok (.iconst 1, 1) := by decide +kernel
theorem dX5_doesAnybodyGo_77 : decode cX5_doesAnybodyGo 77 = .ok (.istore_n 2, 1) := by decide +kernel
theorem dX5_doesAnybodyGo_78 : decode cX5_doesAnybodyGo 78 = .ok (.iinc 3 1, 3) := by decide +kernel
theorem dX5_doesAnybodyGo_81 : decode cX5_doesAnybodyGo 81 = .ok (.goto (-77), 3) := by decide +kernel
theorem dX5_doesAnybodyGo_84 : decode cX5_doesAnybodyGo 84 = .ok (.iload_n 2, 1) := by decide +kernel
theorem dX5_doesAnybodyGo_85 : decode cX5_doesAnybodyGo 85 = .ok (.ireturn, 1) := by decide +kernel
theorem dX5_bestChurch_0 : decode cX5_bestChurch 0 = .ok (.iconst 0, 1) := by decide +kernel
theorem dX5_bestChurch_1 : decode cX5_bestChurch 1 = .ok (.istore_n 3, 1) := by decide +kernel
theorem dX5_bestChurch_2 : decode cX5_bestChurch 2 = .ok (.iconst 1, 1) := by decide +kernel
theorem dX5_bestChurch_3 : decode cX5_bestChurch 3 = .ok (.istore 4, 2) := by decide +kernel
theorem dX5_bestChurch_5 : decode cX5_bestChurch 5 = .ok (.iload 4, 2) := by decide +kernel
theorem dX5_bestChurch_7 : decode cX5_bestChurch 7 = .ok (.iconst 3, 1) := by decide +kernel
theorem dX5_bestChurch_8 : decode cX5_bestChurch 8 = .ok (.if_icmp .ge 30, 3) := by decide +kernel
theorem dX5_bestChurch_11 : decode cX5_bestChurch 11 = .ok (.aload_n 0, 1) := by decide +kernel
theorem dX5_bestChurch_12 : decode cX5_bestChurch 12 = .ok (.iload_n 1, 1) := by decide +kernel
theorem dX5_bestChurch_13 : decode cX5_bestChurch 13 = .ok (.iload_n 2, 1) := by decide +kernel
theorem dX5_bestChurch_14 : decode cX5_bestChurch 14 = .ok (.iload 4, 2) := by decide +kernel
theorem dX5_bestChurch_16 : decode cX5_bestChurch 16 = .ok (.invokevirtual 43, 3) := by decide +kernel
theorem dX5_bestChurch_19 : decode cX5_bestChurch 19 = .ok (.aload_n 0, 1) := by decide +kernel
theorem dX5_bestChurch_20 : decode cX5_bestChurch 20 = .ok (.iload_n 1, 1) := by decide +kernel
theorem dX5_bestChurch_21 : decode cX5_bestChurch 21 = .ok (.iload_n 2, 1) := by decide +kernel
theorem dX5_bestChurch_22 : decode cX5_bestChurch 22 = .ok (.iload_n 3, 1) := by decide +kernel
theorem dX5_bestChurch_23 : decode cX5_bestChurch 23 = .ok (.invokevirtual 43, 3) := by decide +kernel
theorem dX5_bestChurch_26 : decode cX5_bestChurch 26 = .ok (.if_icmp .le 6, 3) := by decide +kernel
theorem dX5_bestChurch_29 : decode cX5_bestChurch 29 = .ok (.iload 4, 2) := by decide +kernel
theorem dX5_bestChurch_31 : decode cX5_bestChurch 31 = .ok (.istore_n 3, 1) := by decide +kernel
theorem dX5_bestChurch_32 : decode cX5_bestChurch 32 = .ok (.iinc 4 1, 3) := by decide +kernel
theorem dX5_bestChurch_35 : decode cX5_bestChurch 35 = .ok (.goto (-30), 3) := by decide +kernel
theorem dX5_bestChurch_38 : decode cX5_bestChurch 38 = .ok (.aload_n 0, 1) := by decide +kernel
theorem dX5_bestChurch_39 : decode cX5_bestChurch 39 = .ok (.iload_n 1, 1) := by decide +kernel
theorem dX5_bestChurch_40 : decode cX5_bestChurch 40 = .ok (.iload_n 2, 1) := by decide +kernel
theorem dX5_bestChurch_41 : decode cX5_bestChurch 41 = .ok (.iload_n 3, 1) := by decide +kernel
theorem dX5_bestChurch_42 : decode cX5_bestChurch 42 = .ok (.invokevirtual 43, 3) := by decide +kernel
theorem dX5_bestChurch_45 : decode cX5_bestChurch 45 = .ok (.aload_n 0, 1) := by decide +kernel
theorem dX5_bestChurch_46 : decode cX5_bestChurch 46 = .ok (.iload_n 1, 1) := by decide +kernel
theorem dX5_bestChurch_47 : decode cX5_bestChurch 47 = .ok (.iload_n 2, 1) := by decide +kernel
theorem dX5_bestChurch_48 : decode cX5_bestChurch 48 = .ok (.aload_n 0, 1) := by decide +kernel
theorem dX5_bestChurch_49 : decode cX5_bestChurch 49 = .ok (.getfield 19, 3) := by decide +kernel
theorem dX5_bestChurch_52 : decode cX5_bestChurch 52 = .ok (.iload_n 1, 1) := by decide +kernel
theorem dX5_bestChurch_53 : decode cX5_bestChurch 53 = .ok (.iaload, 1) := by decide +kernel
theorem dX5_bestChurch_54 : decode cX5_bestChurch 54 = .ok (.invokevirtual 43, 3) := by decide +kernel
theorem dX5_bestChurch_57 : decode cX5_bestChurch 57 = .ok (.if_icmp .le 7, 3) := by decide +kernel
theorem dX5_bestChurch_60 : decode cX5_bestChurch 60 = .ok (.iload_n 3, 1) := by decide +kernel
theorem dX5_bestChurch_61 : decode cX5_bestChurch 61 = .ok (.goto 9, 3) := by decide +kernel
theorem dX5_bestChurch_64 : decode cX5_bestChurch 64 = .ok (.aload_n 0, 1) := by decide +kernel
theorem dX5_bestChurch_65 : decode cX5_bestChurch 65 = .ok (.getfield 19, 3) := by decide +kernel
theorem dX5_bestChurch_68 : decode cX5_bestChurch 68 = .ok (.iload_n 1, 1) := by decide +kernel
theorem dX5_bestChurch_69 : decode cX5_bestChurch 69 = .ok (.iaload, 1) := by decide +kernel
theorem dX5_bestChurch_70 : decode cX5_bestChurch 70 = .ok (.ireturn, 1) := by decide +kernel
theorem dX5_liking_0 : decode cX5_liking 0 = .ok (.iload_n 2, 1) := by decide +kernel
theorem dX5_liking_1 : decode cX5_liking 1 = .ok (.ifCond .ne 7, 3) := by decide +kernel
theorem dX5_liking_4 : decode cX5_liking 4 = .ok (.iload_n 3, 1) := by decide +kernel
theorem dX5_liking_5 : decode cX5_liking 5 = .ok (.goto 6, 3) := by decide +kernel
theorem dX5_liking_8 : decode cX5_liking 8 = .ok (.iconst 2, 1) := by decide +kernel
theorem dX5_liking_9 : decode cX5_liking 9 = .ok (.iload_n 3, 1) := by decide +kernel
theorem dX5_liking_10 : decode cX5_liking 10 = .ok (.isub, 1) := by decide +kernel
theorem dX5_liking_11 : decode cX5_liking 11 = .ok (.istore 4, 2) := by decide +kernel
theorem dX5_liking_13 : decode cX5_liking 13 = .ok (.aload_n 0, 1) := by decide +kernel
theorem dX5_liking_14 : decode cX5_liking 14 = .ok (.getfield 19, 3) := by decide +kernel
theorem dX5_liking_17 : decode cX5_liking 17 = .ok (.iload_n 1, 1) := by decide +kernel
theorem dX5_liking_18 : decode cX5_liking 18 = .ok (.iaload, 1) := by decide +kernel
theorem dX5_liking_19 : decode cX5_liking 19 = .ok (.iload_n 3, 1) := by decide +kernel
theorem dX5_liking_20 : decode cX5_liking 20 = .ok (.if_icmp .ne 14, 3) := by decide +kernel
theorem dX5_liking_23 : decode cX5_liking 23 = .ok (.aload_n 0, 1) := by decide +kernel
theorem dX5_liking_24 : decode cX5_liking 24 = .ok (.getfield 9, 3) := by decide +kernel
theorem dX5_liking_27 : decode cX5_liking 27 = .ok (.iload_n 3, 1) := by decide +kernel
theorem dX5_liking_28 : decode cX5_liking 28 = .ok (.iaload, 1) := by decide +kernel
theorem dX5_liking_29 : decode cX5_liking 29 = .ok (.iconst 1, 1) := by decide +kernel
theorem dX5_liking_30 : decode cX5_liking 30 = .ok (.isub, 1) := by decide +kernel
theorem dX5_liking_31 : decode cX5_liking 31 = .ok (.goto 9, 3) := by decide +kernel
theorem dX5_liking_34 : decode cX5_liking 34 = .ok (.aload_n 0, 1) := by decide +kernel
theorem dX5_liking_35 : decode cX5_liking 35 = .ok (.getfield 9, 3) := by decide +kernel
theorem dX5_liking_38 : decode cX5_liking 38 = .ok (.iload_n 3, 1) := by decide +kernel
theorem dX5_liking_39 : decode cX5_liking 39 = .ok (.iaload, 1) := by decide +kernel
theorem dX5_liking_40 : decode cX5_liking 40 = .ok (.istore 5, 2) := by decide +kernel
theorem dX5_liking_42 : decode cX5_liking 42 = .ok (.iconst 2, 1) := by decide +kernel
theorem dX5_liking_43 : decode cX5_liking 43 = .ok (.iload 4, 2) := by decide +kernel
theorem dX5_liking_45 : decode cX5_liking 45 = .ok (.imul, 1) := by decide +kernel
theorem dX5_liking_46 : decode cX5_liking 46 = .ok (.iload 5, 2) := by decide +kernel
theorem dX5_liking_48 : decode cX5_liking 48 = .ok (.isub, 1) := by decide +kernel
theorem dX5_liking_49 : decode cX5_liking 49 = .ok (.ireturn, 1) := by decide +kernel
theorem dX6_init_0 : decode cX6_init 0 = .ok (.aload_n 0, 1) := by decide +kernel
theorem dX6_init_1 : decode cX6_init 1 = .ok (.invokespecial 3, 3) := by decide +kernel
theorem dX6_init_4 : decode cX6_init 4 = .ok (.aload_n 0, 1) := by decide +kernel
theorem dX6_init_5 : decode cX6_init 5 = .ok (.bipush 8, 2) := by decide +kernel
theorem dX6_init_7 : decode cX6_init 7 = .ok (.newarray .int, 2) := by decide +kernel
theorem dX6_init_9 : decode cX6_init 9 = .ok (.putfield 9, 3) := by decide +kernel
theorem dX6_init_12 : decode cX6_init 12 = .ok (.aload_n 0, 1) := by decide +kernel
theorem dX6_init_13 : decode cX6_init 13 = .ok (.iconst 0, 1) := by decide +kernel
theorem dX6_init_14 : decode cX6_init 14 = .ok (.putfield 15, 3) := by decide +kernel
theorem dX6_init_17 : decode cX6_init 17 = .ok (.aload_n 0, 1) := by decide +kernel
theorem dX6_init_18 : decode cX6_init 18 = .ok (.iconst 0, 1) := by decide +kernel
theorem dX6_init_19 : decode cX6_init 19 = .ok (.putfield 19, 3) := by decide +kernel
theorem dX6_init_22 : decode cX6_init 22 = .ok (.aload_n 0, 1) := by decide +kernel
theorem dX6_init_23 : decode cX6_init 23 = .ok (.iconst 0, 1) := by decide +kernel
theorem dX6_init_24 : decode cX6_init 24 = .ok (.putfield 22, 3) := by decide +kernel
theorem dX6_init_27 : decode cX6_init 27 = .ok (.aload_n 0, 1) := by decide +kernel
theorem dX6_init_28 : decode cX6_init 28 = .ok (.iconst 0, 1) := by decide +kernel
theorem dX6_init_29 : decode cX6_init 29 = .ok (.putfield 25, 3) := by decide +kernel
theorem dX6_init_32 : decode cX6_init 32 = .ok (.aload_n 0, 1) := by decide +kernel
theorem dX6_init_33 : decode cX6_init 33 = .ok (.iconst 0, 1) := by decide +kernel
theorem dX6_init_34 : decode cX6_init 34 = .ok (.putfield 28, 3) := by decide +kernel
theorem dX6_init_37 : decode cX6_init 37 = .ok (.aload_n 0, 1) := by decide +kernel
theorem dX6_init_38 : decode cX6_init 38 = .ok (.iconst 0, 1) := by decide +kernel
theorem dX6_init_39 : decode cX6_init 39 = .ok (.putfield 31, 3) := by decide +kernel
theorem dX6_init_42 : decode cX6_init 42 = .ok (.aload_n 0, 1) := by decide +kernel
theorem dX6_init_43 : decode cX6_init 43 = .ok (.iconst 0, 1) := by decide +kernel
theorem dX6_init_44 : decode cX6_init 44 = .ok (.putfield 34, 3) := by decide +kernel
theorem dX6_init_47 : decode cX6_init 47 = .ok (.aload_n 0, 1) := by decide +kernel
theorem dX6_init_48 : decode cX6_init 48 = .ok (.iconst 0, 1) := by decide +kernel
theorem dX6_init_49 : decode cX6_init 49 = .ok (.putfield 37, 3) := by decide +kernel
theorem dX6_init_52 : decode cX6_init 52 = .ok (.aload_n 0, 1) := by decide +kernel
theorem dX6_init_53 : decode cX6_init 53 = .ok (.iconst 0, 1) := by decide +kernel
theorem dX6_init_54 : decode cX6_init 54 = .ok (.putfield 40, 3) := by decide +kernel
theorem dX6_init_57 : decode cX6_init 57 = .ok (.aload_n 0, 1) := by decide +kernel
theorem dX6_init_58 : decode cX6_init 58 = .ok (.iconst 0, 1) := by decide +kernel
theorem dX6_init_59 : decode cX6_init 59 = .ok (.putfield 43, 3) := by decide +kernel
theorem dX6_init_62 : decode cX6_init 62 = .ok (.aload_n 0, 1) := by decide +kernel
theorem dX6_init_63 : decode cX6_init 63 = .ok (.iconst 0, 1) := by decide +kernel
theorem dX6_init_64 : decode cX6_init 64 = .ok (.putfield 46, 3) := by decide +kernel
theorem dX6_init_67 : decode cX6_init 67 = .ok (.aload_n 0, 1) := by decide +kernel
theorem dX6_init_68 : decode cX6_init 68 = .ok (.iconst 0, 1) := by decide +kernel
theorem dX6_init_69 : decode cX6_init 69 = .ok (.putfield 49, 3) := by decide +kernel
theorem dX6_init_72 : decode cX6_init 72 = .ok (.return_, 1) := by decide +kernel
theorem dX6_begin_0 : decode cX6_begin 0 = .ok (.aload_n 1, 1) := by decide +kernel
theorem dX6_begin_1 : decode cX6_begin 1 = .ok (.getfield 52, 3) := by decide +kernel
theorem dX6_begin_4 : decode cX6_begin 4 = .ok (.iconst 0, 1) := by decide +kernel
theorem dX6_begin_5 : decode cX6_begin 5 = .ok (.aload_n 0, 1) := by decide +kernel
theorem dX6_begin_6 : decode cX6_begin 6 = .ok (.getfield 9, 3) := by decide +kernel
theorem dX6_begin_9 : decode cX6_begin 9 = .ok (.iconst 0, 1) := by decide +kernel
theorem dX6_begin_10 : decode cX6_begin 10 = .ok (.bipush 8, 2) := by decide +kernel
theorem dX6_begin_12 : decode cX6_begin 12 = .ok (.invokestatic 57, 3) := by decide +kernel
theorem dX6_begin_15 : decode cX6_begin 15 = .ok (.aload_n 0, 1) := by decide +kernel
theorem dX6_begin_16 : decode cX6_begin 16 = .ok (.iconst 0, 1) := by decide +kernel
theorem dX6_begin_17 : decode cX6_begin 17 = .ok (.putfield 15, 3) := by decide +kernel
theorem dX6_begin_20 : decode cX6_begin 20 = .ok (.aload_n 0, 1) := by decide +kernel
theorem dX6_begin_21 : decode cX6_begin 21 = .ok (.iconst 0, 1) := by decide +kernel
theorem dX6_begin_22 : decode cX6_begin 22 = .ok (.putfield 19, 3) := by decide +kernel
theorem dX6_begin_25 : decode cX6_begin 25 = .ok (.aload_n 0, 1) := by decide +kernel
theorem dX6_begin_26 : decode cX6_begin 26 = .ok (.iconst 0, 1) := by decide +kernel
theorem dX6_begin_27 : decode cX6_begin 27 = .ok (.putfield 22, 3) := by decide +kernel
theorem dX6_begin_30 : decode cX6_begin 30 = .ok (.aload_n 0, 1) := by decide +kernel
theorem dX6_begin_31 : decode cX6_begin 31 = .ok (.iconst 0, 1) := by decide +kernel
theorem dX6_begin_32 : decode cX6_begin 32 = .ok (.putfield 25, 3) := by decide +kernel
theorem dX6_begin_35 : decode cX6_begin 35 = .ok (.aload_n 0, 1) := by decide +kernel
theorem dX6_begin_36 : decode cX6_begin 36 = .ok (.iconst 0, 1) := by decide +kernel
theorem dX6_begin_37 : decode cX6_begin 37 = .ok (.putfield 28, 3) := by decide +kernel
theorem dX6_begin_40 : decode cX6_begin 40 = .ok (.aload_n 0, 1) := by decide +kernel
theorem dX6_begin_41 : decode cX6_begin 41 = .ok (.iconst 0, 1) := by decide +kernel
theorem dX6_begin_42 : decode cX6_begin 42 = .ok (.putfield 31, 3) := by decide +kernel
theorem dX6_begin_45 : decode cX6_begin 45 = .ok (.aload_n 0, 1) := by decide +kernel
theorem dX6_begin_46 : decode cX6_begin 46 = .ok (.iconst 0, 1) := by decide +kernel
theorem dX6_begin_47 : decode cX6_begin 47 = .ok (.putfield 34, 3) := by decide +kernel
theorem dX6_begin_50 : decode cX6_begin 50 = .ok (.aload_n 0, 1) := by decide +kernel
theorem dX6_begin_51 : decode cX6_begin 51 = .ok (.iconst 0, 1) := by decide +kernel
theorem dX6_begin_52 : decode cX6_begin 52 = .ok (.putfield 37, 3) := by decide +kernel
theorem dX6_begin_55 : decode cX6_begin 55 = .ok (.aload_n 0, 1) := by decide +kernel
theorem dX6_begin_56 : decode cX6_begin 56 = .ok (.iconst 0, 1) := by decide +kernel
theorem dX6_begin_57 : decode cX6_begin 57 = .ok (.putfield 40, 3) := by decide +kernel
theorem dX6_begin_60 : decode cX6_begin 60 = .ok (.aload_n 0, 1) := by decide +kernel
theorem dX6_begin_61 : decode cX6_begin 61 = .ok (.iconst 0, 1) := by decide +kernel
theorem dX6_begin_62 : decode cX6_begin 62 = .ok (.putfield 43, 3) := by decide +kernel
theorem dX6_begin_65 : decode cX6_begin 65 = .ok (.aload_n 0, 1) := by decide +kernel
theorem dX6_begin_66 : decode cX6_begin 66 = .ok (.iconst 0, 1) := by decide +kernel
theorem dX6_begin_67 : decode cX6_begin 67 = .ok (.putfield 46, 3) := by decide +kernel
theorem dX6_begin_70 : decode cX6_begin 70 = .ok (.aload_n 0, 1) := by decide +kernel
theorem dX6_begin_71 : decode cX6_begin 71 = .ok (.iconst 0, 1) := by decide +kernel
theorem dX6_begin_72 : decode cX6_begin 72 = .ok (.putfield 49, 3) := by decide +kernel
theorem dX6_begin_75 : decode cX6_begin 75 = .ok (.return_, 1) := by decide +kernel
theorem dX6_become_0 : decode cX6_become 0 = .ok (.aload_n 1, 1) := by decide +kernel
theorem dX6_become_1 : decode cX6_become 1 = .ok (.getfield 9, 3) := by decide +kernel
theorem dX6_become_4 : decode cX6_become 4 = .ok (.iconst 0, 1) := by decide +kernel
theorem dX6_become_5 : decode cX6_become 5 = .ok (.aload_n 0, 1) := by decide +kernel
theorem dX6_become_6 : decode cX6_become 6 = .ok (.getfield 9, 3) := by decide +kernel
theorem dX6_become_9 : decode cX6_become 9 = .ok (.iconst 0, 1) := by decide +kernel
theorem dX6_become_10 : decode cX6_become 10 = .ok (.bipush 8, 2) := by decide +kernel
theorem dX6_become_12 : decode cX6_become 12 = .ok (.invokestatic 57, 3) := by decide +kernel
theorem dX6_become_15 : decode cX6_become 15 = .ok (.aload_n 0, 1) := by decide +kernel
theorem dX6_become_16 : decode cX6_become 16 = .ok (.aload_n 1, 1) := by decide +kernel
theorem dX6_become_17 : decode cX6_become 17 = .ok (.getfield 15, 3) := by decide +kernel
theorem dX6_become_20 : decode cX6_become 20 = .ok (.putfield 15, 3) := by decide +kernel
theorem dX6_become_23 : decode cX6_become 23 = .ok (.aload_n 0, 1) := by decide +kernel
theorem dX6_become_24 : decode cX6_become 24 = .ok (.aload_n 1, 1) := by decide +kernel
theorem dX6_become_25 : decode cX6_become 25 = .ok (.getfield 19, 3) := by decide +kernel
theorem dX6_become_28 : decode cX6_become 28 = .ok (.putfield 19, 3) := by decide +kernel
theorem dX6_become_31 : decode cX6_become 31 = .ok (.aload_n 0, 1) := by decide +kernel
theorem dX6_become_32 : decode cX6_become 32 = .ok (.aload_n 1, 1) := by decide +kernel
theorem dX6_become_33 : decode cX6_become 33 = .ok (.getfield 22, 3) := by decide +kernel
theorem dX6_become_36 : decode cX6_become 36 = .ok (.putfield 22, 3) := by decide +kernel
theorem dX6_become_39 : decode cX6_become 39 = .ok (.aload_n 0, 1) := by decide +kernel
theorem dX6_become_40 : decode cX6_become 40 = .ok (.aload_n 1, 1) := by decide +kernel
theorem dX6_become_41 : decode cX6_become 41 = .ok (.getfield 25, 3) := by decide +kernel
theorem dX6_become_44 : decode cX6_become 44 = .ok (.putfield 25, 3) := by decide +kernel
theorem dX6_become_47 : decode cX6_become 47 = .ok (.aload_n 0, 1) := by decide +kernel
theorem dX6_become_48 : decode cX6_become 48 = .ok (.aload_n 1, 1) := by decide +kernel
theorem dX6_become_49 : decode cX6_become 49 = .ok (.getfield 28, 3) := by decide +kernel
theorem dX6_become_52 : decode cX6_become 52 = .ok (.putfield 28, 3) := by decide +kernel
theorem dX6_become_55 : decode cX6_become 55 = .ok (.aload_n 0, 1) := by decide +kernel
theorem dX6_become_56 : decode cX6_become 56 = .ok (.aload_n 1, 1) := by decide +kernel
theorem dX6_become_57 : decode cX6_become 57 = .ok (.getfield 31, 3) := by decide +kernel
theorem dX6_become_60 : decode cX6_become 60 = .ok (.putfield 31, 3) := by decide +kernel
theorem dX6_become_63 : decode cX6_become 63 = .ok (.aload_n 0, 1) := by decide +kernel
theorem dX6_become_64 : decode cX6_become 64 = .ok (.aload_n 1, 1) := by decide +kernel
theorem dX6_become_65 : decode cX6_become 65 = .ok (.getfield 34, 3) := by decide +kernel
theorem dX6_become_68 : decode cX6_become 68 = .ok (.putfield 34, 3) := by decide +kernel
theorem dX6_become_71 : decode cX6_become 71 = .ok (.aload_n 0, 1) := by decide +kernel
theorem dX6_become_72 : decode cX6_become 72 = .ok (.aload_n 1, 1) := by decide +kernel
theorem dX6_become_73 : decode cX6_become 73 = .ok (.getfield 37, 3) := by decide +kernel
theorem dX6_become_76 : decode cX6_become 76 = .ok (.putfield 37, 3) := by decide +kernel
theorem dX6_become_79 : decode cX6_become 79 = .ok (.aload_n 0, 1) := by decide +kernel
theorem dX6_become_80 : decode cX6_become 80 = .ok (.aload_n 1, 1) := by decide +kernel
theorem dX6_become_81 : decode cX6_become 81 = .ok (.getfield 40, 3) := by decide +kernel
theorem dX6_become_84 : decode cX6_become 84 = .ok (.putfield 40, 3) := by decide +kernel
theorem dX6_become_87 : decode cX6_become 87 = .ok (.aload_n 0, 1) := by decide +kernel
theorem dX6_become_88 : decode cX6_become 88 = .ok (.aload_n 1, 1) := by decide +kernel
theorem dX6_become_89 : decode cX6_become 89 = .ok (.getfield 43, 3) := by decide +kernel
theorem dX6_become_92 : decode cX6_become 92 = .ok (.putfield 43, 3) := by decide +kernel
theorem dX6_become_95 : decode cX6_become 95 = .ok (.aload_n 0, 1) := by decide +kernel
theorem dX6_become_96 : decode cX6_become 96 = .ok (.aload_n 1, 1) := by decide +kernel
theorem dX6_become_97 : decode cX6_become 97 = .ok (.getfield 46, 3) := by decide +kernel
theorem dX6_become_100 : decode cX6_become 100 = .ok (.putfield 46, 3) := by decide +kernel
theorem dX6_become_103 : decode cX6_become 103 = .ok (.aload_n 0, 1) := by decide +kernel
theorem dX6_become_104 : decode cX6_become 104 = .ok (.aload_n 1, 1) := by decide +kernel
theorem dX6_become_105 : decode cX6_become 105 = .ok (.getfield 49, 3) := by decide +kernel
theorem dX6_become_108 : decode cX6_become 108 = .ok (.putfield 49, 3) := by decide +kernel
theorem dX6_become_111 : decode cX6_become 111 = .ok (.return_, 1) := by decide +kernel
theorem dX6_passAll_0 : decode cX6_passAll 0 = .ok (.iload_n 3, 1) := by decide +kernel
theorem dX6_passAll_1 : decode cX6_passAll 1 = .ok (.istore 5, 2) := by decide +kernel
theorem dX6_passAll_3 : decode cX6_passAll 3 = .ok (.iload 5, 2) := by decide +kernel
theorem dX6_passAll_5 : decode cX6_passAll 5 = .ok (.iload 4, 2) := by decide +kernel
theorem dX6_passAll_7 : decode cX6_passAll 7 = .ok (.if_icmp .ge 22, 3) := by decide +kernel
theorem dX6_passAll_10 : decode cX6_passAll 10 = .ok (.aload_n 0, 1) := by decide +kernel
theorem dX6_passAll_11 : decode cX6_passAll 11 = .ok (.aload_n 1, 1) := by decide +kernel
theorem dX6_passAll_12 : decode cX6_passAll 12 = .ok (.aload_n 2, 1) := by decide +kernel
theorem dX6_passAll_13 : decode cX6_passAll 13 = .ok (.getfield 63, 3) := by decide +kernel
theorem dX6_passAll_16 : decode cX6_passAll 16 = .ok (.iload 5, 2) := by decide +kernel
theorem dX6_passAll_18 : decode cX6_passAll 18 = .ok (.iaload, 1) := by decide +kernel
theorem dX6_passAll_19 : decode cX6_passAll 19 = .ok (.iconst 0, 1) := by decide +kernel
theorem dX6_passAll_20 : decode cX6_passAll 20 = .ok (.invokevirtual 68, 3) := by decide +kernel
theorem dX6_passAll_23 : decode cX6_passAll 23 = .ok (.iinc 5 1, 3) := by decide +kernel
theorem dX6_passAll_26 : decode cX6_passAll 26 = .ok (.goto (-23), 3) := by decide +kernel
theorem dX6_passAll_29 : decode cX6_passAll 29 = .ok (.return_, 1) := by decide +kernel
theorem dX6_pass_0 : decode cX6_pass 0 = .ok (.iload_n 2, 1) := by decide +kernel
theorem dX6_pass_1 : decode cX6_pass 1 = .ok (.bipush 110, 2) := by decide +kernel
theorem dX6_pass_3 : decode cX6_pass 3 = .ok (.if_icmp .ne 14, 3) := by decide +kernel
theorem dX6_pass_6 : decode cX6_pass 6 = .ok (.aload_n 1, 1) := by decide +kernel
theorem dX6_pass_7 : decode cX6_pass 7 = .ok (.aload_n 0, 1) := by decide +kernel
theorem dX6_pass_8 : decode cX6_pass 8 = .ok (.getfield 15, 3) := by decide +kernel
theorem dX6_pass_11 : decode cX6_pass 11 = .ok (.invokevirtual 72, 3) := by decide +kernel
theorem dX6_pass_14 : decode cX6_pass 14 = .ok (.goto 5, 3) := by decide +kernel
theorem dX6_pass_17 : decode cX6_pass 17 = .ok (.bipush (-6), 2) := by decide +kernel
theorem dX6_pass_19 : decode cX6_pass 19 = .ok (.istore 4, 2) := by decide +kernel
theorem dX6_pass_21 : decode cX6_pass 21 = .ok (.aload_n 0, 1) := by decide +kernel
theorem dX6_pass_22 : decode cX6_pass 22 = .ok (.aload_n 1, 1) := by decide +kernel
theorem dX6_pass_23 : decode cX6_pass 23 = .ok (.iload_n 2, 1) := by decide +kernel
theorem dX6_pass_24 : decode cX6_pass 24 = .ok (.iload 4, 2) := by decide +kernel
theorem dX6_pass_26 : decode cX6_pass 26 = .ok (.iload_n 3, 1) := by decide +kernel
theorem dX6_pass_27 : decode cX6_pass 27 = .ok (.invokevirtual 76, 3) := by decide +kernel
theorem dX6_pass_30 : decode cX6_pass 30 = .ok (.aload_n 0, 1) := by decide +kernel
theorem dX6_pass_31 : decode cX6_pass 31 = .ok (.aload_n 1, 1) := by decide +kernel
theorem dX6_pass_32 : decode cX6_pass 32 = .ok (.iload_n 2, 1) := by decide +kernel
theorem dX6_pass_33 : decode cX6_pass 33 = .ok (.invokevirtual 80, 3) := by decide +kernel
theorem dX6_pass_36 : decode cX6_pass 36 = .ok (.aload_n 0, 1) := by decide +kernel
theorem dX6_pass_37 : decode cX6_pass 37 = .ok (.aload_n 1, 1) := by decide +kernel
theorem dX6_pass_38 : decode cX6_pass 38 = .ok (.invokevirtual 84, 3) := by decide +kernel
theorem dX6_pass_41 : decode cX6_pass 41 = .ok (.aload_n 0, 1) := by decide +kernel
theorem dX6_pass_42 : decode cX6_pass 42 = .ok (.aload_n 1, 1) := by decide +kernel
theorem dX6_pass_43 : decode cX6_pass 43 = .ok (.iload_n 2, 1) := by decide +kernel
theorem dX6_pass_44 : decode cX6_pass 44 = .ok (.invokevirtual 88, 3) := by decide +kernel
theorem dX6_pass_47 : decode cX6_pass 47 = .ok (.aload_n 0, 1) := by decide +kernel
theorem dX6_pass_48 : decode cX6_pass 48 = .ok (.dup, 1) := by decide +kernel
theorem dX6_pass_49 : decode cX6_pass 49 = .ok (.getfield 15, 3) := by decide +kernel
theorem dX6_pass_52 : decode cX6_pass 52 = .ok (.iload_n 2, 1) := by decide +kernel
theorem dX6_pass_53 : decode cX6_pass 53 = .ok (.bipush 110, 2) := by decide +kernel
theorem dX6_pass_55 : decode cX6_pass 55 = .ok (.if_icmp .ne 7, 3) := by decide +kernel
theorem dX6_pass_58 : decode cX6_pass 58 = .ok (.iconst 1, 1) := by decide +kernel
theorem dX6_pass_59 : decode cX6_pass 59 = .ok (.goto 4, 3) := by decide +kernel
theorem dX6_pass_62 : decode cX6_pass 62 = .ok (.iconst 0, 1) := by decide +kernel
theorem dX6_pass_63 : decode cX6_pass 63 = .ok (.iadd, 1) := by decide +kernel
theorem dX6_pass_64 : decode cX6_pass 64 = .ok (.putfield 15, 3) := by decide +kernel
theorem dX6_pass_67 : decode cX6_pass 67 = .ok (.aload_n 0, 1) := by decide +kernel
theorem dX6_pass_68 : decode cX6_pass 68 = .ok (.dup, 1) := by decide +kernel
theorem dX6_pass_69 : decode cX6_pass 69 = .ok (.getfield 19, 3) := by decide +kernel
theorem dX6_pass_72 : decode cX6_pass 72 = .ok (.iload_n 2, 1) := by decide +kernel
theorem dX6_pass_73 : decode cX6_pass 73 = .ok (.bipush 115, 2) := by decide +kernel
theorem dX6_pass_75 : decode cX6_pass 75 = .ok (.if_icmp .ne 7, 3) := by decide +kernel
theorem dX6_pass_78 : decode cX6_pass 78 = .ok (.iconst 1, 1) := by decide +kernel
theorem dX6_pass_79 : decode cX6_pass 79 = .ok (.goto 4, 3) := by decide +kernel
theorem dX6_pass_82 : decode cX6_pass 82 = .ok (.iconst 0, 1) := by decide +kernel
theorem dX6_pass_83 : decode cX6_pass 83 = .ok (.iadd, 1) := by decide +kernel
theorem dX6_pass_84 : decode cX6_pass 84 = .ok (.putfield 19, 3) := by decide +kernel
theorem dX6_pass_87 : decode cX6_pass 87 = .ok (.return_, 1) := by decide +kernel
theorem dX6_changeLevels_0 : decode cX6_changeLevels 0 = .ok (.iload_n 2, 1) := by decide +kernel
theorem dX6_changeLevels_1 : decode cX6_changeLevels 1 = .ok (.invokestatic 91, 3) := by decide +kernel
theorem dX6_changeLevels_4 : decode cX6_changeLevels 4 = .ok (.istore 5, 2) := by decide +kernel
theorem dX6_changeLevels_6 : decode cX6_changeLevels 6 = .ok (.iconst 0, 1) := by decide +kernel
theorem dX6_changeLevels_7 : decode cX6_changeLevels 7 = .ok (.istore 6, 2) := by decide +kernel
theorem dX6_changeLevels_9 : decode cX6_changeLevels 9 = .ok (.iload 6, 2) := by decide +kernel
theorem dX6_changeLevels_11 : decode cX6_changeLevels 11 = .ok (.bipush 8, 2) := by decide +kernel
theorem dX6_changeLevels_13 : decode cX6_changeLevels 13 = .ok (.if_icmp .ge 101, 3) := by decide +kernel
theorem dX6_changeLevels_16 : decode cX6_changeLevels 16 = .ok (.aload_n 1, 1) := by decide +kernel
theorem dX6_changeLevels_17 : decode cX6_changeLevels 17 = .ok (.iload 6, 2) := by decide +kernel
theorem dX6_changeLevels_19 : decode cX6_changeLevels 19 = .ok (.invokevirtual 94, 3) := by decide +kernel
theorem dX6_changeLevels_22 : decode cX6_changeLevels 22 = .ok (.ifCond .eq 86, 3) := by decide +kernel
theorem dX6_changeLevels_25 : decode cX6_changeLevels 25 = .ok (.iload 4, 2) := by decide +kernel
theorem dX6_changeLevels_27 : decode cX6_changeLevels 27 = .ok (.ifCond .eq 8, 3) := by decide +kernel
theorem dX6_changeLevels_30 : decode cX6_changeLevels 30 = .ok (.iload 5, 2) := by decide +kernel
theorem dX6_changeLevels_32 : decode cX6_changeLevels 32 = .ok (.goto 13, 3) := by decide +kernel
theorem dX6_changeLevels_35 : decode cX6_changeLevels 35 = .ok (.iload 5, 2) := by decide +kernel
theorem dX6_changeLevels_37 : decode cX6_changeLevels 37 = .ok (.aload_n 1, 1) := by decide +kernel
theorem dX6_changeLevels_38 : decode cX6_changeLevels 38 = .ok (.getfield 98, 3) := by decide +kernel
theorem dX6_changeLevels_41 : decode cX6_changeLevels 41 = .ok (.iload 6, 2) := by decide +kernel
theorem dX6_changeLevels_43 : decode cX6_changeLevels 43 = .ok (.iaload, 1) := by decide +kernel
theorem dX6_changeLevels_44 : decode cX6_changeLevels 44 = .ok (.isub, 1) := by decide +kernel
theorem dX6_changeLevels_45 : decode cX6_changeLevels 45 = .ok (.istore 7, 2) := by decide +kernel
theorem dX6_changeLevels_47 : decode cX6_changeLevels 47 = .ok (.iload_n 2, 1) := by decide +kernel
theorem dX6_changeLevels_48 : decode cX6_changeLevels 48 = .ok (.bipush 115, 2) := by decide +kernel
theorem dX6_changeLevels_50 : decode cX6_changeLevels 50 = .ok (.if_icmp .ne 18, 3) := by decide +kernel
theorem dX6_changeLevels_53 : decode cX6_changeLevels 53 = .ok (.iload 7, 2) := by decide +kernel
theorem dX6_changeLevels_55 : decode cX6_changeLevels 55 = .ok (.aload_n 0, 1) := by decide +kernel
theorem dX6_changeLevels_56 : decode cX6_changeLevels 56 = .ok (.aload_n 1, 1) := by decide +kernel
theorem dX6_changeLevels_57 : decode cX6_changeLevels 57 = .ok (.iload 6, 2) := by decide +kernel
theorem dX6_changeLevels_59 : decode cX6_changeLevels 59 = .ok (.invokevirtual 101, 3) := by decide +kernel
theorem dX6_changeLevels_62 : decode cX6_changeLevels 62 = .ok (.iadd, 1) := by decide +kernel
theorem dX6_changeLevels_63 : decode cX6_changeLevels 63 = .ok (.istore 7, 2) := by decide +kernel
theorem dX6_changeLevels_65 : decode cX6_changeLevels 65 = .ok (.goto 12, 3) := by decide +kernel
theorem dX6_changeLevels_68 : decode cX6_changeLevels 68 = .ok (.iload 6, 2) := by decide +kernel
theorem dX6_changeLevels_70 : decode cX6_changeLevels 70 = .ok (.iload_n 3, 1) := by decide +kernel
theorem dX6_changeLevels_71 : decode cX6_changeLevels 71 = .ok (.if_icmp .ne 6, 3) := by decide +kernel
theorem dX6_changeLevels_74 : decode cX6_changeLevels 74 = .ok (.iinc 7 5, 3) := by decide +kernel
theorem dX6_changeLevels_77 : decode cX6_changeLevels 77 = .ok (.aload_n 0, 1) := by decide +kernel
theorem dX6_changeLevels_78 : decode cX6_changeLevels 78 = .ok (.getfield 9, 3) := by decide +kernel
theorem dX6_changeLevels_81 : decode cX6_changeLevels 81 = .ok (.iload 6, 2) := by decide +kernel
theorem dX6_changeLevels_83 : decode cX6_changeLevels 83 = .ok (.aload_n 0, 1) := by decide +kernel
theorem dX6_changeLevels_84 : decode cX6_changeLevels 84 = .ok (.getfield 9, 3) := by decide +kernel
theorem dX6_changeLevels_87 : decode cX6_changeLevels 87 = .ok (.iload 6, 2) := by decide +kernel
theorem dX6_changeLevels_89 : decode cX6_changeLevels 89 = .ok (.iaload, 1) := by decide +kernel
theorem dX6_changeLevels_90 : decode cX6_changeLevels 90 = .ok (.iload 7, 2) := by decide +kernel
theorem dX6_changeLevels_92 : decode cX6_changeLevels 92 = .ok (.iadd, 1) := by decide +kernel
theorem dX6_changeLevels_93 : decode cX6_changeLevels 93 = .ok (.iconst 0, 1) := by decide +kernel
theorem dX6_changeLevels_94 : decode cX6_changeLevels 94 = .ok (.invokestatic 105, 3) := by decide +kernel
theorem dX6_changeLevels_97 : decode cX6_changeLevels 97 = .ok (.aload_n 1, 1) := by decide +kernel
theorem dX6_changeLevels_98 : decode cX6_changeLevels 98 = .ok (.getfield 52, 3) := by decide +kernel
theorem dX6_changeLevels_101 : decode cX6_changeLevels 101 = .ok (.iload 6, 2) := by decide +kernel
theorem dX6_changeLevels_103 : decode cX6_changeLevels 103 = .ok (.iaload, 1) := by decide +kernel
theorem dX6_changeLevels_104 : decode cX6_changeLevels 104 = .ok (.invokestatic 111, 3) := by decide +kernel
theorem dX6_changeLevels_107 : decode cX6_changeLevels 107 = .ok (.iastore, 1) := by decide +kernel
theorem dX6_changeLevels_108 : decode cX6_changeLevels 108 = .ok (.iinc 6 1, 3) := by decide +kernel
theorem dX6_changeLevels_111 : decode cX6_changeLevels 111 = .ok (.goto (-102), 3) := by decide +kernel
theorem dX6_changeLevels_114 : decode cX6_changeLevels 114 = .ok (.return_, 1) := by decide +kernel
theorem dX6_forAll_0 : decode cX6_forAll 0 = .ok (.iload_n 0, 1) := by decide +kernel
theorem dX6_forAll_1 : decode cX6_forAll 1 = .ok (.lookupswitch 52 #[(104, 46), (111, 48), (119, 43), (126, 50)], 43) := by decide +kernel
theorem dX6_forAll_44 : decode cX6_forAll 44 = .ok (.bipush (-2), 2) := by decide +kernel
theorem dX6_forAll_46 : decode cX6_forAll 46 = .ok (.ireturn, 1) := by decide +kernel
theorem dX6_forAll_47 : decode cX6_forAll 47 = .ok (.iconst 3, 1) := by decide +kernel
theorem dX6_forAll_48 : decode cX6_forAll 48 = .ok (.ireturn, 1) := by decide +kernel
theorem dX6_forAll_49 : decode cX6_forAll 49 = .ok (.iconst 1, 1) := by decide +kernel
theorem dX6_forAll_50 : decode cX6_forAll 50 = .ok (.ireturn, 1) := by decide +kernel
theorem dX6_forAll_51 : decode cX6_forAll 51 = .ok (.iconst 2, 1) := by decide +kernel
theorem dX6_forAll_52 : decode cX6_forAll 52 = .ok (.ireturn, 1) := by decide +kernel
theorem dX6_forAll_53 : decode cX6_forAll 53 = .ok (.iconst 0, 1) := by decide +kernel
theorem dX6_forAll_54 : decode cX6_forAll 54 = .ok (.ireturn, 1) := by decide +kernel
theorem dX6_startled_0 : decode cX6_startled 0 = .ok (.aload_n 1, 1) := by decide +kernel
theorem dX6_startled_1 : decode cX6_startled 1 = .ok (.getfield 114, 3) := by decide +kernel
theorem dX6_startled_4 : decode cX6_startled 4 = .ok (.iload_n 2, 1) := by decide +kernel
theorem dX6_startled_5 : decode cX6_startled 5 = .ok (.iaload, 1) := by decide +kernel
theorem dX6_startled_6 : decode cX6_startled 6 = .ok (.iconst 4, 1) := by decide +kernel
theorem dX6_startled_7 : decode cX6_startled 7 = .ok (.idiv, 1) := by decide +kernel
theorem dX6_startled_8 : decode cX6_startled 8 = .ok (.istore_n 3, 1) := by decide +kernel
theorem dX6_startled_9 : decode cX6_startled 9 = .ok (.aload_n 1, 1) := by decide +kernel
theorem dX6_startled_10 : decode cX6_startled 10 = .ok (.getfield 117, 3) := by decide +kernel
theorem dX6_startled_13 : decode cX6_startled 13 = .ok (.iconst 2, 1) := by decide +kernel
theorem dX6_startled_14 : decode cX6_startled 14 = .ok (.iload_n 3, 1) := by decide +kernel
theorem dX6_startled_15 : decode cX6_startled 15 = .ok (.imul, 1) := by decide +kernel
theorem dX6_startled_16 : decode cX6_startled 16 = .ok (.isub, 1) := by decide +kernel
theorem dX6_startled_17 : decode cX6_startled 17 = .ok (.aload_n 0, 1) := by decide +kernel
theorem dX6_startled_18 : decode cX6_startled 18 = .ok (.getfield 19, 3) := by decide +kernel
theorem dX6_startled_21 : decode cX6_startled 21 = .ok (.isub, 1) := by decide +kernel
theorem dX6_startled_22 : decode cX6_startled 22 = .ok (.iconst 0, 1) := by decide +kernel
theorem dX6_startled_23 : decode cX6_startled 23 = .ok (.invokestatic 105, 3) := by decide +kernel
theorem dX6_startled_26 : decode cX6_startled 26 = .ok (.ireturn, 1) := by decide +kernel
theorem dX6_findHeads_0 : decode cX6_findHeads 0 = .ok (.aload_n 0, 1) := by decide +kernel
theorem dX6_findHeads_1 : decode cX6_findHeads 1 = .ok (.iconst 0, 1) := by decide +kernel
theorem dX6_findHeads_2 : decode cX6_findHeads 2 = .ok (.putfield 22, 3) := by decide +kernel
theorem dX6_findHeads_5 : decode cX6_findHeads 5 = .ok (.aload_n 0, 1) := by decide +kernel
theorem dX6_findHeads_6 : decode cX6_findHeads 6 = .ok (.iconst 0, 1) := by decide +kernel
theorem dX6_findHeads_7 : decode cX6_findHeads 7 = .ok (.putfield 25, 3) := by decide +kernel
theorem dX6_findHeads_10 : decode cX6_findHeads 10 = .ok (.aload_n 0, 1) := by decide +kernel
theorem dX6_findHeads_11 : decode cX6_findHeads 11 = .ok (.iconst 0, 1) := by decide +kernel
theorem dX6_findHeads_12 : decode cX6_findHeads 12 = .ok (.putfield 28, 3) := by decide +kernel
theorem dX6_findHeads_15 : decode cX6_findHeads 15 = .ok (.iconst 0, 1) := by decide +kernel
theorem dX6_findHeads_16 : decode cX6_findHeads 16 = .ok (.istore_n 3, 1) := by decide +kernel
theorem dX6_findHeads_17 : decode cX6_findHeads 17 = .ok (.iload_n 3, 1) := by decide +kernel
theorem dX6_findHeads_18 : decode cX6_findHeads 18 = .ok (.bipush 8, 2) := by decide +kernel
theorem dX6_findHeads_20 : decode cX6_findHeads 20 = .ok (.if_icmp .ge 96, 3) := by decide +kernel
end
section
theorem dX6_findHeads_23 : decode cX6_findHeads 23 = .ok (.aload_n 1, 1) := by decide +kernel
theorem dX6_findHeads_24 : decode cX6_findHeads 24 = .ok (.iload_n 3, 1) := by decide +kernel
theorem dX6_findHeads_25 : decode cX6_findHeads 25 = .ok (.invokevirtual 94, 3) := by decide +kernel
theorem dX6_findHeads_28 : decode cX6_findHeads 28 = .ok (.ifCond .eq 82, 3) := by decide +kernel
theorem dX6_findHeads_31 : decode cX6_findHeads 31 = .ok (.iconst 1, 1) := by decide +kernel
theorem dX6_findHeads_32 : decode cX6_findHeads 32 = .ok (.aload_n 1, 1) := by decide +kernel
theorem dX6_findHeads_33 : decode cX6_findHeads 33 = .ok (.getfield 114, 3) := by decide +kernel
theorem dX6_findHeads_36 : decode cX6_findHeads 36 = .ok (.iload_n 3, 1) := by decide +kernel
theorem dX6_findHeads_37 : decode cX6_findHeads 37 = .ok (.iaload, 1) := by decide +kernel
theorem dX6_findHeads_38 : decode cX6_findHeads 38 = .ok (.ishl, 1) := by decide +kernel
theorem dX6_findHeads_39 : decode cX6_findHeads 39 = .ok (.istore 4, 2) := by decide +kernel
theorem dX6_findHeads_41 : decode cX6_findHeads 41 = .ok (.aload_n 0, 1) := by decide +kernel
theorem dX6_findHeads_42 : decode cX6_findHeads 42 = .ok (.dup, 1) := by decide +kernel
theorem dX6_findHeads_43 : decode cX6_findHeads 43 = .ok (.getfield 22, 3) := by decide +kernel
theorem dX6_findHeads_46 : decode cX6_findHeads 46 = .ok (.iload 4, 2) := by decide +kernel
theorem dX6_findHeads_48 : decode cX6_findHeads 48 = .ok (.ior, 1) := by decide +kernel
theorem dX6_findHeads_49 : decode cX6_findHeads 49 = .ok (.putfield 22, 3) := by decide +kernel
theorem dX6_findHeads_52 : decode cX6_findHeads 52 = .ok (.aload_n 1, 1) := by decide +kernel
theorem dX6_findHeads_53 : decode cX6_findHeads 53 = .ok (.iload_n 3, 1) := by decide +kernel
theorem dX6_findHeads_54 : decode cX6_findHeads 54 = .ok (.invokevirtual 120, 3) := by decide +kernel
theorem dX6_findHeads_57 : decode cX6_findHeads 57 = .ok (.ifCond .ne 53, 3) := by decide +kernel
theorem dX6_findHeads_60 : decode cX6_findHeads 60 = .ok (.aload_n 0, 1) := by decide +kernel
theorem dX6_findHeads_61 : decode cX6_findHeads 61 = .ok (.getfield 9, 3) := by decide +kernel
theorem dX6_findHeads_64 : decode cX6_findHeads 64 = .ok (.iload_n 3, 1) := by decide +kernel
theorem dX6_findHeads_65 : decode cX6_findHeads 65 = .ok (.iaload, 1) := by decide +kernel
theorem dX6_findHeads_66 : decode cX6_findHeads 66 = .ok (.ifCond .ne 17, 3) := by decide +kernel
theorem dX6_findHeads_69 : decode cX6_findHeads 69 = .ok (.aload_n 0, 1) := by decide +kernel
theorem dX6_findHeads_70 : decode cX6_findHeads 70 = .ok (.dup, 1) := by decide +kernel
theorem dX6_findHeads_71 : decode cX6_findHeads 71 = .ok (.getfield 25, 3) := by decide +kernel
theorem dX6_findHeads_74 : decode cX6_findHeads 74 = .ok (.iload 4, 2) := by decide +kernel
theorem dX6_findHeads_76 : decode cX6_findHeads 76 = .ok (.ior, 1) := by decide +kernel
theorem dX6_findHeads_77 : decode cX6_findHeads 77 = .ok (.putfield 25, 3) := by decide +kernel
theorem dX6_findHeads_80 : decode cX6_findHeads 80 = .ok (.goto 30, 3) := by decide +kernel
theorem dX6_findHeads_83 : decode cX6_findHeads 83 = .ok (.iload_n 2, 1) := by decide +kernel
theorem dX6_findHeads_84 : decode cX6_findHeads 84 = .ok (.bipush 99, 2) := by decide +kernel
theorem dX6_findHeads_86 : decode cX6_findHeads 86 = .ok (.if_icmp .ne 24, 3) := by decide +kernel
theorem dX6_findHeads_89 : decode cX6_findHeads 89 = .ok (.aload_n 1, 1) := by decide +kernel
theorem dX6_findHeads_90 : decode cX6_findHeads 90 = .ok (.getfield 123, 3) := by decide +kernel
theorem dX6_findHeads_93 : decode cX6_findHeads 93 = .ok (.iload_n 3, 1) := by decide +kernel
theorem dX6_findHeads_94 : decode cX6_findHeads 94 = .ok (.iaload, 1) := by decide +kernel
theorem dX6_findHeads_95 : decode cX6_findHeads 95 = .ok (.iconst 1, 1) := by decide +kernel
theorem dX6_findHeads_96 : decode cX6_findHeads 96 = .ok (.if_icmp .ne 14, 3) := by decide +kernel
theorem dX6_findHeads_99 : decode cX6_findHeads 99 = .ok (.aload_n 0, 1) := by decide +kernel
theorem dX6_findHeads_100 : decode cX6_findHeads 100 = .ok (.dup, 1) := by decide +kernel
theorem dX6_findHeads_101 : decode cX6_findHeads 101 = .ok (.getfield 28, 3) := by decide +kernel
theorem dX6_findHeads_104 : decode cX6_findHeads 104 = .ok (.iload 4, 2) := by decide +kernel
theorem dX6_findHeads_106 : decode cX6_findHeads 106 = .ok (.ior, 1) := by decide +kernel
theorem dX6_findHeads_107 : decode cX6_findHeads 107 = .ok (.putfield 28, 3) := by decide +kernel
theorem dX6_findHeads_110 : decode cX6_findHeads 110 = .ok (.iinc 3 1, 3) := by decide +kernel
theorem dX6_findHeads_113 : decode cX6_findHeads 113 = .ok (.goto (-96), 3) := by decide +kernel
theorem dX6_findHeads_116 : decode cX6_findHeads 116 = .ok (.aload_n 0, 1) := by decide +kernel
theorem dX6_findHeads_117 : decode cX6_findHeads 117 = .ok (.aload_n 0, 1) := by decide +kernel
theorem dX6_findHeads_118 : decode cX6_findHeads 118 = .ok (.getfield 25, 3) := by decide +kernel
theorem dX6_findHeads_121 : decode cX6_findHeads 121 = .ok (.aload_n 0, 1) := by decide +kernel
theorem dX6_findHeads_122 : decode cX6_findHeads 122 = .ok (.getfield 25, 3) := by decide +kernel
theorem dX6_findHeads_125 : decode cX6_findHeads 125 = .ok (.invokestatic 126, 3) := by decide +kernel
theorem dX6_findHeads_128 : decode cX6_findHeads 128 = .ok (.iand, 1) := by decide +kernel
theorem dX6_findHeads_129 : decode cX6_findHeads 129 = .ok (.aload_n 0, 1) := by decide +kernel
theorem dX6_findHeads_130 : decode cX6_findHeads 130 = .ok (.getfield 25, 3) := by decide +kernel
theorem dX6_findHeads_133 : decode cX6_findHeads 133 = .ok (.invokestatic 129, 3) := by decide +kernel
theorem dX6_findHeads_136 : decode cX6_findHeads 136 = .ok (.iand, 1) := by decide +kernel
theorem dX6_findHeads_137 : decode cX6_findHeads 137 = .ok (.putfield 31, 3) := by decide +kernel
theorem dX6_findHeads_140 : decode cX6_findHeads 140 = .ok (.return_, 1) := by decide +kernel
theorem dX6_rightOf_0 : decode cX6_rightOf 0 = .ok (.iload_n 0, 1) := by decide +kernel
theorem dX6_rightOf_1 : decode cX6_rightOf 1 = .ok (.iconst 1, 1) := by decide +kernel
theorem dX6_rightOf_2 : decode cX6_rightOf 2 = .ok (.ishl, 1) := by decide +kernel
theorem dX6_rightOf_3 : decode cX6_rightOf 3 = .ok (.sipush (-274), 3) := by decide +kernel
theorem dX6_rightOf_6 : decode cX6_rightOf 6 = .ok (.iand, 1) := by decide +kernel
theorem dX6_rightOf_7 : decode cX6_rightOf 7 = .ok (.ireturn, 1) := by decide +kernel
theorem dX6_leftOf_0 : decode cX6_leftOf 0 = .ok (.iload_n 0, 1) := by decide +kernel
theorem dX6_leftOf_1 : decode cX6_leftOf 1 = .ok (.iconst 1, 1) := by decide +kernel
theorem dX6_leftOf_2 : decode cX6_leftOf 2 = .ok (.ishr, 1) := by decide +kernel
theorem dX6_leftOf_3 : decode cX6_leftOf 3 = .ok (.sipush (-2185), 3) := by decide +kernel
theorem dX6_leftOf_6 : decode cX6_leftOf 6 = .ok (.iand, 1) := by decide +kernel
theorem dX6_leftOf_7 : decode cX6_leftOf 7 = .ok (.ireturn, 1) := by decide +kernel
theorem dX6_elbow_0 : decode cX6_elbow 0 = .ok (.aload_n 0, 1) := by decide +kernel
theorem dX6_elbow_1 : decode cX6_elbow 1 = .ok (.getfield 22, 3) := by decide +kernel
theorem dX6_elbow_4 : decode cX6_elbow 4 = .ok (.aload_n 0, 1) := by decide +kernel
theorem dX6_elbow_5 : decode cX6_elbow 5 = .ok (.getfield 25, 3) := by decide +kernel
theorem dX6_elbow_8 : decode cX6_elbow 8 = .ok (.iconst (-1), 1) := by decide +kernel
theorem dX6_elbow_9 : decode cX6_elbow 9 = .ok (.ixor, 1) := by decide +kernel
theorem dX6_elbow_10 : decode cX6_elbow 10 = .ok (.iand, 1) := by decide +kernel
theorem dX6_elbow_11 : decode cX6_elbow 11 = .ok (.istore_n 2, 1) := by decide +kernel
theorem dX6_elbow_12 : decode cX6_elbow 12 = .ok (.aload_n 0, 1) := by decide +kernel
theorem dX6_elbow_13 : decode cX6_elbow 13 = .ok (.getfield 25, 3) := by decide +kernel
theorem dX6_elbow_16 : decode cX6_elbow 16 = .ok (.iload_n 2, 1) := by decide +kernel
theorem dX6_elbow_17 : decode cX6_elbow 17 = .ok (.invokestatic 126, 3) := by decide +kernel
theorem dX6_elbow_20 : decode cX6_elbow 20 = .ok (.iload_n 2, 1) := by decide +kernel
theorem dX6_elbow_21 : decode cX6_elbow 21 = .ok (.invokestatic 129, 3) := by decide +kernel
theorem dX6_elbow_24 : decode cX6_elbow 24 = .ok (.ior, 1) := by decide +kernel
theorem dX6_elbow_25 : decode cX6_elbow 25 = .ok (.iand, 1) := by decide +kernel
theorem dX6_elbow_26 : decode cX6_elbow 26 = .ok (.istore_n 3, 1) := by decide +kernel
theorem dX6_elbow_27 : decode cX6_elbow 27 = .ok (.iconst 0, 1) := by decide +kernel
theorem dX6_elbow_28 : decode cX6_elbow 28 = .ok (.istore 4, 2) := by decide +kernel
theorem dX6_elbow_30 : decode cX6_elbow 30 = .ok (.iload_n 3, 1) := by decide +kernel
theorem dX6_elbow_31 : decode cX6_elbow 31 = .ok (.ifCond .eq 57, 3) := by decide +kernel
theorem dX6_elbow_34 : decode cX6_elbow 34 = .ok (.iload 4, 2) := by decide +kernel
theorem dX6_elbow_36 : decode cX6_elbow 36 = .ok (.bipush 8, 2) := by decide +kernel
theorem dX6_elbow_38 : decode cX6_elbow 38 = .ok (.if_icmp .ge 50, 3) := by decide +kernel
theorem dX6_elbow_41 : decode cX6_elbow 41 = .ok (.aload_n 1, 1) := by decide +kernel
theorem dX6_elbow_42 : decode cX6_elbow 42 = .ok (.iload 4, 2) := by decide +kernel
theorem dX6_elbow_44 : decode cX6_elbow 44 = .ok (.invokevirtual 94, 3) := by decide +kernel
theorem dX6_elbow_47 : decode cX6_elbow 47 = .ok (.ifCond .eq 35, 3) := by decide +kernel
theorem dX6_elbow_50 : decode cX6_elbow 50 = .ok (.iload_n 3, 1) := by decide +kernel
theorem dX6_elbow_51 : decode cX6_elbow 51 = .ok (.aload_n 1, 1) := by decide +kernel
theorem dX6_elbow_52 : decode cX6_elbow 52 = .ok (.getfield 114, 3) := by decide +kernel
theorem dX6_elbow_55 : decode cX6_elbow 55 = .ok (.iload 4, 2) := by decide +kernel
theorem dX6_elbow_57 : decode cX6_elbow 57 = .ok (.iaload, 1) := by decide +kernel
theorem dX6_elbow_58 : decode cX6_elbow 58 = .ok (.ishr, 1) := by decide +kernel
theorem dX6_elbow_59 : decode cX6_elbow 59 = .ok (.iconst 1, 1) := by decide +kernel
theorem dX6_elbow_60 : decode cX6_elbow 60 = .ok (.iand, 1) := by decide +kernel
theorem dX6_elbow_61 : decode cX6_elbow 61 = .ok (.ifCond .eq 21, 3) := by decide +kernel
theorem dX6_elbow_64 : decode cX6_elbow 64 = .ok (.aload_n 0, 1) := by decide +kernel
theorem dX6_elbow_65 : decode cX6_elbow 65 = .ok (.getfield 9, 3) := by decide +kernel
theorem dX6_elbow_68 : decode cX6_elbow 68 = .ok (.iload 4, 2) := by decide +kernel
theorem dX6_elbow_70 : decode cX6_elbow 70 = .ok (.iconst 2, 1) := by decide +kernel
theorem dX6_elbow_71 : decode cX6_elbow 71 = .ok (.aload_n 1, 1) := by decide +kernel
theorem dX6_elbow_72 : decode cX6_elbow 72 = .ok (.getfield 52, 3) := by decide +kernel
theorem dX6_elbow_75 : decode cX6_elbow 75 = .ok (.iload 4, 2) := by decide +kernel
theorem dX6_elbow_77 : decode cX6_elbow 77 = .ok (.iaload, 1) := by decide +kernel
theorem dX6_elbow_78 : decode cX6_elbow 78 = .ok (.invokestatic 111, 3) := by decide +kernel
theorem dX6_elbow_81 : decode cX6_elbow 81 = .ok (.iastore, 1) := by decide +kernel
theorem dX6_elbow_82 : decode cX6_elbow 82 = .ok (.iinc 4 1, 3) := by decide +kernel
theorem dX6_elbow_85 : decode cX6_elbow 85 = .ok (.goto (-55), 3) := by decide +kernel
theorem dX6_elbow_88 : decode cX6_elbow 88 = .ok (.return_, 1) := by decide +kernel
theorem dX6_count_0 : decode cX6_count 0 = .ok (.iload_n 2, 1) := by decide +kernel
theorem dX6_count_1 : decode cX6_count 1 = .ok (.bipush 104, 2) := by decide +kernel
theorem dX6_count_3 : decode cX6_count 3 = .ok (.if_icmp .ne 7, 3) := by decide +kernel
theorem dX6_count_6 : decode cX6_count 6 = .ok (.iconst 1, 1) := by decide +kernel
theorem dX6_count_7 : decode cX6_count 7 = .ok (.goto 14, 3) := by decide +kernel
theorem dX6_count_10 : decode cX6_count 10 = .ok (.iload_n 2, 1) := by decide +kernel
theorem dX6_count_11 : decode cX6_count 11 = .ok (.bipush 111, 2) := by decide +kernel
theorem dX6_count_13 : decode cX6_count 13 = .ok (.if_icmp .ne 7, 3) := by decide +kernel
theorem dX6_count_16 : decode cX6_count 16 = .ok (.iconst 2, 1) := by decide +kernel
theorem dX6_count_17 : decode cX6_count 17 = .ok (.goto 4, 3) := by decide +kernel
theorem dX6_count_20 : decode cX6_count 20 = .ok (.iconst 0, 1) := by decide +kernel
theorem dX6_count_21 : decode cX6_count 21 = .ok (.istore_n 3, 1) := by decide +kernel
theorem dX6_count_22 : decode cX6_count 22 = .ok (.aload_n 1, 1) := by decide +kernel
theorem dX6_count_23 : decode cX6_count 23 = .ok (.getfield 132, 3) := by decide +kernel
theorem dX6_count_26 : decode cX6_count 26 = .ok (.iconst 4, 1) := by decide +kernel
theorem dX6_count_27 : decode cX6_count 27 = .ok (.imul, 1) := by decide +kernel
theorem dX6_count_28 : decode cX6_count 28 = .ok (.istore 4, 2) := by decide +kernel
theorem dX6_count_30 : decode cX6_count 30 = .ok (.aload_n 0, 1) := by decide +kernel
theorem dX6_count_31 : decode cX6_count 31 = .ok (.invokevirtual 135, 3) := by decide +kernel
theorem dX6_count_34 : decode cX6_count 34 = .ok (.istore 5, 2) := by decide +kernel
theorem dX6_count_36 : decode cX6_count 36 = .ok (.aload_n 0, 1) := by decide +kernel
theorem dX6_count_37 : decode cX6_count 37 = .ok (.getfield 25, 3) := by decide +kernel
theorem dX6_count_40 : decode cX6_count 40 = .ok (.invokestatic 139, 3) := by decide +kernel
theorem dX6_count_43 : decode cX6_count 43 = .ok (.istore 6, 2) := by decide +kernel
theorem dX6_count_45 : decode cX6_count 45 = .ok (.aload_n 0, 1) := by decide +kernel
theorem dX6_count_46 : decode cX6_count 46 = .ok (.dup, 1) := by decide +kernel
theorem dX6_count_47 : decode cX6_count 47 = .ok (.getfield 34, 3) := by decide +kernel
theorem dX6_count_50 : decode cX6_count 50 = .ok (.iload 6, 2) := by decide +kernel
theorem dX6_count_52 : decode cX6_count 52 = .ok (.iadd, 1) := by decide +kernel
theorem dX6_count_53 : decode cX6_count 53 = .ok (.putfield 34, 3) := by decide +kernel
theorem dX6_count_56 : decode cX6_count 56 = .ok (.aload_n 0, 1) := by decide +kernel
theorem dX6_count_57 : decode cX6_count 57 = .ok (.dup, 1) := by decide +kernel
theorem dX6_count_58 : decode cX6_count 58 = .ok (.getfield 37, 3) := by decide +kernel
theorem dX6_count_61 : decode cX6_count 61 = .ok (.iload 5, 2) := by decide +kernel
theorem dX6_count_63 : decode cX6_count 63 = .ok (.invokestatic 139, 3) := by decide +kernel
theorem dX6_count_66 : decode cX6_count 66 = .ok (.iadd, 1) := by decide +kernel
theorem dX6_count_67 : decode cX6_count 67 = .ok (.putfield 37, 3) := by decide +kernel
theorem dX6_count_70 : decode cX6_count 70 = .ok (.aload_n 0, 1) := by decide +kernel
theorem dX6_count_71 : decode cX6_count 71 = .ok (.dup, 1) := by decide +kernel
theorem dX6_count_72 : decode cX6_count 72 = .ok (.getfield 40, 3) := by decide +kernel
theorem dX6_count_75 : decode cX6_count 75 = .ok (.aload_n 1, 1) := by decide +kernel
theorem dX6_count_76 : decode cX6_count 76 = .ok (.getfield 144, 3) := by decide +kernel
theorem dX6_count_79 : decode cX6_count 79 = .ok (.iload 5, 2) := by decide +kernel
theorem dX6_count_81 : decode cX6_count 81 = .ok (.iload 4, 2) := by decide +kernel
theorem dX6_count_83 : decode cX6_count 83 = .ok (.ishr, 1) := by decide +kernel
theorem dX6_count_84 : decode cX6_count 84 = .ok (.invokestatic 139, 3) := by decide +kernel
theorem dX6_count_87 : decode cX6_count 87 = .ok (.imul, 1) := by decide +kernel
theorem dX6_count_88 : decode cX6_count 88 = .ok (.iadd, 1) := by decide +kernel
theorem dX6_count_89 : decode cX6_count 89 = .ok (.putfield 40, 3) := by decide +kernel
theorem dX6_count_92 : decode cX6_count 92 = .ok (.aload_n 0, 1) := by decide +kernel
theorem dX6_count_93 : decode cX6_count 93 = .ok (.dup, 1) := by decide +kernel
theorem dX6_count_94 : decode cX6_count 94 = .ok (.getfield 43, 3) := by decide +kernel
theorem dX6_count_97 : decode cX6_count 97 = .ok (.iload_n 3, 1) := by decide +kernel
theorem dX6_count_98 : decode cX6_count 98 = .ok (.aload_n 0, 1) := by decide +kernel
theorem dX6_count_99 : decode cX6_count 99 = .ok (.getfield 22, 3) := by decide +kernel
theorem dX6_count_102 : decode cX6_count 102 = .ok (.aload_n 0, 1) := by decide +kernel
theorem dX6_count_103 : decode cX6_count 103 = .ok (.getfield 25, 3) := by decide +kernel
theorem dX6_count_106 : decode cX6_count 106 = .ok (.iconst (-1), 1) := by decide +kernel
theorem dX6_count_107 : decode cX6_count 107 = .ok (.ixor, 1) := by decide +kernel
theorem dX6_count_108 : decode cX6_count 108 = .ok (.iand, 1) := by decide +kernel
theorem dX6_count_109 : decode cX6_count 109 = .ok (.invokestatic 139, 3) := by decide +kernel
theorem dX6_count_112 : decode cX6_count 112 = .ok (.imul, 1) := by decide +kernel
theorem dX6_count_113 : decode cX6_count 113 = .ok (.iadd, 1) := by decide +kernel
theorem dX6_count_114 : decode cX6_count 114 = .ok (.putfield 43, 3) := by decide +kernel
theorem dX6_count_117 : decode cX6_count 117 = .ok (.aload_n 0, 1) := by decide +kernel
theorem dX6_count_118 : decode cX6_count 118 = .ok (.dup, 1) := by decide +kernel
theorem dX6_count_119 : decode cX6_count 119 = .ok (.getfield 46, 3) := by decide +kernel
theorem dX6_count_122 : decode cX6_count 122 = .ok (.iload_n 3, 1) := by decide +kernel
theorem dX6_count_123 : decode cX6_count 123 = .ok (.iload 6, 2) := by decide +kernel
theorem dX6_count_125 : decode cX6_count 125 = .ok (.imul, 1) := by decide +kernel
theorem dX6_count_126 : decode cX6_count 126 = .ok (.iadd, 1) := by decide +kernel
theorem dX6_count_127 : decode cX6_count 127 = .ok (.putfield 46, 3) := by decide +kernel
theorem dX6_count_130 : decode cX6_count 130 = .ok (.aload_n 0, 1) := by decide +kernel
theorem dX6_count_131 : decode cX6_count 131 = .ok (.dup, 1) := by decide +kernel
theorem dX6_count_132 : decode cX6_count 132 = .ok (.getfield 49, 3) := by decide +kernel
theorem dX6_count_135 : decode cX6_count 135 = .ok (.aload_n 0, 1) := by decide +kernel
theorem dX6_count_136 : decode cX6_count 136 = .ok (.getfield 31, 3) := by decide +kernel
theorem dX6_count_139 : decode cX6_count 139 = .ok (.invokestatic 139, 3) := by decide +kernel
theorem dX6_count_142 : decode cX6_count 142 = .ok (.iadd, 1) := by decide +kernel
theorem dX6_count_143 : decode cX6_count 143 = .ok (.putfield 49, 3) := by decide +kernel
theorem dX6_count_146 : decode cX6_count 146 = .ok (.return_, 1) := by decide +kernel
theorem dX6_dipping_0 : decode cX6_dipping 0 = .ok (.aload_n 0, 1) := by decide +kernel
theorem dX6_dipping_1 : decode cX6_dipping 1 = .ok (.getfield 25, 3) := by decide +kernel
theorem dX6_dipping_4 : decode cX6_dipping 4 = .ok (.aload_n 0, 1) := by decide +kernel
theorem dX6_dipping_5 : decode cX6_dipping 5 = .ok (.getfield 28, 3) := by decide +kernel
theorem dX6_dipping_8 : decode cX6_dipping 8 = .ok (.ior, 1) := by decide +kernel
theorem dX6_dipping_9 : decode cX6_dipping 9 = .ok (.ireturn, 1) := by decide +kernel
theorem dX6_gained_0 : decode cX6_gained 0 = .ok (.sipush 10000, 3) := by decide +kernel
theorem dX6_gained_3 : decode cX6_gained 3 = .ok (.aload_n 0, 1) := by decide +kernel
theorem dX6_gained_4 : decode cX6_gained 4 = .ok (.getfield 43, 3) := by decide +kernel
theorem dX6_gained_7 : decode cX6_gained 7 = .ok (.iadd, 1) := by decide +kernel
theorem dX6_gained_8 : decode cX6_gained 8 = .ok (.aload_n 0, 1) := by decide +kernel
theorem dX6_gained_9 : decode cX6_gained 9 = .ok (.getfield 40, 3) := by decide +kernel
theorem dX6_gained_12 : decode cX6_gained 12 = .ok (.isub, 1) := by decide +kernel
theorem dX6_gained_13 : decode cX6_gained 13 = .ok (.ireturn, 1) := by decide +kernel
theorem dX6_didHe_0 : decode cX6_didHe 0 = .ok (.iload_n 1, 1) := by decide +kernel
theorem dX6_didHe_1 : decode cX6_didHe 1 = .ok (.iconst 1, 1) := by decide +kernel
theorem dX6_didHe_2 : decode cX6_didHe 2 = .ok (.if_icmp .ne 10, 3) := by decide +kernel
theorem dX6_didHe_5 : decode cX6_didHe 5 = .ok (.aload_n 0, 1) := by decide +kernel
theorem dX6_didHe_6 : decode cX6_didHe 6 = .ok (.getfield 25, 3) := by decide +kernel
theorem dX6_didHe_9 : decode cX6_didHe 9 = .ok (.goto 19, 3) := by decide +kernel
theorem dX6_didHe_12 : decode cX6_didHe 12 = .ok (.iload_n 1, 1) := by decide +kernel
theorem dX6_didHe_13 : decode cX6_didHe 13 = .ok (.iconst 2, 1) := by decide +kernel
theorem dX6_didHe_14 : decode cX6_didHe 14 = .ok (.if_icmp .ne 10, 3) := by decide +kernel
theorem dX6_didHe_17 : decode cX6_didHe 17 = .ok (.aload_n 0, 1) := by decide +kernel
theorem dX6_didHe_18 : decode cX6_didHe 18 = .ok (.getfield 28, 3) := by decide +kernel
theorem dX6_didHe_21 : decode cX6_didHe 21 = .ok (.goto 7, 3) := by decide +kernel
theorem dX6_didHe_24 : decode cX6_didHe 24 = .ok (.aload_n 0, 1) := by decide +kernel
theorem dX6_didHe_25 : decode cX6_didHe 25 = .ok (.getfield 31, 3) := by decide +kernel
theorem dX6_didHe_28 : decode cX6_didHe 28 = .ok (.istore_n 3, 1) := by decide +kernel
theorem dX6_didHe_29 : decode cX6_didHe 29 = .ok (.iload_n 3, 1) := by decide +kernel
theorem dX6_didHe_30 : decode cX6_didHe 30 = .ok (.iload_n 2, 1) := by decide +kernel
theorem dX6_didHe_31 : decode cX6_didHe 31 = .ok (.ishr, 1) := by decide +kernel
theorem dX6_didHe_32 : decode cX6_didHe 32 = .ok (.iconst 1, 1) := by decide +kernel
theorem dX6_didHe_33 : decode cX6_didHe 33 = .ok (.iand, 1) := by decide +kernel
theorem dX6_didHe_34 : decode cX6_didHe 34 = .ok (.ireturn, 1) := by decide +kernel
theorem dX6_total_0 : decode cX6_total 0 = .ok (.iload_n 1, 1) := by decide +kernel
theorem dX6_total_1 : decode cX6_total 1 = .ok (.tableswitch 51 0 3 #[31, 36, 41, 46], 31) := by decide +kernel
theorem dX6_total_32 : decode cX6_total 32 = .ok (.aload_n 0, 1) := by decide +kernel
theorem dX6_total_33 : decode cX6_total 33 = .ok (.getfield 34, 3) := by decide +kernel
theorem dX6_total_36 : decode cX6_total 36 = .ok (.ireturn, 1) := by decide +kernel
theorem dX6_total_37 : decode cX6_total 37 = .ok (.aload_n 0, 1) := by decide +kernel
theorem dX6_total_38 : decode cX6_total 38 = .ok (.getfield 37, 3) := by decide +kernel
theorem dX6_total_41 : decode cX6_total 41 = .ok (.ireturn, 1) := by decide +kernel
theorem dX6_total_42 : decode cX6_total 42 = .ok (.aload_n 0, 1) := by decide +kernel
theorem dX6_total_43 : decode cX6_total 43 = .ok (.getfield 40, 3) := by decide +kernel
theorem dX6_total_46 : decode cX6_total 46 = .ok (.ireturn, 1) := by decide +kernel
theorem dX6_total_47 : decode cX6_total 47 = .ok (.aload_n 0, 1) := by decide +kernel
theorem dX6_total_48 : decode cX6_total 48 = .ok (.getfield 43, 3) := by decide +kernel
theorem dX6_total_51 : decode cX6_total 51 = .ok (.ireturn, 1) := by decide +kernel
theorem dX6_total_52 : decode cX6_total 52 = .ok (.aload_n 0, 1) := by decide +kernel
theorem dX6_total_53 : decode cX6_total 53 = .ok (.getfield 49, 3) := by decide +kernel
theorem dX6_total_56 : decode cX6_total 56 = .ok (.ireturn, 1) := by decide +kernel
theorem dX7_init_0 : decode cX7_init 0 = .ok (.aload_n 0, 1) := by decide +kernel
theorem dX7_init_1 : decode cX7_init 1 = .ok (.invokespecial 3, 3) := by decide +kernel
theorem dX7_init_4 : decode cX7_init 4 = .ok (.aload_n 0, 1) := by decide +kernel
theorem dX7_init_5 : decode cX7_init 5 = .ok (.lconst 0, 1) := by decide +kernel
theorem dX7_init_6 : decode cX7_init 6 = .ok (.putfield 9, 3) := by decide +kernel
theorem dX7_init_9 : decode cX7_init 9 = .ok (.aload_n 0, 1) := by decide +kernel
theorem dX7_init_10 : decode cX7_init 10 = .ok (.lconst 0, 1) := by decide +kernel
theorem dX7_init_11 : decode cX7_init 11 = .ok (.putfield 15, 3) := by decide +kernel
theorem dX7_init_14 : decode cX7_init 14 = .ok (.aload_n 0, 1) := by decide +kernel
theorem dX7_init_15 : decode cX7_init 15 = .ok (.lconst 1, 1) := by decide +kernel
theorem dX7_init_16 : decode cX7_init 16 = .ok (.putfield 18, 3) := by decide +kernel
theorem dX7_init_19 : decode cX7_init 19 = .ok (.aload_n 0, 1) := by decide +kernel
theorem dX7_init_20 : decode cX7_init 20 = .ok (.iconst 0, 1) := by decide +kernel
theorem dX7_init_21 : decode cX7_init 21 = .ok (.putfield 21, 3) := by decide +kernel
theorem dX7_init_24 : decode cX7_init 24 = .ok (.return_, 1) := by decide +kernel
theorem dX7_weigh_0 : decode cX7_weigh 0 = .ok (.aload_n 0, 1) := by decide +kernel
theorem dX7_weigh_1 : decode cX7_weigh 1 = .ok (.iload 4, 2) := by decide +kernel
theorem dX7_weigh_3 : decode cX7_weigh 3 = .ok (.putfield 21, 3) := by decide +kernel
theorem dX7_weigh_6 : decode cX7_weigh 6 = .ok (.aload_n 0, 1) := by decide +kernel
theorem dX7_weigh_7 : decode cX7_weigh 7 = .ok (.lconst 0, 1) := by decide +kernel
theorem dX7_weigh_8 : decode cX7_weigh 8 = .ok (.putfield 9, 3) := by decide +kernel
theorem dX7_weigh_11 : decode cX7_weigh 11 = .ok (.aload_n 0, 1) := by decide +kernel
theorem dX7_weigh_12 : decode cX7_weigh 12 = .ok (.lconst 0, 1) := by decide +kernel
theorem dX7_weigh_13 : decode cX7_weigh 13 = .ok (.putfield 15, 3) := by decide +kernel
theorem dX7_weigh_16 : decode cX7_weigh 16 = .ok (.aload_n 0, 1) := by decide +kernel
theorem dX7_weigh_17 : decode cX7_weigh 17 = .ok (.lconst 1, 1) := by decide +kernel
theorem dX7_weigh_18 : decode cX7_weigh 18 = .ok (.putfield 18, 3) := by decide +kernel
theorem dX7_weigh_21 : decode cX7_weigh 21 = .ok (.iconst 0, 1) := by decide +kernel
theorem dX7_weigh_22 : decode cX7_weigh 22 = .ok (.istore 5, 2) := by decide +kernel
theorem dX7_weigh_24 : decode cX7_weigh 24 = .ok (.iload 5, 2) := by decide +kernel
theorem dX7_weigh_26 : decode cX7_weigh 26 = .ok (.aload_n 2, 1) := by decide +kernel
theorem dX7_weigh_27 : decode cX7_weigh 27 = .ok (.getfield 25, 3) := by decide +kernel
theorem dX7_weigh_30 : decode cX7_weigh 30 = .ok (.if_icmp .ge 28, 3) := by decide +kernel
theorem dX7_weigh_33 : decode cX7_weigh 33 = .ok (.iload 5, 2) := by decide +kernel
theorem dX7_weigh_35 : decode cX7_weigh 35 = .ok (.bipush 10, 2) := by decide +kernel
theorem dX7_weigh_37 : decode cX7_weigh 37 = .ok (.if_icmp .ge 21, 3) := by decide +kernel
theorem dX7_weigh_40 : decode cX7_weigh 40 = .ok (.aload_n 0, 1) := by decide +kernel
theorem dX7_weigh_41 : decode cX7_weigh 41 = .ok (.dup, 1) := by decide +kernel
theorem dX7_weigh_42 : decode cX7_weigh 42 = .ok (.getfield 18, 3) := by decide +kernel
theorem dX7_weigh_45 : decode cX7_weigh 45 = .ok (.ldc2_w 30, 3) := by decide +kernel
theorem dX7_weigh_48 : decode cX7_weigh 48 = .ok (.lmul, 1) := by decide +kernel
theorem dX7_weigh_49 : decode cX7_weigh 49 = .ok (.putfield 18, 3) := by decide +kernel
theorem dX7_weigh_52 : decode cX7_weigh 52 = .ok (.iinc 5 1, 3) := by decide +kernel
theorem dX7_weigh_55 : decode cX7_weigh 55 = .ok (.goto (-31), 3) := by decide +kernel
theorem dX7_weigh_58 : decode cX7_weigh 58 = .ok (.aload_n 3, 1) := by decide +kernel
theorem dX7_weigh_59 : decode cX7_weigh 59 = .ok (.iconst 0, 1) := by decide +kernel
theorem dX7_weigh_60 : decode cX7_weigh 60 = .ok (.aaload, 1) := by decide +kernel
theorem dX7_weigh_61 : decode cX7_weigh 61 = .ok (.aload_n 1, 1) := by decide +kernel
theorem dX7_weigh_62 : decode cX7_weigh 62 = .ok (.invokevirtual 32, 3) := by decide +kernel
theorem dX7_weigh_65 : decode cX7_weigh 65 = .ok (.aload_n 0, 1) := by decide +kernel
theorem dX7_weigh_66 : decode cX7_weigh 66 = .ok (.aload_n 1, 1) := by decide +kernel
theorem dX7_weigh_67 : decode cX7_weigh 67 = .ok (.aload_n 2, 1) := by decide +kernel
theorem dX7_weigh_68 : decode cX7_weigh 68 = .ok (.aload_n 3, 1) := by decide +kernel
theorem dX7_weigh_69 : decode cX7_weigh 69 = .ok (.iconst 0, 1) := by decide +kernel
theorem dX7_weigh_70 : decode cX7_weigh 70 = .ok (.lconst 1, 1) := by decide +kernel
theorem dX7_weigh_71 : decode cX7_weigh 71 = .ok (.invokevirtual 38, 3) := by decide +kernel
theorem dX7_weigh_74 : decode cX7_weigh 74 = .ok (.return_, 1) := by decide +kernel
theorem dX7_goOn_0 : decode cX7_goOn 0 = .ok (.lload 5, 2) := by decide +kernel
theorem dX7_goOn_2 : decode cX7_goOn 2 = .ok (.lconst 0, 1) := by decide +kernel
theorem dX7_goOn_3 : decode cX7_goOn 3 = .ok (.lcmp, 1) := by decide +kernel
theorem dX7_goOn_4 : decode cX7_goOn 4 = .ok (.ifCond .ne 4, 3) := by decide +kernel
theorem dX7_goOn_7 : decode cX7_goOn 7 = .ok (.return_, 1) := by decide +kernel
theorem dX7_goOn_8 : decode cX7_goOn 8 = .ok (.aload_n 3, 1) := by decide +kernel
theorem dX7_goOn_9 : decode cX7_goOn 9 = .ok (.iload 4, 2) := by decide +kernel
theorem dX7_goOn_11 : decode cX7_goOn 11 = .ok (.aaload, 1) := by decide +kernel
theorem dX7_goOn_12 : decode cX7_goOn 12 = .ok (.astore 7, 2) := by decide +kernel
theorem dX7_goOn_14 : decode cX7_goOn 14 = .ok (.iload 4, 2) := by decide +kernel
theorem dX7_goOn_16 : decode cX7_goOn 16 = .ok (.aload_n 2, 1) := by decide +kernel
theorem dX7_goOn_17 : decode cX7_goOn 17 = .ok (.getfield 25, 3) := by decide +kernel
theorem dX7_goOn_20 : decode cX7_goOn 20 = .ok (.if_icmp .ge 10, 3) := by decide +kernel
theorem dX7_goOn_23 : decode cX7_goOn 23 = .ok (.iload 4, 2) := by decide +kernel
theorem dX7_goOn_25 : decode cX7_goOn 25 = .ok (.bipush 10, 2) := by decide +kernel
theorem dX7_goOn_27 : decode cX7_goOn 27 = .ok (.if_icmp .lt 45, 3) := by decide +kernel
theorem dX7_goOn_30 : decode cX7_goOn 30 = .ok (.aload_n 0, 1) := by decide +kernel
theorem dX7_goOn_31 : decode cX7_goOn 31 = .ok (.dup, 1) := by decide +kernel
theorem dX7_goOn_32 : decode cX7_goOn 32 = .ok (.getfield 9, 3) := by decide +kernel
theorem dX7_goOn_35 : decode cX7_goOn 35 = .ok (.aload 7, 2) := by decide +kernel
theorem dX7_goOn_37 : decode cX7_goOn 37 = .ok (.getfield 42, 3) := by decide +kernel
theorem dX7_goOn_40 : decode cX7_goOn 40 = .ok (.ifCond .ne 8, 3) := by decide +kernel
theorem dX7_goOn_43 : decode cX7_goOn 43 = .ok (.lload 5, 2) := by decide +kernel
theorem dX7_goOn_45 : decode cX7_goOn 45 = .ok (.goto 4, 3) := by decide +kernel
theorem dX7_goOn_48 : decode cX7_goOn 48 = .ok (.lconst 0, 1) := by decide +kernel
theorem dX7_goOn_49 : decode cX7_goOn 49 = .ok (.ladd, 1) := by decide +kernel
theorem dX7_goOn_50 : decode cX7_goOn 50 = .ok (.putfield 9, 3) := by decide +kernel
theorem dX7_goOn_53 : decode cX7_goOn 53 = .ok (.aload_n 0, 1) := by decide +kernel
theorem dX7_goOn_54 : decode cX7_goOn 54 = .ok (.dup, 1) := by decide +kernel
theorem dX7_goOn_55 : decode cX7_goOn 55 = .ok (.getfield 15, 3) := by decide +kernel
theorem dX7_goOn_58 : decode cX7_goOn 58 = .ok (.lload 5, 2) := by decide +kernel
theorem dX7_goOn_60 : decode cX7_goOn 60 = .ok (.aload 7, 2) := by decide +kernel
theorem dX7_goOn_62 : decode cX7_goOn 62 = .ok (.getfield 42, 3) := by decide +kernel
theorem dX7_goOn_65 : decode cX7_goOn 65 = .ok (.i2l, 1) := by decide +kernel
theorem dX7_goOn_66 : decode cX7_goOn 66 = .ok (.lmul, 1) := by decide +kernel
theorem dX7_goOn_67 : decode cX7_goOn 67 = .ok (.ladd, 1) := by decide +kernel
theorem dX7_goOn_68 : decode cX7_goOn 68 = .ok (.putfield 15, 3) := by decide +kernel
theorem dX7_goOn_71 : decode cX7_goOn 71 = .ok (.return_, 1) := by decide +kernel
theorem dX7_goOn_72 : decode cX7_goOn 72 = .ok (.aload_n 3, 1) := by decide +kernel
theorem dX7_goOn_73 : decode cX7_goOn 73 = .ok (.iload 4, 2) := by decide +kernel
theorem dX7_goOn_75 : decode cX7_goOn 75 = .ok (.iconst 1, 1) := by decide +kernel
theorem dX7_goOn_76 : decode cX7_goOn 76 = .ok (.iadd, 1) := by decide +kernel
theorem dX7_goOn_77 : decode cX7_goOn 77 = .ok (.aaload, 1) := by decide +kernel
theorem dX7_goOn_78 : decode cX7_goOn 78 = .ok (.astore 8, 2) := by decide +kernel
theorem dX7_goOn_80 : decode cX7_goOn 80 = .ok (.aload 8, 2) := by decide +kernel
theorem dX7_goOn_82 : decode cX7_goOn 82 = .ok (.aload 7, 2) := by decide +kernel
theorem dX7_goOn_84 : decode cX7_goOn 84 = .ok (.invokevirtual 45, 3) := by decide +kernel
theorem dX7_goOn_87 : decode cX7_goOn 87 = .ok (.aload 8, 2) := by decide +kernel
theorem dX7_goOn_89 : decode cX7_goOn 89 = .ok (.aload_n 1, 1) := by decide +kernel
theorem dX7_goOn_90 : decode cX7_goOn 90 = .ok (.aload_n 2, 1) := by decide +kernel
theorem dX7_goOn_91 : decode cX7_goOn 91 = .ok (.getfield 49, 3) := by decide +kernel
theorem dX7_goOn_94 : decode cX7_goOn 94 = .ok (.iload 4, 2) := by decide +kernel
theorem dX7_goOn_96 : decode cX7_goOn 96 = .ok (.iaload, 1) := by decide +kernel
theorem dX7_goOn_97 : decode cX7_goOn 97 = .ok (.iconst 1, 1) := by decide +kernel
theorem dX7_goOn_98 : decode cX7_goOn 98 = .ok (.invokevirtual 53, 3) := by decide +kernel
theorem dX7_goOn_101 : decode cX7_goOn 101 = .ok (.aload_n 0, 1) := by decide +kernel
theorem dX7_goOn_102 : decode cX7_goOn 102 = .ok (.aload_n 1, 1) := by decide +kernel
theorem dX7_goOn_103 : decode cX7_goOn 103 = .ok (.aload_n 2, 1) := by decide +kernel
theorem dX7_goOn_104 : decode cX7_goOn 104 = .ok (.aload_n 3, 1) := by decide +kernel
theorem dX7_goOn_105 : decode cX7_goOn 105 = .ok (.iload 4, 2) := by decide +kernel
theorem dX7_goOn_107 : decode cX7_goOn 107 = .ok (.iconst 1, 1) := by decide +kernel
theorem dX7_goOn_108 : decode cX7_goOn 108 = .ok (.iadd, 1) := by decide +kernel
theorem dX7_goOn_109 : decode cX7_goOn 109 = .ok (.lload 5, 2) := by decide +kernel
theorem dX7_goOn_111 : decode cX7_goOn 111 = .ok (.aload_n 0, 1) := by decide +kernel
theorem dX7_goOn_112 : decode cX7_goOn 112 = .ok (.getfield 21, 3) := by decide +kernel
theorem dX7_goOn_115 : decode cX7_goOn 115 = .ok (.i2l, 1) := by decide +kernel
theorem dX7_goOn_116 : decode cX7_goOn 116 = .ok (.lmul, 1) := by decide +kernel
theorem dX7_goOn_117 : decode cX7_goOn 117 = .ok (.invokevirtual 38, 3) := by decide +kernel
theorem dX7_goOn_120 : decode cX7_goOn 120 = .ok (.aload 8, 2) := by decide +kernel
theorem dX7_goOn_122 : decode cX7_goOn 122 = .ok (.aload 7, 2) := by decide +kernel
theorem dX7_goOn_124 : decode cX7_goOn 124 = .ok (.invokevirtual 45, 3) := by decide +kernel
theorem dX7_goOn_127 : decode cX7_goOn 127 = .ok (.aload 8, 2) := by decide +kernel
theorem dX7_goOn_129 : decode cX7_goOn 129 = .ok (.aload_n 1, 1) := by decide +kernel
theorem dX7_goOn_130 : decode cX7_goOn 130 = .ok (.aload_n 2, 1) := by decide +kernel
theorem dX7_goOn_131 : decode cX7_goOn 131 = .ok (.getfield 49, 3) := by decide +kernel
theorem dX7_goOn_134 : decode cX7_goOn 134 = .ok (.iload 4, 2) := by decide +kernel
theorem dX7_goOn_136 : decode cX7_goOn 136 = .ok (.iaload, 1) := by decide +kernel
theorem dX7_goOn_137 : decode cX7_goOn 137 = .ok (.iconst 0, 1) := by decide +kernel
theorem dX7_goOn_138 : decode cX7_goOn 138 = .ok (.invokevirtual 53, 3) := by decide +kernel
theorem dX7_goOn_141 : decode cX7_goOn 141 = .ok (.aload_n 0, 1) := by decide +kernel
theorem dX7_goOn_142 : decode cX7_goOn 142 = .ok (.aload_n 1, 1) := by decide +kernel
theorem dX7_goOn_143 : decode cX7_goOn 143 = .ok (.aload_n 2, 1) := by decide +kernel
theorem dX7_goOn_144 : decode cX7_goOn 144 = .ok (.aload_n 3, 1) := by decide +kernel
theorem dX7_goOn_145 : decode cX7_goOn 145 = .ok (.iload 4, 2) := by decide +kernel
theorem dX7_goOn_147 : decode cX7_goOn 147 = .ok (.iconst 1, 1) := by decide +kernel
theorem dX7_goOn_148 : decode cX7_goOn 148 = .ok (.iadd, 1) := by decide +kernel
theorem dX7_goOn_149 : decode cX7_goOn 149 = .ok (.lload 5, 2) := by decide +kernel
theorem dX7_goOn_151 : decode cX7_goOn 151 = .ok (.bipush 10, 2) := by decide +kernel
theorem dX7_goOn_153 : decode cX7_goOn 153 = .ok (.aload_n 0, 1) := by decide +kernel
theorem dX7_goOn_154 : decode cX7_goOn 154 = .ok (.getfield 21, 3) := by decide +kernel
theorem dX7_goOn_157 : decode cX7_goOn 157 = .ok (.isub, 1) := by decide +kernel
theorem dX7_goOn_158 : decode cX7_goOn 158 = .ok (.i2l, 1) := by decide +kernel
theorem dX7_goOn_159 : decode cX7_goOn 159 = .ok (.lmul, 1) := by decide +kernel
theorem dX7_goOn_160 : decode cX7_goOn 160 = .ok (.invokevirtual 38, 3) := by decide +kernel
theorem dX7_goOn_163 : decode cX7_goOn 163 = .ok (.return_, 1) := by decide +kernel
theorem dX8_init_0 : decode cX8_init 0 = .ok (.aload_n 0, 1) := by decide +kernel
theorem dX8_init_1 : decode cX8_init 1 = .ok (.invokespecial 1, 3) := by decide +kernel
theorem dX8_init_4 : decode cX8_init 4 = .ok (.aload_n 0, 1) := by decide +kernel
theorem dX8_init_5 : decode cX8_init 5 = .ok (.new 7, 3) := by decide +kernel
theorem dX8_init_8 : decode cX8_init 8 = .ok (.dup, 1) := by decide +kernel
theorem dX8_init_9 : decode cX8_init 9 = .ok (.invokespecial 9, 3) := by decide +kernel
theorem dX8_init_12 : decode cX8_init 12 = .ok (.putfield 10, 3) := by decide +kernel
theorem dX8_init_15 : decode cX8_init 15 = .ok (.aload_n 0, 1) := by decide +kernel
theorem dX8_init_16 : decode cX8_init 16 = .ok (.new 7, 3) := by decide +kernel
theorem dX8_init_19 : decode cX8_init 19 = .ok (.dup, 1) := by decide +kernel
theorem dX8_init_20 : decode cX8_init 20 = .ok (.invokespecial 9, 3) := by decide +kernel
theorem dX8_init_23 : decode cX8_init 23 = .ok (.putfield 16, 3) := by decide +kernel
theorem dX8_init_26 : decode cX8_init 26 = .ok (.aload_n 0, 1) := by decide +kernel
theorem dX8_init_27 : decode cX8_init 27 = .ok (.iconst 2, 1) := by decide +kernel
theorem dX8_init_28 : decode cX8_init 28 = .ok (.anewarray 7, 3) := by decide +kernel
theorem dX8_init_31 : decode cX8_init 31 = .ok (.putfield 19, 3) := by decide +kernel
theorem dX8_init_34 : decode cX8_init 34 = .ok (.aload_n 0, 1) := by decide +kernel
theorem dX8_init_35 : decode cX8_init 35 = .ok (.iconst 2, 1) := by decide +kernel
theorem dX8_init_36 : decode cX8_init 36 = .ok (.newarray .boolean, 2) := by decide +kernel
theorem dX8_init_38 : decode cX8_init 38 = .ok (.putfield 23, 3) := by decide +kernel
theorem dX8_init_41 : decode cX8_init 41 = .ok (.aload_n 0, 1) := by decide +kernel
theorem dX8_init_42 : decode cX8_init 42 = .ok (.new 27, 3) := by decide +kernel
theorem dX8_init_45 : decode cX8_init 45 = .ok (.dup, 1) := by decide +kernel
theorem dX8_init_46 : decode cX8_init 46 = .ok (.invokespecial 29, 3) := by decide +kernel
theorem dX8_init_49 : decode cX8_init 49 = .ok (.putfield 30, 3) := by decide +kernel
theorem dX8_init_52 : decode cX8_init 52 = .ok (.aload_n 0, 1) := by decide +kernel
theorem dX8_init_53 : decode cX8_init 53 = .ok (.bipush 11, 2) := by decide +kernel
theorem dX8_init_55 : decode cX8_init 55 = .ok (.anewarray 34, 3) := by decide +kernel
theorem dX8_init_58 : decode cX8_init 58 = .ok (.putfield 36, 3) := by decide +kernel
theorem dX8_init_61 : decode cX8_init 61 = .ok (.aload_n 0, 1) := by decide +kernel
theorem dX8_init_62 : decode cX8_init 62 = .ok (.new 40, 3) := by decide +kernel
theorem dX8_init_65 : decode cX8_init 65 = .ok (.dup, 1) := by decide +kernel
theorem dX8_init_66 : decode cX8_init 66 = .ok (.invokespecial 42, 3) := by decide +kernel
theorem dX8_init_69 : decode cX8_init 69 = .ok (.putfield 43, 3) := by decide +kernel
theorem dX8_init_72 : decode cX8_init 72 = .ok (.aload_n 0, 1) := by decide +kernel
theorem dX8_init_73 : decode cX8_init 73 = .ok (.new 47, 3) := by decide +kernel
theorem dX8_init_76 : decode cX8_init 76 = .ok (.dup, 1) := by decide +kernel
theorem dX8_init_77 : decode cX8_init 77 = .ok (.invokespecial 49, 3) := by decide +kernel
theorem dX8_init_80 : decode cX8_init 80 = .ok (.putfield 50, 3) := by decide +kernel
theorem dX8_init_83 : decode cX8_init 83 = .ok (.aload_n 0, 1) := by decide +kernel
theorem dX8_init_84 : decode cX8_init 84 = .ok (.new 54, 3) := by decide +kernel
theorem dX8_init_87 : decode cX8_init 87 = .ok (.dup, 1) := by decide +kernel
theorem dX8_init_88 : decode cX8_init 88 = .ok (.invokespecial 56, 3) := by decide +kernel
theorem dX8_init_91 : decode cX8_init 91 = .ok (.putfield 57, 3) := by decide +kernel
theorem dX8_init_94 : decode cX8_init 94 = .ok (.aload_n 0, 1) := by decide +kernel
theorem dX8_init_95 : decode cX8_init 95 = .ok (.new 61, 3) := by decide +kernel
theorem dX8_init_98 : decode cX8_init 98 = .ok (.dup, 1) := by decide +kernel
theorem dX8_init_99 : decode cX8_init 99 = .ok (.invokespecial 63, 3) := by decide +kernel
theorem dX8_init_102 : decode cX8_init 102 = .ok (.putfield 64, 3) := by decide +kernel
theorem dX8_init_105 : decode cX8_init 105 = .ok (.aload_n 0, 1) := by decide +kernel
theorem dX8_init_106 : decode cX8_init 106 = .ok (.bipush 8, 2) := by decide +kernel
theorem dX8_init_108 : decode cX8_init 108 = .ok (.newarray .long, 2) := by decide +kernel
theorem dX8_init_110 : decode cX8_init 110 = .ok (.putfield 68, 3) := by decide +kernel
theorem dX8_init_113 : decode cX8_init 113 = .ok (.iconst 0, 1) := by decide +kernel
theorem dX8_init_114 : decode cX8_init 114 = .ok (.istore_n 1, 1) := by decide +kernel
theorem dX8_init_115 : decode cX8_init 115 = .ok (.iload_n 1, 1) := by decide +kernel
theorem dX8_init_116 : decode cX8_init 116 = .ok (.iconst 2, 1) := by decide +kernel
theorem dX8_init_117 : decode cX8_init 117 = .ok (.if_icmp .ge 22, 3) := by decide +kernel
theorem dX8_init_120 : decode cX8_init 120 = .ok (.aload_n 0, 1) := by decide +kernel
theorem dX8_init_121 : decode cX8_init 121 = .ok (.getfield 19, 3) := by decide +kernel
theorem dX8_init_124 : decode cX8_init 124 = .ok (.iload_n 1, 1) := by decide +kernel
theorem dX8_init_125 : decode cX8_init 125 = .ok (.new 7, 3) := by decide +kernel
theorem dX8_init_128 : decode cX8_init 128 = .ok (.dup, 1) := by decide +kernel
theorem dX8_init_129 : decode cX8_init 129 = .ok (.invokespecial 9, 3) := by decide +kernel
theorem dX8_init_132 : decode cX8_init 132 = .ok (.aastore, 1) := by decide +kernel
theorem dX8_init_133 : decode cX8_init 133 = .ok (.iinc 1 1, 3) := by decide +kernel
theorem dX8_init_136 : decode cX8_init 136 = .ok (.goto (-21), 3) := by decide +kernel
theorem dX8_init_139 : decode cX8_init 139 = .ok (.iconst 0, 1) := by decide +kernel
theorem dX8_init_140 : decode cX8_init 140 = .ok (.istore_n 1, 1) := by decide +kernel
theorem dX8_init_141 : decode cX8_init 141 = .ok (.iload_n 1, 1) := by decide +kernel
theorem dX8_init_142 : decode cX8_init 142 = .ok (.bipush 10, 2) := by decide +kernel
theorem dX8_init_144 : decode cX8_init 144 = .ok (.if_icmp .gt 22, 3) := by decide +kernel
theorem dX8_init_147 : decode cX8_init 147 = .ok (.aload_n 0, 1) := by decide +kernel
theorem dX8_init_148 : decode cX8_init 148 = .ok (.getfield 36, 3) := by decide +kernel
theorem dX8_init_151 : decode cX8_init 151 = .ok (.iload_n 1, 1) := by decide +kernel
theorem dX8_init_152 : decode cX8_init 152 = .ok (.new 34, 3) := by decide +kernel
theorem dX8_init_155 : decode cX8_init 155 = .ok (.dup, 1) := by decide +kernel
theorem dX8_init_156 : decode cX8_init 156 = .ok (.invokespecial 72, 3) := by decide +kernel
theorem dX8_init_159 : decode cX8_init 159 = .ok (.aastore, 1) := by decide +kernel
theorem dX8_init_160 : decode cX8_init 160 = .ok (.iinc 1 1, 3) := by decide +kernel
theorem dX8_init_163 : decode cX8_init 163 = .ok (.goto (-22), 3) := by decide +kernel
theorem dX8_init_166 : decode cX8_init 166 = .ok (.return_, 1) := by decide +kernel
theorem dX8_church_0 : decode cX8_church 0 = .ok (.iload_n 1, 1) := by decide +kernel
theorem dX8_church_1 : decode cX8_church 1 = .ok (.iconst 1, 1) := by decide +kernel
theorem dX8_church_2 : decode cX8_church 2 = .ok (.iconst 3, 1) := by decide +kernel
theorem dX8_church_3 : decode cX8_church 3 = .ok (.invokestatic 73, 3) := by decide +kernel
theorem dX8_church_6 : decode cX8_church 6 = .ok (.ifCond .eq 6, 3) := by decide +kernel
theorem dX8_church_9 : decode cX8_church 9 = .ok (.bipush (-2), 2) := by decide +kernel
theorem dX8_church_11 : decode cX8_church 11 = .ok (.ireturn, 1) := by decide +kernel
theorem dX8_church_12 : decode cX8_church 12 = .ok (.aload_n 0, 1) := by decide +kernel
theorem dX8_church_13 : decode cX8_church 13 = .ok (.getfield 10, 3) := by decide +kernel
theorem dX8_church_16 : decode cX8_church 16 = .ok (.getfield 77, 3) := by decide +kernel
theorem dX8_church_19 : decode cX8_church 19 = .ok (.istore_n 2, 1) := by decide +kernel
theorem dX8_church_20 : decode cX8_church 20 = .ok (.aload_n 0, 1) := by decide +kernel
theorem dX8_church_21 : decode cX8_church 21 = .ok (.getfield 10, 3) := by decide +kernel
theorem dX8_church_24 : decode cX8_church 24 = .ok (.iload_n 1, 1) := by decide +kernel
theorem dX8_church_25 : decode cX8_church 25 = .ok (.invokevirtual 81, 3) := by decide +kernel
theorem dX8_church_28 : decode cX8_church 28 = .ok (.iload_n 2, 1) := by decide +kernel
theorem dX8_church_29 : decode cX8_church 29 = .ok (.ireturn, 1) := by decide +kernel
theorem dX8_hearer_0 : decode cX8_hearer 0 = .ok (.iload_n 1, 1) := by decide +kernel
theorem dX8_hearer_1 : decode cX8_hearer 1 = .ok (.iconst 0, 1) := by decide +kernel
theorem dX8_hearer_2 : decode cX8_hearer 2 = .ok (.bipush 7, 2) := by decide +kernel
theorem dX8_hearer_4 : decode cX8_hearer 4 = .ok (.invokestatic 73, 3) := by decide +kernel
theorem dX8_hearer_7 : decode cX8_hearer 7 = .ok (.ifCond .ne 20, 3) := by decide +kernel
theorem dX8_hearer_10 : decode cX8_hearer 10 = .ok (.iload_n 2, 1) := by decide +kernel
theorem dX8_hearer_11 : decode cX8_hearer 11 = .ok (.iconst 0, 1) := by decide +kernel
theorem dX8_hearer_12 : decode cX8_hearer 12 = .ok (.aload_n 0, 1) := by decide +kernel
theorem dX8_hearer_13 : decode cX8_hearer 13 = .ok (.getfield 10, 3) := by decide +kernel
theorem dX8_hearer_16 : decode cX8_hearer 16 = .ok (.invokevirtual 85, 3) := by decide +kernel
theorem dX8_hearer_19 : decode cX8_hearer 19 = .ok (.iconst 1, 1) := by decide +kernel
theorem dX8_hearer_20 : decode cX8_hearer 20 = .ok (.isub, 1) := by decide +kernel
theorem dX8_hearer_21 : decode cX8_hearer 21 = .ok (.invokestatic 73, 3) := by decide +kernel
theorem dX8_hearer_24 : decode cX8_hearer 24 = .ok (.ifCond .eq 5, 3) := by decide +kernel
theorem dX8_hearer_27 : decode cX8_hearer 27 = .ok (.iconst (-1), 1) := by decide +kernel
theorem dX8_hearer_28 : decode cX8_hearer 28 = .ok (.ireturn, 1) := by decide +kernel
theorem dX8_hearer_29 : decode cX8_hearer 29 = .ok (.iload_n 3, 1) := by decide +kernel
theorem dX8_hearer_30 : decode cX8_hearer 30 = .ok (.iconst 0, 1) := by decide +kernel
theorem dX8_hearer_31 : decode cX8_hearer 31 = .ok (.bipush 20, 2) := by decide +kernel
theorem dX8_hearer_33 : decode cX8_hearer 33 = .ok (.invokestatic 73, 3) := by decide +kernel
theorem dX8_hearer_36 : decode cX8_hearer 36 = .ok (.ifCond .ne 23, 3) := by decide +kernel
theorem dX8_hearer_39 : decode cX8_hearer 39 = .ok (.iload 4, 2) := by decide +kernel
theorem dX8_hearer_41 : decode cX8_hearer 41 = .ok (.iconst 0, 1) := by decide +kernel
theorem dX8_hearer_42 : decode cX8_hearer 42 = .ok (.iconst 5, 1) := by decide +kernel
theorem dX8_hearer_43 : decode cX8_hearer 43 = .ok (.invokestatic 73, 3) := by decide +kernel
theorem dX8_hearer_46 : decode cX8_hearer 46 = .ok (.ifCond .ne 13, 3) := by decide +kernel
theorem dX8_hearer_49 : decode cX8_hearer 49 = .ok (.iload 5, 2) := by decide +kernel
theorem dX8_hearer_51 : decode cX8_hearer 51 = .ok (.iconst 0, 1) := by decide +kernel
theorem dX8_hearer_52 : decode cX8_hearer 52 = .ok (.iconst 1, 1) := by decide +kernel
theorem dX8_hearer_53 : decode cX8_hearer 53 = .ok (.invokestatic 73, 3) := by decide +kernel
theorem dX8_hearer_56 : decode cX8_hearer 56 = .ok (.ifCond .eq 6, 3) := by decide +kernel
theorem dX8_hearer_59 : decode cX8_hearer 59 = .ok (.bipush (-2), 2) := by decide +kernel
theorem dX8_hearer_61 : decode cX8_hearer 61 = .ok (.ireturn, 1) := by decide +kernel
theorem dX8_hearer_62 : decode cX8_hearer 62 = .ok (.aload_n 0, 1) := by decide +kernel
theorem dX8_hearer_63 : decode cX8_hearer 63 = .ok (.getfield 10, 3) := by decide +kernel
theorem dX8_hearer_66 : decode cX8_hearer 66 = .ok (.iload_n 2, 1) := by decide +kernel
theorem dX8_hearer_67 : decode cX8_hearer 67 = .ok (.invokevirtual 89, 3) := by decide +kernel
theorem dX8_hearer_70 : decode cX8_hearer 70 = .ok (.istore 7, 2) := by decide +kernel
theorem dX8_hearer_72 : decode cX8_hearer 72 = .ok (.iload 7, 2) := by decide +kernel
theorem dX8_hearer_74 : decode cX8_hearer 74 = .ok (.bipush (-6), 2) := by decide +kernel
theorem dX8_hearer_76 : decode cX8_hearer 76 = .ok (.if_icmp .eq 12, 3) := by decide +kernel
theorem dX8_hearer_79 : decode cX8_hearer 79 = .ok (.iload 7, 2) := by decide +kernel
theorem dX8_hearer_81 : decode cX8_hearer 81 = .ok (.iload_n 1, 1) := by decide +kernel
theorem dX8_hearer_82 : decode cX8_hearer 82 = .ok (.if_icmp .eq 6, 3) := by decide +kernel
theorem dX8_hearer_85 : decode cX8_hearer 85 = .ok (.bipush (-3), 2) := by decide +kernel
theorem dX8_hearer_87 : decode cX8_hearer 87 = .ok (.ireturn, 1) := by decide +kernel
theorem dX8_hearer_88 : decode cX8_hearer 88 = .ok (.aload_n 0, 1) := by decide +kernel
theorem dX8_hearer_89 : decode cX8_hearer 89 = .ok (.getfield 10, 3) := by decide +kernel
theorem dX8_hearer_92 : decode cX8_hearer 92 = .ok (.getfield 93, 3) := by decide +kernel
theorem dX8_hearer_95 : decode cX8_hearer 95 = .ok (.iload_n 1, 1) := by decide +kernel
theorem dX8_hearer_96 : decode cX8_hearer 96 = .ok (.iload_n 2, 1) := by decide +kernel
theorem dX8_hearer_97 : decode cX8_hearer 97 = .ok (.iastore, 1) := by decide +kernel
theorem dX8_hearer_98 : decode cX8_hearer 98 = .ok (.aload_n 0, 1) := by decide +kernel
theorem dX8_hearer_99 : decode cX8_hearer 99 = .ok (.getfield 10, 3) := by decide +kernel
theorem dX8_hearer_102 : decode cX8_hearer 102 = .ok (.getfield 97, 3) := by decide +kernel
theorem dX8_hearer_105 : decode cX8_hearer 105 = .ok (.iload_n 1, 1) := by decide +kernel
theorem dX8_hearer_106 : decode cX8_hearer 106 = .ok (.iload_n 3, 1) := by decide +kernel
theorem dX8_hearer_107 : decode cX8_hearer 107 = .ok (.iastore, 1) := by decide +kernel
theorem dX8_hearer_108 : decode cX8_hearer 108 = .ok (.aload_n 0, 1) := by decide +kernel
theorem dX8_hearer_109 : decode cX8_hearer 109 = .ok (.getfield 10, 3) := by decide +kernel
theorem dX8_hearer_112 : decode cX8_hearer 112 = .ok (.getfield 100, 3) := by decide +kernel
theorem dX8_hearer_115 : decode cX8_hearer 115 = .ok (.iload_n 1, 1) := by decide +kernel
theorem dX8_hearer_116 : decode cX8_hearer 116 = .ok (.iload 4, 2) := by decide +kernel
theorem dX8_hearer_118 : decode cX8_hearer 118 = .ok (.iastore, 1) := by decide +kernel
theorem dX8_hearer_119 : decode cX8_hearer 119 = .ok (.aload_n 0, 1) := by decide +kernel
theorem dX8_hearer_120 : decode cX8_hearer 120 = .ok (.getfield 10, 3) := by decide +kernel
theorem dX8_hearer_123 : decode cX8_hearer 123 = .ok (.getfield 103, 3) := by decide +kernel
theorem dX8_hearer_126 : decode cX8_hearer 126 = .ok (.iload_n 1, 1) := by decide +kernel
theorem dX8_hearer_127 : decode cX8_hearer 127 = .ok (.iload 5, 2) := by decide +kernel
theorem dX8_hearer_129 : decode cX8_hearer 129 = .ok (.iastore, 1) := by decide +kernel
theorem dX8_hearer_130 : decode cX8_hearer 130 = .ok (.aload_n 0, 1) := by decide +kernel
theorem dX8_hearer_131 : decode cX8_hearer 131 = .ok (.getfield 10, 3) := by decide +kernel
theorem dX8_hearer_134 : decode cX8_hearer 134 = .ok (.dup, 1) := by decide +kernel
theorem dX8_hearer_135 : decode cX8_hearer 135 = .ok (.getfield 106, 3) := by decide +kernel
theorem dX8_hearer_138 : decode cX8_hearer 138 = .ok (.iconst 1, 1) := by decide +kernel
theorem dX8_hearer_139 : decode cX8_hearer 139 = .ok (.iload_n 1, 1) := by decide +kernel
theorem dX8_hearer_140 : decode cX8_hearer 140 = .ok (.ishl, 1) := by decide +kernel
theorem dX8_hearer_141 : decode cX8_hearer 141 = .ok (.ior, 1) := by decide +kernel
theorem dX8_hearer_142 : decode cX8_hearer 142 = .ok (.putfield 106, 3) := by decide +kernel
theorem dX8_hearer_145 : decode cX8_hearer 145 = .ok (.aload_n 0, 1) := by decide +kernel
theorem dX8_hearer_146 : decode cX8_hearer 146 = .ok (.getfield 10, 3) := by decide +kernel
theorem dX8_hearer_149 : decode cX8_hearer 149 = .ok (.iload 6, 2) := by decide +kernel
theorem dX8_hearer_151 : decode cX8_hearer 151 = .ok (.ifCond .eq 17, 3) := by decide +kernel
theorem dX8_hearer_154 : decode cX8_hearer 154 = .ok (.aload_n 0, 1) := by decide +kernel
theorem dX8_hearer_155 : decode cX8_hearer 155 = .ok (.getfield 10, 3) := by decide +kernel
theorem dX8_hearer_158 : decode cX8_hearer 158 = .ok (.getfield 109, 3) := by decide +kernel
theorem dX8_hearer_161 : decode cX8_hearer 161 = .ok (.iconst 1, 1) := by decide +kernel
theorem dX8_hearer_162 : decode cX8_hearer 162 = .ok (.iload_n 1, 1) := by decide +kernel
theorem dX8_hearer_163 : decode cX8_hearer 163 = .ok (.ishl, 1) := by decide +kernel
theorem dX8_hearer_164 : decode cX8_hearer 164 = .ok (.ior, 1) := by decide +kernel
theorem dX8_hearer_165 : decode cX8_hearer 165 = .ok (.goto 16, 3) := by decide +kernel
theorem dX8_hearer_168 : decode cX8_hearer 168 = .ok (.aload_n 0, 1) := by decide +kernel
theorem dX8_hearer_169 : decode cX8_hearer 169 = .ok (.getfield 10, 3) := by decide +kernel
theorem dX8_hearer_172 : decode cX8_hearer 172 = .ok (.getfield 109, 3) := by decide +kernel
theorem dX8_hearer_175 : decode cX8_hearer 175 = .ok (.iconst 1, 1) := by decide +kernel
theorem dX8_hearer_176 : decode cX8_hearer 176 = .ok (.iload_n 1, 1) := by decide +kernel
theorem dX8_hearer_177 : decode cX8_hearer 177 = .ok (.ishl, 1) := by decide +kernel
theorem dX8_hearer_178 : decode cX8_hearer 178 = .ok (.iconst (-1), 1) := by decide +kernel
theorem dX8_hearer_179 : decode cX8_hearer 179 = .ok (.ixor, 1) := by decide +kernel
theorem dX8_hearer_180 : decode cX8_hearer 180 = .ok (.iand, 1) := by decide +kernel
theorem dX8_hearer_181 : decode cX8_hearer 181 = .ok (.putfield 109, 3) := by decide +kernel
theorem dX8_hearer_184 : decode cX8_hearer 184 = .ok (.aload_n 0, 1) := by decide +kernel
theorem dX8_hearer_185 : decode cX8_hearer 185 = .ok (.getfield 10, 3) := by decide +kernel
theorem dX8_hearer_188 : decode cX8_hearer 188 = .ok (.invokevirtual 112, 3) := by decide +kernel
theorem dX8_hearer_191 : decode cX8_hearer 191 = .ok (.ireturn, 1) := by decide +kernel
theorem dX8_leave_0 : decode cX8_leave 0 = .ok (.aload_n 0, 1) := by decide +kernel
theorem dX8_leave_1 : decode cX8_leave 1 = .ok (.getfield 10, 3) := by decide +kernel
theorem dX8_leave_4 : decode cX8_leave 4 = .ok (.iload_n 1, 1) := by decide +kernel
theorem dX8_leave_5 : decode cX8_leave 5 = .ok (.invokevirtual 115, 3) := by decide +kernel
theorem dX8_leave_8 : decode cX8_leave 8 = .ok (.ifCond .ne 5, 3) := by decide +kernel
theorem dX8_leave_11 : decode cX8_leave 11 = .ok (.iconst (-1), 1) := by decide +kernel
theorem dX8_leave_12 : decode cX8_leave 12 = .ok (.ireturn, 1) := by decide +kernel
theorem dX8_leave_13 : decode cX8_leave 13 = .ok (.aload_n 0, 1) := by decide +kernel
theorem dX8_leave_14 : decode cX8_leave 14 = .ok (.getfield 10, 3) := by decide +kernel
theorem dX8_leave_17 : decode cX8_leave 17 = .ok (.dup, 1) := by decide +kernel
theorem dX8_leave_18 : decode cX8_leave 18 = .ok (.getfield 106, 3) := by decide +kernel
theorem dX8_leave_21 : decode cX8_leave 21 = .ok (.iconst 1, 1) := by decide +kernel
theorem dX8_leave_22 : decode cX8_leave 22 = .ok (.iload_n 1, 1) := by decide +kernel
theorem dX8_leave_23 : decode cX8_leave 23 = .ok (.ishl, 1) := by decide +kernel
theorem dX8_leave_24 : decode cX8_leave 24 = .ok (.iconst (-1), 1) := by decide +kernel
theorem dX8_leave_25 : decode cX8_leave 25 = .ok (.ixor, 1) := by decide +kernel
theorem dX8_leave_26 : decode cX8_leave 26 = .ok (.iand, 1) := by decide +kernel
theorem dX8_leave_27 : decode cX8_leave 27 = .ok (.putfield 106, 3) := by decide +kernel
theorem dX8_leave_30 : decode cX8_leave 30 = .ok (.aload_n 0, 1) := by decide +kernel
theorem dX8_leave_31 : decode cX8_leave 31 = .ok (.getfield 10, 3) := by decide +kernel
theorem dX8_leave_34 : decode cX8_leave 34 = .ok (.dup, 1) := by decide +kernel
theorem dX8_leave_35 : decode cX8_leave 35 = .ok (.getfield 109, 3) := by decide +kernel
theorem dX8_leave_38 : decode cX8_leave 38 = .ok (.iconst 1, 1) := by decide +kernel
theorem dX8_leave_39 : decode cX8_leave 39 = .ok (.iload_n 1, 1) := by decide +kernel
theorem dX8_leave_40 : decode cX8_leave 40 = .ok (.ishl, 1) := by decide +kernel
theorem dX8_leave_41 : decode cX8_leave 41 = .ok (.iconst (-1), 1) := by decide +kernel
theorem dX8_leave_42 : decode cX8_leave 42 = .ok (.ixor, 1) := by decide +kernel
theorem dX8_leave_43 : decode cX8_leave 43 = .ok (.iand, 1) := by decide +kernel
theorem dX8_leave_44 : decode cX8_leave 44 = .ok (.putfield 109, 3) := by decide +kernel
theorem dX8_leave_47 : decode cX8_leave 47 = .ok (.aload_n 0, 1) := by decide +kernel
theorem dX8_leave_48 : decode cX8_leave 48 = .ok (.getfield 10, 3) := by decide +kernel
theorem dX8_leave_51 : decode cX8_leave 51 = .ok (.invokevirtual 112, 3) := by decide +kernel
theorem dX8_leave_54 : decode cX8_leave 54 = .ok (.ireturn, 1) := by decide +kernel
theorem dX8_set_0 : decode cX8_set 0 = .ok (.iload_n 1, 1) := by decide +kernel
theorem dX8_set_1 : decode cX8_set 1 = .ok (.tableswitch 98 0 2 #[27, 51, 75], 27) := by decide +kernel
theorem dX8_set_28 : decode cX8_set 28 = .ok (.iload_n 2, 1) := by decide +kernel
theorem dX8_set_29 : decode cX8_set 29 = .ok (.iconst 1, 1) := by decide +kernel
theorem dX8_set_30 : decode cX8_set 30 = .ok (.bipush 9, 2) := by decide +kernel
theorem dX8_set_32 : decode cX8_set 32 = .ok (.invokestatic 73, 3) := by decide +kernel
theorem dX8_set_35 : decode cX8_set 35 = .ok (.ifCond .eq 8, 3) := by decide +kernel
theorem dX8_set_38 : decode cX8_set 38 = .ok (.bipush (-2), 2) := by decide +kernel
theorem dX8_set_40 : decode cX8_set 40 = .ok (.goto 11, 3) := by decide +kernel
theorem dX8_set_43 : decode cX8_set 43 = .ok (.aload_n 0, 1) := by decide +kernel
theorem dX8_set_44 : decode cX8_set 44 = .ok (.getfield 10, 3) := by decide +kernel
theorem dX8_set_47 : decode cX8_set 47 = .ok (.iload_n 2, 1) := by decide +kernel
theorem dX8_set_48 : decode cX8_set 48 = .ok (.invokevirtual 119, 3) := by decide +kernel
theorem dX8_set_51 : decode cX8_set 51 = .ok (.ireturn, 1) := by decide +kernel
theorem dX8_set_52 : decode cX8_set 52 = .ok (.iload_n 2, 1) := by decide +kernel
theorem dX8_set_53 : decode cX8_set 53 = .ok (.iconst 0, 1) := by decide +kernel
theorem dX8_set_54 : decode cX8_set 54 = .ok (.bipush 9, 2) := by decide +kernel
theorem dX8_set_56 : decode cX8_set 56 = .ok (.invokestatic 73, 3) := by decide +kernel
theorem dX8_set_59 : decode cX8_set 59 = .ok (.ifCond .eq 8, 3) := by decide +kernel
theorem dX8_set_62 : decode cX8_set 62 = .ok (.bipush (-2), 2) := by decide +kernel
theorem dX8_set_64 : decode cX8_set 64 = .ok (.goto 11, 3) := by decide +kernel
theorem dX8_set_67 : decode cX8_set 67 = .ok (.aload_n 0, 1) := by decide +kernel
theorem dX8_set_68 : decode cX8_set 68 = .ok (.getfield 10, 3) := by decide +kernel
theorem dX8_set_71 : decode cX8_set 71 = .ok (.iload_n 2, 1) := by decide +kernel
theorem dX8_set_72 : decode cX8_set 72 = .ok (.invokevirtual 122, 3) := by decide +kernel
theorem dX8_set_75 : decode cX8_set 75 = .ok (.ireturn, 1) := by decide +kernel
theorem dX8_set_76 : decode cX8_set 76 = .ok (.iload_n 2, 1) := by decide +kernel
theorem dX8_set_77 : decode cX8_set 77 = .ok (.iconst 0, 1) := by decide +kernel
theorem dX8_set_78 : decode cX8_set 78 = .ok (.iconst 2, 1) := by decide +kernel
theorem dX8_set_79 : decode cX8_set 79 = .ok (.invokestatic 73, 3) := by decide +kernel
theorem dX8_set_82 : decode cX8_set 82 = .ok (.ifCond .eq 8, 3) := by decide +kernel
theorem dX8_set_85 : decode cX8_set 85 = .ok (.bipush (-2), 2) := by decide +kernel
theorem dX8_set_87 : decode cX8_set 87 = .ok (.goto 11, 3) := by decide +kernel
theorem dX8_set_90 : decode cX8_set 90 = .ok (.aload_n 0, 1) := by decide +kernel
theorem dX8_set_91 : decode cX8_set 91 = .ok (.getfield 10, 3) := by decide +kernel
theorem dX8_set_94 : decode cX8_set 94 = .ok (.iload_n 2, 1) := by decide +kernel
theorem dX8_set_95 : decode cX8_set 95 = .ok (.invokevirtual 125, 3) := by decide +kernel
theorem dX8_set_98 : decode cX8_set 98 = .ok (.ireturn, 1) := by decide +kernel
theorem dX8_set_99 : decode cX8_set 99 = .ok (.bipush (-2), 2) := by decide +kernel
theorem dX8_set_101 : decode cX8_set 101 = .ok (.ireturn, 1) := by decide +kernel
theorem dX8_say_0 : decode cX8_say 0 = .ok (.iload_n 1, 1) := by decide +kernel
theorem dX8_say_1 : decode cX8_say 1 = .ok (.bipush 33, 2) := by decide +kernel
theorem dX8_say_3 : decode cX8_say 3 = .ok (.bipush 126, 2) := by decide +kernel
theorem dX8_say_5 : decode cX8_say 5 = .ok (.invokestatic 73, 3) := by decide +kernel
theorem dX8_say_8 : decode cX8_say 8 = .ok (.ifCond .eq 6, 3) := by decide +kernel
theorem dX8_say_11 : decode cX8_say 11 = .ok (.bipush (-2), 2) := by decide +kernel
theorem dX8_say_13 : decode cX8_say 13 = .ok (.ireturn, 1) := by decide +kernel
theorem dX8_say_14 : decode cX8_say 14 = .ok (.aload_n 0, 1) := by decide +kernel
theorem dX8_say_15 : decode cX8_say 15 = .ok (.getfield 30, 3) := by decide +kernel
theorem dX8_say_18 : decode cX8_say 18 = .ok (.getfield 128, 3) := by decide +kernel
theorem dX8_say_21 : decode cX8_say 21 = .ok (.bipush 60, 2) := by decide +kernel
theorem dX8_say_23 : decode cX8_say 23 = .ok (.if_icmp .lt 6, 3) := by decide +kernel
theorem dX8_say_26 : decode cX8_say 26 = .ok (.bipush (-4), 2) := by decide +kernel
theorem dX8_say_28 : decode cX8_say 28 = .ok (.ireturn, 1) := by decide +kernel
theorem dX8_say_29 : decode cX8_say 29 = .ok (.aload_n 0, 1) := by decide +kernel
theorem dX8_say_30 : decode cX8_say 30 = .ok (.getfield 30, 3) := by decide +kernel
theorem dX8_say_33 : decode cX8_say 33 = .ok (.getfield 131, 3) := by decide +kernel
theorem dX8_say_36 : decode cX8_say 36 = .ok (.aload_n 0, 1) := by decide +kernel
theorem dX8_say_37 : decode cX8_say 37 = .ok (.getfield 30, 3) := by decide +kernel
theorem dX8_say_40 : decode cX8_say 40 = .ok (.getfield 128, 3) := by decide +kernel
theorem dX8_say_43 : decode cX8_say 43 = .ok (.iload_n 1, 1) := by decide +kernel
theorem dX8_say_44 : decode cX8_say 44 = .ok (.iastore, 1) := by decide +kernel
theorem dX8_say_45 : decode cX8_say 45 = .ok (.aload_n 0, 1) := by decide +kernel
theorem dX8_say_46 : decode cX8_say 46 = .ok (.getfield 30, 3) := by decide +kernel
theorem dX8_say_49 : decode cX8_say 49 = .ok (.dup, 1) := by decide +kernel
theorem dX8_say_50 : decode cX8_say 50 = .ok (.getfield 128, 3) := by decide +kernel
theorem dX8_say_53 : decode cX8_say 53 = .ok (.iconst 1, 1) := by decide +kernel
theorem dX8_say_54 : decode cX8_say 54 = .ok (.iadd, 1) := by decide +kernel
theorem dX8_say_55 : decode cX8_say 55 = .ok (.putfield 128, 3) := by decide +kernel
theorem dX8_say_58 : decode cX8_say 58 = .ok (.aload_n 0, 1) := by decide +kernel
theorem dX8_say_59 : decode cX8_say 59 = .ok (.getfield 30, 3) := by decide +kernel
theorem dX8_say_62 : decode cX8_say 62 = .ok (.getfield 128, 3) := by decide +kernel
theorem dX8_say_65 : decode cX8_say 65 = .ok (.ireturn, 1) := by decide +kernel
theorem dX8_wipe_0 : decode cX8_wipe 0 = .ok (.aload_n 0, 1) := by decide +kernel
theorem dX8_wipe_1 : decode cX8_wipe 1 = .ok (.getfield 30, 3) := by decide +kernel
theorem dX8_wipe_4 : decode cX8_wipe 4 = .ok (.getfield 128, 3) := by decide +kernel
theorem dX8_wipe_7 : decode cX8_wipe 7 = .ok (.istore_n 1, 1) := by decide +kernel
theorem dX8_wipe_8 : decode cX8_wipe 8 = .ok (.aload_n 0, 1) := by decide +kernel
theorem dX8_wipe_9 : decode cX8_wipe 9 = .ok (.getfield 30, 3) := by decide +kernel
theorem dX8_wipe_12 : decode cX8_wipe 12 = .ok (.iconst 0, 1) := by decide +kernel
theorem dX8_wipe_13 : decode cX8_wipe 13 = .ok (.putfield 128, 3) := by decide +kernel
theorem dX8_wipe_16 : decode cX8_wipe 16 = .ok (.iload_n 1, 1) := by decide +kernel
theorem dX8_wipe_17 : decode cX8_wipe 17 = .ok (.ireturn, 1) := by decide +kernel
theorem dX8_fault_0 : decode cX8_fault 0 = .ok (.aload_n 0, 1) := by decide +kernel
theorem dX8_fault_1 : decode cX8_fault 1 = .ok (.getfield 30, 3) := by decide +kernel
theorem dX8_fault_4 : decode cX8_fault 4 = .ok (.invokevirtual 134, 3) := by decide +kernel
theorem dX8_fault_7 : decode cX8_fault 7 = .ok (.ireturn, 1) := by decide +kernel
theorem dX8_heard_0 : decode cX8_heard 0 = .ok (.aload_n 0, 1) := by decide +kernel
theorem dX8_heard_1 : decode cX8_heard 1 = .ok (.getfield 10, 3) := by decide +kernel
theorem dX8_heard_4 : decode cX8_heard 4 = .ok (.iload_n 1, 1) := by decide +kernel
theorem dX8_heard_5 : decode cX8_heard 5 = .ok (.invokevirtual 115, 3) := by decide +kernel
theorem dX8_heard_8 : decode cX8_heard 8 = .ok (.ifCond .ne 5, 3) := by decide +kernel
theorem dX8_heard_11 : decode cX8_heard 11 = .ok (.iconst (-1), 1) := by decide +kernel
theorem dX8_heard_12 : decode cX8_heard 12 = .ok (.ireturn, 1) := by decide +kernel
theorem dX8_heard_13 : decode cX8_heard 13 = .ok (.iload_n 3, 1) := by decide +kernel
theorem dX8_heard_14 : decode cX8_heard 14 = .ok (.iconst 0, 1) := by decide +kernel
theorem dX8_heard_15 : decode cX8_heard 15 = .ok (.iconst 3, 1) := by decide +kernel
theorem dX8_heard_16 : decode cX8_heard 16 = .ok (.invokestatic 73, 3) := by decide +kernel
theorem dX8_heard_19 : decode cX8_heard 19 = .ok (.ifCond .eq 6, 3) := by decide +kernel
theorem dX8_heard_22 : decode cX8_heard 22 = .ok (.bipush (-2), 2) := by decide +kernel
theorem dX8_heard_24 : decode cX8_heard 24 = .ok (.ireturn, 1) := by decide +kernel
theorem dX8_heard_25 : decode cX8_heard 25 = .ok (.aload_n 0, 1) := by decide +kernel
theorem dX8_heard_26 : decode cX8_heard 26 = .ok (.getfield 30, 3) := by decide +kernel
theorem dX8_heard_29 : decode cX8_heard 29 = .ok (.invokevirtual 137, 3) := by decide +kernel
theorem dX8_heard_32 : decode cX8_heard 32 = .ok (.ifCond .eq 6, 3) := by decide +kernel
theorem dX8_heard_35 : decode cX8_heard 35 = .ok (.bipush (-5), 2) := by decide +kernel
theorem dX8_heard_37 : decode cX8_heard 37 = .ok (.ireturn, 1) := by decide +kernel
theorem dX8_heard_38 : decode cX8_heard 38 = .ok (.iload_n 2, 1) := by decide +kernel
theorem dX8_heard_39 : decode cX8_heard 39 = .ok (.iconst 0, 1) := by decide +kernel
theorem dX8_heard_40 : decode cX8_heard 40 = .ok (.aload_n 0, 1) := by decide +kernel
theorem dX8_heard_41 : decode cX8_heard 41 = .ok (.getfield 30, 3) := by decide +kernel
theorem dX8_heard_44 : decode cX8_heard 44 = .ok (.getfield 128, 3) := by decide +kernel
theorem dX8_heard_47 : decode cX8_heard 47 = .ok (.iconst 1, 1) := by decide +kernel
theorem dX8_heard_48 : decode cX8_heard 48 = .ok (.isub, 1) := by decide +kernel
theorem dX8_heard_49 : decode cX8_heard 49 = .ok (.invokestatic 73, 3) := by decide +kernel
theorem dX8_heard_52 : decode cX8_heard 52 = .ok (.ifCond .eq 6, 3) := by decide +kernel
theorem dX8_heard_55 : decode cX8_heard 55 = .ok (.bipush (-2), 2) := by decide +kernel
theorem dX8_heard_57 : decode cX8_heard 57 = .ok (.ireturn, 1) := by decide +kernel
theorem dX8_heard_58 : decode cX8_heard 58 = .ok (.aload_n 0, 1) := by decide +kernel
theorem dX8_heard_59 : decode cX8_heard 59 = .ok (.iload_n 2, 1) := by decide +kernel
theorem dX8_heard_60 : decode cX8_heard 60 = .ok (.iconst 1, 1) := by decide +kernel
theorem dX8_heard_61 : decode cX8_heard 61 = .ok (.iadd, 1) := by decide +kernel
theorem dX8_heard_62 : decode cX8_heard 62 = .ok (.invokevirtual 141, 3) := by decide +kernel
theorem dX8_heard_65 : decode cX8_heard 65 = .ok (.astore 4, 2) := by decide +kernel
theorem dX8_heard_67 : decode cX8_heard 67 = .ok (.iload_n 3, 1) := by decide +kernel
theorem dX8_heard_68 : decode cX8_heard 68 = .ok (.ifCond .ne 13, 3) := by decide +kernel
theorem dX8_heard_71 : decode cX8_heard 71 = .ok (.aload 4, 2) := by decide +kernel
theorem dX8_heard_73 : decode cX8_heard 73 = .ok (.getfield 145, 3) := by decide +kernel
theorem dX8_heard_76 : decode cX8_heard 76 = .ok (.iload_n 1, 1) := by decide +kernel
theorem dX8_heard_77 : decode cX8_heard 77 = .ok (.iaload, 1) := by decide +kernel
theorem dX8_heard_78 : decode cX8_heard 78 = .ok (.goto 18, 3) := by decide +kernel
theorem dX8_heard_81 : decode cX8_heard 81 = .ok (.aload 4, 2) := by decide +kernel
theorem dX8_heard_83 : decode cX8_heard 83 = .ok (.iload_n 3, 1) := by decide +kernel
theorem dX8_heard_84 : decode cX8_heard 84 = .ok (.aload_n 0, 1) := by decide +kernel
theorem dX8_heard_85 : decode cX8_heard 85 = .ok (.getfield 10, 3) := by decide +kernel
theorem dX8_heard_88 : decode cX8_heard 88 = .ok (.getfield 93, 3) := by decide +kernel
theorem dX8_heard_91 : decode cX8_heard 91 = .ok (.iload_n 1, 1) := by decide +kernel
theorem dX8_heard_92 : decode cX8_heard 92 = .ok (.iaload, 1) := by decide +kernel
theorem dX8_heard_93 : decode cX8_heard 93 = .ok (.invokevirtual 148, 3) := by decide +kernel
theorem dX8_heard_96 : decode cX8_heard 96 = .ok (.ireturn, 1) := by decide +kernel
theorem dX8_sum_0 : decode cX8_sum 0 = .ok (.iload_n 2, 1) := by decide +kernel
theorem dX8_sum_1 : decode cX8_sum 1 = .ok (.iconst 0, 1) := by decide +kernel
theorem dX8_sum_2 : decode cX8_sum 2 = .ok (.iconst 4, 1) := by decide +kernel
theorem dX8_sum_3 : decode cX8_sum 3 = .ok (.invokestatic 73, 3) := by decide +kernel
theorem dX8_sum_6 : decode cX8_sum 6 = .ok (.ifCond .eq 6, 3) := by decide +kernel
theorem dX8_sum_9 : decode cX8_sum 9 = .ok (.bipush (-2), 2) := by decide +kernel
theorem dX8_sum_11 : decode cX8_sum 11 = .ok (.ireturn, 1) := by decide +kernel
theorem dX8_sum_12 : decode cX8_sum 12 = .ok (.aload_n 0, 1) := by decide +kernel
theorem dX8_sum_13 : decode cX8_sum 13 = .ok (.getfield 30, 3) := by decide +kernel
theorem dX8_sum_16 : decode cX8_sum 16 = .ok (.invokevirtual 137, 3) := by decide +kernel
theorem dX8_sum_19 : decode cX8_sum 19 = .ok (.ifCond .eq 6, 3) := by decide +kernel
theorem dX8_sum_22 : decode cX8_sum 22 = .ok (.bipush (-5), 2) := by decide +kernel
theorem dX8_sum_24 : decode cX8_sum 24 = .ok (.ireturn, 1) := by decide +kernel
theorem dX8_sum_25 : decode cX8_sum 25 = .ok (.iload_n 1, 1) := by decide +kernel
theorem dX8_sum_26 : decode cX8_sum 26 = .ok (.iconst (-1), 1) := by decide +kernel
theorem dX8_sum_27 : decode cX8_sum 27 = .ok (.aload_n 0, 1) := by decide +kernel
theorem dX8_sum_28 : decode cX8_sum 28 = .ok (.getfield 30, 3) := by decide +kernel
theorem dX8_sum_31 : decode cX8_sum 31 = .ok (.getfield 128, 3) := by decide +kernel
theorem dX8_sum_34 : decode cX8_sum 34 = .ok (.iconst 1, 1) := by decide +kernel
theorem dX8_sum_35 : decode cX8_sum 35 = .ok (.isub, 1) := by decide +kernel
theorem dX8_sum_36 : decode cX8_sum 36 = .ok (.invokestatic 73, 3) := by decide +kernel
theorem dX8_sum_39 : decode cX8_sum 39 = .ok (.ifCond .eq 6, 3) := by decide +kernel
theorem dX8_sum_42 : decode cX8_sum 42 = .ok (.bipush (-2), 2) := by decide +kernel
theorem dX8_sum_44 : decode cX8_sum 44 = .ok (.ireturn, 1) := by decide +kernel
theorem dX8_sum_45 : decode cX8_sum 45 = .ok (.aload_n 0, 1) := by decide +kernel
theorem dX8_sum_46 : decode cX8_sum 46 = .ok (.iload_n 1, 1) := by decide +kernel
theorem dX8_sum_47 : decode cX8_sum 47 = .ok (.iconst (-1), 1) := by decide +kernel
theorem dX8_sum_48 : decode cX8_sum 48 = .ok (.if_icmp .ne 13, 3) := by decide +kernel
theorem dX8_sum_51 : decode cX8_sum 51 = .ok (.aload_n 0, 1) := by decide +kernel
theorem dX8_sum_52 : decode cX8_sum 52 = .ok (.getfield 30, 3) := by decide +kernel
theorem dX8_sum_55 : decode cX8_sum 55 = .ok (.getfield 128, 3) := by decide +kernel
theorem dX8_sum_58 : decode cX8_sum 58 = .ok (.goto 6, 3) := by decide +kernel
theorem dX8_sum_61 : decode cX8_sum 61 = .ok (.iload_n 1, 1) := by decide +kernel
theorem dX8_sum_62 : decode cX8_sum 62 = .ok (.iconst 1, 1) := by decide +kernel
theorem dX8_sum_63 : decode cX8_sum 63 = .ok (.iadd, 1) := by decide +kernel
theorem dX8_sum_64 : decode cX8_sum 64 = .ok (.invokevirtual 141, 3) := by decide +kernel
theorem dX8_sum_67 : decode cX8_sum 67 = .ok (.iload_n 2, 1) := by decide +kernel
theorem dX8_sum_68 : decode cX8_sum 68 = .ok (.invokevirtual 152, 3) := by decide +kernel
theorem dX8_sum_71 : decode cX8_sum 71 = .ok (.ireturn, 1) := by decide +kernel
theorem dX8_first_0 : decode cX8_first 0 = .ok (.iload_n 1, 1) := by decide +kernel
theorem dX8_first_1 : decode cX8_first 1 = .ok (.iconst 0, 1) := by decide +kernel
theorem dX8_first_2 : decode cX8_first 2 = .ok (.iconst 1, 1) := by decide +kernel
theorem dX8_first_3 : decode cX8_first 3 = .ok (.invokestatic 73, 3) := by decide +kernel
theorem dX8_first_6 : decode cX8_first 6 = .ok (.ifCond .eq 6, 3) := by decide +kernel
theorem dX8_first_9 : decode cX8_first 9 = .ok (.bipush (-2), 2) := by decide +kernel
theorem dX8_first_11 : decode cX8_first 11 = .ok (.ireturn, 1) := by decide +kernel
theorem dX8_first_12 : decode cX8_first 12 = .ok (.aload_n 0, 1) := by decide +kernel
theorem dX8_first_13 : decode cX8_first 13 = .ok (.getfield 30, 3) := by decide +kernel
theorem dX8_first_16 : decode cX8_first 16 = .ok (.invokevirtual 137, 3) := by decide +kernel
theorem dX8_first_19 : decode cX8_first 19 = .ok (.ifCond .eq 6, 3) := by decide +kernel
theorem dX8_first_22 : decode cX8_first 22 = .ok (.bipush (-5), 2) := by decide +kernel
theorem dX8_first_24 : decode cX8_first 24 = .ok (.ireturn, 1) := by decide +kernel
theorem dX8_first_25 : decode cX8_first 25 = .ok (.aload_n 0, 1) := by decide +kernel
theorem dX8_first_26 : decode cX8_first 26 = .ok (.iconst 0, 1) := by decide +kernel
theorem dX8_first_27 : decode cX8_first 27 = .ok (.invokevirtual 141, 3) := by decide +kernel
theorem dX8_first_30 : decode cX8_first 30 = .ok (.astore_n 2, 1) := by decide +kernel
theorem dX8_first_31 : decode cX8_first 31 = .ok (.iconst 0, 1) := by decide +kernel
theorem dX8_first_32 : decode cX8_first 32 = .ok (.istore_n 3, 1) := by decide +kernel
theorem dX8_first_33 : decode cX8_first 33 = .ok (.iload_n 3, 1) := by decide +kernel
theorem dX8_first_34 : decode cX8_first 34 = .ok (.aload_n 0, 1) := by decide +kernel
theorem dX8_first_35 : decode cX8_first 35 = .ok (.getfield 30, 3) := by decide +kernel
theorem dX8_first_38 : decode cX8_first 38 = .ok (.getfield 128, 3) := by decide +kernel
theorem dX8_first_41 : decode cX8_first 41 = .ok (.if_icmp .ge 47, 3) := by decide +kernel
theorem dX8_first_44 : decode cX8_first 44 = .ok (.aload_n 2, 1) := by decide +kernel
theorem dX8_first_45 : decode cX8_first 45 = .ok (.aload_n 0, 1) := by decide +kernel
theorem dX8_first_46 : decode cX8_first 46 = .ok (.getfield 10, 3) := by decide +kernel
theorem dX8_first_49 : decode cX8_first 49 = .ok (.aload_n 0, 1) := by decide +kernel
theorem dX8_first_50 : decode cX8_first 50 = .ok (.getfield 30, 3) := by decide +kernel
theorem dX8_first_53 : decode cX8_first 53 = .ok (.getfield 131, 3) := by decide +kernel
theorem dX8_first_56 : decode cX8_first 56 = .ok (.iload_n 3, 1) := by decide +kernel
theorem dX8_first_57 : decode cX8_first 57 = .ok (.iaload, 1) := by decide +kernel
theorem dX8_first_58 : decode cX8_first 58 = .ok (.iconst 0, 1) := by decide +kernel
theorem dX8_first_59 : decode cX8_first 59 = .ok (.invokevirtual 155, 3) := by decide +kernel
theorem dX8_first_62 : decode cX8_first 62 = .ok (.iload_n 1, 1) := by decide +kernel
theorem dX8_first_63 : decode cX8_first 63 = .ok (.ifCond .ne 10, 3) := by decide +kernel
theorem dX8_first_66 : decode cX8_first 66 = .ok (.aload_n 2, 1) := by decide +kernel
theorem dX8_first_67 : decode cX8_first 67 = .ok (.getfield 159, 3) := by decide +kernel
theorem dX8_first_70 : decode cX8_first 70 = .ok (.goto 7, 3) := by decide +kernel
theorem dX8_first_73 : decode cX8_first 73 = .ok (.aload_n 2, 1) := by decide +kernel
theorem dX8_first_74 : decode cX8_first 74 = .ok (.getfield 162, 3) := by decide +kernel
theorem dX8_first_77 : decode cX8_first 77 = .ok (.ifCond .eq 5, 3) := by decide +kernel
theorem dX8_first_80 : decode cX8_first 80 = .ok (.iload_n 3, 1) := by decide +kernel
theorem dX8_first_81 : decode cX8_first 81 = .ok (.ireturn, 1) := by decide +kernel
theorem dX8_first_82 : decode cX8_first 82 = .ok (.iinc 3 1, 3) := by decide +kernel
theorem dX8_first_85 : decode cX8_first 85 = .ok (.goto (-52), 3) := by decide +kernel
theorem dX8_first_88 : decode cX8_first 88 = .ok (.bipush (-6), 2) := by decide +kernel
theorem dX8_first_90 : decode cX8_first 90 = .ok (.ireturn, 1) := by decide +kernel
theorem dX8_gain_0 : decode cX8_gain 0 = .ok (.aload_n 0, 1) := by decide +kernel
theorem dX8_gain_1 : decode cX8_gain 1 = .ok (.getfield 30, 3) := by decide +kernel
theorem dX8_gain_4 : decode cX8_gain 4 = .ok (.invokevirtual 137, 3) := by decide +kernel
theorem dX8_gain_7 : decode cX8_gain 7 = .ok (.ifCond .eq 8, 3) := by decide +kernel
theorem dX8_gain_10 : decode cX8_gain 10 = .ok (.bipush (-5), 2) := by decide +kernel
theorem dX8_gain_12 : decode cX8_gain 12 = .ok (.goto 17, 3) := by decide +kernel
theorem dX8_gain_15 : decode cX8_gain 15 = .ok (.aload_n 0, 1) := by decide +kernel
theorem dX8_gain_16 : decode cX8_gain 16 = .ok (.aload_n 0, 1) := by decide +kernel
theorem dX8_gain_17 : decode cX8_gain 17 = .ok (.getfield 30, 3) := by decide +kernel
theorem dX8_gain_20 : decode cX8_gain 20 = .ok (.getfield 128, 3) := by decide +kernel
theorem dX8_gain_23 : decode cX8_gain 23 = .ok (.invokevirtual 141, 3) := by decide +kernel
theorem dX8_gain_26 : decode cX8_gain 26 = .ok (.invokevirtual 165, 3) := by decide +kernel
theorem dX8_gain_29 : decode cX8_gain 29 = .ok (.ireturn, 1) := by decide +kernel
theorem dX8_order_0 : decode cX8_order 0 = .ok (.iload_n 1, 1) := by decide +kernel
theorem dX8_order_1 : decode cX8_order 1 = .ok (.iconst 0, 1) := by decide +kernel
theorem dX8_order_2 : decode cX8_order 2 = .ok (.iconst 1, 1) := by decide +kernel
theorem dX8_order_3 : decode cX8_order 3 = .ok (.invokestatic 73, 3) := by decide +kernel
theorem dX8_order_6 : decode cX8_order 6 = .ok (.ifCond .eq 6, 3) := by decide +kernel
theorem dX8_order_9 : decode cX8_order 9 = .ok (.bipush (-2), 2) := by decide +kernel
theorem dX8_order_11 : decode cX8_order 11 = .ok (.ireturn, 1) := by decide +kernel
theorem dX8_order_12 : decode cX8_order 12 = .ok (.aload_n 0, 1) := by decide +kernel
theorem dX8_order_13 : decode cX8_order 13 = .ok (.getfield 30, 3) := by decide +kernel
theorem dX8_order_16 : decode cX8_order 16 = .ok (.invokevirtual 137, 3) := by decide +kernel
theorem dX8_order_19 : decode cX8_order 19 = .ok (.ifCond .eq 6, 3) := by decide +kernel
theorem dX8_order_22 : decode cX8_order 22 = .ok (.bipush (-5), 2) := by decide +kernel
theorem dX8_order_24 : decode cX8_order 24 = .ok (.ireturn, 1) := by decide +kernel
theorem dX8_order_25 : decode cX8_order 25 = .ok (.aload_n 0, 1) := by decide +kernel
theorem dX8_order_26 : decode cX8_order 26 = .ok (.getfield 30, 3) := by decide +kernel
theorem dX8_order_29 : decode cX8_order 29 = .ok (.getfield 128, 3) := by decide +kernel
theorem dX8_order_32 : decode cX8_order 32 = .ok (.bipush 7, 2) := by decide +kernel
theorem dX8_order_34 : decode cX8_order 34 = .ok (.if_icmp .le 6, 3) := by decide +kernel
theorem dX8_order_37 : decode cX8_order 37 = .ok (.bipush (-4), 2) := by decide +kernel
theorem dX8_order_39 : decode cX8_order 39 = .ok (.ireturn, 1) := by decide +kernel
theorem dX8_order_40 : decode cX8_order 40 = .ok (.aload_n 0, 1) := by decide +kernel
theorem dX8_order_41 : decode cX8_order 41 = .ok (.getfield 43, 3) := by decide +kernel
theorem dX8_order_44 : decode cX8_order 44 = .ok (.iload_n 1, 1) := by decide +kernel
theorem dX8_order_45 : decode cX8_order 45 = .ok (.iconst 1, 1) := by decide +kernel
theorem dX8_order_46 : decode cX8_order 46 = .ok (.if_icmp .ne 7, 3) := by decide +kernel
theorem dX8_order_49 : decode cX8_order 49 = .ok (.iconst 1, 1) := by decide +kernel
theorem dX8_order_50 : decode cX8_order 50 = .ok (.goto 4, 3) := by decide +kernel
theorem dX8_order_53 : decode cX8_order 53 = .ok (.iconst 0, 1) := by decide +kernel
theorem dX8_order_54 : decode cX8_order 54 = .ok (.invokevirtual 168, 3) := by decide +kernel
theorem dX8_order_57 : decode cX8_order 57 = .ok (.aload_n 0, 1) := by decide +kernel
theorem dX8_order_58 : decode cX8_order 58 = .ok (.getfield 43, 3) := by decide +kernel
theorem dX8_order_61 : decode cX8_order 61 = .ok (.aload_n 0, 1) := by decide +kernel
theorem dX8_order_62 : decode cX8_order 62 = .ok (.getfield 10, 3) := by decide +kernel
theorem dX8_order_65 : decode cX8_order 65 = .ok (.aload_n 0, 1) := by decide +kernel
theorem dX8_order_66 : decode cX8_order 66 = .ok (.getfield 30, 3) := by decide +kernel
theorem dX8_order_69 : decode cX8_order 69 = .ok (.aload_n 0, 1) := by decide +kernel
theorem dX8_order_70 : decode cX8_order 70 = .ok (.getfield 36, 3) := by decide +kernel
theorem dX8_order_73 : decode cX8_order 73 = .ok (.invokevirtual 172, 3) := by decide +kernel
theorem dX8_order_76 : decode cX8_order 76 = .ok (.iload_n 2, 1) := by decide +kernel
theorem dX8_order_77 : decode cX8_order 77 = .ok (.iconst (-1), 1) := by decide +kernel
theorem dX8_order_78 : decode cX8_order 78 = .ok (.if_icmp .ne 13, 3) := by decide +kernel
theorem dX8_order_81 : decode cX8_order 81 = .ok (.aload_n 0, 1) := by decide +kernel
theorem dX8_order_82 : decode cX8_order 82 = .ok (.getfield 43, 3) := by decide +kernel
theorem dX8_order_85 : decode cX8_order 85 = .ok (.getfield 176, 3) := by decide +kernel
theorem dX8_order_88 : decode cX8_order 88 = .ok (.goto 11, 3) := by decide +kernel
theorem dX8_order_91 : decode cX8_order 91 = .ok (.aload_n 0, 1) := by decide +kernel
theorem dX8_order_92 : decode cX8_order 92 = .ok (.getfield 43, 3) := by decide +kernel
theorem dX8_order_95 : decode cX8_order 95 = .ok (.iload_n 2, 1) := by decide +kernel
theorem dX8_order_96 : decode cX8_order 96 = .ok (.invokevirtual 179, 3) := by decide +kernel
theorem dX8_order_99 : decode cX8_order 99 = .ok (.ireturn, 1) := by decide +kernel
theorem dX8_start_0 : decode cX8_start 0 = .ok (.iload_n 1, 1) := by decide +kernel
theorem dX8_start_1 : decode cX8_start 1 = .ok (.iconst 0, 1) := by decide +kernel
theorem dX8_start_2 : decode cX8_start 2 = .ok (.iconst 1, 1) := by decide +kernel
theorem dX8_start_3 : decode cX8_start 3 = .ok (.invokestatic 73, 3) := by decide +kernel
theorem dX8_start_6 : decode cX8_start 6 = .ok (.ifCond .eq 6, 3) := by decide +kernel
theorem dX8_start_9 : decode cX8_start 9 = .ok (.bipush (-2), 2) := by decide +kernel
theorem dX8_start_11 : decode cX8_start 11 = .ok (.ireturn, 1) := by decide +kernel
theorem dX8_start_12 : decode cX8_start 12 = .ok (.aload_n 0, 1) := by decide +kernel
theorem dX8_start_13 : decode cX8_start 13 = .ok (.getfield 30, 3) := by decide +kernel
theorem dX8_start_16 : decode cX8_start 16 = .ok (.invokevirtual 137, 3) := by decide +kernel
theorem dX8_start_19 : decode cX8_start 19 = .ok (.ifCond .eq 6, 3) := by decide +kernel
theorem dX8_start_22 : decode cX8_start 22 = .ok (.bipush (-5), 2) := by decide +kernel
theorem dX8_start_24 : decode cX8_start 24 = .ok (.ireturn, 1) := by decide +kernel
theorem dX8_start_25 : decode cX8_start 25 = .ok (.aload_n 0, 1) := by decide +kernel
theorem dX8_start_26 : decode cX8_start 26 = .ok (.getfield 30, 3) := by decide +kernel
theorem dX8_start_29 : decode cX8_start 29 = .ok (.getfield 128, 3) := by decide +kernel
theorem dX8_start_32 : decode cX8_start 32 = .ok (.bipush 60, 2) := by decide +kernel
theorem dX8_start_34 : decode cX8_start 34 = .ok (.if_icmp .lt 8, 3) := by decide +kernel
theorem dX8_start_37 : decode cX8_start 37 = .ok (.bipush (-4), 2) := by decide +kernel
theorem dX8_start_39 : decode cX8_start 39 = .ok (.goto 17, 3) := by decide +kernel
theorem dX8_start_42 : decode cX8_start 42 = .ok (.aload_n 0, 1) := by decide +kernel
theorem dX8_start_43 : decode cX8_start 43 = .ok (.iload_n 1, 1) := by decide +kernel
theorem dX8_start_44 : decode cX8_start 44 = .ok (.iconst 1, 1) := by decide +kernel
theorem dX8_start_45 : decode cX8_start 45 = .ok (.if_icmp .ne 7, 3) := by decide +kernel
theorem dX8_start_48 : decode cX8_start 48 = .ok (.iconst 1, 1) := by decide +kernel
theorem dX8_start_49 : decode cX8_start 49 = .ok (.goto 4, 3) := by decide +kernel
theorem dX8_start_52 : decode cX8_start 52 = .ok (.iconst 0, 1) := by decide +kernel
theorem dX8_start_53 : decode cX8_start 53 = .ok (.invokevirtual 182, 3) := by decide +kernel
theorem dX8_start_56 : decode cX8_start 56 = .ok (.ireturn, 1) := by decide +kernel
theorem dX8_seated_0 : decode cX8_seated 0 = .ok (.iload_n 1, 1) := by decide +kernel
theorem dX8_seated_1 : decode cX8_seated 1 = .ok (.iconst 0, 1) := by decide +kernel
theorem dX8_seated_2 : decode cX8_seated 2 = .ok (.iconst 1, 1) := by decide +kernel
theorem dX8_seated_3 : decode cX8_seated 3 = .ok (.invokestatic 73, 3) := by decide +kernel
theorem dX8_seated_6 : decode cX8_seated 6 = .ok (.ifCond .eq 6, 3) := by decide +kernel
theorem dX8_seated_9 : decode cX8_seated 9 = .ok (.bipush (-2), 2) := by decide +kernel
theorem dX8_seated_11 : decode cX8_seated 11 = .ok (.ireturn, 1) := by decide +kernel
theorem dX8_seated_12 : decode cX8_seated 12 = .ok (.aload_n 0, 1) := by decide +kernel
theorem dX8_seated_13 : decode cX8_seated 13 = .ok (.getfield 30, 3) := by decide +kernel
theorem dX8_seated_16 : decode cX8_seated 16 = .ok (.invokevirtual 137, 3) := by decide +kernel
theorem dX8_seated_19 : decode cX8_seated 19 = .ok (.ifCond .eq 8, 3) := by decide +kernel
theorem dX8_seated_22 : decode cX8_seated 22 = .ok (.bipush (-5), 2) := by decide +kernel
theorem dX8_seated_24 : decode cX8_seated 24 = .ok (.goto 17, 3) := by decide +kernel
theorem dX8_seated_27 : decode cX8_seated 27 = .ok (.aload_n 0, 1) := by decide +kernel
theorem dX8_seated_28 : decode cX8_seated 28 = .ok (.iload_n 1, 1) := by decide +kernel
theorem dX8_seated_29 : decode cX8_seated 29 = .ok (.iconst 1, 1) := by decide +kernel
theorem dX8_seated_30 : decode cX8_seated 30 = .ok (.if_icmp .ne 7, 3) := by decide +kernel
theorem dX8_seated_33 : decode cX8_seated 33 = .ok (.iconst 1, 1) := by decide +kernel
theorem dX8_seated_34 : decode cX8_seated 34 = .ok (.goto 4, 3) := by decide +kernel
theorem dX8_seated_37 : decode cX8_seated 37 = .ok (.iconst 0, 1) := by decide +kernel
theorem dX8_seated_38 : decode cX8_seated 38 = .ok (.invokevirtual 186, 3) := by decide +kernel
theorem dX8_seated_41 : decode cX8_seated 41 = .ok (.ireturn, 1) := by decide +kernel
theorem dX8_hired_0 : decode cX8_hired 0 = .ok (.iload_n 1, 1) := by decide +kernel
theorem dX8_hired_1 : decode cX8_hired 1 = .ok (.iconst 0, 1) := by decide +kernel
theorem dX8_hired_2 : decode cX8_hired 2 = .ok (.sipush 999, 3) := by decide +kernel
theorem dX8_hired_5 : decode cX8_hired 5 = .ok (.invokestatic 73, 3) := by decide +kernel
theorem dX8_hired_8 : decode cX8_hired 8 = .ok (.ifCond .ne 12, 3) := by decide +kernel
theorem dX8_hired_11 : decode cX8_hired 11 = .ok (.iload_n 2, 1) := by decide +kernel
theorem dX8_hired_12 : decode cX8_hired 12 = .ok (.iconst 0, 1) := by decide +kernel
theorem dX8_hired_13 : decode cX8_hired 13 = .ok (.iconst 1, 1) := by decide +kernel
theorem dX8_hired_14 : decode cX8_hired 14 = .ok (.invokestatic 73, 3) := by decide +kernel
theorem dX8_hired_17 : decode cX8_hired 17 = .ok (.ifCond .eq 6, 3) := by decide +kernel
theorem dX8_hired_20 : decode cX8_hired 20 = .ok (.bipush (-2), 2) := by decide +kernel
theorem dX8_hired_22 : decode cX8_hired 22 = .ok (.ireturn, 1) := by decide +kernel
theorem dX8_hired_23 : decode cX8_hired 23 = .ok (.aload_n 0, 1) := by decide +kernel
theorem dX8_hired_24 : decode cX8_hired 24 = .ok (.getfield 30, 3) := by decide +kernel
theorem dX8_hired_27 : decode cX8_hired 27 = .ok (.invokevirtual 137, 3) := by decide +kernel
theorem dX8_hired_30 : decode cX8_hired 30 = .ok (.ifCond .eq 6, 3) := by decide +kernel
theorem dX8_hired_33 : decode cX8_hired 33 = .ok (.bipush (-5), 2) := by decide +kernel
theorem dX8_hired_35 : decode cX8_hired 35 = .ok (.ireturn, 1) := by decide +kernel
theorem dX8_hired_36 : decode cX8_hired 36 = .ok (.aload_n 0, 1) := by decide +kernel
theorem dX8_hired_37 : decode cX8_hired 37 = .ok (.iload_n 1, 1) := by decide +kernel
theorem dX8_hired_38 : decode cX8_hired 38 = .ok (.invokevirtual 189, 3) := by decide +kernel
theorem dX8_hired_41 : decode cX8_hired 41 = .ok (.istore_n 3, 1) := by decide +kernel
theorem dX8_hired_42 : decode cX8_hired 42 = .ok (.iload_n 3, 1) := by decide +kernel
theorem dX8_hired_43 : decode cX8_hired 43 = .ok (.bipush (-6), 2) := by decide +kernel
theorem dX8_hired_45 : decode cX8_hired 45 = .ok (.if_icmp .eq 8, 3) := by decide +kernel
theorem dX8_hired_48 : decode cX8_hired 48 = .ok (.iload_n 2, 1) := by decide +kernel
theorem dX8_hired_49 : decode cX8_hired 49 = .ok (.iconst 1, 1) := by decide +kernel
theorem dX8_hired_50 : decode cX8_hired 50 = .ok (.if_icmp .ne 7, 3) := by decide +kernel
theorem dX8_hired_53 : decode cX8_hired 53 = .ok (.iload_n 3, 1) := by decide +kernel
theorem dX8_hired_54 : decode cX8_hired 54 = .ok (.goto 7, 3) := by decide +kernel
theorem dX8_hired_57 : decode cX8_hired 57 = .ok (.iload_n 3, 1) := by decide +kernel
theorem dX8_hired_58 : decode cX8_hired 58 = .ok (.invokestatic 192, 3) := by decide +kernel
theorem dX8_hired_61 : decode cX8_hired 61 = .ok (.ireturn, 1) := by decide +kernel
theorem dX8_least_0 : decode cX8_least 0 = .ok (.aload_n 0, 1) := by decide +kernel
theorem dX8_least_1 : decode cX8_least 1 = .ok (.getfield 30, 3) := by decide +kernel
theorem dX8_least_4 : decode cX8_least 4 = .ok (.invokevirtual 137, 3) := by decide +kernel
theorem dX8_least_7 : decode cX8_least 7 = .ok (.ifCond .eq 6, 3) := by decide +kernel
theorem dX8_least_10 : decode cX8_least 10 = .ok (.bipush (-5), 2) := by decide +kernel
theorem dX8_least_12 : decode cX8_least 12 = .ok (.ireturn, 1) := by decide +kernel
theorem dX8_least_13 : decode cX8_least 13 = .ok (.aload_n 0, 1) := by decide +kernel
theorem dX8_least_14 : decode cX8_least 14 = .ok (.getfield 30, 3) := by decide +kernel
theorem dX8_least_17 : decode cX8_least 17 = .ok (.getfield 128, 3) := by decide +kernel
theorem dX8_least_20 : decode cX8_least 20 = .ok (.bipush 60, 2) := by decide +kernel
theorem dX8_least_22 : decode cX8_least 22 = .ok (.if_icmp .lt 8, 3) := by decide +kernel
theorem dX8_least_25 : decode cX8_least 25 = .ok (.bipush (-4), 2) := by decide +kernel
theorem dX8_least_27 : decode cX8_least 27 = .ok (.goto 7, 3) := by decide +kernel
theorem dX8_least_30 : decode cX8_least 30 = .ok (.aload_n 0, 1) := by decide +kernel
theorem dX8_least_31 : decode cX8_least 31 = .ok (.invokevirtual 197, 3) := by decide +kernel
theorem dX8_least_34 : decode cX8_least 34 = .ok (.ireturn, 1) := by decide +kernel
theorem dX8_seen_0 : decode cX8_seen 0 = .ok (.iload_n 1, 1) := by decide +kernel
theorem dX8_seen_1 : decode cX8_seen 1 = .ok (.iconst 0, 1) := by decide +kernel
theorem dX8_seen_2 : decode cX8_seen 2 = .ok (.bipush 59, 2) := by decide +kernel
theorem dX8_seen_4 : decode cX8_seen 4 = .ok (.invokestatic 73, 3) := by decide +kernel
theorem dX8_seen_7 : decode cX8_seen 7 = .ok (.ifCond .ne 13, 3) := by decide +kernel
theorem dX8_seen_10 : decode cX8_seen 10 = .ok (.iload_n 2, 1) := by decide +kernel
theorem dX8_seen_11 : decode cX8_seen 11 = .ok (.iconst 0, 1) := by decide +kernel
theorem dX8_seen_12 : decode cX8_seen 12 = .ok (.bipush 8, 2) := by decide +kernel
theorem dX8_seen_14 : decode cX8_seen 14 = .ok (.invokestatic 73, 3) := by decide +kernel
theorem dX8_seen_17 : decode cX8_seen 17 = .ok (.ifCond .eq 6, 3) := by decide +kernel
theorem dX8_seen_20 : decode cX8_seen 20 = .ok (.bipush (-2), 2) := by decide +kernel
theorem dX8_seen_22 : decode cX8_seen 22 = .ok (.ireturn, 1) := by decide +kernel
theorem dX8_seen_23 : decode cX8_seen 23 = .ok (.aload_n 0, 1) := by decide +kernel
theorem dX8_seen_24 : decode cX8_seen 24 = .ok (.getfield 10, 3) := by decide +kernel
theorem dX8_seen_27 : decode cX8_seen 27 = .ok (.getfield 200, 3) := by decide +kernel
theorem dX8_seen_30 : decode cX8_seen 30 = .ok (.bipush 8, 2) := by decide +kernel
theorem dX8_seen_32 : decode cX8_seen 32 = .ok (.if_icmp .lt 8, 3) := by decide +kernel
theorem dX8_seen_35 : decode cX8_seen 35 = .ok (.bipush (-4), 2) := by decide +kernel
theorem dX8_seen_37 : decode cX8_seen 37 = .ok (.goto 12, 3) := by decide +kernel
theorem dX8_seen_40 : decode cX8_seen 40 = .ok (.aload_n 0, 1) := by decide +kernel
theorem dX8_seen_41 : decode cX8_seen 41 = .ok (.getfield 10, 3) := by decide +kernel
theorem dX8_seen_44 : decode cX8_seen 44 = .ok (.iload_n 1, 1) := by decide +kernel
theorem dX8_seen_45 : decode cX8_seen 45 = .ok (.iload_n 2, 1) := by decide +kernel
theorem dX8_seen_46 : decode cX8_seen 46 = .ok (.invokevirtual 203, 3) := by decide +kernel
theorem dX8_seen_49 : decode cX8_seen 49 = .ok (.ireturn, 1) := by decide +kernel
theorem dX8_forget_0 : decode cX8_forget 0 = .ok (.aload_n 0, 1) := by decide +kernel
theorem dX8_forget_1 : decode cX8_forget 1 = .ok (.getfield 10, 3) := by decide +kernel
theorem dX8_forget_4 : decode cX8_forget 4 = .ok (.getfield 200, 3) := by decide +kernel
theorem dX8_forget_7 : decode cX8_forget 7 = .ok (.istore_n 1, 1) := by decide +kernel
theorem dX8_forget_8 : decode cX8_forget 8 = .ok (.aload_n 0, 1) := by decide +kernel
theorem dX8_forget_9 : decode cX8_forget 9 = .ok (.getfield 10, 3) := by decide +kernel
theorem dX8_forget_12 : decode cX8_forget 12 = .ok (.iconst 0, 1) := by decide +kernel
theorem dX8_forget_13 : decode cX8_forget 13 = .ok (.putfield 200, 3) := by decide +kernel
theorem dX8_forget_16 : decode cX8_forget 16 = .ok (.iload_n 1, 1) := by decide +kernel
theorem dX8_forget_17 : decode cX8_forget 17 = .ok (.ireturn, 1) := by decide +kernel
theorem dX8_preached_0 : decode cX8_preached 0 = .ok (.aload_n 0, 1) := by decide +kernel
theorem dX8_preached_1 : decode cX8_preached 1 = .ok (.invokevirtual 206, 3) := by decide +kernel
theorem dX8_preached_4 : decode cX8_preached 4 = .ok (.istore_n 2, 1) := by decide +kernel
theorem dX8_preached_5 : decode cX8_preached 5 = .ok (.iload_n 2, 1) := by decide +kernel
theorem dX8_preached_6 : decode cX8_preached 6 = .ok (.ifCond .eq 5, 3) := by decide +kernel
theorem dX8_preached_9 : decode cX8_preached 9 = .ok (.iload_n 2, 1) := by decide +kernel
theorem dX8_preached_10 : decode cX8_preached 10 = .ok (.ireturn, 1) := by decide +kernel
theorem dX8_preached_11 : decode cX8_preached 11 = .ok (.aload_n 0, 1) := by decide +kernel
theorem dX8_preached_12 : decode cX8_preached 12 = .ok (.getfield 50, 3) := by decide +kernel
theorem dX8_preached_15 : decode cX8_preached 15 = .ok (.aload_n 0, 1) := by decide +kernel
theorem dX8_preached_16 : decode cX8_preached 16 = .ok (.getfield 10, 3) := by decide +kernel
theorem dX8_preached_19 : decode cX8_preached 19 = .ok (.aload_n 0, 1) := by decide +kernel
theorem dX8_preached_20 : decode cX8_preached 20 = .ok (.getfield 30, 3) := by decide +kernel
theorem dX8_preached_23 : decode cX8_preached 23 = .ok (.aload_n 0, 1) := by decide +kernel
theorem dX8_preached_24 : decode cX8_preached 24 = .ok (.getfield 36, 3) := by decide +kernel
theorem dX8_preached_27 : decode cX8_preached 27 = .ok (.invokevirtual 209, 3) := by decide +kernel
theorem dX8_preached_30 : decode cX8_preached 30 = .ok (.iload_n 1, 1) := by decide +kernel
theorem dX8_preached_31 : decode cX8_preached 31 = .ok (.iconst (-1), 1) := by decide +kernel
theorem dX8_preached_32 : decode cX8_preached 32 = .ok (.if_icmp .ne 13, 3) := by decide +kernel
theorem dX8_preached_35 : decode cX8_preached 35 = .ok (.aload_n 0, 1) := by decide +kernel
theorem dX8_preached_36 : decode cX8_preached 36 = .ok (.getfield 50, 3) := by decide +kernel
theorem dX8_preached_39 : decode cX8_preached 39 = .ok (.getfield 212, 3) := by decide +kernel
theorem dX8_preached_42 : decode cX8_preached 42 = .ok (.goto 11, 3) := by decide +kernel
theorem dX8_preached_45 : decode cX8_preached 45 = .ok (.aload_n 0, 1) := by decide +kernel
theorem dX8_preached_46 : decode cX8_preached 46 = .ok (.getfield 50, 3) := by decide +kernel
theorem dX8_preached_49 : decode cX8_preached 49 = .ok (.iload_n 1, 1) := by decide +kernel
theorem dX8_preached_50 : decode cX8_preached 50 = .ok (.invokevirtual 215, 3) := by decide +kernel
theorem dX8_preached_53 : decode cX8_preached 53 = .ok (.ireturn, 1) := by decide +kernel
theorem dX8_surely_0 : decode cX8_surely 0 = .ok (.aload_n 0, 1) := by decide +kernel
theorem dX8_surely_1 : decode cX8_surely 1 = .ok (.invokevirtual 206, 3) := by decide +kernel
theorem dX8_surely_4 : decode cX8_surely 4 = .ok (.istore_n 1, 1) := by decide +kernel
theorem dX8_surely_5 : decode cX8_surely 5 = .ok (.iload_n 1, 1) := by decide +kernel
theorem dX8_surely_6 : decode cX8_surely 6 = .ok (.ifCond .eq 5, 3) := by decide +kernel
theorem dX8_surely_9 : decode cX8_surely 9 = .ok (.iload_n 1, 1) := by decide +kernel
theorem dX8_surely_10 : decode cX8_surely 10 = .ok (.ireturn, 1) := by decide +kernel
theorem dX8_surely_11 : decode cX8_surely 11 = .ok (.aload_n 0, 1) := by decide +kernel
theorem dX8_surely_12 : decode cX8_surely 12 = .ok (.getfield 50, 3) := by decide +kernel
theorem dX8_surely_15 : decode cX8_surely 15 = .ok (.aload_n 0, 1) := by decide +kernel
theorem dX8_surely_16 : decode cX8_surely 16 = .ok (.getfield 10, 3) := by decide +kernel
theorem dX8_surely_19 : decode cX8_surely 19 = .ok (.aload_n 0, 1) := by decide +kernel
theorem dX8_surely_20 : decode cX8_surely 20 = .ok (.getfield 30, 3) := by decide +kernel
theorem dX8_surely_23 : decode cX8_surely 23 = .ok (.aload_n 0, 1) := by decide +kernel
theorem dX8_surely_24 : decode cX8_surely 24 = .ok (.getfield 36, 3) := by decide +kernel
theorem dX8_surely_27 : decode cX8_surely 27 = .ok (.invokevirtual 209, 3) := by decide +kernel
theorem dX8_surely_30 : decode cX8_surely 30 = .ok (.aload_n 0, 1) := by decide +kernel
theorem dX8_surely_31 : decode cX8_surely 31 = .ok (.getfield 50, 3) := by decide +kernel
theorem dX8_surely_34 : decode cX8_surely 34 = .ok (.getfield 218, 3) := by decide +kernel
theorem dX8_surely_37 : decode cX8_surely 37 = .ok (.ireturn, 1) := by decide +kernel
theorem dX8_dips_0 : decode cX8_dips 0 = .ok (.aload_n 0, 1) := by decide +kernel
theorem dX8_dips_1 : decode cX8_dips 1 = .ok (.getfield 10, 3) := by decide +kernel
theorem dX8_dips_4 : decode cX8_dips 4 = .ok (.iload_n 1, 1) := by decide +kernel
theorem dX8_dips_5 : decode cX8_dips 5 = .ok (.invokevirtual 115, 3) := by decide +kernel
theorem dX8_dips_8 : decode cX8_dips 8 = .ok (.ifCond .ne 5, 3) := by decide +kernel
theorem dX8_dips_11 : decode cX8_dips 11 = .ok (.iconst (-1), 1) := by decide +kernel
theorem dX8_dips_12 : decode cX8_dips 12 = .ok (.ireturn, 1) := by decide +kernel
theorem dX8_dips_13 : decode cX8_dips 13 = .ok (.iload_n 2, 1) := by decide +kernel
theorem dX8_dips_14 : decode cX8_dips 14 = .ok (.iconst 0, 1) := by decide +kernel
theorem dX8_dips_15 : decode cX8_dips 15 = .ok (.iconst 1, 1) := by decide +kernel
theorem dX8_dips_16 : decode cX8_dips 16 = .ok (.invokestatic 73, 3) := by decide +kernel
theorem dX8_dips_19 : decode cX8_dips 19 = .ok (.ifCond .eq 6, 3) := by decide +kernel
theorem dX8_dips_22 : decode cX8_dips 22 = .ok (.bipush (-2), 2) := by decide +kernel
theorem dX8_dips_24 : decode cX8_dips 24 = .ok (.ireturn, 1) := by decide +kernel
theorem dX8_dips_25 : decode cX8_dips 25 = .ok (.aload_n 0, 1) := by decide +kernel
theorem dX8_dips_26 : decode cX8_dips 26 = .ok (.getfield 30, 3) := by decide +kernel
theorem dX8_dips_29 : decode cX8_dips 29 = .ok (.invokevirtual 137, 3) := by decide +kernel
theorem dX8_dips_32 : decode cX8_dips 32 = .ok (.ifCond .eq 8, 3) := by decide +kernel
theorem dX8_dips_35 : decode cX8_dips 35 = .ok (.bipush (-5), 2) := by decide +kernel
theorem dX8_dips_37 : decode cX8_dips 37 = .ok (.goto 26, 3) := by decide +kernel
theorem dX8_dips_40 : decode cX8_dips 40 = .ok (.aload_n 0, 1) := by decide +kernel
theorem dX8_dips_41 : decode cX8_dips 41 = .ok (.aload_n 0, 1) := by decide +kernel
theorem dX8_dips_42 : decode cX8_dips 42 = .ok (.getfield 10, 3) := by decide +kernel
theorem dX8_dips_45 : decode cX8_dips 45 = .ok (.getfield 93, 3) := by decide +kernel
theorem dX8_dips_48 : decode cX8_dips 48 = .ok (.iload_n 1, 1) := by decide +kernel
theorem dX8_dips_49 : decode cX8_dips 49 = .ok (.iaload, 1) := by decide +kernel
theorem dX8_dips_50 : decode cX8_dips 50 = .ok (.iload_n 2, 1) := by decide +kernel
theorem dX8_dips_51 : decode cX8_dips 51 = .ok (.iconst 1, 1) := by decide +kernel
theorem dX8_dips_52 : decode cX8_dips 52 = .ok (.if_icmp .ne 7, 3) := by decide +kernel
theorem dX8_dips_55 : decode cX8_dips 55 = .ok (.iconst 1, 1) := by decide +kernel
theorem dX8_dips_56 : decode cX8_dips 56 = .ok (.goto 4, 3) := by decide +kernel
theorem dX8_dips_59 : decode cX8_dips 59 = .ok (.iconst 0, 1) := by decide +kernel
theorem dX8_dips_60 : decode cX8_dips 60 = .ok (.invokevirtual 221, 3) := by decide +kernel
theorem dX8_dips_63 : decode cX8_dips 63 = .ok (.ireturn, 1) := by decide +kernel
theorem dX8_alike_0 : decode cX8_alike 0 = .ok (.aload_n 0, 1) := by decide +kernel
theorem dX8_alike_1 : decode cX8_alike 1 = .ok (.getfield 30, 3) := by decide +kernel
theorem dX8_alike_4 : decode cX8_alike 4 = .ok (.invokevirtual 137, 3) := by decide +kernel
theorem dX8_alike_7 : decode cX8_alike 7 = .ok (.ifCond .eq 6, 3) := by decide +kernel
theorem dX8_alike_10 : decode cX8_alike 10 = .ok (.bipush (-5), 2) := by decide +kernel
theorem dX8_alike_12 : decode cX8_alike 12 = .ok (.ireturn, 1) := by decide +kernel
theorem dX8_alike_13 : decode cX8_alike 13 = .ok (.aload_n 0, 1) := by decide +kernel
theorem dX8_alike_14 : decode cX8_alike 14 = .ok (.invokevirtual 225, 3) := by decide +kernel
theorem dX8_alike_17 : decode cX8_alike 17 = .ok (.iload_n 1, 1) := by decide +kernel
theorem dX8_alike_18 : decode cX8_alike 18 = .ok (.iconst (-1), 1) := by decide +kernel
theorem dX8_alike_19 : decode cX8_alike 19 = .ok (.if_icmp .ne 10, 3) := by decide +kernel
theorem dX8_alike_22 : decode cX8_alike 22 = .ok (.aload_n 0, 1) := by decide +kernel
theorem dX8_alike_23 : decode cX8_alike 23 = .ok (.invokevirtual 228, 3) := by decide +kernel
theorem dX8_alike_26 : decode cX8_alike 26 = .ok (.goto 8, 3) := by decide +kernel
theorem dX8_alike_29 : decode cX8_alike 29 = .ok (.aload_n 0, 1) := by decide +kernel
theorem dX8_alike_30 : decode cX8_alike 30 = .ok (.iload_n 1, 1) := by decide +kernel
theorem dX8_alike_31 : decode cX8_alike 31 = .ok (.invokevirtual 231, 3) := by decide +kernel
theorem dX8_alike_34 : decode cX8_alike 34 = .ok (.ireturn, 1) := by decide +kernel
theorem dX8_parishes_0 : decode cX8_parishes 0 = .ok (.iload_n 1, 1) := by decide +kernel
theorem dX8_parishes_1 : decode cX8_parishes 1 = .ok (.iconst (-1), 1) := by decide +kernel
theorem dX8_parishes_2 : decode cX8_parishes 2 = .ok (.iconst 2, 1) := by decide +kernel
theorem dX8_parishes_3 : decode cX8_parishes 3 = .ok (.invokestatic 73, 3) := by decide +kernel
theorem dX8_parishes_6 : decode cX8_parishes 6 = .ok (.ifCond .eq 6, 3) := by decide +kernel
theorem dX8_parishes_9 : decode cX8_parishes 9 = .ok (.bipush (-2), 2) := by decide +kernel
theorem dX8_parishes_11 : decode cX8_parishes 11 = .ok (.ireturn, 1) := by decide +kernel
theorem dX8_parishes_12 : decode cX8_parishes 12 = .ok (.aload_n 0, 1) := by decide +kernel
theorem dX8_parishes_13 : decode cX8_parishes 13 = .ok (.getfield 64, 3) := by decide +kernel
theorem dX8_parishes_16 : decode cX8_parishes 16 = .ok (.aload_n 0, 1) := by decide +kernel
theorem dX8_parishes_17 : decode cX8_parishes 17 = .ok (.getfield 10, 3) := by decide +kernel
theorem dX8_parishes_20 : decode cX8_parishes 20 = .ok (.invokevirtual 234, 3) := by decide +kernel
theorem dX8_parishes_23 : decode cX8_parishes 23 = .ok (.iload_n 1, 1) := by decide +kernel
theorem dX8_parishes_24 : decode cX8_parishes 24 = .ok (.iconst (-1), 1) := by decide +kernel
theorem dX8_parishes_25 : decode cX8_parishes 25 = .ok (.if_icmp .ne 13, 3) := by decide +kernel
theorem dX8_parishes_28 : decode cX8_parishes 28 = .ok (.aload_n 0, 1) := by decide +kernel
theorem dX8_parishes_29 : decode cX8_parishes 29 = .ok (.getfield 64, 3) := by decide +kernel
theorem dX8_parishes_32 : decode cX8_parishes 32 = .ok (.getfield 238, 3) := by decide +kernel
theorem dX8_parishes_35 : decode cX8_parishes 35 = .ok (.goto 12, 3) := by decide +kernel
theorem dX8_parishes_38 : decode cX8_parishes 38 = .ok (.aload_n 0, 1) := by decide +kernel
theorem dX8_parishes_39 : decode cX8_parishes 39 = .ok (.getfield 64, 3) := by decide +kernel
theorem dX8_parishes_42 : decode cX8_parishes 42 = .ok (.getfield 241, 3) := by decide +kernel
theorem dX8_parishes_45 : decode cX8_parishes 45 = .ok (.iload_n 1, 1) := by decide +kernel
theorem dX8_parishes_46 : decode cX8_parishes 46 = .ok (.iaload, 1) := by decide +kernel
theorem dX8_parishes_47 : decode cX8_parishes 47 = .ok (.ireturn, 1) := by decide +kernel
theorem dX8_cold_0 : decode cX8_cold 0 = .ok (.iload_n 1, 1) := by decide +kernel
theorem dX8_cold_1 : decode cX8_cold 1 = .ok (.iconst 0, 1) := by decide +kernel
theorem dX8_cold_2 : decode cX8_cold 2 = .ok (.bipush 10, 2) := by decide +kernel
end
section
theorem dX8_cold_4 : decode cX8_cold 4 = .ok (.invokestatic 73, 3) := by decide +kernel
theorem dX8_cold_7 : decode cX8_cold 7 = .ok (.ifCond .ne 21, 3) := by decide +kernel
theorem dX8_cold_10 : decode cX8_cold 10 = .ok (.iload_n 2, 1) := by decide +kernel
theorem dX8_cold_11 : decode cX8_cold 11 = .ok (.iconst 0, 1) := by decide +kernel
theorem dX8_cold_12 : decode cX8_cold 12 = .ok (.iconst 1, 1) := by decide +kernel
theorem dX8_cold_13 : decode cX8_cold 13 = .ok (.invokestatic 73, 3) := by decide +kernel
theorem dX8_cold_16 : decode cX8_cold 16 = .ok (.ifCond .ne 12, 3) := by decide +kernel
theorem dX8_cold_19 : decode cX8_cold 19 = .ok (.iload_n 3, 1) := by decide +kernel
theorem dX8_cold_20 : decode cX8_cold 20 = .ok (.iconst 0, 1) := by decide +kernel
theorem dX8_cold_21 : decode cX8_cold 21 = .ok (.iconst 1, 1) := by decide +kernel
theorem dX8_cold_22 : decode cX8_cold 22 = .ok (.invokestatic 73, 3) := by decide +kernel
theorem dX8_cold_25 : decode cX8_cold 25 = .ok (.ifCond .eq 7, 3) := by decide +kernel
theorem dX8_cold_28 : decode cX8_cold 28 = .ok (.ldc2_w 244, 3) := by decide +kernel
theorem dX8_cold_31 : decode cX8_cold 31 = .ok (.lreturn, 1) := by decide +kernel
theorem dX8_cold_32 : decode cX8_cold 32 = .ok (.aload_n 0, 1) := by decide +kernel
theorem dX8_cold_33 : decode cX8_cold 33 = .ok (.getfield 30, 3) := by decide +kernel
theorem dX8_cold_36 : decode cX8_cold 36 = .ok (.invokevirtual 137, 3) := by decide +kernel
theorem dX8_cold_39 : decode cX8_cold 39 = .ok (.ifCond .eq 7, 3) := by decide +kernel
theorem dX8_cold_42 : decode cX8_cold 42 = .ok (.ldc2_w 246, 3) := by decide +kernel
theorem dX8_cold_45 : decode cX8_cold 45 = .ok (.lreturn, 1) := by decide +kernel
theorem dX8_cold_46 : decode cX8_cold 46 = .ok (.aload_n 0, 1) := by decide +kernel
theorem dX8_cold_47 : decode cX8_cold 47 = .ok (.getfield 30, 3) := by decide +kernel
theorem dX8_cold_50 : decode cX8_cold 50 = .ok (.getfield 128, 3) := by decide +kernel
theorem dX8_cold_53 : decode cX8_cold 53 = .ok (.bipush 10, 2) := by decide +kernel
theorem dX8_cold_55 : decode cX8_cold 55 = .ok (.if_icmp .le 7, 3) := by decide +kernel
theorem dX8_cold_58 : decode cX8_cold 58 = .ok (.ldc2_w 248, 3) := by decide +kernel
theorem dX8_cold_61 : decode cX8_cold 61 = .ok (.lreturn, 1) := by decide +kernel
theorem dX8_cold_62 : decode cX8_cold 62 = .ok (.aload_n 0, 1) := by decide +kernel
theorem dX8_cold_63 : decode cX8_cold 63 = .ok (.getfield 57, 3) := by decide +kernel
theorem dX8_cold_66 : decode cX8_cold 66 = .ok (.aload_n 0, 1) := by decide +kernel
theorem dX8_cold_67 : decode cX8_cold 67 = .ok (.getfield 10, 3) := by decide +kernel
theorem dX8_cold_70 : decode cX8_cold 70 = .ok (.aload_n 0, 1) := by decide +kernel
theorem dX8_cold_71 : decode cX8_cold 71 = .ok (.getfield 30, 3) := by decide +kernel
theorem dX8_cold_74 : decode cX8_cold 74 = .ok (.aload_n 0, 1) := by decide +kernel
theorem dX8_cold_75 : decode cX8_cold 75 = .ok (.getfield 36, 3) := by decide +kernel
theorem dX8_cold_78 : decode cX8_cold 78 = .ok (.iload_n 1, 1) := by decide +kernel
theorem dX8_cold_79 : decode cX8_cold 79 = .ok (.invokevirtual 250, 3) := by decide +kernel
theorem dX8_cold_82 : decode cX8_cold 82 = .ok (.iload_n 2, 1) := by decide +kernel
theorem dX8_cold_83 : decode cX8_cold 83 = .ok (.ifCond .ne 13, 3) := by decide +kernel
theorem dX8_cold_86 : decode cX8_cold 86 = .ok (.aload_n 0, 1) := by decide +kernel
theorem dX8_cold_87 : decode cX8_cold 87 = .ok (.getfield 57, 3) := by decide +kernel
theorem dX8_cold_90 : decode cX8_cold 90 = .ok (.getfield 254, 3) := by decide +kernel
theorem dX8_cold_93 : decode cX8_cold 93 = .ok (.goto 10, 3) := by decide +kernel
theorem dX8_cold_96 : decode cX8_cold 96 = .ok (.aload_n 0, 1) := by decide +kernel
theorem dX8_cold_97 : decode cX8_cold 97 = .ok (.getfield 57, 3) := by decide +kernel
theorem dX8_cold_100 : decode cX8_cold 100 = .ok (.getfield 258, 3) := by decide +kernel
theorem dX8_cold_103 : decode cX8_cold 103 = .ok (.aload_n 0, 1) := by decide +kernel
theorem dX8_cold_104 : decode cX8_cold 104 = .ok (.getfield 57, 3) := by decide +kernel
theorem dX8_cold_107 : decode cX8_cold 107 = .ok (.getfield 261, 3) := by decide +kernel
theorem dX8_cold_110 : decode cX8_cold 110 = .ok (.iload_n 3, 1) := by decide +kernel
theorem dX8_cold_111 : decode cX8_cold 111 = .ok (.invokestatic 264, 3) := by decide +kernel
theorem dX8_cold_114 : decode cX8_cold 114 = .ok (.lreturn, 1) := by decide +kernel
theorem dX8_year_0 : decode cX8_year 0 = .ok (.iload_n 1, 1) := by decide +kernel
theorem dX8_year_1 : decode cX8_year 1 = .ok (.iconst 0, 1) := by decide +kernel
theorem dX8_year_2 : decode cX8_year 2 = .ok (.sipush 9999, 3) := by decide +kernel
theorem dX8_year_5 : decode cX8_year 5 = .ok (.invokestatic 73, 3) := by decide +kernel
theorem dX8_year_8 : decode cX8_year 8 = .ok (.ifCond .ne 22, 3) := by decide +kernel
theorem dX8_year_11 : decode cX8_year 11 = .ok (.iload_n 2, 1) := by decide +kernel
theorem dX8_year_12 : decode cX8_year 12 = .ok (.iconst 1, 1) := by decide +kernel
theorem dX8_year_13 : decode cX8_year 13 = .ok (.bipush 50, 2) := by decide +kernel
theorem dX8_year_15 : decode cX8_year 15 = .ok (.invokestatic 73, 3) := by decide +kernel
theorem dX8_year_18 : decode cX8_year 18 = .ok (.ifCond .ne 12, 3) := by decide +kernel
theorem dX8_year_21 : decode cX8_year 21 = .ok (.iload_n 3, 1) := by decide +kernel
theorem dX8_year_22 : decode cX8_year 22 = .ok (.iconst 0, 1) := by decide +kernel
theorem dX8_year_23 : decode cX8_year 23 = .ok (.iconst 2, 1) := by decide +kernel
theorem dX8_year_24 : decode cX8_year 24 = .ok (.invokestatic 73, 3) := by decide +kernel
theorem dX8_year_27 : decode cX8_year 27 = .ok (.ifCond .eq 6, 3) := by decide +kernel
theorem dX8_year_30 : decode cX8_year 30 = .ok (.bipush (-2), 2) := by decide +kernel
theorem dX8_year_32 : decode cX8_year 32 = .ok (.ireturn, 1) := by decide +kernel
theorem dX8_year_33 : decode cX8_year 33 = .ok (.aload_n 0, 1) := by decide +kernel
theorem dX8_year_34 : decode cX8_year 34 = .ok (.iload_n 1, 1) := by decide +kernel
theorem dX8_year_35 : decode cX8_year 35 = .ok (.iload_n 2, 1) := by decide +kernel
theorem dX8_year_36 : decode cX8_year 36 = .ok (.iload_n 3, 1) := by decide +kernel
theorem dX8_year_37 : decode cX8_year 37 = .ok (.invokevirtual 268, 3) := by decide +kernel
theorem dX8_year_40 : decode cX8_year 40 = .ok (.ireturn, 1) := by decide +kernel
theorem dX8_image_0 : decode cX8_image 0 = .ok (.iload_n 1, 1) := by decide +kernel
theorem dX8_image_1 : decode cX8_image 1 = .ok (.iconst 0, 1) := by decide +kernel
theorem dX8_image_2 : decode cX8_image 2 = .ok (.iconst 1, 1) := by decide +kernel
theorem dX8_image_3 : decode cX8_image 3 = .ok (.invokestatic 73, 3) := by decide +kernel
theorem dX8_image_6 : decode cX8_image 6 = .ok (.ifCond .eq 6, 3) := by decide +kernel
theorem dX8_image_9 : decode cX8_image 9 = .ok (.bipush (-2), 2) := by decide +kernel
theorem dX8_image_11 : decode cX8_image 11 = .ok (.ireturn, 1) := by decide +kernel
theorem dX8_image_12 : decode cX8_image 12 = .ok (.aload_n 0, 1) := by decide +kernel
theorem dX8_image_13 : decode cX8_image 13 = .ok (.getfield 19, 3) := by decide +kernel
theorem dX8_image_16 : decode cX8_image 16 = .ok (.iload_n 1, 1) := by decide +kernel
theorem dX8_image_17 : decode cX8_image 17 = .ok (.aaload, 1) := by decide +kernel
theorem dX8_image_18 : decode cX8_image 18 = .ok (.aload_n 0, 1) := by decide +kernel
theorem dX8_image_19 : decode cX8_image 19 = .ok (.getfield 10, 3) := by decide +kernel
theorem dX8_image_22 : decode cX8_image 22 = .ok (.invokevirtual 272, 3) := by decide +kernel
theorem dX8_image_25 : decode cX8_image 25 = .ok (.aload_n 0, 1) := by decide +kernel
theorem dX8_image_26 : decode cX8_image 26 = .ok (.getfield 23, 3) := by decide +kernel
theorem dX8_image_29 : decode cX8_image 29 = .ok (.iload_n 1, 1) := by decide +kernel
theorem dX8_image_30 : decode cX8_image 30 = .ok (.iconst 1, 1) := by decide +kernel
theorem dX8_image_31 : decode cX8_image 31 = .ok (.bastore, 1) := by decide +kernel
theorem dX8_image_32 : decode cX8_image 32 = .ok (.iconst 1, 1) := by decide +kernel
theorem dX8_image_33 : decode cX8_image 33 = .ok (.ireturn, 1) := by decide +kernel
theorem dX8_restore_0 : decode cX8_restore 0 = .ok (.iload_n 1, 1) := by decide +kernel
theorem dX8_restore_1 : decode cX8_restore 1 = .ok (.iconst 0, 1) := by decide +kernel
theorem dX8_restore_2 : decode cX8_restore 2 = .ok (.iconst 1, 1) := by decide +kernel
theorem dX8_restore_3 : decode cX8_restore 3 = .ok (.invokestatic 73, 3) := by decide +kernel
theorem dX8_restore_6 : decode cX8_restore 6 = .ok (.ifCond .eq 6, 3) := by decide +kernel
theorem dX8_restore_9 : decode cX8_restore 9 = .ok (.bipush (-2), 2) := by decide +kernel
theorem dX8_restore_11 : decode cX8_restore 11 = .ok (.ireturn, 1) := by decide +kernel
theorem dX8_restore_12 : decode cX8_restore 12 = .ok (.aload_n 0, 1) := by decide +kernel
theorem dX8_restore_13 : decode cX8_restore 13 = .ok (.getfield 23, 3) := by decide +kernel
theorem dX8_restore_16 : decode cX8_restore 16 = .ok (.iload_n 1, 1) := by decide +kernel
theorem dX8_restore_17 : decode cX8_restore 17 = .ok (.baload, 1) := by decide +kernel
theorem dX8_restore_18 : decode cX8_restore 18 = .ok (.ifCond .ne 6, 3) := by decide +kernel
theorem dX8_restore_21 : decode cX8_restore 21 = .ok (.bipush (-3), 2) := by decide +kernel
theorem dX8_restore_23 : decode cX8_restore 23 = .ok (.ireturn, 1) := by decide +kernel
theorem dX8_restore_24 : decode cX8_restore 24 = .ok (.aload_n 0, 1) := by decide +kernel
theorem dX8_restore_25 : decode cX8_restore 25 = .ok (.getfield 10, 3) := by decide +kernel
theorem dX8_restore_28 : decode cX8_restore 28 = .ok (.aload_n 0, 1) := by decide +kernel
theorem dX8_restore_29 : decode cX8_restore 29 = .ok (.getfield 19, 3) := by decide +kernel
theorem dX8_restore_32 : decode cX8_restore 32 = .ok (.iload_n 1, 1) := by decide +kernel
theorem dX8_restore_33 : decode cX8_restore 33 = .ok (.aaload, 1) := by decide +kernel
theorem dX8_restore_34 : decode cX8_restore 34 = .ok (.invokevirtual 272, 3) := by decide +kernel
theorem dX8_restore_37 : decode cX8_restore 37 = .ok (.iconst 1, 1) := by decide +kernel
theorem dX8_restore_38 : decode cX8_restore 38 = .ok (.ireturn, 1) := by decide +kernel
theorem dX8_told_0 : decode cX8_told 0 = .ok (.iload_n 1, 1) := by decide +kernel
theorem dX8_told_1 : decode cX8_told 1 = .ok (.tableswitch 99 0 6 #[43, 51, 59, 67, 75, 83, 91], 43) := by decide +kernel
theorem dX8_told_44 : decode cX8_told 44 = .ok (.aload_n 0, 1) := by decide +kernel
theorem dX8_told_45 : decode cX8_told 45 = .ok (.getfield 30, 3) := by decide +kernel
theorem dX8_told_48 : decode cX8_told 48 = .ok (.getfield 128, 3) := by decide +kernel
theorem dX8_told_51 : decode cX8_told 51 = .ok (.ireturn, 1) := by decide +kernel
theorem dX8_told_52 : decode cX8_told 52 = .ok (.aload_n 0, 1) := by decide +kernel
theorem dX8_told_53 : decode cX8_told 53 = .ok (.getfield 10, 3) := by decide +kernel
theorem dX8_told_56 : decode cX8_told 56 = .ok (.getfield 77, 3) := by decide +kernel
theorem dX8_told_59 : decode cX8_told 59 = .ok (.ireturn, 1) := by decide +kernel
theorem dX8_told_60 : decode cX8_told 60 = .ok (.aload_n 0, 1) := by decide +kernel
theorem dX8_told_61 : decode cX8_told 61 = .ok (.getfield 10, 3) := by decide +kernel
theorem dX8_told_64 : decode cX8_told 64 = .ok (.getfield 106, 3) := by decide +kernel
theorem dX8_told_67 : decode cX8_told 67 = .ok (.ireturn, 1) := by decide +kernel
theorem dX8_told_68 : decode cX8_told 68 = .ok (.aload_n 0, 1) := by decide +kernel
theorem dX8_told_69 : decode cX8_told 69 = .ok (.getfield 10, 3) := by decide +kernel
theorem dX8_told_72 : decode cX8_told 72 = .ok (.getfield 275, 3) := by decide +kernel
theorem dX8_told_75 : decode cX8_told 75 = .ok (.ireturn, 1) := by decide +kernel
theorem dX8_told_76 : decode cX8_told 76 = .ok (.aload_n 0, 1) := by decide +kernel
theorem dX8_told_77 : decode cX8_told 77 = .ok (.getfield 10, 3) := by decide +kernel
theorem dX8_told_80 : decode cX8_told 80 = .ok (.getfield 278, 3) := by decide +kernel
theorem dX8_told_83 : decode cX8_told 83 = .ok (.ireturn, 1) := by decide +kernel
theorem dX8_told_84 : decode cX8_told 84 = .ok (.aload_n 0, 1) := by decide +kernel
theorem dX8_told_85 : decode cX8_told 85 = .ok (.getfield 10, 3) := by decide +kernel
theorem dX8_told_88 : decode cX8_told 88 = .ok (.getfield 281, 3) := by decide +kernel
theorem dX8_told_91 : decode cX8_told 91 = .ok (.ireturn, 1) := by decide +kernel
theorem dX8_told_92 : decode cX8_told 92 = .ok (.aload_n 0, 1) := by decide +kernel
theorem dX8_told_93 : decode cX8_told 93 = .ok (.getfield 10, 3) := by decide +kernel
theorem dX8_told_96 : decode cX8_told 96 = .ok (.getfield 200, 3) := by decide +kernel
theorem dX8_told_99 : decode cX8_told 99 = .ok (.ireturn, 1) := by decide +kernel
theorem dX8_told_100 : decode cX8_told 100 = .ok (.iload_n 1, 1) := by decide +kernel
theorem dX8_told_101 : decode cX8_told 101 = .ok (.bipush 10, 2) := by decide +kernel
theorem dX8_told_103 : decode cX8_told 103 = .ok (.if_icmp .ge 8, 3) := by decide +kernel
theorem dX8_told_106 : decode cX8_told 106 = .ok (.bipush (-2), 2) := by decide +kernel
theorem dX8_told_108 : decode cX8_told 108 = .ok (.goto 17, 3) := by decide +kernel
theorem dX8_told_111 : decode cX8_told 111 = .ok (.aload_n 0, 1) := by decide +kernel
theorem dX8_told_112 : decode cX8_told 112 = .ok (.iload_n 1, 1) := by decide +kernel
theorem dX8_told_113 : decode cX8_told 113 = .ok (.bipush 10, 2) := by decide +kernel
theorem dX8_told_115 : decode cX8_told 115 = .ok (.idiv, 1) := by decide +kernel
theorem dX8_told_116 : decode cX8_told 116 = .ok (.iconst 1, 1) := by decide +kernel
theorem dX8_told_117 : decode cX8_told 117 = .ok (.isub, 1) := by decide +kernel
theorem dX8_told_118 : decode cX8_told 118 = .ok (.iload_n 1, 1) := by decide +kernel
theorem dX8_told_119 : decode cX8_told 119 = .ok (.bipush 10, 2) := by decide +kernel
theorem dX8_told_121 : decode cX8_told 121 = .ok (.irem, 1) := by decide +kernel
theorem dX8_told_122 : decode cX8_told 122 = .ok (.invokevirtual 284, 3) := by decide +kernel
theorem dX8_told_125 : decode cX8_told 125 = .ok (.ireturn, 1) := by decide +kernel
theorem dX8_isOutside_0 : decode cX8_isOutside 0 = .ok (.iload_n 0, 1) := by decide +kernel
theorem dX8_isOutside_1 : decode cX8_isOutside 1 = .ok (.iload_n 1, 1) := by decide +kernel
theorem dX8_isOutside_2 : decode cX8_isOutside 2 = .ok (.if_icmp .lt 8, 3) := by decide +kernel
theorem dX8_isOutside_5 : decode cX8_isOutside 5 = .ok (.iload_n 0, 1) := by decide +kernel
theorem dX8_isOutside_6 : decode cX8_isOutside 6 = .ok (.iload_n 2, 1) := by decide +kernel
theorem dX8_isOutside_7 : decode cX8_isOutside 7 = .ok (.if_icmp .le 7, 3) := by decide +kernel
theorem dX8_isOutside_10 : decode cX8_isOutside 10 = .ok (.iconst 1, 1) := by decide +kernel
theorem dX8_isOutside_11 : decode cX8_isOutside 11 = .ok (.goto 4, 3) := by decide +kernel
theorem dX8_isOutside_14 : decode cX8_isOutside 14 = .ok (.iconst 0, 1) := by decide +kernel
theorem dX8_isOutside_15 : decode cX8_isOutside 15 = .ok (.ireturn, 1) := by decide +kernel
theorem dX8_goneThrough_0 : decode cX8_goneThrough 0 = .ok (.aload_n 0, 1) := by decide +kernel
theorem dX8_goneThrough_1 : decode cX8_goneThrough 1 = .ok (.getfield 36, 3) := by decide +kernel
theorem dX8_goneThrough_4 : decode cX8_goneThrough 4 = .ok (.iconst 0, 1) := by decide +kernel
theorem dX8_goneThrough_5 : decode cX8_goneThrough 5 = .ok (.aaload, 1) := by decide +kernel
theorem dX8_goneThrough_6 : decode cX8_goneThrough 6 = .ok (.astore_n 2, 1) := by decide +kernel
theorem dX8_goneThrough_7 : decode cX8_goneThrough 7 = .ok (.aload_n 2, 1) := by decide +kernel
theorem dX8_goneThrough_8 : decode cX8_goneThrough 8 = .ok (.aload_n 0, 1) := by decide +kernel
theorem dX8_goneThrough_9 : decode cX8_goneThrough 9 = .ok (.getfield 10, 3) := by decide +kernel
theorem dX8_goneThrough_12 : decode cX8_goneThrough 12 = .ok (.invokevirtual 287, 3) := by decide +kernel
theorem dX8_goneThrough_15 : decode cX8_goneThrough 15 = .ok (.aload_n 2, 1) := by decide +kernel
theorem dX8_goneThrough_16 : decode cX8_goneThrough 16 = .ok (.aload_n 0, 1) := by decide +kernel
theorem dX8_goneThrough_17 : decode cX8_goneThrough 17 = .ok (.getfield 10, 3) := by decide +kernel
theorem dX8_goneThrough_20 : decode cX8_goneThrough 20 = .ok (.aload_n 0, 1) := by decide +kernel
theorem dX8_goneThrough_21 : decode cX8_goneThrough 21 = .ok (.getfield 30, 3) := by decide +kernel
theorem dX8_goneThrough_24 : decode cX8_goneThrough 24 = .ok (.iconst 0, 1) := by decide +kernel
theorem dX8_goneThrough_25 : decode cX8_goneThrough 25 = .ok (.iload_n 1, 1) := by decide +kernel
theorem dX8_goneThrough_26 : decode cX8_goneThrough 26 = .ok (.invokevirtual 290, 3) := by decide +kernel
theorem dX8_goneThrough_29 : decode cX8_goneThrough 29 = .ok (.aload_n 2, 1) := by decide +kernel
theorem dX8_goneThrough_30 : decode cX8_goneThrough 30 = .ok (.areturn, 1) := by decide +kernel
theorem dX8_toldOf_0 : decode cX8_toldOf 0 = .ok (.aload_n 0, 1) := by decide +kernel
theorem dX8_toldOf_1 : decode cX8_toldOf 1 = .ok (.getfield 10, 3) := by decide +kernel
theorem dX8_toldOf_4 : decode cX8_toldOf 4 = .ok (.iload_n 1, 1) := by decide +kernel
theorem dX8_toldOf_5 : decode cX8_toldOf 5 = .ok (.invokevirtual 115, 3) := by decide +kernel
theorem dX8_toldOf_8 : decode cX8_toldOf 8 = .ok (.ifCond .ne 6, 3) := by decide +kernel
theorem dX8_toldOf_11 : decode cX8_toldOf 11 = .ok (.bipush (-2), 2) := by decide +kernel
theorem dX8_toldOf_13 : decode cX8_toldOf 13 = .ok (.ireturn, 1) := by decide +kernel
theorem dX8_toldOf_14 : decode cX8_toldOf 14 = .ok (.iload_n 2, 1) := by decide +kernel
theorem dX8_toldOf_15 : decode cX8_toldOf 15 = .ok (.tableswitch 90 0 4 #[33, 43, 53, 63, 73], 33) := by decide +kernel
theorem dX8_toldOf_48 : decode cX8_toldOf 48 = .ok (.aload_n 0, 1) := by decide +kernel
theorem dX8_toldOf_49 : decode cX8_toldOf 49 = .ok (.getfield 10, 3) := by decide +kernel
theorem dX8_toldOf_52 : decode cX8_toldOf 52 = .ok (.getfield 93, 3) := by decide +kernel
theorem dX8_toldOf_55 : decode cX8_toldOf 55 = .ok (.iload_n 1, 1) := by decide +kernel
theorem dX8_toldOf_56 : decode cX8_toldOf 56 = .ok (.iaload, 1) := by decide +kernel
theorem dX8_toldOf_57 : decode cX8_toldOf 57 = .ok (.ireturn, 1) := by decide +kernel
theorem dX8_toldOf_58 : decode cX8_toldOf 58 = .ok (.aload_n 0, 1) := by decide +kernel
theorem dX8_toldOf_59 : decode cX8_toldOf 59 = .ok (.getfield 10, 3) := by decide +kernel
theorem dX8_toldOf_62 : decode cX8_toldOf 62 = .ok (.getfield 97, 3) := by decide +kernel
theorem dX8_toldOf_65 : decode cX8_toldOf 65 = .ok (.iload_n 1, 1) := by decide +kernel
theorem dX8_toldOf_66 : decode cX8_toldOf 66 = .ok (.iaload, 1) := by decide +kernel
theorem dX8_toldOf_67 : decode cX8_toldOf 67 = .ok (.ireturn, 1) := by decide +kernel
theorem dX8_toldOf_68 : decode cX8_toldOf 68 = .ok (.aload_n 0, 1) := by decide +kernel
theorem dX8_toldOf_69 : decode cX8_toldOf 69 = .ok (.getfield 10, 3) := by decide +kernel
theorem dX8_toldOf_72 : decode cX8_toldOf 72 = .ok (.getfield 100, 3) := by decide +kernel
theorem dX8_toldOf_75 : decode cX8_toldOf 75 = .ok (.iload_n 1, 1) := by decide +kernel
theorem dX8_toldOf_76 : decode cX8_toldOf 76 = .ok (.iaload, 1) := by decide +kernel
theorem dX8_toldOf_77 : decode cX8_toldOf 77 = .ok (.ireturn, 1) := by decide +kernel
theorem dX8_toldOf_78 : decode cX8_toldOf 78 = .ok (.aload_n 0, 1) := by decide +kernel
theorem dX8_toldOf_79 : decode cX8_toldOf 79 = .ok (.getfield 10, 3) := by decide +kernel
theorem dX8_toldOf_82 : decode cX8_toldOf 82 = .ok (.getfield 103, 3) := by decide +kernel
theorem dX8_toldOf_85 : decode cX8_toldOf 85 = .ok (.iload_n 1, 1) := by decide +kernel
theorem dX8_toldOf_86 : decode cX8_toldOf 86 = .ok (.iaload, 1) := by decide +kernel
theorem dX8_toldOf_87 : decode cX8_toldOf 87 = .ok (.ireturn, 1) := by decide +kernel
theorem dX8_toldOf_88 : decode cX8_toldOf 88 = .ok (.aload_n 0, 1) := by decide +kernel
theorem dX8_toldOf_89 : decode cX8_toldOf 89 = .ok (.getfield 10, 3) := by decide +kernel
theorem dX8_toldOf_92 : decode cX8_toldOf 92 = .ok (.iload_n 1, 1) := by decide +kernel
theorem dX8_toldOf_93 : decode cX8_toldOf 93 = .ok (.invokevirtual 294, 3) := by decide +kernel
theorem dX8_toldOf_96 : decode cX8_toldOf 96 = .ok (.ifCond .eq 7, 3) := by decide +kernel
theorem dX8_toldOf_99 : decode cX8_toldOf 99 = .ok (.iconst 1, 1) := by decide +kernel
theorem dX8_toldOf_100 : decode cX8_toldOf 100 = .ok (.goto 4, 3) := by decide +kernel
theorem dX8_toldOf_103 : decode cX8_toldOf 103 = .ok (.iconst 0, 1) := by decide +kernel
theorem dX8_toldOf_104 : decode cX8_toldOf 104 = .ok (.ireturn, 1) := by decide +kernel
theorem dX8_toldOf_105 : decode cX8_toldOf 105 = .ok (.bipush (-2), 2) := by decide +kernel
theorem dX8_toldOf_107 : decode cX8_toldOf 107 = .ok (.ireturn, 1) := by decide +kernel
theorem dX8_bestStart_0 : decode cX8_bestStart 0 = .ok (.aload_n 0, 1) := by decide +kernel
theorem dX8_bestStart_1 : decode cX8_bestStart 1 = .ok (.iconst 0, 1) := by decide +kernel
theorem dX8_bestStart_2 : decode cX8_bestStart 2 = .ok (.invokevirtual 141, 3) := by decide +kernel
theorem dX8_bestStart_5 : decode cX8_bestStart 5 = .ok (.astore_n 2, 1) := by decide +kernel
theorem dX8_bestStart_6 : decode cX8_bestStart 6 = .ok (.aload_n 0, 1) := by decide +kernel
theorem dX8_bestStart_7 : decode cX8_bestStart 7 = .ok (.getfield 36, 3) := by decide +kernel
theorem dX8_bestStart_10 : decode cX8_bestStart 10 = .ok (.iconst 1, 1) := by decide +kernel
theorem dX8_bestStart_11 : decode cX8_bestStart 11 = .ok (.aaload, 1) := by decide +kernel
theorem dX8_bestStart_12 : decode cX8_bestStart 12 = .ok (.astore_n 3, 1) := by decide +kernel
theorem dX8_bestStart_13 : decode cX8_bestStart 13 = .ok (.iconst 0, 1) := by decide +kernel
theorem dX8_bestStart_14 : decode cX8_bestStart 14 = .ok (.istore 4, 2) := by decide +kernel
theorem dX8_bestStart_16 : decode cX8_bestStart 16 = .ok (.bipush (-6), 2) := by decide +kernel
theorem dX8_bestStart_18 : decode cX8_bestStart 18 = .ok (.istore 5, 2) := by decide +kernel
theorem dX8_bestStart_20 : decode cX8_bestStart 20 = .ok (.iconst 0, 1) := by decide +kernel
theorem dX8_bestStart_21 : decode cX8_bestStart 21 = .ok (.istore 6, 2) := by decide +kernel
theorem dX8_bestStart_23 : decode cX8_bestStart 23 = .ok (.iload 6, 2) := by decide +kernel
theorem dX8_bestStart_25 : decode cX8_bestStart 25 = .ok (.aload_n 0, 1) := by decide +kernel
theorem dX8_bestStart_26 : decode cX8_bestStart 26 = .ok (.getfield 30, 3) := by decide +kernel
theorem dX8_bestStart_29 : decode cX8_bestStart 29 = .ok (.getfield 128, 3) := by decide +kernel
theorem dX8_bestStart_32 : decode cX8_bestStart 32 = .ok (.if_icmp .gt 100, 3) := by decide +kernel
theorem dX8_bestStart_35 : decode cX8_bestStart 35 = .ok (.aload_n 3, 1) := by decide +kernel
theorem dX8_bestStart_36 : decode cX8_bestStart 36 = .ok (.aload_n 2, 1) := by decide +kernel
theorem dX8_bestStart_37 : decode cX8_bestStart 37 = .ok (.invokevirtual 297, 3) := by decide +kernel
theorem dX8_bestStart_40 : decode cX8_bestStart 40 = .ok (.aload_n 3, 1) := by decide +kernel
theorem dX8_bestStart_41 : decode cX8_bestStart 41 = .ok (.aload_n 0, 1) := by decide +kernel
theorem dX8_bestStart_42 : decode cX8_bestStart 42 = .ok (.getfield 10, 3) := by decide +kernel
theorem dX8_bestStart_45 : decode cX8_bestStart 45 = .ok (.bipush 115, 2) := by decide +kernel
theorem dX8_bestStart_47 : decode cX8_bestStart 47 = .ok (.iconst 0, 1) := by decide +kernel
theorem dX8_bestStart_48 : decode cX8_bestStart 48 = .ok (.invokevirtual 155, 3) := by decide +kernel
theorem dX8_bestStart_51 : decode cX8_bestStart 51 = .ok (.aload_n 3, 1) := by decide +kernel
theorem dX8_bestStart_52 : decode cX8_bestStart 52 = .ok (.aload_n 0, 1) := by decide +kernel
theorem dX8_bestStart_53 : decode cX8_bestStart 53 = .ok (.getfield 10, 3) := by decide +kernel
theorem dX8_bestStart_56 : decode cX8_bestStart 56 = .ok (.aload_n 0, 1) := by decide +kernel
theorem dX8_bestStart_57 : decode cX8_bestStart 57 = .ok (.getfield 30, 3) := by decide +kernel
theorem dX8_bestStart_60 : decode cX8_bestStart 60 = .ok (.iload 6, 2) := by decide +kernel
theorem dX8_bestStart_62 : decode cX8_bestStart 62 = .ok (.aload_n 0, 1) := by decide +kernel
theorem dX8_bestStart_63 : decode cX8_bestStart 63 = .ok (.getfield 30, 3) := by decide +kernel
theorem dX8_bestStart_66 : decode cX8_bestStart 66 = .ok (.getfield 128, 3) := by decide +kernel
theorem dX8_bestStart_69 : decode cX8_bestStart 69 = .ok (.invokevirtual 290, 3) := by decide +kernel
theorem dX8_bestStart_72 : decode cX8_bestStart 72 = .ok (.iload 5, 2) := by decide +kernel
theorem dX8_bestStart_74 : decode cX8_bestStart 74 = .ok (.bipush (-6), 2) := by decide +kernel
theorem dX8_bestStart_76 : decode cX8_bestStart 76 = .ok (.if_icmp .eq 12, 3) := by decide +kernel
theorem dX8_bestStart_79 : decode cX8_bestStart 79 = .ok (.aload_n 3, 1) := by decide +kernel
theorem dX8_bestStart_80 : decode cX8_bestStart 80 = .ok (.invokevirtual 165, 3) := by decide +kernel
theorem dX8_bestStart_83 : decode cX8_bestStart 83 = .ok (.iload 4, 2) := by decide +kernel
theorem dX8_bestStart_85 : decode cX8_bestStart 85 = .ok (.if_icmp .le 13, 3) := by decide +kernel
theorem dX8_bestStart_88 : decode cX8_bestStart 88 = .ok (.aload_n 3, 1) := by decide +kernel
theorem dX8_bestStart_89 : decode cX8_bestStart 89 = .ok (.invokevirtual 165, 3) := by decide +kernel
theorem dX8_bestStart_92 : decode cX8_bestStart 92 = .ok (.istore 4, 2) := by decide +kernel
theorem dX8_bestStart_94 : decode cX8_bestStart 94 = .ok (.iload 6, 2) := by decide +kernel
theorem dX8_bestStart_96 : decode cX8_bestStart 96 = .ok (.istore 5, 2) := by decide +kernel
theorem dX8_bestStart_98 : decode cX8_bestStart 98 = .ok (.aload_n 2, 1) := by decide +kernel
theorem dX8_bestStart_99 : decode cX8_bestStart 99 = .ok (.aload_n 0, 1) := by decide +kernel
theorem dX8_bestStart_100 : decode cX8_bestStart 100 = .ok (.getfield 10, 3) := by decide +kernel
theorem dX8_bestStart_103 : decode cX8_bestStart 103 = .ok (.aload_n 0, 1) := by decide +kernel
theorem dX8_bestStart_104 : decode cX8_bestStart 104 = .ok (.getfield 30, 3) := by decide +kernel
theorem dX8_bestStart_107 : decode cX8_bestStart 107 = .ok (.iload 6, 2) := by decide +kernel
theorem dX8_bestStart_109 : decode cX8_bestStart 109 = .ok (.iload 6, 2) := by decide +kernel
theorem dX8_bestStart_111 : decode cX8_bestStart 111 = .ok (.iconst 1, 1) := by decide +kernel
theorem dX8_bestStart_112 : decode cX8_bestStart 112 = .ok (.iadd, 1) := by decide +kernel
theorem dX8_bestStart_113 : decode cX8_bestStart 113 = .ok (.aload_n 0, 1) := by decide +kernel
theorem dX8_bestStart_114 : decode cX8_bestStart 114 = .ok (.getfield 30, 3) := by decide +kernel
theorem dX8_bestStart_117 : decode cX8_bestStart 117 = .ok (.getfield 128, 3) := by decide +kernel
theorem dX8_bestStart_120 : decode cX8_bestStart 120 = .ok (.invokestatic 300, 3) := by decide +kernel
theorem dX8_bestStart_123 : decode cX8_bestStart 123 = .ok (.invokevirtual 290, 3) := by decide +kernel
theorem dX8_bestStart_126 : decode cX8_bestStart 126 = .ok (.iinc 6 1, 3) := by decide +kernel
theorem dX8_bestStart_129 : decode cX8_bestStart 129 = .ok (.goto (-106), 3) := by decide +kernel
theorem dX8_bestStart_132 : decode cX8_bestStart 132 = .ok (.iload_n 1, 1) := by decide +kernel
theorem dX8_bestStart_133 : decode cX8_bestStart 133 = .ok (.ifCond .eq 8, 3) := by decide +kernel
theorem dX8_bestStart_136 : decode cX8_bestStart 136 = .ok (.iload 5, 2) := by decide +kernel
theorem dX8_bestStart_138 : decode cX8_bestStart 138 = .ok (.goto 5, 3) := by decide +kernel
theorem dX8_bestStart_141 : decode cX8_bestStart 141 = .ok (.iload 4, 2) := by decide +kernel
theorem dX8_bestStart_143 : decode cX8_bestStart 143 = .ok (.ireturn, 1) := by decide +kernel
theorem dX8_bestChange_0 : decode cX8_bestChange 0 = .ok (.aload_n 0, 1) := by decide +kernel
theorem dX8_bestChange_1 : decode cX8_bestChange 1 = .ok (.aload_n 0, 1) := by decide +kernel
theorem dX8_bestChange_2 : decode cX8_bestChange 2 = .ok (.getfield 30, 3) := by decide +kernel
theorem dX8_bestChange_5 : decode cX8_bestChange 5 = .ok (.getfield 128, 3) := by decide +kernel
theorem dX8_bestChange_8 : decode cX8_bestChange 8 = .ok (.invokevirtual 141, 3) := by decide +kernel
theorem dX8_bestChange_11 : decode cX8_bestChange 11 = .ok (.getfield 305, 3) := by decide +kernel
theorem dX8_bestChange_14 : decode cX8_bestChange 14 = .ok (.istore_n 2, 1) := by decide +kernel
theorem dX8_bestChange_15 : decode cX8_bestChange 15 = .ok (.bipush (-6), 2) := by decide +kernel
theorem dX8_bestChange_17 : decode cX8_bestChange 17 = .ok (.istore_n 3, 1) := by decide +kernel
theorem dX8_bestChange_18 : decode cX8_bestChange 18 = .ok (.iconst 0, 1) := by decide +kernel
theorem dX8_bestChange_19 : decode cX8_bestChange 19 = .ok (.istore 4, 2) := by decide +kernel
theorem dX8_bestChange_21 : decode cX8_bestChange 21 = .ok (.iload 4, 2) := by decide +kernel
theorem dX8_bestChange_23 : decode cX8_bestChange 23 = .ok (.bipush 8, 2) := by decide +kernel
theorem dX8_bestChange_25 : decode cX8_bestChange 25 = .ok (.if_icmp .ge 69, 3) := by decide +kernel
theorem dX8_bestChange_28 : decode cX8_bestChange 28 = .ok (.iconst 0, 1) := by decide +kernel
theorem dX8_bestChange_29 : decode cX8_bestChange 29 = .ok (.istore 5, 2) := by decide +kernel
theorem dX8_bestChange_31 : decode cX8_bestChange 31 = .ok (.iload 5, 2) := by decide +kernel
theorem dX8_bestChange_33 : decode cX8_bestChange 33 = .ok (.aload_n 0, 1) := by decide +kernel
theorem dX8_bestChange_34 : decode cX8_bestChange 34 = .ok (.getfield 10, 3) := by decide +kernel
theorem dX8_bestChange_37 : decode cX8_bestChange 37 = .ok (.invokevirtual 85, 3) := by decide +kernel
theorem dX8_bestChange_40 : decode cX8_bestChange 40 = .ok (.if_icmp .ge 48, 3) := by decide +kernel
theorem dX8_bestChange_43 : decode cX8_bestChange 43 = .ok (.aload_n 0, 1) := by decide +kernel
theorem dX8_bestChange_44 : decode cX8_bestChange 44 = .ok (.iload 4, 2) := by decide +kernel
theorem dX8_bestChange_46 : decode cX8_bestChange 46 = .ok (.iload 5, 2) := by decide +kernel
theorem dX8_bestChange_48 : decode cX8_bestChange 48 = .ok (.invokevirtual 308, 3) := by decide +kernel
theorem dX8_bestChange_51 : decode cX8_bestChange 51 = .ok (.ifCond .eq 31, 3) := by decide +kernel
theorem dX8_bestChange_54 : decode cX8_bestChange 54 = .ok (.aload_n 0, 1) := by decide +kernel
theorem dX8_bestChange_55 : decode cX8_bestChange 55 = .ok (.iload 4, 2) := by decide +kernel
theorem dX8_bestChange_57 : decode cX8_bestChange 57 = .ok (.iload 5, 2) := by decide +kernel
theorem dX8_bestChange_59 : decode cX8_bestChange 59 = .ok (.invokevirtual 312, 3) := by decide +kernel
theorem dX8_bestChange_62 : decode cX8_bestChange 62 = .ok (.istore 6, 2) := by decide +kernel
theorem dX8_bestChange_64 : decode cX8_bestChange 64 = .ok (.iload 6, 2) := by decide +kernel
theorem dX8_bestChange_66 : decode cX8_bestChange 66 = .ok (.iload_n 2, 1) := by decide +kernel
theorem dX8_bestChange_67 : decode cX8_bestChange 67 = .ok (.if_icmp .ge 15, 3) := by decide +kernel
theorem dX8_bestChange_70 : decode cX8_bestChange 70 = .ok (.iload 6, 2) := by decide +kernel
theorem dX8_bestChange_72 : decode cX8_bestChange 72 = .ok (.istore_n 2, 1) := by decide +kernel
theorem dX8_bestChange_73 : decode cX8_bestChange 73 = .ok (.bipush 100, 2) := by decide +kernel
theorem dX8_bestChange_75 : decode cX8_bestChange 75 = .ok (.iload 4, 2) := by decide +kernel
theorem dX8_bestChange_77 : decode cX8_bestChange 77 = .ok (.imul, 1) := by decide +kernel
theorem dX8_bestChange_78 : decode cX8_bestChange 78 = .ok (.iload 5, 2) := by decide +kernel
theorem dX8_bestChange_80 : decode cX8_bestChange 80 = .ok (.iadd, 1) := by decide +kernel
theorem dX8_bestChange_81 : decode cX8_bestChange 81 = .ok (.istore_n 3, 1) := by decide +kernel
theorem dX8_bestChange_82 : decode cX8_bestChange 82 = .ok (.iinc 5 1, 3) := by decide +kernel
theorem dX8_bestChange_85 : decode cX8_bestChange 85 = .ok (.goto (-54), 3) := by decide +kernel
theorem dX8_bestChange_88 : decode cX8_bestChange 88 = .ok (.iinc 4 1, 3) := by decide +kernel
theorem dX8_bestChange_91 : decode cX8_bestChange 91 = .ok (.goto (-70), 3) := by decide +kernel
theorem dX8_bestChange_94 : decode cX8_bestChange 94 = .ok (.iload_n 1, 1) := by decide +kernel
theorem dX8_bestChange_95 : decode cX8_bestChange 95 = .ok (.ifCond .eq 7, 3) := by decide +kernel
theorem dX8_bestChange_98 : decode cX8_bestChange 98 = .ok (.iload_n 3, 1) := by decide +kernel
theorem dX8_bestChange_99 : decode cX8_bestChange 99 = .ok (.goto 4, 3) := by decide +kernel
theorem dX8_bestChange_102 : decode cX8_bestChange 102 = .ok (.iload_n 2, 1) := by decide +kernel
theorem dX8_bestChange_103 : decode cX8_bestChange 103 = .ok (.ireturn, 1) := by decide +kernel
theorem dX8_isNewChange_0 : decode cX8_isNewChange 0 = .ok (.aload_n 0, 1) := by decide +kernel
theorem dX8_isNewChange_1 : decode cX8_isNewChange 1 = .ok (.getfield 10, 3) := by decide +kernel
theorem dX8_isNewChange_4 : decode cX8_isNewChange 4 = .ok (.iload_n 1, 1) := by decide +kernel
theorem dX8_isNewChange_5 : decode cX8_isNewChange 5 = .ok (.invokevirtual 115, 3) := by decide +kernel
theorem dX8_isNewChange_8 : decode cX8_isNewChange 8 = .ok (.ifCond .ne 5, 3) := by decide +kernel
theorem dX8_isNewChange_11 : decode cX8_isNewChange 11 = .ok (.iconst 0, 1) := by decide +kernel
theorem dX8_isNewChange_12 : decode cX8_isNewChange 12 = .ok (.ireturn, 1) := by decide +kernel
theorem dX8_isNewChange_13 : decode cX8_isNewChange 13 = .ok (.aload_n 0, 1) := by decide +kernel
theorem dX8_isNewChange_14 : decode cX8_isNewChange 14 = .ok (.getfield 10, 3) := by decide +kernel
theorem dX8_isNewChange_17 : decode cX8_isNewChange 17 = .ok (.iload_n 2, 1) := by decide +kernel
theorem dX8_isNewChange_18 : decode cX8_isNewChange 18 = .ok (.invokevirtual 89, 3) := by decide +kernel
theorem dX8_isNewChange_21 : decode cX8_isNewChange 21 = .ok (.istore_n 3, 1) := by decide +kernel
theorem dX8_isNewChange_22 : decode cX8_isNewChange 22 = .ok (.iload_n 3, 1) := by decide +kernel
theorem dX8_isNewChange_23 : decode cX8_isNewChange 23 = .ok (.bipush (-6), 2) := by decide +kernel
theorem dX8_isNewChange_25 : decode cX8_isNewChange 25 = .ok (.if_icmp .eq 8, 3) := by decide +kernel
theorem dX8_isNewChange_28 : decode cX8_isNewChange 28 = .ok (.iload_n 3, 1) := by decide +kernel
theorem dX8_isNewChange_29 : decode cX8_isNewChange 29 = .ok (.iload_n 1, 1) := by decide +kernel
theorem dX8_isNewChange_30 : decode cX8_isNewChange 30 = .ok (.if_icmp .le 7, 3) := by decide +kernel
theorem dX8_isNewChange_33 : decode cX8_isNewChange 33 = .ok (.iconst 1, 1) := by decide +kernel
theorem dX8_isNewChange_34 : decode cX8_isNewChange 34 = .ok (.goto 4, 3) := by decide +kernel
theorem dX8_isNewChange_37 : decode cX8_isNewChange 37 = .ok (.iconst 0, 1) := by decide +kernel
theorem dX8_isNewChange_38 : decode cX8_isNewChange 38 = .ok (.ireturn, 1) := by decide +kernel
theorem dX8_nodsWhenChanged_0 : decode cX8_nodsWhenChanged 0 = .ok (.aload_n 0, 1) := by decide +kernel
theorem dX8_nodsWhenChanged_1 : decode cX8_nodsWhenChanged 1 = .ok (.getfield 16, 3) := by decide +kernel
theorem dX8_nodsWhenChanged_4 : decode cX8_nodsWhenChanged 4 = .ok (.aload_n 0, 1) := by decide +kernel
theorem dX8_nodsWhenChanged_5 : decode cX8_nodsWhenChanged 5 = .ok (.getfield 10, 3) := by decide +kernel
theorem dX8_nodsWhenChanged_8 : decode cX8_nodsWhenChanged 8 = .ok (.invokevirtual 272, 3) := by decide +kernel
theorem dX8_nodsWhenChanged_11 : decode cX8_nodsWhenChanged 11 = .ok (.aload_n 0, 1) := by decide +kernel
theorem dX8_nodsWhenChanged_12 : decode cX8_nodsWhenChanged 12 = .ok (.getfield 16, 3) := by decide +kernel
theorem dX8_nodsWhenChanged_15 : decode cX8_nodsWhenChanged 15 = .ok (.iload_n 2, 1) := by decide +kernel
theorem dX8_nodsWhenChanged_16 : decode cX8_nodsWhenChanged 16 = .ok (.invokevirtual 89, 3) := by decide +kernel
theorem dX8_nodsWhenChanged_19 : decode cX8_nodsWhenChanged 19 = .ok (.istore_n 3, 1) := by decide +kernel
theorem dX8_nodsWhenChanged_20 : decode cX8_nodsWhenChanged 20 = .ok (.iload_n 3, 1) := by decide +kernel
theorem dX8_nodsWhenChanged_21 : decode cX8_nodsWhenChanged 21 = .ok (.bipush (-6), 2) := by decide +kernel
theorem dX8_nodsWhenChanged_23 : decode cX8_nodsWhenChanged 23 = .ok (.if_icmp .eq 21, 3) := by decide +kernel
theorem dX8_nodsWhenChanged_26 : decode cX8_nodsWhenChanged 26 = .ok (.aload_n 0, 1) := by decide +kernel
theorem dX8_nodsWhenChanged_27 : decode cX8_nodsWhenChanged 27 = .ok (.getfield 16, 3) := by decide +kernel
theorem dX8_nodsWhenChanged_30 : decode cX8_nodsWhenChanged 30 = .ok (.getfield 93, 3) := by decide +kernel
theorem dX8_nodsWhenChanged_33 : decode cX8_nodsWhenChanged 33 = .ok (.iload_n 3, 1) := by decide +kernel
theorem dX8_nodsWhenChanged_34 : decode cX8_nodsWhenChanged 34 = .ok (.aload_n 0, 1) := by decide +kernel
theorem dX8_nodsWhenChanged_35 : decode cX8_nodsWhenChanged 35 = .ok (.getfield 16, 3) := by decide +kernel
theorem dX8_nodsWhenChanged_38 : decode cX8_nodsWhenChanged 38 = .ok (.getfield 93, 3) := by decide +kernel
theorem dX8_nodsWhenChanged_41 : decode cX8_nodsWhenChanged 41 = .ok (.iload_n 1, 1) := by decide +kernel
theorem dX8_nodsWhenChanged_42 : decode cX8_nodsWhenChanged 42 = .ok (.iaload, 1) := by decide +kernel
theorem dX8_nodsWhenChanged_43 : decode cX8_nodsWhenChanged 43 = .ok (.iastore, 1) := by decide +kernel
theorem dX8_nodsWhenChanged_44 : decode cX8_nodsWhenChanged 44 = .ok (.aload_n 0, 1) := by decide +kernel
theorem dX8_nodsWhenChanged_45 : decode cX8_nodsWhenChanged 45 = .ok (.getfield 16, 3) := by decide +kernel
theorem dX8_nodsWhenChanged_48 : decode cX8_nodsWhenChanged 48 = .ok (.getfield 93, 3) := by decide +kernel
theorem dX8_nodsWhenChanged_51 : decode cX8_nodsWhenChanged 51 = .ok (.iload_n 1, 1) := by decide +kernel
theorem dX8_nodsWhenChanged_52 : decode cX8_nodsWhenChanged 52 = .ok (.iload_n 2, 1) := by decide +kernel
theorem dX8_nodsWhenChanged_53 : decode cX8_nodsWhenChanged 53 = .ok (.iastore, 1) := by decide +kernel
theorem dX8_nodsWhenChanged_54 : decode cX8_nodsWhenChanged 54 = .ok (.aload_n 0, 1) := by decide +kernel
theorem dX8_nodsWhenChanged_55 : decode cX8_nodsWhenChanged 55 = .ok (.getfield 36, 3) := by decide +kernel
theorem dX8_nodsWhenChanged_58 : decode cX8_nodsWhenChanged 58 = .ok (.iconst 0, 1) := by decide +kernel
theorem dX8_nodsWhenChanged_59 : decode cX8_nodsWhenChanged 59 = .ok (.aaload, 1) := by decide +kernel
theorem dX8_nodsWhenChanged_60 : decode cX8_nodsWhenChanged 60 = .ok (.astore 4, 2) := by decide +kernel
theorem dX8_nodsWhenChanged_62 : decode cX8_nodsWhenChanged 62 = .ok (.aload 4, 2) := by decide +kernel
theorem dX8_nodsWhenChanged_64 : decode cX8_nodsWhenChanged 64 = .ok (.aload_n 0, 1) := by decide +kernel
theorem dX8_nodsWhenChanged_65 : decode cX8_nodsWhenChanged 65 = .ok (.getfield 16, 3) := by decide +kernel
theorem dX8_nodsWhenChanged_68 : decode cX8_nodsWhenChanged 68 = .ok (.invokevirtual 287, 3) := by decide +kernel
theorem dX8_nodsWhenChanged_71 : decode cX8_nodsWhenChanged 71 = .ok (.aload 4, 2) := by decide +kernel
theorem dX8_nodsWhenChanged_73 : decode cX8_nodsWhenChanged 73 = .ok (.aload_n 0, 1) := by decide +kernel
theorem dX8_nodsWhenChanged_74 : decode cX8_nodsWhenChanged 74 = .ok (.getfield 16, 3) := by decide +kernel
theorem dX8_nodsWhenChanged_77 : decode cX8_nodsWhenChanged 77 = .ok (.aload_n 0, 1) := by decide +kernel
theorem dX8_nodsWhenChanged_78 : decode cX8_nodsWhenChanged 78 = .ok (.getfield 30, 3) := by decide +kernel
theorem dX8_nodsWhenChanged_81 : decode cX8_nodsWhenChanged 81 = .ok (.iconst 0, 1) := by decide +kernel
theorem dX8_nodsWhenChanged_82 : decode cX8_nodsWhenChanged 82 = .ok (.aload_n 0, 1) := by decide +kernel
theorem dX8_nodsWhenChanged_83 : decode cX8_nodsWhenChanged 83 = .ok (.getfield 30, 3) := by decide +kernel
theorem dX8_nodsWhenChanged_86 : decode cX8_nodsWhenChanged 86 = .ok (.getfield 128, 3) := by decide +kernel
theorem dX8_nodsWhenChanged_89 : decode cX8_nodsWhenChanged 89 = .ok (.invokevirtual 290, 3) := by decide +kernel
theorem dX8_nodsWhenChanged_92 : decode cX8_nodsWhenChanged 92 = .ok (.aload 4, 2) := by decide +kernel
theorem dX8_nodsWhenChanged_94 : decode cX8_nodsWhenChanged 94 = .ok (.getfield 305, 3) := by decide +kernel
theorem dX8_nodsWhenChanged_97 : decode cX8_nodsWhenChanged 97 = .ok (.ireturn, 1) := by decide +kernel
theorem dX8_fewestUprights_0 : decode cX8_fewestUprights 0 = .ok (.aload_n 0, 1) := by decide +kernel
theorem dX8_fewestUprights_1 : decode cX8_fewestUprights 1 = .ok (.getfield 10, 3) := by decide +kernel
theorem dX8_fewestUprights_4 : decode cX8_fewestUprights 4 = .ok (.getfield 106, 3) := by decide +kernel
theorem dX8_fewestUprights_7 : decode cX8_fewestUprights 7 = .ok (.aload_n 0, 1) := by decide +kernel
theorem dX8_fewestUprights_8 : decode cX8_fewestUprights 8 = .ok (.getfield 10, 3) := by decide +kernel
theorem dX8_fewestUprights_11 : decode cX8_fewestUprights 11 = .ok (.getfield 109, 3) := by decide +kernel
theorem dX8_fewestUprights_14 : decode cX8_fewestUprights 14 = .ok (.iconst (-1), 1) := by decide +kernel
theorem dX8_fewestUprights_15 : decode cX8_fewestUprights 15 = .ok (.ixor, 1) := by decide +kernel
theorem dX8_fewestUprights_16 : decode cX8_fewestUprights 16 = .ok (.iand, 1) := by decide +kernel
theorem dX8_fewestUprights_17 : decode cX8_fewestUprights 17 = .ok (.istore_n 2, 1) := by decide +kernel
theorem dX8_fewestUprights_18 : decode cX8_fewestUprights 18 = .ok (.aload_n 0, 1) := by decide +kernel
theorem dX8_fewestUprights_19 : decode cX8_fewestUprights 19 = .ok (.getfield 16, 3) := by decide +kernel
theorem dX8_fewestUprights_22 : decode cX8_fewestUprights 22 = .ok (.aload_n 0, 1) := by decide +kernel
theorem dX8_fewestUprights_23 : decode cX8_fewestUprights 23 = .ok (.getfield 10, 3) := by decide +kernel
theorem dX8_fewestUprights_26 : decode cX8_fewestUprights 26 = .ok (.invokevirtual 272, 3) := by decide +kernel
theorem dX8_fewestUprights_29 : decode cX8_fewestUprights 29 = .ok (.iconst 0, 1) := by decide +kernel
theorem dX8_fewestUprights_30 : decode cX8_fewestUprights 30 = .ok (.istore_n 3, 1) := by decide +kernel
theorem dX8_fewestUprights_31 : decode cX8_fewestUprights 31 = .ok (.iload_n 3, 1) := by decide +kernel
theorem dX8_fewestUprights_32 : decode cX8_fewestUprights 32 = .ok (.bipush 8, 2) := by decide +kernel
theorem dX8_fewestUprights_34 : decode cX8_fewestUprights 34 = .ok (.if_icmp .gt 72, 3) := by decide +kernel
theorem dX8_fewestUprights_37 : decode cX8_fewestUprights 37 = .ok (.iconst 0, 1) := by decide +kernel
theorem dX8_fewestUprights_38 : decode cX8_fewestUprights 38 = .ok (.istore 4, 2) := by decide +kernel
theorem dX8_fewestUprights_40 : decode cX8_fewestUprights 40 = .ok (.iload 4, 2) := by decide +kernel
theorem dX8_fewestUprights_42 : decode cX8_fewestUprights 42 = .ok (.sipush 256, 3) := by decide +kernel
theorem dX8_fewestUprights_45 : decode cX8_fewestUprights 45 = .ok (.if_icmp .ge 55, 3) := by decide +kernel
theorem dX8_fewestUprights_48 : decode cX8_fewestUprights 48 = .ok (.iload 4, 2) := by decide +kernel
theorem dX8_fewestUprights_50 : decode cX8_fewestUprights 50 = .ok (.iload_n 2, 1) := by decide +kernel
theorem dX8_fewestUprights_51 : decode cX8_fewestUprights 51 = .ok (.iconst (-1), 1) := by decide +kernel
theorem dX8_fewestUprights_52 : decode cX8_fewestUprights 52 = .ok (.ixor, 1) := by decide +kernel
theorem dX8_fewestUprights_53 : decode cX8_fewestUprights 53 = .ok (.iand, 1) := by decide +kernel
theorem dX8_fewestUprights_54 : decode cX8_fewestUprights 54 = .ok (.ifCond .ne 40, 3) := by decide +kernel
theorem dX8_fewestUprights_57 : decode cX8_fewestUprights 57 = .ok (.iload 4, 2) := by decide +kernel
theorem dX8_fewestUprights_59 : decode cX8_fewestUprights 59 = .ok (.invokestatic 192, 3) := by decide +kernel
theorem dX8_fewestUprights_62 : decode cX8_fewestUprights 62 = .ok (.iload_n 3, 1) := by decide +kernel
theorem dX8_fewestUprights_63 : decode cX8_fewestUprights 63 = .ok (.if_icmp .ne 31, 3) := by decide +kernel
theorem dX8_fewestUprights_66 : decode cX8_fewestUprights 66 = .ok (.aload_n 0, 1) := by decide +kernel
theorem dX8_fewestUprights_67 : decode cX8_fewestUprights 67 = .ok (.getfield 16, 3) := by decide +kernel
theorem dX8_fewestUprights_70 : decode cX8_fewestUprights 70 = .ok (.aload_n 0, 1) := by decide +kernel
theorem dX8_fewestUprights_71 : decode cX8_fewestUprights 71 = .ok (.getfield 10, 3) := by decide +kernel
theorem dX8_fewestUprights_74 : decode cX8_fewestUprights 74 = .ok (.getfield 109, 3) := by decide +kernel
theorem dX8_fewestUprights_77 : decode cX8_fewestUprights 77 = .ok (.iload 4, 2) := by decide +kernel
theorem dX8_fewestUprights_79 : decode cX8_fewestUprights 79 = .ok (.ior, 1) := by decide +kernel
theorem dX8_fewestUprights_80 : decode cX8_fewestUprights 80 = .ok (.putfield 109, 3) := by decide +kernel
theorem dX8_fewestUprights_83 : decode cX8_fewestUprights 83 = .ok (.aload_n 0, 1) := by decide +kernel
theorem dX8_fewestUprights_84 : decode cX8_fewestUprights 84 = .ok (.iload_n 1, 1) := by decide +kernel
theorem dX8_fewestUprights_85 : decode cX8_fewestUprights 85 = .ok (.invokevirtual 315, 3) := by decide +kernel
theorem dX8_fewestUprights_88 : decode cX8_fewestUprights 88 = .ok (.ifCond .eq 6, 3) := by decide +kernel
theorem dX8_fewestUprights_91 : decode cX8_fewestUprights 91 = .ok (.iload 4, 2) := by decide +kernel
theorem dX8_fewestUprights_93 : decode cX8_fewestUprights 93 = .ok (.ireturn, 1) := by decide +kernel
theorem dX8_fewestUprights_94 : decode cX8_fewestUprights 94 = .ok (.iinc 4 1, 3) := by decide +kernel
theorem dX8_fewestUprights_97 : decode cX8_fewestUprights 97 = .ok (.goto (-57), 3) := by decide +kernel
theorem dX8_fewestUprights_100 : decode cX8_fewestUprights 100 = .ok (.iinc 3 1, 3) := by decide +kernel
theorem dX8_fewestUprights_103 : decode cX8_fewestUprights 103 = .ok (.goto (-72), 3) := by decide +kernel
theorem dX8_fewestUprights_106 : decode cX8_fewestUprights 106 = .ok (.bipush (-6), 2) := by decide +kernel
theorem dX8_fewestUprights_108 : decode cX8_fewestUprights 108 = .ok (.ireturn, 1) := by decide +kernel
theorem dX8_isTrialTaxWithin_0 : decode cX8_isTrialTaxWithin 0 = .ok (.aload_n 0, 1) := by decide +kernel
theorem dX8_isTrialTaxWithin_1 : decode cX8_isTrialTaxWithin 1 = .ok (.getfield 36, 3) := by decide +kernel
theorem dX8_isTrialTaxWithin_4 : decode cX8_isTrialTaxWithin 4 = .ok (.iconst 0, 1) := by decide +kernel
theorem dX8_isTrialTaxWithin_5 : decode cX8_isTrialTaxWithin 5 = .ok (.aaload, 1) := by decide +kernel
theorem dX8_isTrialTaxWithin_6 : decode cX8_isTrialTaxWithin 6 = .ok (.astore_n 2, 1) := by decide +kernel
theorem dX8_isTrialTaxWithin_7 : decode cX8_isTrialTaxWithin 7 = .ok (.aload_n 2, 1) := by decide +kernel
theorem dX8_isTrialTaxWithin_8 : decode cX8_isTrialTaxWithin 8 = .ok (.aload_n 0, 1) := by decide +kernel
theorem dX8_isTrialTaxWithin_9 : decode cX8_isTrialTaxWithin 9 = .ok (.getfield 16, 3) := by decide +kernel
theorem dX8_isTrialTaxWithin_12 : decode cX8_isTrialTaxWithin 12 = .ok (.invokevirtual 287, 3) := by decide +kernel
theorem dX8_isTrialTaxWithin_15 : decode cX8_isTrialTaxWithin 15 = .ok (.iconst 0, 1) := by decide +kernel
theorem dX8_isTrialTaxWithin_16 : decode cX8_isTrialTaxWithin 16 = .ok (.istore_n 3, 1) := by decide +kernel
theorem dX8_isTrialTaxWithin_17 : decode cX8_isTrialTaxWithin 17 = .ok (.iload_n 3, 1) := by decide +kernel
theorem dX8_isTrialTaxWithin_18 : decode cX8_isTrialTaxWithin 18 = .ok (.aload_n 0, 1) := by decide +kernel
theorem dX8_isTrialTaxWithin_19 : decode cX8_isTrialTaxWithin 19 = .ok (.getfield 30, 3) := by decide +kernel
theorem dX8_isTrialTaxWithin_22 : decode cX8_isTrialTaxWithin 22 = .ok (.getfield 128, 3) := by decide +kernel
theorem dX8_isTrialTaxWithin_25 : decode cX8_isTrialTaxWithin 25 = .ok (.if_icmp .ge 35, 3) := by decide +kernel
theorem dX8_isTrialTaxWithin_28 : decode cX8_isTrialTaxWithin 28 = .ok (.aload_n 2, 1) := by decide +kernel
theorem dX8_isTrialTaxWithin_29 : decode cX8_isTrialTaxWithin 29 = .ok (.getfield 318, 3) := by decide +kernel
theorem dX8_isTrialTaxWithin_32 : decode cX8_isTrialTaxWithin 32 = .ok (.iload_n 1, 1) := by decide +kernel
theorem dX8_isTrialTaxWithin_33 : decode cX8_isTrialTaxWithin 33 = .ok (.if_icmp .gt 27, 3) := by decide +kernel
theorem dX8_isTrialTaxWithin_36 : decode cX8_isTrialTaxWithin 36 = .ok (.aload_n 2, 1) := by decide +kernel
theorem dX8_isTrialTaxWithin_37 : decode cX8_isTrialTaxWithin 37 = .ok (.aload_n 0, 1) := by decide +kernel
theorem dX8_isTrialTaxWithin_38 : decode cX8_isTrialTaxWithin 38 = .ok (.getfield 16, 3) := by decide +kernel
theorem dX8_isTrialTaxWithin_41 : decode cX8_isTrialTaxWithin 41 = .ok (.aload_n 0, 1) := by decide +kernel
theorem dX8_isTrialTaxWithin_42 : decode cX8_isTrialTaxWithin 42 = .ok (.getfield 30, 3) := by decide +kernel
theorem dX8_isTrialTaxWithin_45 : decode cX8_isTrialTaxWithin 45 = .ok (.getfield 131, 3) := by decide +kernel
theorem dX8_isTrialTaxWithin_48 : decode cX8_isTrialTaxWithin 48 = .ok (.iload_n 3, 1) := by decide +kernel
theorem dX8_isTrialTaxWithin_49 : decode cX8_isTrialTaxWithin 49 = .ok (.iaload, 1) := by decide +kernel
theorem dX8_isTrialTaxWithin_50 : decode cX8_isTrialTaxWithin 50 = .ok (.iconst 0, 1) := by decide +kernel
theorem dX8_isTrialTaxWithin_51 : decode cX8_isTrialTaxWithin 51 = .ok (.invokevirtual 155, 3) := by decide +kernel
theorem dX8_isTrialTaxWithin_54 : decode cX8_isTrialTaxWithin 54 = .ok (.iinc 3 1, 3) := by decide +kernel
theorem dX8_isTrialTaxWithin_57 : decode cX8_isTrialTaxWithin 57 = .ok (.goto (-40), 3) := by decide +kernel
theorem dX8_isTrialTaxWithin_60 : decode cX8_isTrialTaxWithin 60 = .ok (.aload_n 2, 1) := by decide +kernel
theorem dX8_isTrialTaxWithin_61 : decode cX8_isTrialTaxWithin 61 = .ok (.getfield 318, 3) := by decide +kernel
theorem dX8_isTrialTaxWithin_64 : decode cX8_isTrialTaxWithin 64 = .ok (.iload_n 1, 1) := by decide +kernel
theorem dX8_isTrialTaxWithin_65 : decode cX8_isTrialTaxWithin 65 = .ok (.if_icmp .gt 7, 3) := by decide +kernel
theorem dX8_isTrialTaxWithin_68 : decode cX8_isTrialTaxWithin 68 = .ok (.iconst 1, 1) := by decide +kernel
theorem dX8_isTrialTaxWithin_69 : decode cX8_isTrialTaxWithin 69 = .ok (.goto 4, 3) := by decide +kernel
theorem dX8_isTrialTaxWithin_72 : decode cX8_isTrialTaxWithin 72 = .ok (.iconst 0, 1) := by decide +kernel
theorem dX8_isTrialTaxWithin_73 : decode cX8_isTrialTaxWithin 73 = .ok (.ireturn, 1) := by decide +kernel
theorem dX8_rateAgainstHell_0 : decode cX8_rateAgainstHell 0 = .ok (.aload_n 0, 1) := by decide +kernel
theorem dX8_rateAgainstHell_1 : decode cX8_rateAgainstHell 1 = .ok (.getfield 16, 3) := by decide +kernel
theorem dX8_rateAgainstHell_4 : decode cX8_rateAgainstHell 4 = .ok (.aload_n 0, 1) := by decide +kernel
theorem dX8_rateAgainstHell_5 : decode cX8_rateAgainstHell 5 = .ok (.getfield 10, 3) := by decide +kernel
theorem dX8_rateAgainstHell_8 : decode cX8_rateAgainstHell 8 = .ok (.invokevirtual 272, 3) := by decide +kernel
theorem dX8_rateAgainstHell_11 : decode cX8_rateAgainstHell 11 = .ok (.aload_n 0, 1) := by decide +kernel
theorem dX8_rateAgainstHell_12 : decode cX8_rateAgainstHell 12 = .ok (.getfield 16, 3) := by decide +kernel
theorem dX8_rateAgainstHell_15 : decode cX8_rateAgainstHell 15 = .ok (.iconst 1, 1) := by decide +kernel
theorem dX8_rateAgainstHell_16 : decode cX8_rateAgainstHell 16 = .ok (.putfield 278, 3) := by decide +kernel
theorem dX8_rateAgainstHell_19 : decode cX8_rateAgainstHell 19 = .ok (.aload_n 0, 1) := by decide +kernel
theorem dX8_rateAgainstHell_20 : decode cX8_rateAgainstHell 20 = .ok (.getfield 36, 3) := by decide +kernel
theorem dX8_rateAgainstHell_23 : decode cX8_rateAgainstHell 23 = .ok (.iconst 0, 1) := by decide +kernel
theorem dX8_rateAgainstHell_24 : decode cX8_rateAgainstHell 24 = .ok (.aaload, 1) := by decide +kernel
theorem dX8_rateAgainstHell_25 : decode cX8_rateAgainstHell 25 = .ok (.astore_n 1, 1) := by decide +kernel
theorem dX8_rateAgainstHell_26 : decode cX8_rateAgainstHell 26 = .ok (.aload_n 1, 1) := by decide +kernel
theorem dX8_rateAgainstHell_27 : decode cX8_rateAgainstHell 27 = .ok (.aload_n 0, 1) := by decide +kernel
theorem dX8_rateAgainstHell_28 : decode cX8_rateAgainstHell 28 = .ok (.getfield 16, 3) := by decide +kernel
theorem dX8_rateAgainstHell_31 : decode cX8_rateAgainstHell 31 = .ok (.invokevirtual 287, 3) := by decide +kernel
theorem dX8_rateAgainstHell_34 : decode cX8_rateAgainstHell 34 = .ok (.aload_n 1, 1) := by decide +kernel
theorem dX8_rateAgainstHell_35 : decode cX8_rateAgainstHell 35 = .ok (.aload_n 0, 1) := by decide +kernel
theorem dX8_rateAgainstHell_36 : decode cX8_rateAgainstHell 36 = .ok (.getfield 16, 3) := by decide +kernel
theorem dX8_rateAgainstHell_39 : decode cX8_rateAgainstHell 39 = .ok (.aload_n 0, 1) := by decide +kernel
theorem dX8_rateAgainstHell_40 : decode cX8_rateAgainstHell 40 = .ok (.getfield 30, 3) := by decide +kernel
theorem dX8_rateAgainstHell_43 : decode cX8_rateAgainstHell 43 = .ok (.iconst 0, 1) := by decide +kernel
theorem dX8_rateAgainstHell_44 : decode cX8_rateAgainstHell 44 = .ok (.aload_n 0, 1) := by decide +kernel
theorem dX8_rateAgainstHell_45 : decode cX8_rateAgainstHell 45 = .ok (.getfield 30, 3) := by decide +kernel
theorem dX8_rateAgainstHell_48 : decode cX8_rateAgainstHell 48 = .ok (.getfield 128, 3) := by decide +kernel
theorem dX8_rateAgainstHell_51 : decode cX8_rateAgainstHell 51 = .ok (.invokevirtual 290, 3) := by decide +kernel
theorem dX8_rateAgainstHell_54 : decode cX8_rateAgainstHell 54 = .ok (.aload_n 1, 1) := by decide +kernel
theorem dX8_rateAgainstHell_55 : decode cX8_rateAgainstHell 55 = .ok (.getfield 318, 3) := by decide +kernel
theorem dX8_rateAgainstHell_58 : decode cX8_rateAgainstHell 58 = .ok (.istore_n 2, 1) := by decide +kernel
theorem dX8_rateAgainstHell_59 : decode cX8_rateAgainstHell 59 = .ok (.aload_n 1, 1) := by decide +kernel
theorem dX8_rateAgainstHell_60 : decode cX8_rateAgainstHell 60 = .ok (.getfield 321, 3) := by decide +kernel
theorem dX8_rateAgainstHell_63 : decode cX8_rateAgainstHell 63 = .ok (.istore_n 3, 1) := by decide +kernel
theorem dX8_rateAgainstHell_64 : decode cX8_rateAgainstHell 64 = .ok (.aload_n 1, 1) := by decide +kernel
theorem dX8_rateAgainstHell_65 : decode cX8_rateAgainstHell 65 = .ok (.aload_n 0, 1) := by decide +kernel
theorem dX8_rateAgainstHell_66 : decode cX8_rateAgainstHell 66 = .ok (.getfield 16, 3) := by decide +kernel
theorem dX8_rateAgainstHell_69 : decode cX8_rateAgainstHell 69 = .ok (.bipush 104, 2) := by decide +kernel
theorem dX8_rateAgainstHell_71 : decode cX8_rateAgainstHell 71 = .ok (.iconst 0, 1) := by decide +kernel
theorem dX8_rateAgainstHell_72 : decode cX8_rateAgainstHell 72 = .ok (.invokevirtual 155, 3) := by decide +kernel
theorem dX8_rateAgainstHell_75 : decode cX8_rateAgainstHell 75 = .ok (.aload_n 1, 1) := by decide +kernel
theorem dX8_rateAgainstHell_76 : decode cX8_rateAgainstHell 76 = .ok (.getfield 318, 3) := by decide +kernel
theorem dX8_rateAgainstHell_79 : decode cX8_rateAgainstHell 79 = .ok (.iload_n 2, 1) := by decide +kernel
theorem dX8_rateAgainstHell_80 : decode cX8_rateAgainstHell 80 = .ok (.isub, 1) := by decide +kernel
theorem dX8_rateAgainstHell_81 : decode cX8_rateAgainstHell 81 = .ok (.istore 4, 2) := by decide +kernel
theorem dX8_rateAgainstHell_83 : decode cX8_rateAgainstHell 83 = .ok (.aload_n 1, 1) := by decide +kernel
theorem dX8_rateAgainstHell_84 : decode cX8_rateAgainstHell 84 = .ok (.getfield 321, 3) := by decide +kernel
theorem dX8_rateAgainstHell_87 : decode cX8_rateAgainstHell 87 = .ok (.iload_n 3, 1) := by decide +kernel
theorem dX8_rateAgainstHell_88 : decode cX8_rateAgainstHell 88 = .ok (.isub, 1) := by decide +kernel
theorem dX8_rateAgainstHell_89 : decode cX8_rateAgainstHell 89 = .ok (.istore 5, 2) := by decide +kernel
theorem dX8_rateAgainstHell_91 : decode cX8_rateAgainstHell 91 = .ok (.iconst 1, 1) := by decide +kernel
theorem dX8_rateAgainstHell_92 : decode cX8_rateAgainstHell 92 = .ok (.istore 6, 2) := by decide +kernel
theorem dX8_rateAgainstHell_94 : decode cX8_rateAgainstHell 94 = .ok (.iload 6, 2) := by decide +kernel
theorem dX8_rateAgainstHell_96 : decode cX8_rateAgainstHell 96 = .ok (.bipush 9, 2) := by decide +kernel
theorem dX8_rateAgainstHell_98 : decode cX8_rateAgainstHell 98 = .ok (.if_icmp .gt 22, 3) := by decide +kernel
theorem dX8_rateAgainstHell_101 : decode cX8_rateAgainstHell 101 = .ok (.iload 5, 2) := by decide +kernel
theorem dX8_rateAgainstHell_103 : decode cX8_rateAgainstHell 103 = .ok (.iload 6, 2) := by decide +kernel
theorem dX8_rateAgainstHell_105 : decode cX8_rateAgainstHell 105 = .ok (.iload 4, 2) := by decide +kernel
theorem dX8_rateAgainstHell_107 : decode cX8_rateAgainstHell 107 = .ok (.imul, 1) := by decide +kernel
theorem dX8_rateAgainstHell_108 : decode cX8_rateAgainstHell 108 = .ok (.if_icmp .gt 6, 3) := by decide +kernel
theorem dX8_rateAgainstHell_111 : decode cX8_rateAgainstHell 111 = .ok (.iload 6, 2) := by decide +kernel
theorem dX8_rateAgainstHell_113 : decode cX8_rateAgainstHell 113 = .ok (.ireturn, 1) := by decide +kernel
theorem dX8_rateAgainstHell_114 : decode cX8_rateAgainstHell 114 = .ok (.iinc 6 1, 3) := by decide +kernel
theorem dX8_rateAgainstHell_117 : decode cX8_rateAgainstHell 117 = .ok (.goto (-23), 3) := by decide +kernel
theorem dX8_rateAgainstHell_120 : decode cX8_rateAgainstHell 120 = .ok (.bipush (-6), 2) := by decide +kernel
theorem dX8_rateAgainstHell_122 : decode cX8_rateAgainstHell 122 = .ok (.ireturn, 1) := by decide +kernel
theorem dX8_preachedRefusal_0 : decode cX8_preachedRefusal 0 = .ok (.aload_n 0, 1) := by decide +kernel
theorem dX8_preachedRefusal_1 : decode cX8_preachedRefusal 1 = .ok (.getfield 30, 3) := by decide +kernel
theorem dX8_preachedRefusal_4 : decode cX8_preachedRefusal 4 = .ok (.invokevirtual 137, 3) := by decide +kernel
theorem dX8_preachedRefusal_7 : decode cX8_preachedRefusal 7 = .ok (.ifCond .eq 6, 3) := by decide +kernel
theorem dX8_preachedRefusal_10 : decode cX8_preachedRefusal 10 = .ok (.bipush (-5), 2) := by decide +kernel
theorem dX8_preachedRefusal_12 : decode cX8_preachedRefusal 12 = .ok (.ireturn, 1) := by decide +kernel
theorem dX8_preachedRefusal_13 : decode cX8_preachedRefusal 13 = .ok (.aload_n 0, 1) := by decide +kernel
theorem dX8_preachedRefusal_14 : decode cX8_preachedRefusal 14 = .ok (.getfield 30, 3) := by decide +kernel
theorem dX8_preachedRefusal_17 : decode cX8_preachedRefusal 17 = .ok (.getfield 128, 3) := by decide +kernel
theorem dX8_preachedRefusal_20 : decode cX8_preachedRefusal 20 = .ok (.bipush 6, 2) := by decide +kernel
theorem dX8_preachedRefusal_22 : decode cX8_preachedRefusal 22 = .ok (.if_icmp .le 8, 3) := by decide +kernel
theorem dX8_preachedRefusal_25 : decode cX8_preachedRefusal 25 = .ok (.bipush (-4), 2) := by decide +kernel
theorem dX8_preachedRefusal_27 : decode cX8_preachedRefusal 27 = .ok (.goto 4, 3) := by decide +kernel
theorem dX8_preachedRefusal_30 : decode cX8_preachedRefusal 30 = .ok (.iconst 0, 1) := by decide +kernel
theorem dX8_preachedRefusal_31 : decode cX8_preachedRefusal 31 = .ok (.ireturn, 1) := by decide +kernel
theorem dX8_dipBits_0 : decode cX8_dipBits 0 = .ok (.aload_n 0, 1) := by decide +kernel
theorem dX8_dipBits_1 : decode cX8_dipBits 1 = .ok (.iconst 0, 1) := by decide +kernel
theorem dX8_dipBits_2 : decode cX8_dipBits 2 = .ok (.invokevirtual 141, 3) := by decide +kernel
theorem dX8_dipBits_5 : decode cX8_dipBits 5 = .ok (.astore_n 3, 1) := by decide +kernel
theorem dX8_dipBits_6 : decode cX8_dipBits 6 = .ok (.iconst 0, 1) := by decide +kernel
theorem dX8_dipBits_7 : decode cX8_dipBits 7 = .ok (.istore 4, 2) := by decide +kernel
theorem dX8_dipBits_9 : decode cX8_dipBits 9 = .ok (.iconst 0, 1) := by decide +kernel
theorem dX8_dipBits_10 : decode cX8_dipBits 10 = .ok (.istore 5, 2) := by decide +kernel
theorem dX8_dipBits_12 : decode cX8_dipBits 12 = .ok (.iload 5, 2) := by decide +kernel
theorem dX8_dipBits_14 : decode cX8_dipBits 14 = .ok (.aload_n 0, 1) := by decide +kernel
theorem dX8_dipBits_15 : decode cX8_dipBits 15 = .ok (.getfield 30, 3) := by decide +kernel
theorem dX8_dipBits_18 : decode cX8_dipBits 18 = .ok (.getfield 128, 3) := by decide +kernel
theorem dX8_dipBits_21 : decode cX8_dipBits 21 = .ok (.if_icmp .ge 66, 3) := by decide +kernel
theorem dX8_dipBits_24 : decode cX8_dipBits 24 = .ok (.iload 5, 2) := by decide +kernel
theorem dX8_dipBits_26 : decode cX8_dipBits 26 = .ok (.bipush 30, 2) := by decide +kernel
theorem dX8_dipBits_28 : decode cX8_dipBits 28 = .ok (.if_icmp .ge 59, 3) := by decide +kernel
theorem dX8_dipBits_31 : decode cX8_dipBits 31 = .ok (.aload_n 3, 1) := by decide +kernel
theorem dX8_dipBits_32 : decode cX8_dipBits 32 = .ok (.aload_n 0, 1) := by decide +kernel
theorem dX8_dipBits_33 : decode cX8_dipBits 33 = .ok (.getfield 10, 3) := by decide +kernel
theorem dX8_dipBits_36 : decode cX8_dipBits 36 = .ok (.aload_n 0, 1) := by decide +kernel
theorem dX8_dipBits_37 : decode cX8_dipBits 37 = .ok (.getfield 30, 3) := by decide +kernel
theorem dX8_dipBits_40 : decode cX8_dipBits 40 = .ok (.getfield 131, 3) := by decide +kernel
theorem dX8_dipBits_43 : decode cX8_dipBits 43 = .ok (.iload 5, 2) := by decide +kernel
theorem dX8_dipBits_45 : decode cX8_dipBits 45 = .ok (.iaload, 1) := by decide +kernel
theorem dX8_dipBits_46 : decode cX8_dipBits 46 = .ok (.iconst 0, 1) := by decide +kernel
theorem dX8_dipBits_47 : decode cX8_dipBits 47 = .ok (.invokevirtual 155, 3) := by decide +kernel
theorem dX8_dipBits_50 : decode cX8_dipBits 50 = .ok (.iload_n 2, 1) := by decide +kernel
theorem dX8_dipBits_51 : decode cX8_dipBits 51 = .ok (.ifCond .eq 10, 3) := by decide +kernel
theorem dX8_dipBits_54 : decode cX8_dipBits 54 = .ok (.aload_n 3, 1) := by decide +kernel
theorem dX8_dipBits_55 : decode cX8_dipBits 55 = .ok (.getfield 324, 3) := by decide +kernel
theorem dX8_dipBits_58 : decode cX8_dipBits 58 = .ok (.goto 7, 3) := by decide +kernel
theorem dX8_dipBits_61 : decode cX8_dipBits 61 = .ok (.aload_n 3, 1) := by decide +kernel
theorem dX8_dipBits_62 : decode cX8_dipBits 62 = .ok (.invokevirtual 327, 3) := by decide +kernel
theorem dX8_dipBits_65 : decode cX8_dipBits 65 = .ok (.istore 6, 2) := by decide +kernel
theorem dX8_dipBits_67 : decode cX8_dipBits 67 = .ok (.iload 4, 2) := by decide +kernel
theorem dX8_dipBits_69 : decode cX8_dipBits 69 = .ok (.iload 6, 2) := by decide +kernel
theorem dX8_dipBits_71 : decode cX8_dipBits 71 = .ok (.iload_n 1, 1) := by decide +kernel
theorem dX8_dipBits_72 : decode cX8_dipBits 72 = .ok (.ishr, 1) := by decide +kernel
theorem dX8_dipBits_73 : decode cX8_dipBits 73 = .ok (.iconst 1, 1) := by decide +kernel
theorem dX8_dipBits_74 : decode cX8_dipBits 74 = .ok (.iand, 1) := by decide +kernel
theorem dX8_dipBits_75 : decode cX8_dipBits 75 = .ok (.iload 5, 2) := by decide +kernel
theorem dX8_dipBits_77 : decode cX8_dipBits 77 = .ok (.ishl, 1) := by decide +kernel
theorem dX8_dipBits_78 : decode cX8_dipBits 78 = .ok (.ior, 1) := by decide +kernel
theorem dX8_dipBits_79 : decode cX8_dipBits 79 = .ok (.istore 4, 2) := by decide +kernel
theorem dX8_dipBits_81 : decode cX8_dipBits 81 = .ok (.iinc 5 1, 3) := by decide +kernel
theorem dX8_dipBits_84 : decode cX8_dipBits 84 = .ok (.goto (-72), 3) := by decide +kernel
theorem dX8_dipBits_87 : decode cX8_dipBits 87 = .ok (.iload 4, 2) := by decide +kernel
theorem dX8_dipBits_89 : decode cX8_dipBits 89 = .ok (.ireturn, 1) := by decide +kernel
theorem dX8_fillDipRows_0 : decode cX8_fillDipRows 0 = .ok (.iconst 0, 1) := by decide +kernel
theorem dX8_fillDipRows_1 : decode cX8_fillDipRows 1 = .ok (.istore_n 1, 1) := by decide +kernel
theorem dX8_fillDipRows_2 : decode cX8_fillDipRows 2 = .ok (.iload_n 1, 1) := by decide +kernel
theorem dX8_fillDipRows_3 : decode cX8_fillDipRows 3 = .ok (.bipush 8, 2) := by decide +kernel
theorem dX8_fillDipRows_5 : decode cX8_fillDipRows 5 = .ok (.if_icmp .ge 16, 3) := by decide +kernel
theorem dX8_fillDipRows_8 : decode cX8_fillDipRows 8 = .ok (.aload_n 0, 1) := by decide +kernel
theorem dX8_fillDipRows_9 : decode cX8_fillDipRows 9 = .ok (.getfield 68, 3) := by decide +kernel
theorem dX8_fillDipRows_12 : decode cX8_fillDipRows 12 = .ok (.iload_n 1, 1) := by decide +kernel
theorem dX8_fillDipRows_13 : decode cX8_fillDipRows 13 = .ok (.lconst 0, 1) := by decide +kernel
theorem dX8_fillDipRows_14 : decode cX8_fillDipRows 14 = .ok (.lastore, 1) := by decide +kernel
theorem dX8_fillDipRows_15 : decode cX8_fillDipRows 15 = .ok (.iinc 1 1, 3) := by decide +kernel
theorem dX8_fillDipRows_18 : decode cX8_fillDipRows 18 = .ok (.goto (-16), 3) := by decide +kernel
theorem dX8_fillDipRows_21 : decode cX8_fillDipRows 21 = .ok (.aload_n 0, 1) := by decide +kernel
theorem dX8_fillDipRows_22 : decode cX8_fillDipRows 22 = .ok (.iconst 0, 1) := by decide +kernel
theorem dX8_fillDipRows_23 : decode cX8_fillDipRows 23 = .ok (.invokevirtual 141, 3) := by decide +kernel
theorem dX8_fillDipRows_26 : decode cX8_fillDipRows 26 = .ok (.astore_n 1, 1) := by decide +kernel
theorem dX8_fillDipRows_27 : decode cX8_fillDipRows 27 = .ok (.iconst 0, 1) := by decide +kernel
theorem dX8_fillDipRows_28 : decode cX8_fillDipRows 28 = .ok (.istore_n 2, 1) := by decide +kernel
theorem dX8_fillDipRows_29 : decode cX8_fillDipRows 29 = .ok (.iload_n 2, 1) := by decide +kernel
theorem dX8_fillDipRows_30 : decode cX8_fillDipRows 30 = .ok (.aload_n 0, 1) := by decide +kernel
theorem dX8_fillDipRows_31 : decode cX8_fillDipRows 31 = .ok (.getfield 30, 3) := by decide +kernel
theorem dX8_fillDipRows_34 : decode cX8_fillDipRows 34 = .ok (.getfield 128, 3) := by decide +kernel
theorem dX8_fillDipRows_37 : decode cX8_fillDipRows 37 = .ok (.if_icmp .ge 69, 3) := by decide +kernel
theorem dX8_fillDipRows_40 : decode cX8_fillDipRows 40 = .ok (.aload_n 1, 1) := by decide +kernel
theorem dX8_fillDipRows_41 : decode cX8_fillDipRows 41 = .ok (.aload_n 0, 1) := by decide +kernel
theorem dX8_fillDipRows_42 : decode cX8_fillDipRows 42 = .ok (.getfield 10, 3) := by decide +kernel
theorem dX8_fillDipRows_45 : decode cX8_fillDipRows 45 = .ok (.aload_n 0, 1) := by decide +kernel
theorem dX8_fillDipRows_46 : decode cX8_fillDipRows 46 = .ok (.getfield 30, 3) := by decide +kernel
theorem dX8_fillDipRows_49 : decode cX8_fillDipRows 49 = .ok (.getfield 131, 3) := by decide +kernel
theorem dX8_fillDipRows_52 : decode cX8_fillDipRows 52 = .ok (.iload_n 2, 1) := by decide +kernel
theorem dX8_fillDipRows_53 : decode cX8_fillDipRows 53 = .ok (.iaload, 1) := by decide +kernel
theorem dX8_fillDipRows_54 : decode cX8_fillDipRows 54 = .ok (.iconst 0, 1) := by decide +kernel
theorem dX8_fillDipRows_55 : decode cX8_fillDipRows 55 = .ok (.invokevirtual 155, 3) := by decide +kernel
theorem dX8_fillDipRows_58 : decode cX8_fillDipRows 58 = .ok (.iconst 0, 1) := by decide +kernel
theorem dX8_fillDipRows_59 : decode cX8_fillDipRows 59 = .ok (.istore_n 3, 1) := by decide +kernel
theorem dX8_fillDipRows_60 : decode cX8_fillDipRows 60 = .ok (.iload_n 3, 1) := by decide +kernel
theorem dX8_fillDipRows_61 : decode cX8_fillDipRows 61 = .ok (.bipush 8, 2) := by decide +kernel
theorem dX8_fillDipRows_63 : decode cX8_fillDipRows 63 = .ok (.if_icmp .ge 37, 3) := by decide +kernel
theorem dX8_fillDipRows_66 : decode cX8_fillDipRows 66 = .ok (.aload_n 0, 1) := by decide +kernel
theorem dX8_fillDipRows_67 : decode cX8_fillDipRows 67 = .ok (.getfield 68, 3) := by decide +kernel
theorem dX8_fillDipRows_70 : decode cX8_fillDipRows 70 = .ok (.iload_n 3, 1) := by decide +kernel
theorem dX8_fillDipRows_71 : decode cX8_fillDipRows 71 = .ok (.dup2, 1) := by decide +kernel
theorem dX8_fillDipRows_72 : decode cX8_fillDipRows 72 = .ok (.laload, 1) := by decide +kernel
theorem dX8_fillDipRows_73 : decode cX8_fillDipRows 73 = .ok (.aload_n 1, 1) := by decide +kernel
theorem dX8_fillDipRows_74 : decode cX8_fillDipRows 74 = .ok (.invokevirtual 327, 3) := by decide +kernel
theorem dX8_fillDipRows_77 : decode cX8_fillDipRows 77 = .ok (.aload_n 0, 1) := by decide +kernel
theorem dX8_fillDipRows_78 : decode cX8_fillDipRows 78 = .ok (.getfield 10, 3) := by decide +kernel
theorem dX8_fillDipRows_81 : decode cX8_fillDipRows 81 = .ok (.getfield 93, 3) := by decide +kernel
theorem dX8_fillDipRows_84 : decode cX8_fillDipRows 84 = .ok (.iload_n 3, 1) := by decide +kernel
theorem dX8_fillDipRows_85 : decode cX8_fillDipRows 85 = .ok (.iaload, 1) := by decide +kernel
theorem dX8_fillDipRows_86 : decode cX8_fillDipRows 86 = .ok (.ishr, 1) := by decide +kernel
theorem dX8_fillDipRows_87 : decode cX8_fillDipRows 87 = .ok (.iconst 1, 1) := by decide +kernel
theorem dX8_fillDipRows_88 : decode cX8_fillDipRows 88 = .ok (.iand, 1) := by decide +kernel
theorem dX8_fillDipRows_89 : decode cX8_fillDipRows 89 = .ok (.i2l, 1) := by decide +kernel
theorem dX8_fillDipRows_90 : decode cX8_fillDipRows 90 = .ok (.iload_n 2, 1) := by decide +kernel
theorem dX8_fillDipRows_91 : decode cX8_fillDipRows 91 = .ok (.lshl, 1) := by decide +kernel
theorem dX8_fillDipRows_92 : decode cX8_fillDipRows 92 = .ok (.lor, 1) := by decide +kernel
theorem dX8_fillDipRows_93 : decode cX8_fillDipRows 93 = .ok (.lastore, 1) := by decide +kernel
theorem dX8_fillDipRows_94 : decode cX8_fillDipRows 94 = .ok (.iinc 3 1, 3) := by decide +kernel
theorem dX8_fillDipRows_97 : decode cX8_fillDipRows 97 = .ok (.goto (-37), 3) := by decide +kernel
theorem dX8_fillDipRows_100 : decode cX8_fillDipRows 100 = .ok (.iinc 2 1, 3) := by decide +kernel
theorem dX8_fillDipRows_103 : decode cX8_fillDipRows 103 = .ok (.goto (-74), 3) := by decide +kernel
theorem dX8_fillDipRows_106 : decode cX8_fillDipRows 106 = .ok (.return_, 1) := by decide +kernel
theorem dX8_areAlike_0 : decode cX8_areAlike 0 = .ok (.aload_n 0, 1) := by decide +kernel
theorem dX8_areAlike_1 : decode cX8_areAlike 1 = .ok (.getfield 10, 3) := by decide +kernel
theorem dX8_areAlike_4 : decode cX8_areAlike 4 = .ok (.iload_n 1, 1) := by decide +kernel
theorem dX8_areAlike_5 : decode cX8_areAlike 5 = .ok (.invokevirtual 115, 3) := by decide +kernel
theorem dX8_areAlike_8 : decode cX8_areAlike 8 = .ok (.ifCond .eq 34, 3) := by decide +kernel
theorem dX8_areAlike_11 : decode cX8_areAlike 11 = .ok (.aload_n 0, 1) := by decide +kernel
theorem dX8_areAlike_12 : decode cX8_areAlike 12 = .ok (.getfield 10, 3) := by decide +kernel
theorem dX8_areAlike_15 : decode cX8_areAlike 15 = .ok (.iload_n 2, 1) := by decide +kernel
theorem dX8_areAlike_16 : decode cX8_areAlike 16 = .ok (.invokevirtual 115, 3) := by decide +kernel
theorem dX8_areAlike_19 : decode cX8_areAlike 19 = .ok (.ifCond .eq 23, 3) := by decide +kernel
theorem dX8_areAlike_22 : decode cX8_areAlike 22 = .ok (.aload_n 0, 1) := by decide +kernel
theorem dX8_areAlike_23 : decode cX8_areAlike 23 = .ok (.getfield 68, 3) := by decide +kernel
theorem dX8_areAlike_26 : decode cX8_areAlike 26 = .ok (.iload_n 1, 1) := by decide +kernel
theorem dX8_areAlike_27 : decode cX8_areAlike 27 = .ok (.laload, 1) := by decide +kernel
theorem dX8_areAlike_28 : decode cX8_areAlike 28 = .ok (.aload_n 0, 1) := by decide +kernel
theorem dX8_areAlike_29 : decode cX8_areAlike 29 = .ok (.getfield 68, 3) := by decide +kernel
theorem dX8_areAlike_32 : decode cX8_areAlike 32 = .ok (.iload_n 2, 1) := by decide +kernel
theorem dX8_areAlike_33 : decode cX8_areAlike 33 = .ok (.laload, 1) := by decide +kernel
theorem dX8_areAlike_34 : decode cX8_areAlike 34 = .ok (.lcmp, 1) := by decide +kernel
theorem dX8_areAlike_35 : decode cX8_areAlike 35 = .ok (.ifCond .ne 7, 3) := by decide +kernel
theorem dX8_areAlike_38 : decode cX8_areAlike 38 = .ok (.iconst 1, 1) := by decide +kernel
theorem dX8_areAlike_39 : decode cX8_areAlike 39 = .ok (.goto 4, 3) := by decide +kernel
theorem dX8_areAlike_42 : decode cX8_areAlike 42 = .ok (.iconst 0, 1) := by decide +kernel
theorem dX8_areAlike_43 : decode cX8_areAlike 43 = .ok (.ireturn, 1) := by decide +kernel
theorem dX8_pairsAlike_0 : decode cX8_pairsAlike 0 = .ok (.iconst 0, 1) := by decide +kernel
theorem dX8_pairsAlike_1 : decode cX8_pairsAlike 1 = .ok (.istore_n 1, 1) := by decide +kernel
theorem dX8_pairsAlike_2 : decode cX8_pairsAlike 2 = .ok (.iconst 0, 1) := by decide +kernel
theorem dX8_pairsAlike_3 : decode cX8_pairsAlike 3 = .ok (.istore_n 2, 1) := by decide +kernel
theorem dX8_pairsAlike_4 : decode cX8_pairsAlike 4 = .ok (.iload_n 2, 1) := by decide +kernel
theorem dX8_pairsAlike_5 : decode cX8_pairsAlike 5 = .ok (.bipush 8, 2) := by decide +kernel
theorem dX8_pairsAlike_7 : decode cX8_pairsAlike 7 = .ok (.if_icmp .ge 37, 3) := by decide +kernel
theorem dX8_pairsAlike_10 : decode cX8_pairsAlike 10 = .ok (.iload_n 2, 1) := by decide +kernel
theorem dX8_pairsAlike_11 : decode cX8_pairsAlike 11 = .ok (.iconst 1, 1) := by decide +kernel
theorem dX8_pairsAlike_12 : decode cX8_pairsAlike 12 = .ok (.iadd, 1) := by decide +kernel
theorem dX8_pairsAlike_13 : decode cX8_pairsAlike 13 = .ok (.istore_n 3, 1) := by decide +kernel
theorem dX8_pairsAlike_14 : decode cX8_pairsAlike 14 = .ok (.iload_n 3, 1) := by decide +kernel
theorem dX8_pairsAlike_15 : decode cX8_pairsAlike 15 = .ok (.bipush 8, 2) := by decide +kernel
theorem dX8_pairsAlike_17 : decode cX8_pairsAlike 17 = .ok (.if_icmp .ge 21, 3) := by decide +kernel
theorem dX8_pairsAlike_20 : decode cX8_pairsAlike 20 = .ok (.aload_n 0, 1) := by decide +kernel
theorem dX8_pairsAlike_21 : decode cX8_pairsAlike 21 = .ok (.iload_n 2, 1) := by decide +kernel
theorem dX8_pairsAlike_22 : decode cX8_pairsAlike 22 = .ok (.iload_n 3, 1) := by decide +kernel
theorem dX8_pairsAlike_23 : decode cX8_pairsAlike 23 = .ok (.invokevirtual 330, 3) := by decide +kernel
theorem dX8_pairsAlike_26 : decode cX8_pairsAlike 26 = .ok (.ifCond .eq 6, 3) := by decide +kernel
theorem dX8_pairsAlike_29 : decode cX8_pairsAlike 29 = .ok (.iinc 1 1, 3) := by decide +kernel
theorem dX8_pairsAlike_32 : decode cX8_pairsAlike 32 = .ok (.iinc 3 1, 3) := by decide +kernel
theorem dX8_pairsAlike_35 : decode cX8_pairsAlike 35 = .ok (.goto (-21), 3) := by decide +kernel
theorem dX8_pairsAlike_38 : decode cX8_pairsAlike 38 = .ok (.iinc 2 1, 3) := by decide +kernel
theorem dX8_pairsAlike_41 : decode cX8_pairsAlike 41 = .ok (.goto (-37), 3) := by decide +kernel
theorem dX8_pairsAlike_44 : decode cX8_pairsAlike 44 = .ok (.iload_n 1, 1) := by decide +kernel
theorem dX8_pairsAlike_45 : decode cX8_pairsAlike 45 = .ok (.ireturn, 1) := by decide +kernel
theorem dX8_pairAlike_0 : decode cX8_pairAlike 0 = .ok (.iconst 0, 1) := by decide +kernel
theorem dX8_pairAlike_1 : decode cX8_pairAlike 1 = .ok (.istore_n 2, 1) := by decide +kernel
theorem dX8_pairAlike_2 : decode cX8_pairAlike 2 = .ok (.iconst 0, 1) := by decide +kernel
theorem dX8_pairAlike_3 : decode cX8_pairAlike 3 = .ok (.istore_n 3, 1) := by decide +kernel
theorem dX8_pairAlike_4 : decode cX8_pairAlike 4 = .ok (.iload_n 3, 1) := by decide +kernel
theorem dX8_pairAlike_5 : decode cX8_pairAlike 5 = .ok (.bipush 8, 2) := by decide +kernel
theorem dX8_pairAlike_7 : decode cX8_pairAlike 7 = .ok (.if_icmp .ge 53, 3) := by decide +kernel
theorem dX8_pairAlike_10 : decode cX8_pairAlike 10 = .ok (.iload_n 3, 1) := by decide +kernel
theorem dX8_pairAlike_11 : decode cX8_pairAlike 11 = .ok (.iconst 1, 1) := by decide +kernel
theorem dX8_pairAlike_12 : decode cX8_pairAlike 12 = .ok (.iadd, 1) := by decide +kernel
theorem dX8_pairAlike_13 : decode cX8_pairAlike 13 = .ok (.istore 4, 2) := by decide +kernel
theorem dX8_pairAlike_15 : decode cX8_pairAlike 15 = .ok (.iload 4, 2) := by decide +kernel
theorem dX8_pairAlike_17 : decode cX8_pairAlike 17 = .ok (.bipush 8, 2) := by decide +kernel
theorem dX8_pairAlike_19 : decode cX8_pairAlike 19 = .ok (.if_icmp .ge 35, 3) := by decide +kernel
theorem dX8_pairAlike_22 : decode cX8_pairAlike 22 = .ok (.aload_n 0, 1) := by decide +kernel
theorem dX8_pairAlike_23 : decode cX8_pairAlike 23 = .ok (.iload_n 3, 1) := by decide +kernel
theorem dX8_pairAlike_24 : decode cX8_pairAlike 24 = .ok (.iload 4, 2) := by decide +kernel
theorem dX8_pairAlike_26 : decode cX8_pairAlike 26 = .ok (.invokevirtual 330, 3) := by decide +kernel
theorem dX8_pairAlike_29 : decode cX8_pairAlike 29 = .ok (.ifCond .eq 19, 3) := by decide +kernel
theorem dX8_pairAlike_32 : decode cX8_pairAlike 32 = .ok (.iload_n 2, 1) := by decide +kernel
theorem dX8_pairAlike_33 : decode cX8_pairAlike 33 = .ok (.iload_n 1, 1) := by decide +kernel
theorem dX8_pairAlike_34 : decode cX8_pairAlike 34 = .ok (.if_icmp .ne 11, 3) := by decide +kernel
theorem dX8_pairAlike_37 : decode cX8_pairAlike 37 = .ok (.bipush 10, 2) := by decide +kernel
theorem dX8_pairAlike_39 : decode cX8_pairAlike 39 = .ok (.iload_n 3, 1) := by decide +kernel
theorem dX8_pairAlike_40 : decode cX8_pairAlike 40 = .ok (.imul, 1) := by decide +kernel
theorem dX8_pairAlike_41 : decode cX8_pairAlike 41 = .ok (.iload 4, 2) := by decide +kernel
theorem dX8_pairAlike_43 : decode cX8_pairAlike 43 = .ok (.iadd, 1) := by decide +kernel
theorem dX8_pairAlike_44 : decode cX8_pairAlike 44 = .ok (.ireturn, 1) := by decide +kernel
theorem dX8_pairAlike_45 : decode cX8_pairAlike 45 = .ok (.iinc 2 1, 3) := by decide +kernel
theorem dX8_pairAlike_48 : decode cX8_pairAlike 48 = .ok (.iinc 4 1, 3) := by decide +kernel
theorem dX8_pairAlike_51 : decode cX8_pairAlike 51 = .ok (.goto (-36), 3) := by decide +kernel
theorem dX8_pairAlike_54 : decode cX8_pairAlike 54 = .ok (.iinc 3 1, 3) := by decide +kernel
theorem dX8_pairAlike_57 : decode cX8_pairAlike 57 = .ok (.goto (-53), 3) := by decide +kernel
theorem dX8_pairAlike_60 : decode cX8_pairAlike 60 = .ok (.bipush (-6), 2) := by decide +kernel
theorem dX8_pairAlike_62 : decode cX8_pairAlike 62 = .ok (.ireturn, 1) := by decide +kernel
theorem dX8_lowestTerms_0 : decode cX8_lowestTerms 0 = .ok (.lload_n 0, 1) := by decide +kernel
theorem dX8_lowestTerms_1 : decode cX8_lowestTerms 1 = .ok (.lload_n 2, 1) := by decide +kernel
theorem dX8_lowestTerms_2 : decode cX8_lowestTerms 2 = .ok (.invokestatic 333, 3) := by decide +kernel
theorem dX8_lowestTerms_5 : decode cX8_lowestTerms 5 = .ok (.lstore 5, 2) := by decide +kernel
theorem dX8_lowestTerms_7 : decode cX8_lowestTerms 7 = .ok (.iload 4, 2) := by decide +kernel
theorem dX8_lowestTerms_9 : decode cX8_lowestTerms 9 = .ok (.ifCond .ne 7, 3) := by decide +kernel
theorem dX8_lowestTerms_12 : decode cX8_lowestTerms 12 = .ok (.lload_n 0, 1) := by decide +kernel
theorem dX8_lowestTerms_13 : decode cX8_lowestTerms 13 = .ok (.goto 4, 3) := by decide +kernel
theorem dX8_lowestTerms_16 : decode cX8_lowestTerms 16 = .ok (.lload_n 2, 1) := by decide +kernel
theorem dX8_lowestTerms_17 : decode cX8_lowestTerms 17 = .ok (.lstore 7, 2) := by decide +kernel
theorem dX8_lowestTerms_19 : decode cX8_lowestTerms 19 = .ok (.lload 5, 2) := by decide +kernel
theorem dX8_lowestTerms_21 : decode cX8_lowestTerms 21 = .ok (.lconst 1, 1) := by decide +kernel
theorem dX8_lowestTerms_22 : decode cX8_lowestTerms 22 = .ok (.lcmp, 1) := by decide +kernel
theorem dX8_lowestTerms_23 : decode cX8_lowestTerms 23 = .ok (.ifCond .le 11, 3) := by decide +kernel
theorem dX8_lowestTerms_26 : decode cX8_lowestTerms 26 = .ok (.lload 7, 2) := by decide +kernel
theorem dX8_lowestTerms_28 : decode cX8_lowestTerms 28 = .ok (.lload 5, 2) := by decide +kernel
theorem dX8_lowestTerms_30 : decode cX8_lowestTerms 30 = .ok (.ldiv, 1) := by decide +kernel
theorem dX8_lowestTerms_31 : decode cX8_lowestTerms 31 = .ok (.goto 5, 3) := by decide +kernel
theorem dX8_lowestTerms_34 : decode cX8_lowestTerms 34 = .ok (.lload 7, 2) := by decide +kernel
theorem dX8_lowestTerms_36 : decode cX8_lowestTerms 36 = .ok (.lreturn, 1) := by decide +kernel
theorem dX8_commonDivisor_0 : decode cX8_commonDivisor 0 = .ok (.iconst 0, 1) := by decide +kernel
theorem dX8_commonDivisor_1 : decode cX8_commonDivisor 1 = .ok (.istore 4, 2) := by decide +kernel
theorem dX8_commonDivisor_3 : decode cX8_commonDivisor 3 = .ok (.iload 4, 2) := by decide +kernel
theorem dX8_commonDivisor_5 : decode cX8_commonDivisor 5 = .ok (.sipush 200, 3) := by decide +kernel
theorem dX8_commonDivisor_8 : decode cX8_commonDivisor 8 = .ok (.if_icmp .ge 25, 3) := by decide +kernel
theorem dX8_commonDivisor_11 : decode cX8_commonDivisor 11 = .ok (.lload_n 2, 1) := by decide +kernel
theorem dX8_commonDivisor_12 : decode cX8_commonDivisor 12 = .ok (.lconst 0, 1) := by decide +kernel
theorem dX8_commonDivisor_13 : decode cX8_commonDivisor 13 = .ok (.lcmp, 1) := by decide +kernel
theorem dX8_commonDivisor_14 : decode cX8_commonDivisor 14 = .ok (.ifCond .eq 19, 3) := by decide +kernel
theorem dX8_commonDivisor_17 : decode cX8_commonDivisor 17 = .ok (.lload_n 0, 1) := by decide +kernel
theorem dX8_commonDivisor_18 : decode cX8_commonDivisor 18 = .ok (.lload_n 2, 1) := by decide +kernel
theorem dX8_commonDivisor_19 : decode cX8_commonDivisor 19 = .ok (.lrem, 1) := by decide +kernel
theorem dX8_commonDivisor_20 : decode cX8_commonDivisor 20 = .ok (.lstore 5, 2) := by decide +kernel
theorem dX8_commonDivisor_22 : decode cX8_commonDivisor 22 = .ok (.lload_n 2, 1) := by decide +kernel
theorem dX8_commonDivisor_23 : decode cX8_commonDivisor 23 = .ok (.lstore_n 0, 1) := by decide +kernel
theorem dX8_commonDivisor_24 : decode cX8_commonDivisor 24 = .ok (.lload 5, 2) := by decide +kernel
theorem dX8_commonDivisor_26 : decode cX8_commonDivisor 26 = .ok (.lstore_n 2, 1) := by decide +kernel
theorem dX8_commonDivisor_27 : decode cX8_commonDivisor 27 = .ok (.iinc 4 1, 3) := by decide +kernel
theorem dX8_commonDivisor_30 : decode cX8_commonDivisor 30 = .ok (.goto (-27), 3) := by decide +kernel
theorem dX8_commonDivisor_33 : decode cX8_commonDivisor 33 = .ok (.lload_n 0, 1) := by decide +kernel
theorem dX8_commonDivisor_34 : decode cX8_commonDivisor 34 = .ok (.lreturn, 1) := by decide +kernel
theorem dX8_yearTotal_0 : decode cX8_yearTotal 0 = .ok (.aload_n 0, 1) := by decide +kernel
theorem dX8_yearTotal_1 : decode cX8_yearTotal 1 = .ok (.getfield 36, 3) := by decide +kernel
theorem dX8_yearTotal_4 : decode cX8_yearTotal 4 = .ok (.iconst 0, 1) := by decide +kernel
theorem dX8_yearTotal_5 : decode cX8_yearTotal 5 = .ok (.aaload, 1) := by decide +kernel
theorem dX8_yearTotal_6 : decode cX8_yearTotal 6 = .ok (.astore 4, 2) := by decide +kernel
theorem dX8_yearTotal_8 : decode cX8_yearTotal 8 = .ok (.iload_n 1, 1) := by decide +kernel
theorem dX8_yearTotal_9 : decode cX8_yearTotal 9 = .ok (.istore 5, 2) := by decide +kernel
theorem dX8_yearTotal_11 : decode cX8_yearTotal 11 = .ok (.iconst 0, 1) := by decide +kernel
theorem dX8_yearTotal_12 : decode cX8_yearTotal 12 = .ok (.istore 6, 2) := by decide +kernel
theorem dX8_yearTotal_14 : decode cX8_yearTotal 14 = .ok (.iconst 0, 1) := by decide +kernel
theorem dX8_yearTotal_15 : decode cX8_yearTotal 15 = .ok (.istore 7, 2) := by decide +kernel
theorem dX8_yearTotal_17 : decode cX8_yearTotal 17 = .ok (.iload 7, 2) := by decide +kernel
theorem dX8_yearTotal_19 : decode cX8_yearTotal 19 = .ok (.iload_n 2, 1) := by decide +kernel
theorem dX8_yearTotal_20 : decode cX8_yearTotal 20 = .ok (.if_icmp .ge 115, 3) := by decide +kernel
theorem dX8_yearTotal_23 : decode cX8_yearTotal 23 = .ok (.aload 4, 2) := by decide +kernel
theorem dX8_yearTotal_25 : decode cX8_yearTotal 25 = .ok (.aload_n 0, 1) := by decide +kernel
theorem dX8_yearTotal_26 : decode cX8_yearTotal 26 = .ok (.getfield 10, 3) := by decide +kernel
theorem dX8_yearTotal_29 : decode cX8_yearTotal 29 = .ok (.invokevirtual 287, 3) := by decide +kernel
theorem dX8_yearTotal_32 : decode cX8_yearTotal 32 = .ok (.iconst 0, 1) := by decide +kernel
theorem dX8_yearTotal_33 : decode cX8_yearTotal 33 = .ok (.istore 8, 2) := by decide +kernel
theorem dX8_yearTotal_35 : decode cX8_yearTotal 35 = .ok (.iload 8, 2) := by decide +kernel
theorem dX8_yearTotal_37 : decode cX8_yearTotal 37 = .ok (.bipush 6, 2) := by decide +kernel
theorem dX8_yearTotal_39 : decode cX8_yearTotal 39 = .ok (.if_icmp .ge 42, 3) := by decide +kernel
theorem dX8_yearTotal_42 : decode cX8_yearTotal 42 = .ok (.bipush 75, 2) := by decide +kernel
theorem dX8_yearTotal_44 : decode cX8_yearTotal 44 = .ok (.iload 5, 2) := by decide +kernel
theorem dX8_yearTotal_46 : decode cX8_yearTotal 46 = .ok (.imul, 1) := by decide +kernel
theorem dX8_yearTotal_47 : decode cX8_yearTotal 47 = .ok (.bipush 74, 2) := by decide +kernel
theorem dX8_yearTotal_49 : decode cX8_yearTotal 49 = .ok (.iadd, 1) := by decide +kernel
theorem dX8_yearTotal_50 : decode cX8_yearTotal 50 = .ok (.ldc_w 337, 3) := by decide +kernel
theorem dX8_yearTotal_53 : decode cX8_yearTotal 53 = .ok (.irem, 1) := by decide +kernel
theorem dX8_yearTotal_54 : decode cX8_yearTotal 54 = .ok (.istore 5, 2) := by decide +kernel
theorem dX8_yearTotal_56 : decode cX8_yearTotal 56 = .ok (.aload 4, 2) := by decide +kernel
theorem dX8_yearTotal_58 : decode cX8_yearTotal 58 = .ok (.aload_n 0, 1) := by decide +kernel
theorem dX8_yearTotal_59 : decode cX8_yearTotal 59 = .ok (.getfield 10, 3) := by decide +kernel
theorem dX8_yearTotal_62 : decode cX8_yearTotal 62 = .ok (.getstatic 338, 3) := by decide +kernel
theorem dX8_yearTotal_65 : decode cX8_yearTotal 65 = .ok (.iload 5, 2) := by decide +kernel
theorem dX8_yearTotal_67 : decode cX8_yearTotal 67 = .ok (.bipush 7, 2) := by decide +kernel
theorem dX8_yearTotal_69 : decode cX8_yearTotal 69 = .ok (.irem, 1) := by decide +kernel
theorem dX8_yearTotal_70 : decode cX8_yearTotal 70 = .ok (.caload, 1) := by decide +kernel
theorem dX8_yearTotal_71 : decode cX8_yearTotal 71 = .ok (.iconst 0, 1) := by decide +kernel
theorem dX8_yearTotal_72 : decode cX8_yearTotal 72 = .ok (.invokevirtual 155, 3) := by decide +kernel
theorem dX8_yearTotal_75 : decode cX8_yearTotal 75 = .ok (.iinc 8 1, 3) := by decide +kernel
theorem dX8_yearTotal_78 : decode cX8_yearTotal 78 = .ok (.goto (-43), 3) := by decide +kernel
theorem dX8_yearTotal_81 : decode cX8_yearTotal 81 = .ok (.iload_n 3, 1) := by decide +kernel
theorem dX8_yearTotal_82 : decode cX8_yearTotal 82 = .ok (.iconst 2, 1) := by decide +kernel
theorem dX8_yearTotal_83 : decode cX8_yearTotal 83 = .ok (.if_icmp .ne 24, 3) := by decide +kernel
theorem dX8_yearTotal_86 : decode cX8_yearTotal 86 = .ok (.iload 6, 2) := by decide +kernel
theorem dX8_yearTotal_88 : decode cX8_yearTotal 88 = .ok (.aload 4, 2) := by decide +kernel
theorem dX8_yearTotal_90 : decode cX8_yearTotal 90 = .ok (.getfield 305, 3) := by decide +kernel
theorem dX8_yearTotal_93 : decode cX8_yearTotal 93 = .ok (.ifCond .ne 7, 3) := by decide +kernel
theorem dX8_yearTotal_96 : decode cX8_yearTotal 96 = .ok (.iconst 1, 1) := by decide +kernel
theorem dX8_yearTotal_97 : decode cX8_yearTotal 97 = .ok (.goto 4, 3) := by decide +kernel
theorem dX8_yearTotal_100 : decode cX8_yearTotal 100 = .ok (.iconst 0, 1) := by decide +kernel
theorem dX8_yearTotal_101 : decode cX8_yearTotal 101 = .ok (.iadd, 1) := by decide +kernel
theorem dX8_yearTotal_102 : decode cX8_yearTotal 102 = .ok (.istore 6, 2) := by decide +kernel
theorem dX8_yearTotal_104 : decode cX8_yearTotal 104 = .ok (.goto 25, 3) := by decide +kernel
theorem dX8_yearTotal_107 : decode cX8_yearTotal 107 = .ok (.iload 6, 2) := by decide +kernel
theorem dX8_yearTotal_109 : decode cX8_yearTotal 109 = .ok (.iload_n 3, 1) := by decide +kernel
theorem dX8_yearTotal_110 : decode cX8_yearTotal 110 = .ok (.ifCond .ne 11, 3) := by decide +kernel
theorem dX8_yearTotal_113 : decode cX8_yearTotal 113 = .ok (.aload 4, 2) := by decide +kernel
theorem dX8_yearTotal_115 : decode cX8_yearTotal 115 = .ok (.getfield 318, 3) := by decide +kernel
theorem dX8_yearTotal_118 : decode cX8_yearTotal 118 = .ok (.goto 8, 3) := by decide +kernel
theorem dX8_yearTotal_121 : decode cX8_yearTotal 121 = .ok (.aload 4, 2) := by decide +kernel
theorem dX8_yearTotal_123 : decode cX8_yearTotal 123 = .ok (.getfield 321, 3) := by decide +kernel
theorem dX8_yearTotal_126 : decode cX8_yearTotal 126 = .ok (.iadd, 1) := by decide +kernel
theorem dX8_yearTotal_127 : decode cX8_yearTotal 127 = .ok (.istore 6, 2) := by decide +kernel
theorem dX8_yearTotal_129 : decode cX8_yearTotal 129 = .ok (.iinc 7 1, 3) := by decide +kernel
theorem dX8_yearTotal_132 : decode cX8_yearTotal 132 = .ok (.goto (-115), 3) := by decide +kernel
theorem dX8_yearTotal_135 : decode cX8_yearTotal 135 = .ok (.iload 6, 2) := by decide +kernel
theorem dX8_yearTotal_137 : decode cX8_yearTotal 137 = .ok (.ireturn, 1) := by decide +kernel
theorem dX9_init_0 : decode cX9_init 0 = .ok (.aload_n 0, 1) := by decide +kernel
theorem dX9_init_1 : decode cX9_init 1 = .ok (.invokespecial 1, 3) := by decide +kernel
theorem dX9_init_4 : decode cX9_init 4 = .ok (.aload_n 0, 1) := by decide +kernel
theorem dX9_init_5 : decode cX9_init 5 = .ok (.iconst 2, 1) := by decide +kernel
theorem dX9_init_6 : decode cX9_init 6 = .ok (.putfield 7, 3) := by decide +kernel
theorem dX9_init_9 : decode cX9_init 9 = .ok (.aload_n 0, 1) := by decide +kernel
theorem dX9_init_10 : decode cX9_init 10 = .ok (.bipush 8, 2) := by decide +kernel
theorem dX9_init_12 : decode cX9_init 12 = .ok (.newarray .int, 2) := by decide +kernel
theorem dX9_init_14 : decode cX9_init 14 = .ok (.putfield 13, 3) := by decide +kernel
theorem dX9_init_17 : decode cX9_init 17 = .ok (.aload_n 0, 1) := by decide +kernel
theorem dX9_init_18 : decode cX9_init 18 = .ok (.bipush 8, 2) := by decide +kernel
theorem dX9_init_20 : decode cX9_init 20 = .ok (.newarray .int, 2) := by decide +kernel
theorem dX9_init_22 : decode cX9_init 22 = .ok (.putfield 17, 3) := by decide +kernel
theorem dX9_init_25 : decode cX9_init 25 = .ok (.aload_n 0, 1) := by decide +kernel
theorem dX9_init_26 : decode cX9_init 26 = .ok (.bipush 8, 2) := by decide +kernel
theorem dX9_init_28 : decode cX9_init 28 = .ok (.newarray .int, 2) := by decide +kernel
theorem dX9_init_30 : decode cX9_init 30 = .ok (.putfield 20, 3) := by decide +kernel
theorem dX9_init_33 : decode cX9_init 33 = .ok (.aload_n 0, 1) := by decide +kernel
theorem dX9_init_34 : decode cX9_init 34 = .ok (.bipush 8, 2) := by decide +kernel
theorem dX9_init_36 : decode cX9_init 36 = .ok (.newarray .int, 2) := by decide +kernel
theorem dX9_init_38 : decode cX9_init 38 = .ok (.putfield 23, 3) := by decide +kernel
theorem dX9_init_41 : decode cX9_init 41 = .ok (.aload_n 0, 1) := by decide +kernel
theorem dX9_init_42 : decode cX9_init 42 = .ok (.iconst 4, 1) := by decide +kernel
theorem dX9_init_43 : decode cX9_init 43 = .ok (.putfield 26, 3) := by decide +kernel
theorem dX9_init_46 : decode cX9_init 46 = .ok (.aload_n 0, 1) := by decide +kernel
theorem dX9_init_47 : decode cX9_init 47 = .ok (.iconst 1, 1) := by decide +kernel
theorem dX9_init_48 : decode cX9_init 48 = .ok (.putfield 29, 3) := by decide +kernel
theorem dX9_init_51 : decode cX9_init 51 = .ok (.aload_n 0, 1) := by decide +kernel
theorem dX9_init_52 : decode cX9_init 52 = .ok (.bipush 16, 2) := by decide +kernel
theorem dX9_init_54 : decode cX9_init 54 = .ok (.newarray .int, 2) := by decide +kernel
theorem dX9_init_56 : decode cX9_init 56 = .ok (.putfield 32, 3) := by decide +kernel
theorem dX9_init_59 : decode cX9_init 59 = .ok (.aload_n 0, 1) := by decide +kernel
theorem dX9_init_60 : decode cX9_init 60 = .ok (.bipush 61, 2) := by decide +kernel
theorem dX9_init_62 : decode cX9_init 62 = .ok (.newarray .int, 2) := by decide +kernel
theorem dX9_init_64 : decode cX9_init 64 = .ok (.putfield 35, 3) := by decide +kernel
theorem dX9_init_67 : decode cX9_init 67 = .ok (.aload_n 0, 1) := by decide +kernel
theorem dX9_init_68 : decode cX9_init 68 = .ok (.bipush 61, 2) := by decide +kernel
theorem dX9_init_70 : decode cX9_init 70 = .ok (.newarray .int, 2) := by decide +kernel
theorem dX9_init_72 : decode cX9_init 72 = .ok (.putfield 38, 3) := by decide +kernel
theorem dX9_init_75 : decode cX9_init 75 = .ok (.aload_n 0, 1) := by decide +kernel
theorem dX9_init_76 : decode cX9_init 76 = .ok (.bipush 8, 2) := by decide +kernel
theorem dX9_init_78 : decode cX9_init 78 = .ok (.newarray .int, 2) := by decide +kernel
theorem dX9_init_80 : decode cX9_init 80 = .ok (.putfield 41, 3) := by decide +kernel
theorem dX9_init_83 : decode cX9_init 83 = .ok (.aload_n 0, 1) := by decide +kernel
theorem dX9_init_84 : decode cX9_init 84 = .ok (.bipush 8, 2) := by decide +kernel
theorem dX9_init_86 : decode cX9_init 86 = .ok (.newarray .int, 2) := by decide +kernel
theorem dX9_init_88 : decode cX9_init 88 = .ok (.putfield 44, 3) := by decide +kernel
theorem dX9_init_91 : decode cX9_init 91 = .ok (.aload_n 0, 1) := by decide +kernel
theorem dX9_init_92 : decode cX9_init 92 = .ok (.bipush 61, 2) := by decide +kernel
theorem dX9_init_94 : decode cX9_init 94 = .ok (.newarray .int, 2) := by decide +kernel
theorem dX9_init_96 : decode cX9_init 96 = .ok (.putfield 47, 3) := by decide +kernel
theorem dX9_init_99 : decode cX9_init 99 = .ok (.aload_n 0, 1) := by decide +kernel
theorem dX9_init_100 : decode cX9_init 100 = .ok (.bipush 61, 2) := by decide +kernel
theorem dX9_init_102 : decode cX9_init 102 = .ok (.newarray .int, 2) := by decide +kernel
theorem dX9_init_104 : decode cX9_init 104 = .ok (.putfield 50, 3) := by decide +kernel
theorem dX9_init_107 : decode cX9_init 107 = .ok (.aload_n 0, 1) := by decide +kernel
theorem dX9_init_108 : decode cX9_init 108 = .ok (.bipush 61, 2) := by decide +kernel
theorem dX9_init_110 : decode cX9_init 110 = .ok (.newarray .int, 2) := by decide +kernel
theorem dX9_init_112 : decode cX9_init 112 = .ok (.putfield 53, 3) := by decide +kernel
theorem dX9_init_115 : decode cX9_init 115 = .ok (.aload_n 0, 1) := by decide +kernel
theorem dX9_init_116 : decode cX9_init 116 = .ok (.sipush 488, 3) := by decide +kernel
theorem dX9_init_119 : decode cX9_init 119 = .ok (.newarray .int, 2) := by decide +kernel
theorem dX9_init_121 : decode cX9_init 121 = .ok (.putfield 56, 3) := by decide +kernel
theorem dX9_init_124 : decode cX9_init 124 = .ok (.aload_n 0, 1) := by decide +kernel
theorem dX9_init_125 : decode cX9_init 125 = .ok (.bipush 61, 2) := by decide +kernel
theorem dX9_init_127 : decode cX9_init 127 = .ok (.newarray .int, 2) := by decide +kernel
theorem dX9_init_129 : decode cX9_init 129 = .ok (.putfield 59, 3) := by decide +kernel
theorem dX9_init_132 : decode cX9_init 132 = .ok (.aload_n 0, 1) := by decide +kernel
theorem dX9_init_133 : decode cX9_init 133 = .ok (.bipush 8, 2) := by decide +kernel
theorem dX9_init_135 : decode cX9_init 135 = .ok (.newarray .int, 2) := by decide +kernel
theorem dX9_init_137 : decode cX9_init 137 = .ok (.putfield 62, 3) := by decide +kernel
theorem dX9_init_140 : decode cX9_init 140 = .ok (.aload_n 0, 1) := by decide +kernel
theorem dX9_init_141 : decode cX9_init 141 = .ok (.sipush 140, 3) := by decide +kernel
theorem dX9_init_144 : decode cX9_init 144 = .ok (.newarray .int, 2) := by decide +kernel
theorem dX9_init_146 : decode cX9_init 146 = .ok (.putfield 65, 3) := by decide +kernel
theorem dX9_init_149 : decode cX9_init 149 = .ok (.aload_n 0, 1) := by decide +kernel
theorem dX9_init_150 : decode cX9_init 150 = .ok (.iconst 2, 1) := by decide +kernel
theorem dX9_init_151 : decode cX9_init 151 = .ok (.newarray .boolean, 2) := by decide +kernel
theorem dX9_init_153 : decode cX9_init 153 = .ok (.putfield 68, 3) := by decide +kernel
theorem dX9_init_156 : decode cX9_init 156 = .ok (.aload_n 0, 1) := by decide +kernel
theorem dX9_init_157 : decode cX9_init 157 = .ok (.iconst 0, 1) := by decide +kernel
theorem dX9_init_158 : decode cX9_init 158 = .ok (.putfield 72, 3) := by decide +kernel
theorem dX9_init_161 : decode cX9_init 161 = .ok (.return_, 1) := by decide +kernel
theorem dX9_in_0 : decode cX9_in 0 = .ok (.iload_n 0, 1) := by decide +kernel
theorem dX9_in_1 : decode cX9_in 1 = .ok (.iload_n 1, 1) := by decide +kernel
theorem dX9_in_2 : decode cX9_in 2 = .ok (.if_icmp .lt 12, 3) := by decide +kernel
theorem dX9_in_5 : decode cX9_in 5 = .ok (.iload_n 0, 1) := by decide +kernel
theorem dX9_in_6 : decode cX9_in 6 = .ok (.iload_n 2, 1) := by decide +kernel
theorem dX9_in_7 : decode cX9_in 7 = .ok (.if_icmp .gt 7, 3) := by decide +kernel
theorem dX9_in_10 : decode cX9_in 10 = .ok (.iconst 1, 1) := by decide +kernel
theorem dX9_in_11 : decode cX9_in 11 = .ok (.goto 4, 3) := by decide +kernel
theorem dX9_in_14 : decode cX9_in 14 = .ok (.iconst 0, 1) := by decide +kernel
theorem dX9_in_15 : decode cX9_in 15 = .ok (.ireturn, 1) := by decide +kernel
theorem dX9_has_0 : decode cX9_has 0 = .ok (.iload_n 0, 1) := by decide +kernel
theorem dX9_has_1 : decode cX9_has 1 = .ok (.iload_n 1, 1) := by decide +kernel
theorem dX9_has_2 : decode cX9_has 2 = .ok (.ishr, 1) := by decide +kernel
theorem dX9_has_3 : decode cX9_has 3 = .ok (.iconst 1, 1) := by decide +kernel
theorem dX9_has_4 : decode cX9_has 4 = .ok (.iand, 1) := by decide +kernel
theorem dX9_has_5 : decode cX9_has 5 = .ok (.iconst 1, 1) := by decide +kernel
theorem dX9_has_6 : decode cX9_has 6 = .ok (.if_icmp .ne 7, 3) := by decide +kernel
theorem dX9_has_9 : decode cX9_has 9 = .ok (.iconst 1, 1) := by decide +kernel
theorem dX9_has_10 : decode cX9_has 10 = .ok (.goto 4, 3) := by decide +kernel
theorem dX9_has_13 : decode cX9_has 13 = .ok (.iconst 0, 1) := by decide +kernel
theorem dX9_has_14 : decode cX9_has 14 = .ok (.ireturn, 1) := by decide +kernel
theorem dX9_bits_0 : decode cX9_bits 0 = .ok (.iconst 0, 1) := by decide +kernel
theorem dX9_bits_1 : decode cX9_bits 1 = .ok (.istore_n 1, 1) := by decide +kernel
theorem dX9_bits_2 : decode cX9_bits 2 = .ok (.iconst 0, 1) := by decide +kernel
theorem dX9_bits_3 : decode cX9_bits 3 = .ok (.istore_n 2, 1) := by decide +kernel
theorem dX9_bits_4 : decode cX9_bits 4 = .ok (.iload_n 2, 1) := by decide +kernel
theorem dX9_bits_5 : decode cX9_bits 5 = .ok (.bipush 8, 2) := by decide +kernel
theorem dX9_bits_7 : decode cX9_bits 7 = .ok (.if_icmp .ge 17, 3) := by decide +kernel
theorem dX9_bits_10 : decode cX9_bits 10 = .ok (.iload_n 1, 1) := by decide +kernel
theorem dX9_bits_11 : decode cX9_bits 11 = .ok (.iload_n 0, 1) := by decide +kernel
theorem dX9_bits_12 : decode cX9_bits 12 = .ok (.iload_n 2, 1) := by decide +kernel
theorem dX9_bits_13 : decode cX9_bits 13 = .ok (.ishr, 1) := by decide +kernel
theorem dX9_bits_14 : decode cX9_bits 14 = .ok (.iconst 1, 1) := by decide +kernel
theorem dX9_bits_15 : decode cX9_bits 15 = .ok (.iand, 1) := by decide +kernel
theorem dX9_bits_16 : decode cX9_bits 16 = .ok (.iadd, 1) := by decide +kernel
theorem dX9_bits_17 : decode cX9_bits 17 = .ok (.istore_n 1, 1) := by decide +kernel
theorem dX9_bits_18 : decode cX9_bits 18 = .ok (.iinc 2 1, 3) := by decide +kernel
theorem dX9_bits_21 : decode cX9_bits 21 = .ok (.goto (-17), 3) := by decide +kernel
theorem dX9_bits_24 : decode cX9_bits 24 = .ok (.iload_n 1, 1) := by decide +kernel
theorem dX9_bits_25 : decode cX9_bits 25 = .ok (.ireturn, 1) := by decide +kernel
theorem dX9_isThere_0 : decode cX9_isThere 0 = .ok (.iload_n 1, 1) := by decide +kernel
theorem dX9_isThere_1 : decode cX9_isThere 1 = .ok (.iconst 0, 1) := by decide +kernel
theorem dX9_isThere_2 : decode cX9_isThere 2 = .ok (.bipush 7, 2) := by decide +kernel
theorem dX9_isThere_4 : decode cX9_isThere 4 = .ok (.invokestatic 75, 3) := by decide +kernel
theorem dX9_isThere_7 : decode cX9_isThere 7 = .ok (.ifCond .eq 18, 3) := by decide +kernel
theorem dX9_isThere_10 : decode cX9_isThere 10 = .ok (.aload_n 0, 1) := by decide +kernel
theorem dX9_isThere_11 : decode cX9_isThere 11 = .ok (.getfield 72, 3) := by decide +kernel
theorem dX9_isThere_14 : decode cX9_isThere 14 = .ok (.iload_n 1, 1) := by decide +kernel
theorem dX9_isThere_15 : decode cX9_isThere 15 = .ok (.invokestatic 79, 3) := by decide +kernel
theorem dX9_isThere_18 : decode cX9_isThere 18 = .ok (.ifCond .eq 7, 3) := by decide +kernel
theorem dX9_isThere_21 : decode cX9_isThere 21 = .ok (.iconst 1, 1) := by decide +kernel
theorem dX9_isThere_22 : decode cX9_isThere 22 = .ok (.goto 4, 3) := by decide +kernel
theorem dX9_isThere_25 : decode cX9_isThere 25 = .ok (.iconst 0, 1) := by decide +kernel
theorem dX9_isThere_26 : decode cX9_isThere 26 = .ok (.ireturn, 1) := by decide +kernel
theorem dX9_church_0 : decode cX9_church 0 = .ok (.iload_n 1, 1) := by decide +kernel
theorem dX9_church_1 : decode cX9_church 1 = .ok (.iconst 1, 1) := by decide +kernel
theorem dX9_church_2 : decode cX9_church 2 = .ok (.iconst 3, 1) := by decide +kernel
theorem dX9_church_3 : decode cX9_church 3 = .ok (.invokestatic 75, 3) := by decide +kernel
theorem dX9_church_6 : decode cX9_church 6 = .ok (.ifCond .ne 6, 3) := by decide +kernel
theorem dX9_church_9 : decode cX9_church 9 = .ok (.bipush (-2), 2) := by decide +kernel
theorem dX9_church_11 : decode cX9_church 11 = .ok (.ireturn, 1) := by decide +kernel
theorem dX9_church_12 : decode cX9_church 12 = .ok (.aload_n 0, 1) := by decide +kernel
theorem dX9_church_13 : decode cX9_church 13 = .ok (.getfield 7, 3) := by decide +kernel
theorem dX9_church_16 : decode cX9_church 16 = .ok (.istore_n 2, 1) := by decide +kernel
theorem dX9_church_17 : decode cX9_church 17 = .ok (.aload_n 0, 1) := by decide +kernel
theorem dX9_church_18 : decode cX9_church 18 = .ok (.iload_n 1, 1) := by decide +kernel
theorem dX9_church_19 : decode cX9_church 19 = .ok (.putfield 7, 3) := by decide +kernel
theorem dX9_church_22 : decode cX9_church 22 = .ok (.aload_n 0, 1) := by decide +kernel
theorem dX9_church_23 : decode cX9_church 23 = .ok (.iconst 0, 1) := by decide +kernel
theorem dX9_church_24 : decode cX9_church 24 = .ok (.putfield 72, 3) := by decide +kernel
theorem dX9_church_27 : decode cX9_church 27 = .ok (.aload_n 0, 1) := by decide +kernel
theorem dX9_church_28 : decode cX9_church 28 = .ok (.iconst 0, 1) := by decide +kernel
theorem dX9_church_29 : decode cX9_church 29 = .ok (.putfield 83, 3) := by decide +kernel
theorem dX9_church_32 : decode cX9_church 32 = .ok (.aload_n 0, 1) := by decide +kernel
theorem dX9_church_33 : decode cX9_church 33 = .ok (.iconst 0, 1) := by decide +kernel
theorem dX9_church_34 : decode cX9_church 34 = .ok (.putfield 86, 3) := by decide +kernel
theorem dX9_church_37 : decode cX9_church 37 = .ok (.aload_n 0, 1) := by decide +kernel
theorem dX9_church_38 : decode cX9_church 38 = .ok (.iconst 0, 1) := by decide +kernel
theorem dX9_church_39 : decode cX9_church 39 = .ok (.putfield 89, 3) := by decide +kernel
theorem dX9_church_42 : decode cX9_church 42 = .ok (.iload_n 2, 1) := by decide +kernel
theorem dX9_church_43 : decode cX9_church 43 = .ok (.ireturn, 1) := by decide +kernel
theorem dX9_whoSits_0 : decode cX9_whoSits 0 = .ok (.bipush (-6), 2) := by decide +kernel
theorem dX9_whoSits_2 : decode cX9_whoSits 2 = .ok (.istore_n 2, 1) := by decide +kernel
theorem dX9_whoSits_3 : decode cX9_whoSits 3 = .ok (.iconst 0, 1) := by decide +kernel
theorem dX9_whoSits_4 : decode cX9_whoSits 4 = .ok (.istore_n 3, 1) := by decide +kernel
theorem dX9_whoSits_5 : decode cX9_whoSits 5 = .ok (.iload_n 3, 1) := by decide +kernel
theorem dX9_whoSits_6 : decode cX9_whoSits 6 = .ok (.bipush 8, 2) := by decide +kernel
theorem dX9_whoSits_8 : decode cX9_whoSits 8 = .ok (.if_icmp .ge 36, 3) := by decide +kernel
theorem dX9_whoSits_11 : decode cX9_whoSits 11 = .ok (.aload_n 0, 1) := by decide +kernel
theorem dX9_whoSits_12 : decode cX9_whoSits 12 = .ok (.getfield 72, 3) := by decide +kernel
theorem dX9_whoSits_15 : decode cX9_whoSits 15 = .ok (.iload_n 3, 1) := by decide +kernel
theorem dX9_whoSits_16 : decode cX9_whoSits 16 = .ok (.invokestatic 79, 3) := by decide +kernel
theorem dX9_whoSits_19 : decode cX9_whoSits 19 = .ok (.ifCond .eq 17, 3) := by decide +kernel
theorem dX9_whoSits_22 : decode cX9_whoSits 22 = .ok (.aload_n 0, 1) := by decide +kernel
theorem dX9_whoSits_23 : decode cX9_whoSits 23 = .ok (.getfield 13, 3) := by decide +kernel
theorem dX9_whoSits_26 : decode cX9_whoSits 26 = .ok (.iload_n 3, 1) := by decide +kernel
theorem dX9_whoSits_27 : decode cX9_whoSits 27 = .ok (.iaload, 1) := by decide +kernel
theorem dX9_whoSits_28 : decode cX9_whoSits 28 = .ok (.iload_n 1, 1) := by decide +kernel
theorem dX9_whoSits_29 : decode cX9_whoSits 29 = .ok (.if_icmp .ne 7, 3) := by decide +kernel
theorem dX9_whoSits_32 : decode cX9_whoSits 32 = .ok (.iload_n 3, 1) := by decide +kernel
theorem dX9_whoSits_33 : decode cX9_whoSits 33 = .ok (.goto 4, 3) := by decide +kernel
theorem dX9_whoSits_36 : decode cX9_whoSits 36 = .ok (.iload_n 2, 1) := by decide +kernel
theorem dX9_whoSits_37 : decode cX9_whoSits 37 = .ok (.istore_n 2, 1) := by decide +kernel
theorem dX9_whoSits_38 : decode cX9_whoSits 38 = .ok (.iinc 3 1, 3) := by decide +kernel
theorem dX9_whoSits_41 : decode cX9_whoSits 41 = .ok (.goto (-36), 3) := by decide +kernel
theorem dX9_whoSits_44 : decode cX9_whoSits 44 = .ok (.iload_n 2, 1) := by decide +kernel
theorem dX9_whoSits_45 : decode cX9_whoSits 45 = .ok (.ireturn, 1) := by decide +kernel
theorem dX9_hearer_0 : decode cX9_hearer 0 = .ok (.iload_n 1, 1) := by decide +kernel
theorem dX9_hearer_1 : decode cX9_hearer 1 = .ok (.iconst 0, 1) := by decide +kernel
theorem dX9_hearer_2 : decode cX9_hearer 2 = .ok (.bipush 7, 2) := by decide +kernel
theorem dX9_hearer_4 : decode cX9_hearer 4 = .ok (.invokestatic 75, 3) := by decide +kernel
theorem dX9_hearer_7 : decode cX9_hearer 7 = .ok (.ifCond .eq 19, 3) := by decide +kernel
theorem dX9_hearer_10 : decode cX9_hearer 10 = .ok (.iload_n 2, 1) := by decide +kernel
theorem dX9_hearer_11 : decode cX9_hearer 11 = .ok (.iconst 0, 1) := by decide +kernel
theorem dX9_hearer_12 : decode cX9_hearer 12 = .ok (.iconst 4, 1) := by decide +kernel
theorem dX9_hearer_13 : decode cX9_hearer 13 = .ok (.aload_n 0, 1) := by decide +kernel
theorem dX9_hearer_14 : decode cX9_hearer 14 = .ok (.getfield 7, 3) := by decide +kernel
theorem dX9_hearer_17 : decode cX9_hearer 17 = .ok (.imul, 1) := by decide +kernel
theorem dX9_hearer_18 : decode cX9_hearer 18 = .ok (.iconst 1, 1) := by decide +kernel
theorem dX9_hearer_19 : decode cX9_hearer 19 = .ok (.isub, 1) := by decide +kernel
theorem dX9_hearer_20 : decode cX9_hearer 20 = .ok (.invokestatic 75, 3) := by decide +kernel
theorem dX9_hearer_23 : decode cX9_hearer 23 = .ok (.ifCond .ne 5, 3) := by decide +kernel
theorem dX9_hearer_26 : decode cX9_hearer 26 = .ok (.iconst (-1), 1) := by decide +kernel
theorem dX9_hearer_27 : decode cX9_hearer 27 = .ok (.ireturn, 1) := by decide +kernel
theorem dX9_hearer_28 : decode cX9_hearer 28 = .ok (.iload_n 3, 1) := by decide +kernel
theorem dX9_hearer_29 : decode cX9_hearer 29 = .ok (.iconst 0, 1) := by decide +kernel
theorem dX9_hearer_30 : decode cX9_hearer 30 = .ok (.bipush 20, 2) := by decide +kernel
theorem dX9_hearer_32 : decode cX9_hearer 32 = .ok (.invokestatic 75, 3) := by decide +kernel
theorem dX9_hearer_35 : decode cX9_hearer 35 = .ok (.ifCond .eq 23, 3) := by decide +kernel
theorem dX9_hearer_38 : decode cX9_hearer 38 = .ok (.iload 4, 2) := by decide +kernel
theorem dX9_hearer_40 : decode cX9_hearer 40 = .ok (.iconst 0, 1) := by decide +kernel
theorem dX9_hearer_41 : decode cX9_hearer 41 = .ok (.iconst 5, 1) := by decide +kernel
theorem dX9_hearer_42 : decode cX9_hearer 42 = .ok (.invokestatic 75, 3) := by decide +kernel
theorem dX9_hearer_45 : decode cX9_hearer 45 = .ok (.ifCond .eq 13, 3) := by decide +kernel
theorem dX9_hearer_48 : decode cX9_hearer 48 = .ok (.iload 5, 2) := by decide +kernel
theorem dX9_hearer_50 : decode cX9_hearer 50 = .ok (.iconst 0, 1) := by decide +kernel
theorem dX9_hearer_51 : decode cX9_hearer 51 = .ok (.iconst 1, 1) := by decide +kernel
theorem dX9_hearer_52 : decode cX9_hearer 52 = .ok (.invokestatic 75, 3) := by decide +kernel
theorem dX9_hearer_55 : decode cX9_hearer 55 = .ok (.ifCond .ne 6, 3) := by decide +kernel
theorem dX9_hearer_58 : decode cX9_hearer 58 = .ok (.bipush (-2), 2) := by decide +kernel
theorem dX9_hearer_60 : decode cX9_hearer 60 = .ok (.ireturn, 1) := by decide +kernel
theorem dX9_hearer_61 : decode cX9_hearer 61 = .ok (.aload_n 0, 1) := by decide +kernel
theorem dX9_hearer_62 : decode cX9_hearer 62 = .ok (.iload_n 2, 1) := by decide +kernel
theorem dX9_hearer_63 : decode cX9_hearer 63 = .ok (.invokevirtual 92, 3) := by decide +kernel
theorem dX9_hearer_66 : decode cX9_hearer 66 = .ok (.ifCond .lt 15, 3) := by decide +kernel
theorem dX9_hearer_69 : decode cX9_hearer 69 = .ok (.aload_n 0, 1) := by decide +kernel
theorem dX9_hearer_70 : decode cX9_hearer 70 = .ok (.iload_n 2, 1) := by decide +kernel
theorem dX9_hearer_71 : decode cX9_hearer 71 = .ok (.invokevirtual 92, 3) := by decide +kernel
theorem dX9_hearer_74 : decode cX9_hearer 74 = .ok (.iload_n 1, 1) := by decide +kernel
theorem dX9_hearer_75 : decode cX9_hearer 75 = .ok (.if_icmp .eq 6, 3) := by decide +kernel
theorem dX9_hearer_78 : decode cX9_hearer 78 = .ok (.bipush (-3), 2) := by decide +kernel
theorem dX9_hearer_80 : decode cX9_hearer 80 = .ok (.ireturn, 1) := by decide +kernel
theorem dX9_hearer_81 : decode cX9_hearer 81 = .ok (.aload_n 0, 1) := by decide +kernel
theorem dX9_hearer_82 : decode cX9_hearer 82 = .ok (.dup, 1) := by decide +kernel
theorem dX9_hearer_83 : decode cX9_hearer 83 = .ok (.getfield 72, 3) := by decide +kernel
theorem dX9_hearer_86 : decode cX9_hearer 86 = .ok (.iconst 1, 1) := by decide +kernel
theorem dX9_hearer_87 : decode cX9_hearer 87 = .ok (.iload_n 1, 1) := by decide +kernel
theorem dX9_hearer_88 : decode cX9_hearer 88 = .ok (.ishl, 1) := by decide +kernel
theorem dX9_hearer_89 : decode cX9_hearer 89 = .ok (.ior, 1) := by decide +kernel
theorem dX9_hearer_90 : decode cX9_hearer 90 = .ok (.putfield 72, 3) := by decide +kernel
theorem dX9_hearer_93 : decode cX9_hearer 93 = .ok (.aload_n 0, 1) := by decide +kernel
theorem dX9_hearer_94 : decode cX9_hearer 94 = .ok (.getfield 13, 3) := by decide +kernel
theorem dX9_hearer_97 : decode cX9_hearer 97 = .ok (.iload_n 1, 1) := by decide +kernel
theorem dX9_hearer_98 : decode cX9_hearer 98 = .ok (.iload_n 2, 1) := by decide +kernel
theorem dX9_hearer_99 : decode cX9_hearer 99 = .ok (.iastore, 1) := by decide +kernel
theorem dX9_hearer_100 : decode cX9_hearer 100 = .ok (.aload_n 0, 1) := by decide +kernel
theorem dX9_hearer_101 : decode cX9_hearer 101 = .ok (.getfield 17, 3) := by decide +kernel
theorem dX9_hearer_104 : decode cX9_hearer 104 = .ok (.iload_n 1, 1) := by decide +kernel
theorem dX9_hearer_105 : decode cX9_hearer 105 = .ok (.iload_n 3, 1) := by decide +kernel
theorem dX9_hearer_106 : decode cX9_hearer 106 = .ok (.iastore, 1) := by decide +kernel
theorem dX9_hearer_107 : decode cX9_hearer 107 = .ok (.aload_n 0, 1) := by decide +kernel
theorem dX9_hearer_108 : decode cX9_hearer 108 = .ok (.getfield 20, 3) := by decide +kernel
theorem dX9_hearer_111 : decode cX9_hearer 111 = .ok (.iload_n 1, 1) := by decide +kernel
theorem dX9_hearer_112 : decode cX9_hearer 112 = .ok (.iload 4, 2) := by decide +kernel
theorem dX9_hearer_114 : decode cX9_hearer 114 = .ok (.iastore, 1) := by decide +kernel
theorem dX9_hearer_115 : decode cX9_hearer 115 = .ok (.aload_n 0, 1) := by decide +kernel
theorem dX9_hearer_116 : decode cX9_hearer 116 = .ok (.getfield 23, 3) := by decide +kernel
theorem dX9_hearer_119 : decode cX9_hearer 119 = .ok (.iload_n 1, 1) := by decide +kernel
theorem dX9_hearer_120 : decode cX9_hearer 120 = .ok (.iload 5, 2) := by decide +kernel
theorem dX9_hearer_122 : decode cX9_hearer 122 = .ok (.iastore, 1) := by decide +kernel
theorem dX9_hearer_123 : decode cX9_hearer 123 = .ok (.aload_n 0, 1) := by decide +kernel
theorem dX9_hearer_124 : decode cX9_hearer 124 = .ok (.iload 6, 2) := by decide +kernel
theorem dX9_hearer_126 : decode cX9_hearer 126 = .ok (.ifCond .eq 14, 3) := by decide +kernel
theorem dX9_hearer_129 : decode cX9_hearer 129 = .ok (.aload_n 0, 1) := by decide +kernel
theorem dX9_hearer_130 : decode cX9_hearer 130 = .ok (.getfield 83, 3) := by decide +kernel
theorem dX9_hearer_133 : decode cX9_hearer 133 = .ok (.iconst 1, 1) := by decide +kernel
theorem dX9_hearer_134 : decode cX9_hearer 134 = .ok (.iload_n 1, 1) := by decide +kernel
theorem dX9_hearer_135 : decode cX9_hearer 135 = .ok (.ishl, 1) := by decide +kernel
theorem dX9_hearer_136 : decode cX9_hearer 136 = .ok (.ior, 1) := by decide +kernel
theorem dX9_hearer_137 : decode cX9_hearer 137 = .ok (.goto 13, 3) := by decide +kernel
theorem dX9_hearer_140 : decode cX9_hearer 140 = .ok (.aload_n 0, 1) := by decide +kernel
theorem dX9_hearer_141 : decode cX9_hearer 141 = .ok (.getfield 83, 3) := by decide +kernel
theorem dX9_hearer_144 : decode cX9_hearer 144 = .ok (.iconst 1, 1) := by decide +kernel
theorem dX9_hearer_145 : decode cX9_hearer 145 = .ok (.iload_n 1, 1) := by decide +kernel
theorem dX9_hearer_146 : decode cX9_hearer 146 = .ok (.ishl, 1) := by decide +kernel
theorem dX9_hearer_147 : decode cX9_hearer 147 = .ok (.iconst (-1), 1) := by decide +kernel
theorem dX9_hearer_148 : decode cX9_hearer 148 = .ok (.ixor, 1) := by decide +kernel
theorem dX9_hearer_149 : decode cX9_hearer 149 = .ok (.iand, 1) := by decide +kernel
end
section
theorem dX9_hearer_150 : decode cX9_hearer 150 = .ok (.putfield 83, 3) := by decide +kernel
theorem dX9_hearer_153 : decode cX9_hearer 153 = .ok (.aload_n 0, 1) := by decide +kernel
theorem dX9_hearer_154 : decode cX9_hearer 154 = .ok (.getfield 72, 3) := by decide +kernel
theorem dX9_hearer_157 : decode cX9_hearer 157 = .ok (.invokestatic 96, 3) := by decide +kernel
theorem dX9_hearer_160 : decode cX9_hearer 160 = .ok (.ireturn, 1) := by decide +kernel
theorem dX9_leave_0 : decode cX9_leave 0 = .ok (.aload_n 0, 1) := by decide +kernel
theorem dX9_leave_1 : decode cX9_leave 1 = .ok (.iload_n 1, 1) := by decide +kernel
theorem dX9_leave_2 : decode cX9_leave 2 = .ok (.invokevirtual 99, 3) := by decide +kernel
theorem dX9_leave_5 : decode cX9_leave 5 = .ok (.ifCond .ne 5, 3) := by decide +kernel
theorem dX9_leave_8 : decode cX9_leave 8 = .ok (.iconst (-1), 1) := by decide +kernel
theorem dX9_leave_9 : decode cX9_leave 9 = .ok (.ireturn, 1) := by decide +kernel
theorem dX9_leave_10 : decode cX9_leave 10 = .ok (.aload_n 0, 1) := by decide +kernel
theorem dX9_leave_11 : decode cX9_leave 11 = .ok (.dup, 1) := by decide +kernel
theorem dX9_leave_12 : decode cX9_leave 12 = .ok (.getfield 72, 3) := by decide +kernel
theorem dX9_leave_15 : decode cX9_leave 15 = .ok (.iconst 1, 1) := by decide +kernel
theorem dX9_leave_16 : decode cX9_leave 16 = .ok (.iload_n 1, 1) := by decide +kernel
theorem dX9_leave_17 : decode cX9_leave 17 = .ok (.ishl, 1) := by decide +kernel
theorem dX9_leave_18 : decode cX9_leave 18 = .ok (.iconst (-1), 1) := by decide +kernel
theorem dX9_leave_19 : decode cX9_leave 19 = .ok (.ixor, 1) := by decide +kernel
theorem dX9_leave_20 : decode cX9_leave 20 = .ok (.iand, 1) := by decide +kernel
theorem dX9_leave_21 : decode cX9_leave 21 = .ok (.putfield 72, 3) := by decide +kernel
theorem dX9_leave_24 : decode cX9_leave 24 = .ok (.aload_n 0, 1) := by decide +kernel
theorem dX9_leave_25 : decode cX9_leave 25 = .ok (.dup, 1) := by decide +kernel
theorem dX9_leave_26 : decode cX9_leave 26 = .ok (.getfield 83, 3) := by decide +kernel
theorem dX9_leave_29 : decode cX9_leave 29 = .ok (.iconst 1, 1) := by decide +kernel
theorem dX9_leave_30 : decode cX9_leave 30 = .ok (.iload_n 1, 1) := by decide +kernel
theorem dX9_leave_31 : decode cX9_leave 31 = .ok (.ishl, 1) := by decide +kernel
theorem dX9_leave_32 : decode cX9_leave 32 = .ok (.iconst (-1), 1) := by decide +kernel
theorem dX9_leave_33 : decode cX9_leave 33 = .ok (.ixor, 1) := by decide +kernel
theorem dX9_leave_34 : decode cX9_leave 34 = .ok (.iand, 1) := by decide +kernel
theorem dX9_leave_35 : decode cX9_leave 35 = .ok (.putfield 83, 3) := by decide +kernel
theorem dX9_leave_38 : decode cX9_leave 38 = .ok (.aload_n 0, 1) := by decide +kernel
theorem dX9_leave_39 : decode cX9_leave 39 = .ok (.getfield 72, 3) := by decide +kernel
theorem dX9_leave_42 : decode cX9_leave 42 = .ok (.invokestatic 96, 3) := by decide +kernel
theorem dX9_leave_45 : decode cX9_leave 45 = .ok (.ireturn, 1) := by decide +kernel
theorem dX9_set_0 : decode cX9_set 0 = .ok (.iload_n 1, 1) := by decide +kernel
theorem dX9_set_1 : decode cX9_set 1 = .ok (.ifCond .ne 13, 3) := by decide +kernel
theorem dX9_set_4 : decode cX9_set 4 = .ok (.iload_n 2, 1) := by decide +kernel
theorem dX9_set_5 : decode cX9_set 5 = .ok (.iconst 1, 1) := by decide +kernel
theorem dX9_set_6 : decode cX9_set 6 = .ok (.bipush 9, 2) := by decide +kernel
theorem dX9_set_8 : decode cX9_set 8 = .ok (.invokestatic 75, 3) := by decide +kernel
theorem dX9_set_11 : decode cX9_set 11 = .ok (.goto 37, 3) := by decide +kernel
theorem dX9_set_14 : decode cX9_set 14 = .ok (.iload_n 1, 1) := by decide +kernel
theorem dX9_set_15 : decode cX9_set 15 = .ok (.iconst 1, 1) := by decide +kernel
theorem dX9_set_16 : decode cX9_set 16 = .ok (.if_icmp .ne 13, 3) := by decide +kernel
theorem dX9_set_19 : decode cX9_set 19 = .ok (.iload_n 2, 1) := by decide +kernel
theorem dX9_set_20 : decode cX9_set 20 = .ok (.iconst 0, 1) := by decide +kernel
theorem dX9_set_21 : decode cX9_set 21 = .ok (.bipush 9, 2) := by decide +kernel
theorem dX9_set_23 : decode cX9_set 23 = .ok (.invokestatic 75, 3) := by decide +kernel
theorem dX9_set_26 : decode cX9_set 26 = .ok (.goto 22, 3) := by decide +kernel
theorem dX9_set_29 : decode cX9_set 29 = .ok (.iload_n 1, 1) := by decide +kernel
theorem dX9_set_30 : decode cX9_set 30 = .ok (.iconst 2, 1) := by decide +kernel
theorem dX9_set_31 : decode cX9_set 31 = .ok (.if_icmp .ne 16, 3) := by decide +kernel
theorem dX9_set_34 : decode cX9_set 34 = .ok (.iload_n 2, 1) := by decide +kernel
theorem dX9_set_35 : decode cX9_set 35 = .ok (.iconst 0, 1) := by decide +kernel
theorem dX9_set_36 : decode cX9_set 36 = .ok (.iconst 2, 1) := by decide +kernel
theorem dX9_set_37 : decode cX9_set 37 = .ok (.invokestatic 75, 3) := by decide +kernel
theorem dX9_set_40 : decode cX9_set 40 = .ok (.ifCond .eq 7, 3) := by decide +kernel
theorem dX9_set_43 : decode cX9_set 43 = .ok (.iconst 1, 1) := by decide +kernel
theorem dX9_set_44 : decode cX9_set 44 = .ok (.goto 4, 3) := by decide +kernel
theorem dX9_set_47 : decode cX9_set 47 = .ok (.iconst 0, 1) := by decide +kernel
theorem dX9_set_48 : decode cX9_set 48 = .ok (.istore_n 3, 1) := by decide +kernel
theorem dX9_set_49 : decode cX9_set 49 = .ok (.iload_n 3, 1) := by decide +kernel
theorem dX9_set_50 : decode cX9_set 50 = .ok (.ifCond .ne 6, 3) := by decide +kernel
theorem dX9_set_53 : decode cX9_set 53 = .ok (.bipush (-2), 2) := by decide +kernel
theorem dX9_set_55 : decode cX9_set 55 = .ok (.ireturn, 1) := by decide +kernel
theorem dX9_set_56 : decode cX9_set 56 = .ok (.iload_n 1, 1) := by decide +kernel
theorem dX9_set_57 : decode cX9_set 57 = .ok (.ifCond .ne 10, 3) := by decide +kernel
theorem dX9_set_60 : decode cX9_set 60 = .ok (.aload_n 0, 1) := by decide +kernel
theorem dX9_set_61 : decode cX9_set 61 = .ok (.getfield 26, 3) := by decide +kernel
theorem dX9_set_64 : decode cX9_set 64 = .ok (.goto 19, 3) := by decide +kernel
theorem dX9_set_67 : decode cX9_set 67 = .ok (.iload_n 1, 1) := by decide +kernel
theorem dX9_set_68 : decode cX9_set 68 = .ok (.iconst 1, 1) := by decide +kernel
theorem dX9_set_69 : decode cX9_set 69 = .ok (.if_icmp .ne 10, 3) := by decide +kernel
theorem dX9_set_72 : decode cX9_set 72 = .ok (.aload_n 0, 1) := by decide +kernel
theorem dX9_set_73 : decode cX9_set 73 = .ok (.getfield 29, 3) := by decide +kernel
theorem dX9_set_76 : decode cX9_set 76 = .ok (.goto 7, 3) := by decide +kernel
theorem dX9_set_79 : decode cX9_set 79 = .ok (.aload_n 0, 1) := by decide +kernel
theorem dX9_set_80 : decode cX9_set 80 = .ok (.getfield 89, 3) := by decide +kernel
theorem dX9_set_83 : decode cX9_set 83 = .ok (.istore 4, 2) := by decide +kernel
theorem dX9_set_85 : decode cX9_set 85 = .ok (.aload_n 0, 1) := by decide +kernel
theorem dX9_set_86 : decode cX9_set 86 = .ok (.iload_n 1, 1) := by decide +kernel
theorem dX9_set_87 : decode cX9_set 87 = .ok (.ifCond .ne 7, 3) := by decide +kernel
theorem dX9_set_90 : decode cX9_set 90 = .ok (.iload_n 2, 1) := by decide +kernel
theorem dX9_set_91 : decode cX9_set 91 = .ok (.goto 7, 3) := by decide +kernel
theorem dX9_set_94 : decode cX9_set 94 = .ok (.aload_n 0, 1) := by decide +kernel
theorem dX9_set_95 : decode cX9_set 95 = .ok (.getfield 26, 3) := by decide +kernel
theorem dX9_set_98 : decode cX9_set 98 = .ok (.putfield 26, 3) := by decide +kernel
theorem dX9_set_101 : decode cX9_set 101 = .ok (.aload_n 0, 1) := by decide +kernel
theorem dX9_set_102 : decode cX9_set 102 = .ok (.iload_n 1, 1) := by decide +kernel
theorem dX9_set_103 : decode cX9_set 103 = .ok (.iconst 1, 1) := by decide +kernel
theorem dX9_set_104 : decode cX9_set 104 = .ok (.if_icmp .ne 7, 3) := by decide +kernel
theorem dX9_set_107 : decode cX9_set 107 = .ok (.iload_n 2, 1) := by decide +kernel
theorem dX9_set_108 : decode cX9_set 108 = .ok (.goto 7, 3) := by decide +kernel
theorem dX9_set_111 : decode cX9_set 111 = .ok (.aload_n 0, 1) := by decide +kernel
theorem dX9_set_112 : decode cX9_set 112 = .ok (.getfield 29, 3) := by decide +kernel
theorem dX9_set_115 : decode cX9_set 115 = .ok (.putfield 29, 3) := by decide +kernel
theorem dX9_set_118 : decode cX9_set 118 = .ok (.aload_n 0, 1) := by decide +kernel
theorem dX9_set_119 : decode cX9_set 119 = .ok (.iload_n 1, 1) := by decide +kernel
theorem dX9_set_120 : decode cX9_set 120 = .ok (.iconst 2, 1) := by decide +kernel
theorem dX9_set_121 : decode cX9_set 121 = .ok (.if_icmp .ne 7, 3) := by decide +kernel
theorem dX9_set_124 : decode cX9_set 124 = .ok (.iload_n 2, 1) := by decide +kernel
theorem dX9_set_125 : decode cX9_set 125 = .ok (.goto 7, 3) := by decide +kernel
theorem dX9_set_128 : decode cX9_set 128 = .ok (.aload_n 0, 1) := by decide +kernel
theorem dX9_set_129 : decode cX9_set 129 = .ok (.getfield 89, 3) := by decide +kernel
theorem dX9_set_132 : decode cX9_set 132 = .ok (.putfield 89, 3) := by decide +kernel
theorem dX9_set_135 : decode cX9_set 135 = .ok (.iload 4, 2) := by decide +kernel
theorem dX9_set_137 : decode cX9_set 137 = .ok (.ireturn, 1) := by decide +kernel
theorem dX9_say_0 : decode cX9_say 0 = .ok (.iload_n 1, 1) := by decide +kernel
theorem dX9_say_1 : decode cX9_say 1 = .ok (.bipush 33, 2) := by decide +kernel
theorem dX9_say_3 : decode cX9_say 3 = .ok (.bipush 126, 2) := by decide +kernel
theorem dX9_say_5 : decode cX9_say 5 = .ok (.invokestatic 75, 3) := by decide +kernel
theorem dX9_say_8 : decode cX9_say 8 = .ok (.ifCond .ne 6, 3) := by decide +kernel
theorem dX9_say_11 : decode cX9_say 11 = .ok (.bipush (-2), 2) := by decide +kernel
theorem dX9_say_13 : decode cX9_say 13 = .ok (.ireturn, 1) := by decide +kernel
theorem dX9_say_14 : decode cX9_say 14 = .ok (.aload_n 0, 1) := by decide +kernel
theorem dX9_say_15 : decode cX9_say 15 = .ok (.getfield 103, 3) := by decide +kernel
theorem dX9_say_18 : decode cX9_say 18 = .ok (.bipush 60, 2) := by decide +kernel
theorem dX9_say_20 : decode cX9_say 20 = .ok (.if_icmp .ne 6, 3) := by decide +kernel
theorem dX9_say_23 : decode cX9_say 23 = .ok (.bipush (-4), 2) := by decide +kernel
theorem dX9_say_25 : decode cX9_say 25 = .ok (.ireturn, 1) := by decide +kernel
theorem dX9_say_26 : decode cX9_say 26 = .ok (.aload_n 0, 1) := by decide +kernel
theorem dX9_say_27 : decode cX9_say 27 = .ok (.getfield 35, 3) := by decide +kernel
theorem dX9_say_30 : decode cX9_say 30 = .ok (.aload_n 0, 1) := by decide +kernel
theorem dX9_say_31 : decode cX9_say 31 = .ok (.getfield 103, 3) := by decide +kernel
theorem dX9_say_34 : decode cX9_say 34 = .ok (.iload_n 1, 1) := by decide +kernel
theorem dX9_say_35 : decode cX9_say 35 = .ok (.iastore, 1) := by decide +kernel
theorem dX9_say_36 : decode cX9_say 36 = .ok (.aload_n 0, 1) := by decide +kernel
theorem dX9_say_37 : decode cX9_say 37 = .ok (.dup, 1) := by decide +kernel
theorem dX9_say_38 : decode cX9_say 38 = .ok (.getfield 103, 3) := by decide +kernel
theorem dX9_say_41 : decode cX9_say 41 = .ok (.iconst 1, 1) := by decide +kernel
theorem dX9_say_42 : decode cX9_say 42 = .ok (.iadd, 1) := by decide +kernel
theorem dX9_say_43 : decode cX9_say 43 = .ok (.putfield 103, 3) := by decide +kernel
theorem dX9_say_46 : decode cX9_say 46 = .ok (.aload_n 0, 1) := by decide +kernel
theorem dX9_say_47 : decode cX9_say 47 = .ok (.getfield 103, 3) := by decide +kernel
theorem dX9_say_50 : decode cX9_say 50 = .ok (.ireturn, 1) := by decide +kernel
theorem dX9_wipe_0 : decode cX9_wipe 0 = .ok (.aload_n 0, 1) := by decide +kernel
theorem dX9_wipe_1 : decode cX9_wipe 1 = .ok (.getfield 103, 3) := by decide +kernel
theorem dX9_wipe_4 : decode cX9_wipe 4 = .ok (.istore_n 1, 1) := by decide +kernel
theorem dX9_wipe_5 : decode cX9_wipe 5 = .ok (.aload_n 0, 1) := by decide +kernel
theorem dX9_wipe_6 : decode cX9_wipe 6 = .ok (.iconst 0, 1) := by decide +kernel
theorem dX9_wipe_7 : decode cX9_wipe 7 = .ok (.putfield 103, 3) := by decide +kernel
theorem dX9_wipe_10 : decode cX9_wipe 10 = .ok (.iload_n 1, 1) := by decide +kernel
theorem dX9_wipe_11 : decode cX9_wipe 11 = .ok (.ireturn, 1) := by decide +kernel
theorem dX9_isSign_0 : decode cX9_isSign 0 = .ok (.iload_n 0, 1) := by decide +kernel
theorem dX9_isSign_1 : decode cX9_isSign 1 = .ok (.bipush 119, 2) := by decide +kernel
theorem dX9_isSign_3 : decode cX9_isSign 3 = .ok (.if_icmp .eq 39, 3) := by decide +kernel
theorem dX9_isSign_6 : decode cX9_isSign 6 = .ok (.iload_n 0, 1) := by decide +kernel
theorem dX9_isSign_7 : decode cX9_isSign 7 = .ok (.bipush 104, 2) := by decide +kernel
theorem dX9_isSign_9 : decode cX9_isSign 9 = .ok (.if_icmp .eq 33, 3) := by decide +kernel
theorem dX9_isSign_12 : decode cX9_isSign 12 = .ok (.iload_n 0, 1) := by decide +kernel
theorem dX9_isSign_13 : decode cX9_isSign 13 = .ok (.bipush 111, 2) := by decide +kernel
theorem dX9_isSign_15 : decode cX9_isSign 15 = .ok (.if_icmp .eq 27, 3) := by decide +kernel
theorem dX9_isSign_18 : decode cX9_isSign 18 = .ok (.iload_n 0, 1) := by decide +kernel
theorem dX9_isSign_19 : decode cX9_isSign 19 = .ok (.bipush 110, 2) := by decide +kernel
theorem dX9_isSign_21 : decode cX9_isSign 21 = .ok (.if_icmp .eq 21, 3) := by decide +kernel
theorem dX9_isSign_24 : decode cX9_isSign 24 = .ok (.iload_n 0, 1) := by decide +kernel
theorem dX9_isSign_25 : decode cX9_isSign 25 = .ok (.bipush 99, 2) := by decide +kernel
theorem dX9_isSign_27 : decode cX9_isSign 27 = .ok (.if_icmp .eq 15, 3) := by decide +kernel
theorem dX9_isSign_30 : decode cX9_isSign 30 = .ok (.iload_n 0, 1) := by decide +kernel
theorem dX9_isSign_31 : decode cX9_isSign 31 = .ok (.bipush 115, 2) := by decide +kernel
theorem dX9_isSign_33 : decode cX9_isSign 33 = .ok (.if_icmp .eq 9, 3) := by decide +kernel
theorem dX9_isSign_36 : decode cX9_isSign 36 = .ok (.iload_n 0, 1) := by decide +kernel
theorem dX9_isSign_37 : decode cX9_isSign 37 = .ok (.bipush 126, 2) := by decide +kernel
theorem dX9_isSign_39 : decode cX9_isSign 39 = .ok (.if_icmp .ne 7, 3) := by decide +kernel
theorem dX9_isSign_42 : decode cX9_isSign 42 = .ok (.iconst 1, 1) := by decide +kernel
theorem dX9_isSign_43 : decode cX9_isSign 43 = .ok (.goto 4, 3) := by decide +kernel
theorem dX9_isSign_46 : decode cX9_isSign 46 = .ok (.iconst 0, 1) := by decide +kernel
theorem dX9_isSign_47 : decode cX9_isSign 47 = .ok (.ireturn, 1) := by decide +kernel
theorem dX9_faultOf_0 : decode cX9_faultOf 0 = .ok (.iconst 0, 1) := by decide +kernel
theorem dX9_faultOf_1 : decode cX9_faultOf 1 = .ok (.istore_n 1, 1) := by decide +kernel
theorem dX9_faultOf_2 : decode cX9_faultOf 2 = .ok (.iload_n 1, 1) := by decide +kernel
theorem dX9_faultOf_3 : decode cX9_faultOf 3 = .ok (.aload_n 0, 1) := by decide +kernel
theorem dX9_faultOf_4 : decode cX9_faultOf 4 = .ok (.getfield 103, 3) := by decide +kernel
theorem dX9_faultOf_7 : decode cX9_faultOf 7 = .ok (.if_icmp .ge 23, 3) := by decide +kernel
theorem dX9_faultOf_10 : decode cX9_faultOf 10 = .ok (.aload_n 0, 1) := by decide +kernel
theorem dX9_faultOf_11 : decode cX9_faultOf 11 = .ok (.getfield 35, 3) := by decide +kernel
theorem dX9_faultOf_14 : decode cX9_faultOf 14 = .ok (.iload_n 1, 1) := by decide +kernel
theorem dX9_faultOf_15 : decode cX9_faultOf 15 = .ok (.iaload, 1) := by decide +kernel
theorem dX9_faultOf_16 : decode cX9_faultOf 16 = .ok (.invokestatic 106, 3) := by decide +kernel
theorem dX9_faultOf_19 : decode cX9_faultOf 19 = .ok (.ifCond .ne 5, 3) := by decide +kernel
theorem dX9_faultOf_22 : decode cX9_faultOf 22 = .ok (.iload_n 1, 1) := by decide +kernel
theorem dX9_faultOf_23 : decode cX9_faultOf 23 = .ok (.ireturn, 1) := by decide +kernel
theorem dX9_faultOf_24 : decode cX9_faultOf 24 = .ok (.iinc 1 1, 3) := by decide +kernel
theorem dX9_faultOf_27 : decode cX9_faultOf 27 = .ok (.goto (-25), 3) := by decide +kernel
theorem dX9_faultOf_30 : decode cX9_faultOf 30 = .ok (.bipush (-6), 2) := by decide +kernel
theorem dX9_faultOf_32 : decode cX9_faultOf 32 = .ok (.ireturn, 1) := by decide +kernel
theorem dX9_fault_0 : decode cX9_fault 0 = .ok (.aload_n 0, 1) := by decide +kernel
theorem dX9_fault_1 : decode cX9_fault 1 = .ok (.invokevirtual 109, 3) := by decide +kernel
theorem dX9_fault_4 : decode cX9_fault 4 = .ok (.ireturn, 1) := by decide +kernel
theorem dX9_lay_0 : decode cX9_lay 0 = .ok (.aload_n 0, 1) := by decide +kernel
theorem dX9_lay_1 : decode cX9_lay 1 = .ok (.aload_n 0, 1) := by decide +kernel
theorem dX9_lay_2 : decode cX9_lay 2 = .ok (.getfield 103, 3) := by decide +kernel
theorem dX9_lay_5 : decode cX9_lay 5 = .ok (.putfield 113, 3) := by decide +kernel
theorem dX9_lay_8 : decode cX9_lay 8 = .ok (.iconst 0, 1) := by decide +kernel
theorem dX9_lay_9 : decode cX9_lay 9 = .ok (.istore_n 1, 1) := by decide +kernel
theorem dX9_lay_10 : decode cX9_lay 10 = .ok (.iload_n 1, 1) := by decide +kernel
theorem dX9_lay_11 : decode cX9_lay 11 = .ok (.aload_n 0, 1) := by decide +kernel
theorem dX9_lay_12 : decode cX9_lay 12 = .ok (.getfield 103, 3) := by decide +kernel
theorem dX9_lay_15 : decode cX9_lay 15 = .ok (.if_icmp .ge 21, 3) := by decide +kernel
theorem dX9_lay_18 : decode cX9_lay 18 = .ok (.aload_n 0, 1) := by decide +kernel
theorem dX9_lay_19 : decode cX9_lay 19 = .ok (.getfield 38, 3) := by decide +kernel
theorem dX9_lay_22 : decode cX9_lay 22 = .ok (.iload_n 1, 1) := by decide +kernel
theorem dX9_lay_23 : decode cX9_lay 23 = .ok (.aload_n 0, 1) := by decide +kernel
theorem dX9_lay_24 : decode cX9_lay 24 = .ok (.getfield 35, 3) := by decide +kernel
theorem dX9_lay_27 : decode cX9_lay 27 = .ok (.iload_n 1, 1) := by decide +kernel
theorem dX9_lay_28 : decode cX9_lay 28 = .ok (.iaload, 1) := by decide +kernel
theorem dX9_lay_29 : decode cX9_lay 29 = .ok (.iastore, 1) := by decide +kernel
theorem dX9_lay_30 : decode cX9_lay 30 = .ok (.iinc 1 1, 3) := by decide +kernel
theorem dX9_lay_33 : decode cX9_lay 33 = .ok (.goto (-23), 3) := by decide +kernel
theorem dX9_lay_36 : decode cX9_lay 36 = .ok (.iconst 0, 1) := by decide +kernel
theorem dX9_lay_37 : decode cX9_lay 37 = .ok (.istore_n 1, 1) := by decide +kernel
theorem dX9_lay_38 : decode cX9_lay 38 = .ok (.iload_n 1, 1) := by decide +kernel
theorem dX9_lay_39 : decode cX9_lay 39 = .ok (.bipush 8, 2) := by decide +kernel
theorem dX9_lay_41 : decode cX9_lay 41 = .ok (.if_icmp .ge 21, 3) := by decide +kernel
theorem dX9_lay_44 : decode cX9_lay 44 = .ok (.aload_n 0, 1) := by decide +kernel
theorem dX9_lay_45 : decode cX9_lay 45 = .ok (.getfield 41, 3) := by decide +kernel
theorem dX9_lay_48 : decode cX9_lay 48 = .ok (.iload_n 1, 1) := by decide +kernel
theorem dX9_lay_49 : decode cX9_lay 49 = .ok (.aload_n 0, 1) := by decide +kernel
theorem dX9_lay_50 : decode cX9_lay 50 = .ok (.getfield 13, 3) := by decide +kernel
theorem dX9_lay_53 : decode cX9_lay 53 = .ok (.iload_n 1, 1) := by decide +kernel
theorem dX9_lay_54 : decode cX9_lay 54 = .ok (.iaload, 1) := by decide +kernel
theorem dX9_lay_55 : decode cX9_lay 55 = .ok (.iastore, 1) := by decide +kernel
theorem dX9_lay_56 : decode cX9_lay 56 = .ok (.iinc 1 1, 3) := by decide +kernel
theorem dX9_lay_59 : decode cX9_lay 59 = .ok (.goto (-21), 3) := by decide +kernel
theorem dX9_lay_62 : decode cX9_lay 62 = .ok (.aload_n 0, 1) := by decide +kernel
theorem dX9_lay_63 : decode cX9_lay 63 = .ok (.aload_n 0, 1) := by decide +kernel
theorem dX9_lay_64 : decode cX9_lay 64 = .ok (.getfield 83, 3) := by decide +kernel
theorem dX9_lay_67 : decode cX9_lay 67 = .ok (.putfield 116, 3) := by decide +kernel
theorem dX9_lay_70 : decode cX9_lay 70 = .ok (.aload_n 0, 1) := by decide +kernel
theorem dX9_lay_71 : decode cX9_lay 71 = .ok (.aload_n 0, 1) := by decide +kernel
theorem dX9_lay_72 : decode cX9_lay 72 = .ok (.getfield 29, 3) := by decide +kernel
theorem dX9_lay_75 : decode cX9_lay 75 = .ok (.putfield 119, 3) := by decide +kernel
theorem dX9_lay_78 : decode cX9_lay 78 = .ok (.aload_n 0, 1) := by decide +kernel
theorem dX9_lay_79 : decode cX9_lay 79 = .ok (.iconst 0, 1) := by decide +kernel
theorem dX9_lay_80 : decode cX9_lay 80 = .ok (.putfield 122, 3) := by decide +kernel
theorem dX9_lay_83 : decode cX9_lay 83 = .ok (.return_, 1) := by decide +kernel
theorem dX9_beside_0 : decode cX9_beside 0 = .ok (.aload_n 0, 1) := by decide +kernel
theorem dX9_beside_1 : decode cX9_beside 1 = .ok (.getfield 41, 3) := by decide +kernel
theorem dX9_beside_4 : decode cX9_beside 4 = .ok (.iload_n 1, 1) := by decide +kernel
theorem dX9_beside_5 : decode cX9_beside 5 = .ok (.iaload, 1) := by decide +kernel
theorem dX9_beside_6 : decode cX9_beside 6 = .ok (.iload_n 2, 1) := by decide +kernel
theorem dX9_beside_7 : decode cX9_beside 7 = .ok (.iadd, 1) := by decide +kernel
theorem dX9_beside_8 : decode cX9_beside 8 = .ok (.istore_n 3, 1) := by decide +kernel
theorem dX9_beside_9 : decode cX9_beside 9 = .ok (.bipush (-6), 2) := by decide +kernel
theorem dX9_beside_11 : decode cX9_beside 11 = .ok (.istore 4, 2) := by decide +kernel
theorem dX9_beside_13 : decode cX9_beside 13 = .ok (.iconst 0, 1) := by decide +kernel
theorem dX9_beside_14 : decode cX9_beside 14 = .ok (.istore 5, 2) := by decide +kernel
theorem dX9_beside_16 : decode cX9_beside 16 = .ok (.iload 5, 2) := by decide +kernel
theorem dX9_beside_18 : decode cX9_beside 18 = .ok (.bipush 8, 2) := by decide +kernel
theorem dX9_beside_20 : decode cX9_beside 20 = .ok (.if_icmp .ge 65, 3) := by decide +kernel
theorem dX9_beside_23 : decode cX9_beside 23 = .ok (.aload_n 0, 1) := by decide +kernel
theorem dX9_beside_24 : decode cX9_beside 24 = .ok (.getfield 72, 3) := by decide +kernel
theorem dX9_beside_27 : decode cX9_beside 27 = .ok (.iload 5, 2) := by decide +kernel
theorem dX9_beside_29 : decode cX9_beside 29 = .ok (.invokestatic 79, 3) := by decide +kernel
theorem dX9_beside_32 : decode cX9_beside 32 = .ok (.ifCond .eq 43, 3) := by decide +kernel
theorem dX9_beside_35 : decode cX9_beside 35 = .ok (.aload_n 0, 1) := by decide +kernel
theorem dX9_beside_36 : decode cX9_beside 36 = .ok (.getfield 41, 3) := by decide +kernel
theorem dX9_beside_39 : decode cX9_beside 39 = .ok (.iload 5, 2) := by decide +kernel
theorem dX9_beside_41 : decode cX9_beside 41 = .ok (.iaload, 1) := by decide +kernel
theorem dX9_beside_42 : decode cX9_beside 42 = .ok (.iload_n 3, 1) := by decide +kernel
theorem dX9_beside_43 : decode cX9_beside 43 = .ok (.if_icmp .ne 32, 3) := by decide +kernel
theorem dX9_beside_46 : decode cX9_beside 46 = .ok (.iload_n 3, 1) := by decide +kernel
theorem dX9_beside_47 : decode cX9_beside 47 = .ok (.iconst 0, 1) := by decide +kernel
theorem dX9_beside_48 : decode cX9_beside 48 = .ok (.bipush 11, 2) := by decide +kernel
theorem dX9_beside_50 : decode cX9_beside 50 = .ok (.invokestatic 75, 3) := by decide +kernel
theorem dX9_beside_53 : decode cX9_beside 53 = .ok (.ifCond .eq 22, 3) := by decide +kernel
theorem dX9_beside_56 : decode cX9_beside 56 = .ok (.iload_n 3, 1) := by decide +kernel
theorem dX9_beside_57 : decode cX9_beside 57 = .ok (.iconst 4, 1) := by decide +kernel
theorem dX9_beside_58 : decode cX9_beside 58 = .ok (.idiv, 1) := by decide +kernel
theorem dX9_beside_59 : decode cX9_beside 59 = .ok (.aload_n 0, 1) := by decide +kernel
theorem dX9_beside_60 : decode cX9_beside 60 = .ok (.getfield 41, 3) := by decide +kernel
theorem dX9_beside_63 : decode cX9_beside 63 = .ok (.iload_n 1, 1) := by decide +kernel
theorem dX9_beside_64 : decode cX9_beside 64 = .ok (.iaload, 1) := by decide +kernel
theorem dX9_beside_65 : decode cX9_beside 65 = .ok (.iconst 4, 1) := by decide +kernel
theorem dX9_beside_66 : decode cX9_beside 66 = .ok (.idiv, 1) := by decide +kernel
theorem dX9_beside_67 : decode cX9_beside 67 = .ok (.if_icmp .ne 8, 3) := by decide +kernel
theorem dX9_beside_70 : decode cX9_beside 70 = .ok (.iload 5, 2) := by decide +kernel
theorem dX9_beside_72 : decode cX9_beside 72 = .ok (.goto 5, 3) := by decide +kernel
theorem dX9_beside_75 : decode cX9_beside 75 = .ok (.iload 4, 2) := by decide +kernel
theorem dX9_beside_77 : decode cX9_beside 77 = .ok (.istore 4, 2) := by decide +kernel
theorem dX9_beside_79 : decode cX9_beside 79 = .ok (.iinc 5 1, 3) := by decide +kernel
theorem dX9_beside_82 : decode cX9_beside 82 = .ok (.goto (-66), 3) := by decide +kernel
theorem dX9_beside_85 : decode cX9_beside 85 = .ok (.iload 4, 2) := by decide +kernel
theorem dX9_beside_87 : decode cX9_beside 87 = .ok (.ireturn, 1) := by decide +kernel
theorem dX9_turn_0 : decode cX9_turn 0 = .ok (.aload_n 0, 1) := by decide +kernel
theorem dX9_turn_1 : decode cX9_turn 1 = .ok (.getfield 72, 3) := by decide +kernel
theorem dX9_turn_4 : decode cX9_turn 4 = .ok (.invokestatic 96, 3) := by decide +kernel
theorem dX9_turn_7 : decode cX9_turn 7 = .ok (.istore_n 2, 1) := by decide +kernel
theorem dX9_turn_8 : decode cX9_turn 8 = .ok (.iload_n 2, 1) := by decide +kernel
theorem dX9_turn_9 : decode cX9_turn 9 = .ok (.ifCond .ne 7, 3) := by decide +kernel
theorem dX9_turn_12 : decode cX9_turn 12 = .ok (.iconst 0, 1) := by decide +kernel
theorem dX9_turn_13 : decode cX9_turn 13 = .ok (.goto 6, 3) := by decide +kernel
theorem dX9_turn_16 : decode cX9_turn 16 = .ok (.iload_n 1, 1) := by decide +kernel
theorem dX9_turn_17 : decode cX9_turn 17 = .ok (.iload_n 2, 1) := by decide +kernel
theorem dX9_turn_18 : decode cX9_turn 18 = .ok (.irem, 1) := by decide +kernel
theorem dX9_turn_19 : decode cX9_turn 19 = .ok (.istore_n 3, 1) := by decide +kernel
theorem dX9_turn_20 : decode cX9_turn 20 = .ok (.iconst 0, 1) := by decide +kernel
theorem dX9_turn_21 : decode cX9_turn 21 = .ok (.istore 4, 2) := by decide +kernel
theorem dX9_turn_23 : decode cX9_turn 23 = .ok (.iload 4, 2) := by decide +kernel
theorem dX9_turn_25 : decode cX9_turn 25 = .ok (.bipush 8, 2) := by decide +kernel
theorem dX9_turn_27 : decode cX9_turn 27 = .ok (.if_icmp .ge 31, 3) := by decide +kernel
theorem dX9_turn_30 : decode cX9_turn 30 = .ok (.aload_n 0, 1) := by decide +kernel
theorem dX9_turn_31 : decode cX9_turn 31 = .ok (.getfield 72, 3) := by decide +kernel
theorem dX9_turn_34 : decode cX9_turn 34 = .ok (.iload 4, 2) := by decide +kernel
theorem dX9_turn_36 : decode cX9_turn 36 = .ok (.invokestatic 79, 3) := by decide +kernel
theorem dX9_turn_39 : decode cX9_turn 39 = .ok (.ifCond .eq 13, 3) := by decide +kernel
theorem dX9_turn_42 : decode cX9_turn 42 = .ok (.iload_n 3, 1) := by decide +kernel
theorem dX9_turn_43 : decode cX9_turn 43 = .ok (.ifCond .ne 6, 3) := by decide +kernel
theorem dX9_turn_46 : decode cX9_turn 46 = .ok (.iload 4, 2) := by decide +kernel
theorem dX9_turn_48 : decode cX9_turn 48 = .ok (.ireturn, 1) := by decide +kernel
theorem dX9_turn_49 : decode cX9_turn 49 = .ok (.iinc 3 (-1), 3) := by decide +kernel
theorem dX9_turn_52 : decode cX9_turn 52 = .ok (.iinc 4 1, 3) := by decide +kernel
theorem dX9_turn_55 : decode cX9_turn 55 = .ok (.goto (-32), 3) := by decide +kernel
theorem dX9_turn_58 : decode cX9_turn 58 = .ok (.bipush (-6), 2) := by decide +kernel
theorem dX9_turn_60 : decode cX9_turn 60 = .ok (.ireturn, 1) := by decide +kernel
theorem dX9_change_0 : decode cX9_change 0 = .ok (.aload_n 0, 1) := by decide +kernel
theorem dX9_change_1 : decode cX9_change 1 = .ok (.getfield 26, 3) := by decide +kernel
theorem dX9_change_4 : decode cX9_change 4 = .ok (.iconst 2, 1) := by decide +kernel
theorem dX9_change_5 : decode cX9_change 5 = .ok (.aload_n 0, 1) := by decide +kernel
theorem dX9_change_6 : decode cX9_change 6 = .ok (.getfield 41, 3) := by decide +kernel
theorem dX9_change_9 : decode cX9_change 9 = .ok (.iload_n 1, 1) := by decide +kernel
theorem dX9_change_10 : decode cX9_change 10 = .ok (.iaload, 1) := by decide +kernel
theorem dX9_change_11 : decode cX9_change 11 = .ok (.iconst 4, 1) := by decide +kernel
theorem dX9_change_12 : decode cX9_change 12 = .ok (.idiv, 1) := by decide +kernel
theorem dX9_change_13 : decode cX9_change 13 = .ok (.imul, 1) := by decide +kernel
theorem dX9_change_14 : decode cX9_change 14 = .ok (.isub, 1) := by decide +kernel
theorem dX9_change_15 : decode cX9_change 15 = .ok (.aload_n 0, 1) := by decide +kernel
theorem dX9_change_16 : decode cX9_change 16 = .ok (.getfield 125, 3) := by decide +kernel
theorem dX9_change_19 : decode cX9_change 19 = .ok (.isub, 1) := by decide +kernel
theorem dX9_change_20 : decode cX9_change 20 = .ok (.istore_n 3, 1) := by decide +kernel
theorem dX9_change_21 : decode cX9_change 21 = .ok (.iload_n 2, 1) := by decide +kernel
theorem dX9_change_22 : decode cX9_change 22 = .ok (.bipush 119, 2) := by decide +kernel
theorem dX9_change_24 : decode cX9_change 24 = .ok (.if_icmp .ne 8, 3) := by decide +kernel
theorem dX9_change_27 : decode cX9_change 27 = .ok (.bipush (-2), 2) := by decide +kernel
theorem dX9_change_29 : decode cX9_change 29 = .ok (.goto 78, 3) := by decide +kernel
theorem dX9_change_32 : decode cX9_change 32 = .ok (.iload_n 2, 1) := by decide +kernel
theorem dX9_change_33 : decode cX9_change 33 = .ok (.bipush 104, 2) := by decide +kernel
theorem dX9_change_35 : decode cX9_change 35 = .ok (.if_icmp .ne 7, 3) := by decide +kernel
theorem dX9_change_38 : decode cX9_change 38 = .ok (.iconst 3, 1) := by decide +kernel
theorem dX9_change_39 : decode cX9_change 39 = .ok (.goto 68, 3) := by decide +kernel
theorem dX9_change_42 : decode cX9_change 42 = .ok (.iload_n 2, 1) := by decide +kernel
theorem dX9_change_43 : decode cX9_change 43 = .ok (.bipush 111, 2) := by decide +kernel
theorem dX9_change_45 : decode cX9_change 45 = .ok (.if_icmp .ne 7, 3) := by decide +kernel
theorem dX9_change_48 : decode cX9_change 48 = .ok (.iconst 1, 1) := by decide +kernel
theorem dX9_change_49 : decode cX9_change 49 = .ok (.goto 58, 3) := by decide +kernel
theorem dX9_change_52 : decode cX9_change 52 = .ok (.iload_n 2, 1) := by decide +kernel
theorem dX9_change_53 : decode cX9_change 53 = .ok (.bipush 110, 2) := by decide +kernel
theorem dX9_change_55 : decode cX9_change 55 = .ok (.if_icmp .ne 23, 3) := by decide +kernel
theorem dX9_change_58 : decode cX9_change 58 = .ok (.aload_n 0, 1) := by decide +kernel
theorem dX9_change_59 : decode cX9_change 59 = .ok (.aload_n 0, 1) := by decide +kernel
theorem dX9_change_60 : decode cX9_change 60 = .ok (.getfield 128, 3) := by decide +kernel
theorem dX9_change_63 : decode cX9_change 63 = .ok (.invokevirtual 131, 3) := by decide +kernel
theorem dX9_change_66 : decode cX9_change 66 = .ok (.iload_n 1, 1) := by decide +kernel
theorem dX9_change_67 : decode cX9_change 67 = .ok (.if_icmp .ne 7, 3) := by decide +kernel
theorem dX9_change_70 : decode cX9_change 70 = .ok (.iconst 5, 1) := by decide +kernel
theorem dX9_change_71 : decode cX9_change 71 = .ok (.goto 36, 3) := by decide +kernel
theorem dX9_change_74 : decode cX9_change 74 = .ok (.iconst 0, 1) := by decide +kernel
theorem dX9_change_75 : decode cX9_change 75 = .ok (.goto 32, 3) := by decide +kernel
theorem dX9_change_78 : decode cX9_change 78 = .ok (.iload_n 2, 1) := by decide +kernel
theorem dX9_change_79 : decode cX9_change 79 = .ok (.bipush 115, 2) := by decide +kernel
theorem dX9_change_81 : decode cX9_change 81 = .ok (.if_icmp .ne 15, 3) := by decide +kernel
theorem dX9_change_84 : decode cX9_change 84 = .ok (.iload_n 3, 1) := by decide +kernel
theorem dX9_change_85 : decode cX9_change 85 = .ok (.ifCond .le 7, 3) := by decide +kernel
theorem dX9_change_88 : decode cX9_change 88 = .ok (.iload_n 3, 1) := by decide +kernel
theorem dX9_change_89 : decode cX9_change 89 = .ok (.goto 18, 3) := by decide +kernel
theorem dX9_change_92 : decode cX9_change 92 = .ok (.iconst 0, 1) := by decide +kernel
theorem dX9_change_93 : decode cX9_change 93 = .ok (.goto 14, 3) := by decide +kernel
theorem dX9_change_96 : decode cX9_change 96 = .ok (.iload_n 2, 1) := by decide +kernel
theorem dX9_change_97 : decode cX9_change 97 = .ok (.bipush 126, 2) := by decide +kernel
theorem dX9_change_99 : decode cX9_change 99 = .ok (.if_icmp .ne 7, 3) := by decide +kernel
theorem dX9_change_102 : decode cX9_change 102 = .ok (.iconst 2, 1) := by decide +kernel
theorem dX9_change_103 : decode cX9_change 103 = .ok (.goto 4, 3) := by decide +kernel
theorem dX9_change_106 : decode cX9_change 106 = .ok (.iconst 0, 1) := by decide +kernel
theorem dX9_change_107 : decode cX9_change 107 = .ok (.ireturn, 1) := by decide +kernel
theorem dX9_minute_0 : decode cX9_minute 0 = .ok (.aload_n 0, 1) := by decide +kernel
theorem dX9_minute_1 : decode cX9_minute 1 = .ok (.getfield 38, 3) := by decide +kernel
theorem dX9_minute_4 : decode cX9_minute 4 = .ok (.iload_n 1, 1) := by decide +kernel
theorem dX9_minute_5 : decode cX9_minute 5 = .ok (.iaload, 1) := by decide +kernel
theorem dX9_minute_6 : decode cX9_minute 6 = .ok (.istore_n 2, 1) := by decide +kernel
theorem dX9_minute_7 : decode cX9_minute 7 = .ok (.iconst 0, 1) := by decide +kernel
theorem dX9_minute_8 : decode cX9_minute 8 = .ok (.istore_n 3, 1) := by decide +kernel
theorem dX9_minute_9 : decode cX9_minute 9 = .ok (.iconst 0, 1) := by decide +kernel
theorem dX9_minute_10 : decode cX9_minute 10 = .ok (.istore 4, 2) := by decide +kernel
theorem dX9_minute_12 : decode cX9_minute 12 = .ok (.iconst 0, 1) := by decide +kernel
theorem dX9_minute_13 : decode cX9_minute 13 = .ok (.istore 5, 2) := by decide +kernel
theorem dX9_minute_15 : decode cX9_minute 15 = .ok (.iload 5, 2) := by decide +kernel
theorem dX9_minute_17 : decode cX9_minute 17 = .ok (.bipush 8, 2) := by decide +kernel
theorem dX9_minute_19 : decode cX9_minute 19 = .ok (.if_icmp .ge 193, 3) := by decide +kernel
theorem dX9_minute_22 : decode cX9_minute 22 = .ok (.aload_n 0, 1) := by decide +kernel
theorem dX9_minute_23 : decode cX9_minute 23 = .ok (.getfield 72, 3) := by decide +kernel
theorem dX9_minute_26 : decode cX9_minute 26 = .ok (.iload 5, 2) := by decide +kernel
theorem dX9_minute_28 : decode cX9_minute 28 = .ok (.invokestatic 79, 3) := by decide +kernel
theorem dX9_minute_31 : decode cX9_minute 31 = .ok (.ifCond .eq 175, 3) := by decide +kernel
theorem dX9_minute_34 : decode cX9_minute 34 = .ok (.aload_n 0, 1) := by decide +kernel
theorem dX9_minute_35 : decode cX9_minute 35 = .ok (.getfield 44, 3) := by decide +kernel
theorem dX9_minute_38 : decode cX9_minute 38 = .ok (.iload 5, 2) := by decide +kernel
theorem dX9_minute_40 : decode cX9_minute 40 = .ok (.iaload, 1) := by decide +kernel
theorem dX9_minute_41 : decode cX9_minute 41 = .ok (.aload_n 0, 1) := by decide +kernel
theorem dX9_minute_42 : decode cX9_minute 42 = .ok (.iload 5, 2) := by decide +kernel
theorem dX9_minute_44 : decode cX9_minute 44 = .ok (.iload_n 2, 1) := by decide +kernel
theorem dX9_minute_45 : decode cX9_minute 45 = .ok (.invokevirtual 134, 3) := by decide +kernel
theorem dX9_minute_48 : decode cX9_minute 48 = .ok (.iadd, 1) := by decide +kernel
theorem dX9_minute_49 : decode cX9_minute 49 = .ok (.aload_n 0, 1) := by decide +kernel
theorem dX9_minute_50 : decode cX9_minute 50 = .ok (.getfield 122, 3) := by decide +kernel
theorem dX9_minute_53 : decode cX9_minute 53 = .ok (.iload_n 1, 1) := by decide +kernel
theorem dX9_minute_54 : decode cX9_minute 54 = .ok (.invokestatic 79, 3) := by decide +kernel
theorem dX9_minute_57 : decode cX9_minute 57 = .ok (.ifCond .eq 7, 3) := by decide +kernel
theorem dX9_minute_60 : decode cX9_minute 60 = .ok (.iconst 0, 1) := by decide +kernel
theorem dX9_minute_61 : decode cX9_minute 61 = .ok (.goto 10, 3) := by decide +kernel
theorem dX9_minute_64 : decode cX9_minute 64 = .ok (.aload_n 0, 1) := by decide +kernel
theorem dX9_minute_65 : decode cX9_minute 65 = .ok (.getfield 20, 3) := by decide +kernel
theorem dX9_minute_68 : decode cX9_minute 68 = .ok (.iload 5, 2) := by decide +kernel
theorem dX9_minute_70 : decode cX9_minute 70 = .ok (.iaload, 1) := by decide +kernel
theorem dX9_minute_71 : decode cX9_minute 71 = .ok (.isub, 1) := by decide +kernel
theorem dX9_minute_72 : decode cX9_minute 72 = .ok (.istore 6, 2) := by decide +kernel
theorem dX9_minute_74 : decode cX9_minute 74 = .ok (.aload_n 0, 1) := by decide +kernel
theorem dX9_minute_75 : decode cX9_minute 75 = .ok (.getfield 44, 3) := by decide +kernel
theorem dX9_minute_78 : decode cX9_minute 78 = .ok (.iload 5, 2) := by decide +kernel
theorem dX9_minute_80 : decode cX9_minute 80 = .ok (.iload 6, 2) := by decide +kernel
theorem dX9_minute_82 : decode cX9_minute 82 = .ok (.ifCond .ge 7, 3) := by decide +kernel
theorem dX9_minute_85 : decode cX9_minute 85 = .ok (.iconst 0, 1) := by decide +kernel
theorem dX9_minute_86 : decode cX9_minute 86 = .ok (.goto 27, 3) := by decide +kernel
theorem dX9_minute_89 : decode cX9_minute 89 = .ok (.iload 6, 2) := by decide +kernel
theorem dX9_minute_91 : decode cX9_minute 91 = .ok (.aload_n 0, 1) := by decide +kernel
theorem dX9_minute_92 : decode cX9_minute 92 = .ok (.getfield 17, 3) := by decide +kernel
theorem dX9_minute_95 : decode cX9_minute 95 = .ok (.iload 5, 2) := by decide +kernel
theorem dX9_minute_97 : decode cX9_minute 97 = .ok (.iaload, 1) := by decide +kernel
theorem dX9_minute_98 : decode cX9_minute 98 = .ok (.if_icmp .le 13, 3) := by decide +kernel
theorem dX9_minute_101 : decode cX9_minute 101 = .ok (.aload_n 0, 1) := by decide +kernel
theorem dX9_minute_102 : decode cX9_minute 102 = .ok (.getfield 17, 3) := by decide +kernel
theorem dX9_minute_105 : decode cX9_minute 105 = .ok (.iload 5, 2) := by decide +kernel
theorem dX9_minute_107 : decode cX9_minute 107 = .ok (.iaload, 1) := by decide +kernel
theorem dX9_minute_108 : decode cX9_minute 108 = .ok (.goto 5, 3) := by decide +kernel
theorem dX9_minute_111 : decode cX9_minute 111 = .ok (.iload 6, 2) := by decide +kernel
theorem dX9_minute_113 : decode cX9_minute 113 = .ok (.iastore, 1) := by decide +kernel
theorem dX9_minute_114 : decode cX9_minute 114 = .ok (.aload_n 0, 1) := by decide +kernel
theorem dX9_minute_115 : decode cX9_minute 115 = .ok (.getfield 44, 3) := by decide +kernel
theorem dX9_minute_118 : decode cX9_minute 118 = .ok (.iload 5, 2) := by decide +kernel
theorem dX9_minute_120 : decode cX9_minute 120 = .ok (.iaload, 1) := by decide +kernel
theorem dX9_minute_121 : decode cX9_minute 121 = .ok (.ifCond .ne 19, 3) := by decide +kernel
theorem dX9_minute_124 : decode cX9_minute 124 = .ok (.aload_n 0, 1) := by decide +kernel
theorem dX9_minute_125 : decode cX9_minute 125 = .ok (.getfield 116, 3) := by decide +kernel
theorem dX9_minute_128 : decode cX9_minute 128 = .ok (.iload 5, 2) := by decide +kernel
theorem dX9_minute_130 : decode cX9_minute 130 = .ok (.invokestatic 79, 3) := by decide +kernel
theorem dX9_minute_133 : decode cX9_minute 133 = .ok (.ifCond .ne 7, 3) := by decide +kernel
theorem dX9_minute_136 : decode cX9_minute 136 = .ok (.iconst 1, 1) := by decide +kernel
theorem dX9_minute_137 : decode cX9_minute 137 = .ok (.goto 4, 3) := by decide +kernel
theorem dX9_minute_140 : decode cX9_minute 140 = .ok (.iconst 0, 1) := by decide +kernel
theorem dX9_minute_141 : decode cX9_minute 141 = .ok (.istore 7, 2) := by decide +kernel
theorem dX9_minute_143 : decode cX9_minute 143 = .ok (.iload_n 3, 1) := by decide +kernel
theorem dX9_minute_144 : decode cX9_minute 144 = .ok (.iload 7, 2) := by decide +kernel
theorem dX9_minute_146 : decode cX9_minute 146 = .ok (.ifCond .eq 10, 3) := by decide +kernel
theorem dX9_minute_149 : decode cX9_minute 149 = .ok (.iconst 1, 1) := by decide +kernel
theorem dX9_minute_150 : decode cX9_minute 150 = .ok (.iload 5, 2) := by decide +kernel
theorem dX9_minute_152 : decode cX9_minute 152 = .ok (.ishl, 1) := by decide +kernel
theorem dX9_minute_153 : decode cX9_minute 153 = .ok (.goto 4, 3) := by decide +kernel
theorem dX9_minute_156 : decode cX9_minute 156 = .ok (.iconst 0, 1) := by decide +kernel
theorem dX9_minute_157 : decode cX9_minute 157 = .ok (.ior, 1) := by decide +kernel
theorem dX9_minute_158 : decode cX9_minute 158 = .ok (.istore_n 3, 1) := by decide +kernel
theorem dX9_minute_159 : decode cX9_minute 159 = .ok (.iload 4, 2) := by decide +kernel
theorem dX9_minute_161 : decode cX9_minute 161 = .ok (.iload_n 2, 1) := by decide +kernel
theorem dX9_minute_162 : decode cX9_minute 162 = .ok (.bipush 99, 2) := by decide +kernel
theorem dX9_minute_164 : decode cX9_minute 164 = .ok (.if_icmp .ne 38, 3) := by decide +kernel
theorem dX9_minute_167 : decode cX9_minute 167 = .ok (.aload_n 0, 1) := by decide +kernel
theorem dX9_minute_168 : decode cX9_minute 168 = .ok (.getfield 23, 3) := by decide +kernel
theorem dX9_minute_171 : decode cX9_minute 171 = .ok (.iload 5, 2) := by decide +kernel
theorem dX9_minute_173 : decode cX9_minute 173 = .ok (.iaload, 1) := by decide +kernel
theorem dX9_minute_174 : decode cX9_minute 174 = .ok (.iconst 1, 1) := by decide +kernel
theorem dX9_minute_175 : decode cX9_minute 175 = .ok (.if_icmp .ne 27, 3) := by decide +kernel
theorem dX9_minute_178 : decode cX9_minute 178 = .ok (.aload_n 0, 1) := by decide +kernel
theorem dX9_minute_179 : decode cX9_minute 179 = .ok (.getfield 116, 3) := by decide +kernel
theorem dX9_minute_182 : decode cX9_minute 182 = .ok (.iload 5, 2) := by decide +kernel
theorem dX9_minute_184 : decode cX9_minute 184 = .ok (.invokestatic 79, 3) := by decide +kernel
theorem dX9_minute_187 : decode cX9_minute 187 = .ok (.ifCond .ne 15, 3) := by decide +kernel
theorem dX9_minute_190 : decode cX9_minute 190 = .ok (.iload 7, 2) := by decide +kernel
theorem dX9_minute_192 : decode cX9_minute 192 = .ok (.ifCond .ne 10, 3) := by decide +kernel
theorem dX9_minute_195 : decode cX9_minute 195 = .ok (.iconst 1, 1) := by decide +kernel
theorem dX9_minute_196 : decode cX9_minute 196 = .ok (.iload 5, 2) := by decide +kernel
theorem dX9_minute_198 : decode cX9_minute 198 = .ok (.ishl, 1) := by decide +kernel
theorem dX9_minute_199 : decode cX9_minute 199 = .ok (.goto 4, 3) := by decide +kernel
theorem dX9_minute_202 : decode cX9_minute 202 = .ok (.iconst 0, 1) := by decide +kernel
theorem dX9_minute_203 : decode cX9_minute 203 = .ok (.ior, 1) := by decide +kernel
theorem dX9_minute_204 : decode cX9_minute 204 = .ok (.istore 4, 2) := by decide +kernel
theorem dX9_minute_206 : decode cX9_minute 206 = .ok (.iinc 5 1, 3) := by decide +kernel
theorem dX9_minute_209 : decode cX9_minute 209 = .ok (.goto (-194), 3) := by decide +kernel
theorem dX9_minute_212 : decode cX9_minute 212 = .ok (.iconst 0, 1) := by decide +kernel
theorem dX9_minute_213 : decode cX9_minute 213 = .ok (.istore 5, 2) := by decide +kernel
theorem dX9_minute_215 : decode cX9_minute 215 = .ok (.iconst 0, 1) := by decide +kernel
theorem dX9_minute_216 : decode cX9_minute 216 = .ok (.istore 6, 2) := by decide +kernel
theorem dX9_minute_218 : decode cX9_minute 218 = .ok (.iload 6, 2) := by decide +kernel
theorem dX9_minute_220 : decode cX9_minute 220 = .ok (.bipush 8, 2) := by decide +kernel
theorem dX9_minute_222 : decode cX9_minute 222 = .ok (.if_icmp .ge 187, 3) := by decide +kernel
theorem dX9_minute_225 : decode cX9_minute 225 = .ok (.aload_n 0, 1) := by decide +kernel
theorem dX9_minute_226 : decode cX9_minute 226 = .ok (.iload 6, 2) := by decide +kernel
theorem dX9_minute_228 : decode cX9_minute 228 = .ok (.iconst (-1), 1) := by decide +kernel
theorem dX9_minute_229 : decode cX9_minute 229 = .ok (.invokevirtual 138, 3) := by decide +kernel
theorem dX9_minute_232 : decode cX9_minute 232 = .ok (.istore 7, 2) := by decide +kernel
theorem dX9_minute_234 : decode cX9_minute 234 = .ok (.aload_n 0, 1) := by decide +kernel
theorem dX9_minute_235 : decode cX9_minute 235 = .ok (.iload 6, 2) := by decide +kernel
theorem dX9_minute_237 : decode cX9_minute 237 = .ok (.iconst 1, 1) := by decide +kernel
theorem dX9_minute_238 : decode cX9_minute 238 = .ok (.invokevirtual 138, 3) := by decide +kernel
theorem dX9_minute_241 : decode cX9_minute 241 = .ok (.istore 8, 2) := by decide +kernel
theorem dX9_minute_243 : decode cX9_minute 243 = .ok (.iload_n 3, 1) := by decide +kernel
theorem dX9_minute_244 : decode cX9_minute 244 = .ok (.iload 6, 2) := by decide +kernel
theorem dX9_minute_246 : decode cX9_minute 246 = .ok (.invokestatic 79, 3) := by decide +kernel
theorem dX9_minute_249 : decode cX9_minute 249 = .ok (.ifCond .eq 135, 3) := by decide +kernel
theorem dX9_minute_252 : decode cX9_minute 252 = .ok (.iload 7, 2) := by decide +kernel
theorem dX9_minute_254 : decode cX9_minute 254 = .ok (.ifCond .lt 30, 3) := by decide +kernel
theorem dX9_minute_257 : decode cX9_minute 257 = .ok (.iload 8, 2) := by decide +kernel
theorem dX9_minute_259 : decode cX9_minute 259 = .ok (.ifCond .lt 25, 3) := by decide +kernel
theorem dX9_minute_262 : decode cX9_minute 262 = .ok (.iload_n 3, 1) := by decide +kernel
theorem dX9_minute_263 : decode cX9_minute 263 = .ok (.iload 7, 2) := by decide +kernel
theorem dX9_minute_265 : decode cX9_minute 265 = .ok (.invokestatic 79, 3) := by decide +kernel
theorem dX9_minute_268 : decode cX9_minute 268 = .ok (.ifCond .eq 16, 3) := by decide +kernel
theorem dX9_minute_271 : decode cX9_minute 271 = .ok (.iload_n 3, 1) := by decide +kernel
theorem dX9_minute_272 : decode cX9_minute 272 = .ok (.iload 8, 2) := by decide +kernel
theorem dX9_minute_274 : decode cX9_minute 274 = .ok (.invokestatic 79, 3) := by decide +kernel
theorem dX9_minute_277 : decode cX9_minute 277 = .ok (.ifCond .eq 7, 3) := by decide +kernel
theorem dX9_minute_280 : decode cX9_minute 280 = .ok (.iconst 1, 1) := by decide +kernel
theorem dX9_minute_281 : decode cX9_minute 281 = .ok (.goto 4, 3) := by decide +kernel
theorem dX9_minute_284 : decode cX9_minute 284 = .ok (.iconst 0, 1) := by decide +kernel
theorem dX9_minute_285 : decode cX9_minute 285 = .ok (.istore 9, 2) := by decide +kernel
theorem dX9_minute_287 : decode cX9_minute 287 = .ok (.iload 7, 2) := by decide +kernel
theorem dX9_minute_289 : decode cX9_minute 289 = .ok (.ifCond .lt 12, 3) := by decide +kernel
theorem dX9_minute_292 : decode cX9_minute 292 = .ok (.iload_n 3, 1) := by decide +kernel
theorem dX9_minute_293 : decode cX9_minute 293 = .ok (.iload 7, 2) := by decide +kernel
theorem dX9_minute_295 : decode cX9_minute 295 = .ok (.invokestatic 79, 3) := by decide +kernel
theorem dX9_minute_298 : decode cX9_minute 298 = .ok (.ifCond .eq 17, 3) := by decide +kernel
theorem dX9_minute_301 : decode cX9_minute 301 = .ok (.iload 8, 2) := by decide +kernel
theorem dX9_minute_303 : decode cX9_minute 303 = .ok (.ifCond .lt 16, 3) := by decide +kernel
theorem dX9_minute_306 : decode cX9_minute 306 = .ok (.iload_n 3, 1) := by decide +kernel
theorem dX9_minute_307 : decode cX9_minute 307 = .ok (.iload 8, 2) := by decide +kernel
theorem dX9_minute_309 : decode cX9_minute 309 = .ok (.invokestatic 79, 3) := by decide +kernel
theorem dX9_minute_312 : decode cX9_minute 312 = .ok (.ifCond .ne 7, 3) := by decide +kernel
theorem dX9_minute_315 : decode cX9_minute 315 = .ok (.iconst 1, 1) := by decide +kernel
theorem dX9_minute_316 : decode cX9_minute 316 = .ok (.goto 4, 3) := by decide +kernel
theorem dX9_minute_319 : decode cX9_minute 319 = .ok (.iconst 0, 1) := by decide +kernel
theorem dX9_minute_320 : decode cX9_minute 320 = .ok (.istore 10, 2) := by decide +kernel
theorem dX9_minute_322 : decode cX9_minute 322 = .ok (.iload 5, 2) := by decide +kernel
theorem dX9_minute_324 : decode cX9_minute 324 = .ok (.iload 9, 2) := by decide +kernel
theorem dX9_minute_326 : decode cX9_minute 326 = .ok (.ifCond .eq 10, 3) := by decide +kernel
theorem dX9_minute_329 : decode cX9_minute 329 = .ok (.iconst 1, 1) := by decide +kernel
theorem dX9_minute_330 : decode cX9_minute 330 = .ok (.iload 6, 2) := by decide +kernel
theorem dX9_minute_332 : decode cX9_minute 332 = .ok (.ishl, 1) := by decide +kernel
theorem dX9_minute_333 : decode cX9_minute 333 = .ok (.goto 4, 3) := by decide +kernel
theorem dX9_minute_336 : decode cX9_minute 336 = .ok (.iconst 0, 1) := by decide +kernel
theorem dX9_minute_337 : decode cX9_minute 337 = .ok (.ior, 1) := by decide +kernel
theorem dX9_minute_338 : decode cX9_minute 338 = .ok (.istore 5, 2) := by decide +kernel
theorem dX9_minute_340 : decode cX9_minute 340 = .ok (.aload_n 0, 1) := by decide +kernel
theorem dX9_minute_341 : decode cX9_minute 341 = .ok (.getfield 44, 3) := by decide +kernel
theorem dX9_minute_344 : decode cX9_minute 344 = .ok (.iload 6, 2) := by decide +kernel
theorem dX9_minute_346 : decode cX9_minute 346 = .ok (.iload 10, 2) := by decide +kernel
theorem dX9_minute_348 : decode cX9_minute 348 = .ok (.ifCond .ne 13, 3) := by decide +kernel
theorem dX9_minute_351 : decode cX9_minute 351 = .ok (.aload_n 0, 1) := by decide +kernel
theorem dX9_minute_352 : decode cX9_minute 352 = .ok (.getfield 44, 3) := by decide +kernel
theorem dX9_minute_355 : decode cX9_minute 355 = .ok (.iload 6, 2) := by decide +kernel
theorem dX9_minute_357 : decode cX9_minute 357 = .ok (.iaload, 1) := by decide +kernel
theorem dX9_minute_358 : decode cX9_minute 358 = .ok (.goto 25, 3) := by decide +kernel
theorem dX9_minute_361 : decode cX9_minute 361 = .ok (.aload_n 0, 1) := by decide +kernel
theorem dX9_minute_362 : decode cX9_minute 362 = .ok (.getfield 17, 3) := by decide +kernel
theorem dX9_minute_365 : decode cX9_minute 365 = .ok (.iload 6, 2) := by decide +kernel
theorem dX9_minute_367 : decode cX9_minute 367 = .ok (.iaload, 1) := by decide +kernel
theorem dX9_minute_368 : decode cX9_minute 368 = .ok (.iconst 2, 1) := by decide +kernel
theorem dX9_minute_369 : decode cX9_minute 369 = .ok (.if_icmp .ge 13, 3) := by decide +kernel
theorem dX9_minute_372 : decode cX9_minute 372 = .ok (.aload_n 0, 1) := by decide +kernel
theorem dX9_minute_373 : decode cX9_minute 373 = .ok (.getfield 17, 3) := by decide +kernel
theorem dX9_minute_376 : decode cX9_minute 376 = .ok (.iload 6, 2) := by decide +kernel
theorem dX9_minute_378 : decode cX9_minute 378 = .ok (.iaload, 1) := by decide +kernel
theorem dX9_minute_379 : decode cX9_minute 379 = .ok (.goto 4, 3) := by decide +kernel
theorem dX9_minute_382 : decode cX9_minute 382 = .ok (.iconst 2, 1) := by decide +kernel
theorem dX9_minute_383 : decode cX9_minute 383 = .ok (.iastore, 1) := by decide +kernel
theorem dX9_minute_384 : decode cX9_minute 384 = .ok (.aload_n 0, 1) := by decide +kernel
theorem dX9_minute_385 : decode cX9_minute 385 = .ok (.getfield 56, 3) := by decide +kernel
theorem dX9_minute_388 : decode cX9_minute 388 = .ok (.bipush 8, 2) := by decide +kernel
theorem dX9_minute_390 : decode cX9_minute 390 = .ok (.iload_n 1, 1) := by decide +kernel
theorem dX9_minute_391 : decode cX9_minute 391 = .ok (.imul, 1) := by decide +kernel
theorem dX9_minute_392 : decode cX9_minute 392 = .ok (.iload 6, 2) := by decide +kernel
theorem dX9_minute_394 : decode cX9_minute 394 = .ok (.iadd, 1) := by decide +kernel
theorem dX9_minute_395 : decode cX9_minute 395 = .ok (.aload_n 0, 1) := by decide +kernel
theorem dX9_minute_396 : decode cX9_minute 396 = .ok (.getfield 44, 3) := by decide +kernel
theorem dX9_minute_399 : decode cX9_minute 399 = .ok (.iload 6, 2) := by decide +kernel
theorem dX9_minute_401 : decode cX9_minute 401 = .ok (.iaload, 1) := by decide +kernel
theorem dX9_minute_402 : decode cX9_minute 402 = .ok (.iastore, 1) := by decide +kernel
theorem dX9_minute_403 : decode cX9_minute 403 = .ok (.iinc 6 1, 3) := by decide +kernel
theorem dX9_minute_406 : decode cX9_minute 406 = .ok (.goto (-188), 3) := by decide +kernel
theorem dX9_minute_409 : decode cX9_minute 409 = .ok (.aload_n 0, 1) := by decide +kernel
theorem dX9_minute_410 : decode cX9_minute 410 = .ok (.getfield 47, 3) := by decide +kernel
theorem dX9_minute_413 : decode cX9_minute 413 = .ok (.iload_n 1, 1) := by decide +kernel
theorem dX9_minute_414 : decode cX9_minute 414 = .ok (.iload_n 3, 1) := by decide +kernel
theorem dX9_minute_415 : decode cX9_minute 415 = .ok (.iastore, 1) := by decide +kernel
theorem dX9_minute_416 : decode cX9_minute 416 = .ok (.aload_n 0, 1) := by decide +kernel
theorem dX9_minute_417 : decode cX9_minute 417 = .ok (.getfield 50, 3) := by decide +kernel
theorem dX9_minute_420 : decode cX9_minute 420 = .ok (.iload_n 1, 1) := by decide +kernel
theorem dX9_minute_421 : decode cX9_minute 421 = .ok (.iload 4, 2) := by decide +kernel
theorem dX9_minute_423 : decode cX9_minute 423 = .ok (.iastore, 1) := by decide +kernel
theorem dX9_minute_424 : decode cX9_minute 424 = .ok (.aload_n 0, 1) := by decide +kernel
theorem dX9_minute_425 : decode cX9_minute 425 = .ok (.getfield 53, 3) := by decide +kernel
theorem dX9_minute_428 : decode cX9_minute 428 = .ok (.iload_n 1, 1) := by decide +kernel
theorem dX9_minute_429 : decode cX9_minute 429 = .ok (.iload 5, 2) := by decide +kernel
theorem dX9_minute_431 : decode cX9_minute 431 = .ok (.iastore, 1) := by decide +kernel
theorem dX9_minute_432 : decode cX9_minute 432 = .ok (.aload_n 0, 1) := by decide +kernel
theorem dX9_minute_433 : decode cX9_minute 433 = .ok (.dup, 1) := by decide +kernel
theorem dX9_minute_434 : decode cX9_minute 434 = .ok (.getfield 125, 3) := by decide +kernel
theorem dX9_minute_437 : decode cX9_minute 437 = .ok (.iload_n 2, 1) := by decide +kernel
theorem dX9_minute_438 : decode cX9_minute 438 = .ok (.bipush 115, 2) := by decide +kernel
theorem dX9_minute_440 : decode cX9_minute 440 = .ok (.if_icmp .ne 7, 3) := by decide +kernel
theorem dX9_minute_443 : decode cX9_minute 443 = .ok (.iconst 1, 1) := by decide +kernel
theorem dX9_minute_444 : decode cX9_minute 444 = .ok (.goto 4, 3) := by decide +kernel
theorem dX9_minute_447 : decode cX9_minute 447 = .ok (.iconst 0, 1) := by decide +kernel
theorem dX9_minute_448 : decode cX9_minute 448 = .ok (.iadd, 1) := by decide +kernel
theorem dX9_minute_449 : decode cX9_minute 449 = .ok (.putfield 125, 3) := by decide +kernel
theorem dX9_minute_452 : decode cX9_minute 452 = .ok (.aload_n 0, 1) := by decide +kernel
theorem dX9_minute_453 : decode cX9_minute 453 = .ok (.dup, 1) := by decide +kernel
theorem dX9_minute_454 : decode cX9_minute 454 = .ok (.getfield 128, 3) := by decide +kernel
theorem dX9_minute_457 : decode cX9_minute 457 = .ok (.iload_n 2, 1) := by decide +kernel
theorem dX9_minute_458 : decode cX9_minute 458 = .ok (.bipush 110, 2) := by decide +kernel
theorem dX9_minute_460 : decode cX9_minute 460 = .ok (.if_icmp .ne 7, 3) := by decide +kernel
theorem dX9_minute_463 : decode cX9_minute 463 = .ok (.iconst 1, 1) := by decide +kernel
theorem dX9_minute_464 : decode cX9_minute 464 = .ok (.goto 4, 3) := by decide +kernel
theorem dX9_minute_467 : decode cX9_minute 467 = .ok (.iconst 0, 1) := by decide +kernel
theorem dX9_minute_468 : decode cX9_minute 468 = .ok (.iadd, 1) := by decide +kernel
theorem dX9_minute_469 : decode cX9_minute 469 = .ok (.putfield 128, 3) := by decide +kernel
theorem dX9_minute_472 : decode cX9_minute 472 = .ok (.return_, 1) := by decide +kernel
theorem dX9_preach_0 : decode cX9_preach 0 = .ok (.aload_n 0, 1) := by decide +kernel
theorem dX9_preach_1 : decode cX9_preach 1 = .ok (.iconst 0, 1) := by decide +kernel
theorem dX9_preach_2 : decode cX9_preach 2 = .ok (.putfield 125, 3) := by decide +kernel
theorem dX9_preach_5 : decode cX9_preach 5 = .ok (.aload_n 0, 1) := by decide +kernel
theorem dX9_preach_6 : decode cX9_preach 6 = .ok (.iconst 0, 1) := by decide +kernel
theorem dX9_preach_7 : decode cX9_preach 7 = .ok (.putfield 128, 3) := by decide +kernel
theorem dX9_preach_10 : decode cX9_preach 10 = .ok (.aload_n 0, 1) := by decide +kernel
theorem dX9_preach_11 : decode cX9_preach 11 = .ok (.iconst 0, 1) := by decide +kernel
theorem dX9_preach_12 : decode cX9_preach 12 = .ok (.putfield 141, 3) := by decide +kernel
theorem dX9_preach_15 : decode cX9_preach 15 = .ok (.aload_n 0, 1) := by decide +kernel
theorem dX9_preach_16 : decode cX9_preach 16 = .ok (.iconst 0, 1) := by decide +kernel
theorem dX9_preach_17 : decode cX9_preach 17 = .ok (.putfield 144, 3) := by decide +kernel
theorem dX9_preach_20 : decode cX9_preach 20 = .ok (.aload_n 0, 1) := by decide +kernel
theorem dX9_preach_21 : decode cX9_preach 21 = .ok (.iconst 0, 1) := by decide +kernel
theorem dX9_preach_22 : decode cX9_preach 22 = .ok (.putfield 147, 3) := by decide +kernel
theorem dX9_preach_25 : decode cX9_preach 25 = .ok (.aload_n 0, 1) := by decide +kernel
theorem dX9_preach_26 : decode cX9_preach 26 = .ok (.iconst 0, 1) := by decide +kernel
theorem dX9_preach_27 : decode cX9_preach 27 = .ok (.putfield 150, 3) := by decide +kernel
theorem dX9_preach_30 : decode cX9_preach 30 = .ok (.aload_n 0, 1) := by decide +kernel
theorem dX9_preach_31 : decode cX9_preach 31 = .ok (.iconst 0, 1) := by decide +kernel
theorem dX9_preach_32 : decode cX9_preach 32 = .ok (.putfield 153, 3) := by decide +kernel
theorem dX9_preach_35 : decode cX9_preach 35 = .ok (.iconst 0, 1) := by decide +kernel
theorem dX9_preach_36 : decode cX9_preach 36 = .ok (.istore_n 2, 1) := by decide +kernel
theorem dX9_preach_37 : decode cX9_preach 37 = .ok (.iconst 0, 1) := by decide +kernel
theorem dX9_preach_38 : decode cX9_preach 38 = .ok (.istore_n 3, 1) := by decide +kernel
theorem dX9_preach_39 : decode cX9_preach 39 = .ok (.iload_n 3, 1) := by decide +kernel
theorem dX9_preach_40 : decode cX9_preach 40 = .ok (.bipush 8, 2) := by decide +kernel
theorem dX9_preach_42 : decode cX9_preach 42 = .ok (.if_icmp .ge 46, 3) := by decide +kernel
theorem dX9_preach_45 : decode cX9_preach 45 = .ok (.aload_n 0, 1) := by decide +kernel
theorem dX9_preach_46 : decode cX9_preach 46 = .ok (.getfield 44, 3) := by decide +kernel
theorem dX9_preach_49 : decode cX9_preach 49 = .ok (.iload_n 3, 1) := by decide +kernel
theorem dX9_preach_50 : decode cX9_preach 50 = .ok (.aload_n 0, 1) := by decide +kernel
theorem dX9_preach_51 : decode cX9_preach 51 = .ok (.getfield 17, 3) := by decide +kernel
theorem dX9_preach_54 : decode cX9_preach 54 = .ok (.iload_n 3, 1) := by decide +kernel
theorem dX9_preach_55 : decode cX9_preach 55 = .ok (.iaload, 1) := by decide +kernel
theorem dX9_preach_56 : decode cX9_preach 56 = .ok (.iastore, 1) := by decide +kernel
theorem dX9_preach_57 : decode cX9_preach 57 = .ok (.iload_n 2, 1) := by decide +kernel
theorem dX9_preach_58 : decode cX9_preach 58 = .ok (.aload_n 0, 1) := by decide +kernel
theorem dX9_preach_59 : decode cX9_preach 59 = .ok (.getfield 41, 3) := by decide +kernel
theorem dX9_preach_62 : decode cX9_preach 62 = .ok (.iload_n 3, 1) := by decide +kernel
theorem dX9_preach_63 : decode cX9_preach 63 = .ok (.iaload, 1) := by decide +kernel
theorem dX9_preach_64 : decode cX9_preach 64 = .ok (.iconst 4, 1) := by decide +kernel
theorem dX9_preach_65 : decode cX9_preach 65 = .ok (.idiv, 1) := by decide +kernel
theorem dX9_preach_66 : decode cX9_preach 66 = .ok (.aload_n 0, 1) := by decide +kernel
theorem dX9_preach_67 : decode cX9_preach 67 = .ok (.getfield 89, 3) := by decide +kernel
theorem dX9_preach_70 : decode cX9_preach 70 = .ok (.if_icmp .lt 9, 3) := by decide +kernel
theorem dX9_preach_73 : decode cX9_preach 73 = .ok (.iconst 1, 1) := by decide +kernel
theorem dX9_preach_74 : decode cX9_preach 74 = .ok (.iload_n 3, 1) := by decide +kernel
theorem dX9_preach_75 : decode cX9_preach 75 = .ok (.ishl, 1) := by decide +kernel
theorem dX9_preach_76 : decode cX9_preach 76 = .ok (.goto 4, 3) := by decide +kernel
theorem dX9_preach_79 : decode cX9_preach 79 = .ok (.iconst 0, 1) := by decide +kernel
theorem dX9_preach_80 : decode cX9_preach 80 = .ok (.ior, 1) := by decide +kernel
theorem dX9_preach_81 : decode cX9_preach 81 = .ok (.istore_n 2, 1) := by decide +kernel
theorem dX9_preach_82 : decode cX9_preach 82 = .ok (.iinc 3 1, 3) := by decide +kernel
theorem dX9_preach_85 : decode cX9_preach 85 = .ok (.goto (-46), 3) := by decide +kernel
theorem dX9_preach_88 : decode cX9_preach 88 = .ok (.iconst 0, 1) := by decide +kernel
theorem dX9_preach_89 : decode cX9_preach 89 = .ok (.istore_n 3, 1) := by decide +kernel
theorem dX9_preach_90 : decode cX9_preach 90 = .ok (.iload_n 3, 1) := by decide +kernel
theorem dX9_preach_91 : decode cX9_preach 91 = .ok (.iload_n 1, 1) := by decide +kernel
theorem dX9_preach_92 : decode cX9_preach 92 = .ok (.if_icmp .ge 161, 3) := by decide +kernel
theorem dX9_preach_95 : decode cX9_preach 95 = .ok (.aload_n 0, 1) := by decide +kernel
theorem dX9_preach_96 : decode cX9_preach 96 = .ok (.iload_n 3, 1) := by decide +kernel
theorem dX9_preach_97 : decode cX9_preach 97 = .ok (.invokevirtual 156, 3) := by decide +kernel
theorem dX9_preach_100 : decode cX9_preach 100 = .ok (.aload_n 0, 1) := by decide +kernel
theorem dX9_preach_101 : decode cX9_preach 101 = .ok (.getfield 47, 3) := by decide +kernel
theorem dX9_preach_104 : decode cX9_preach 104 = .ok (.iload_n 3, 1) := by decide +kernel
theorem dX9_preach_105 : decode cX9_preach 105 = .ok (.iaload, 1) := by decide +kernel
theorem dX9_preach_106 : decode cX9_preach 106 = .ok (.aload_n 0, 1) := by decide +kernel
theorem dX9_preach_107 : decode cX9_preach 107 = .ok (.getfield 50, 3) := by decide +kernel
theorem dX9_preach_110 : decode cX9_preach 110 = .ok (.iload_n 3, 1) := by decide +kernel
theorem dX9_preach_111 : decode cX9_preach 111 = .ok (.iaload, 1) := by decide +kernel
theorem dX9_preach_112 : decode cX9_preach 112 = .ok (.ior, 1) := by decide +kernel
theorem dX9_preach_113 : decode cX9_preach 113 = .ok (.istore 4, 2) := by decide +kernel
theorem dX9_preach_115 : decode cX9_preach 115 = .ok (.aload_n 0, 1) := by decide +kernel
theorem dX9_preach_116 : decode cX9_preach 116 = .ok (.dup, 1) := by decide +kernel
theorem dX9_preach_117 : decode cX9_preach 117 = .ok (.getfield 141, 3) := by decide +kernel
theorem dX9_preach_120 : decode cX9_preach 120 = .ok (.aload_n 0, 1) := by decide +kernel
theorem dX9_preach_121 : decode cX9_preach 121 = .ok (.getfield 47, 3) := by decide +kernel
theorem dX9_preach_124 : decode cX9_preach 124 = .ok (.iload_n 3, 1) := by decide +kernel
theorem dX9_preach_125 : decode cX9_preach 125 = .ok (.iaload, 1) := by decide +kernel
theorem dX9_preach_126 : decode cX9_preach 126 = .ok (.invokestatic 96, 3) := by decide +kernel
theorem dX9_preach_129 : decode cX9_preach 129 = .ok (.iadd, 1) := by decide +kernel
theorem dX9_preach_130 : decode cX9_preach 130 = .ok (.putfield 141, 3) := by decide +kernel
theorem dX9_preach_133 : decode cX9_preach 133 = .ok (.aload_n 0, 1) := by decide +kernel
theorem dX9_preach_134 : decode cX9_preach 134 = .ok (.dup, 1) := by decide +kernel
theorem dX9_preach_135 : decode cX9_preach 135 = .ok (.getfield 144, 3) := by decide +kernel
theorem dX9_preach_138 : decode cX9_preach 138 = .ok (.iload 4, 2) := by decide +kernel
theorem dX9_preach_140 : decode cX9_preach 140 = .ok (.invokestatic 96, 3) := by decide +kernel
theorem dX9_preach_143 : decode cX9_preach 143 = .ok (.iadd, 1) := by decide +kernel
theorem dX9_preach_144 : decode cX9_preach 144 = .ok (.putfield 144, 3) := by decide +kernel
theorem dX9_preach_147 : decode cX9_preach 147 = .ok (.aload_n 0, 1) := by decide +kernel
theorem dX9_preach_148 : decode cX9_preach 148 = .ok (.dup, 1) := by decide +kernel
theorem dX9_preach_149 : decode cX9_preach 149 = .ok (.getfield 147, 3) := by decide +kernel
theorem dX9_preach_152 : decode cX9_preach 152 = .ok (.aload_n 0, 1) := by decide +kernel
theorem dX9_preach_153 : decode cX9_preach 153 = .ok (.getfield 119, 3) := by decide +kernel
theorem dX9_preach_156 : decode cX9_preach 156 = .ok (.iload 4, 2) := by decide +kernel
theorem dX9_preach_158 : decode cX9_preach 158 = .ok (.iload_n 2, 1) := by decide +kernel
theorem dX9_preach_159 : decode cX9_preach 159 = .ok (.iand, 1) := by decide +kernel
theorem dX9_preach_160 : decode cX9_preach 160 = .ok (.invokestatic 96, 3) := by decide +kernel
theorem dX9_preach_163 : decode cX9_preach 163 = .ok (.imul, 1) := by decide +kernel
theorem dX9_preach_164 : decode cX9_preach 164 = .ok (.iadd, 1) := by decide +kernel
theorem dX9_preach_165 : decode cX9_preach 165 = .ok (.putfield 147, 3) := by decide +kernel
theorem dX9_preach_168 : decode cX9_preach 168 = .ok (.aload_n 0, 1) := by decide +kernel
theorem dX9_preach_169 : decode cX9_preach 169 = .ok (.dup, 1) := by decide +kernel
theorem dX9_preach_170 : decode cX9_preach 170 = .ok (.getfield 153, 3) := by decide +kernel
theorem dX9_preach_173 : decode cX9_preach 173 = .ok (.aload_n 0, 1) := by decide +kernel
theorem dX9_preach_174 : decode cX9_preach 174 = .ok (.getfield 53, 3) := by decide +kernel
theorem dX9_preach_177 : decode cX9_preach 177 = .ok (.iload_n 3, 1) := by decide +kernel
theorem dX9_preach_178 : decode cX9_preach 178 = .ok (.iaload, 1) := by decide +kernel
theorem dX9_preach_179 : decode cX9_preach 179 = .ok (.invokestatic 96, 3) := by decide +kernel
theorem dX9_preach_182 : decode cX9_preach 182 = .ok (.iadd, 1) := by decide +kernel
theorem dX9_preach_183 : decode cX9_preach 183 = .ok (.putfield 153, 3) := by decide +kernel
theorem dX9_preach_186 : decode cX9_preach 186 = .ok (.aload_n 0, 1) := by decide +kernel
theorem dX9_preach_187 : decode cX9_preach 187 = .ok (.getfield 38, 3) := by decide +kernel
theorem dX9_preach_190 : decode cX9_preach 190 = .ok (.iload_n 3, 1) := by decide +kernel
theorem dX9_preach_191 : decode cX9_preach 191 = .ok (.iaload, 1) := by decide +kernel
theorem dX9_preach_192 : decode cX9_preach 192 = .ok (.bipush 104, 2) := by decide +kernel
theorem dX9_preach_194 : decode cX9_preach 194 = .ok (.if_icmp .ne 7, 3) := by decide +kernel
theorem dX9_preach_197 : decode cX9_preach 197 = .ok (.iconst 1, 1) := by decide +kernel
theorem dX9_preach_198 : decode cX9_preach 198 = .ok (.goto 19, 3) := by decide +kernel
theorem dX9_preach_201 : decode cX9_preach 201 = .ok (.aload_n 0, 1) := by decide +kernel
theorem dX9_preach_202 : decode cX9_preach 202 = .ok (.getfield 38, 3) := by decide +kernel
theorem dX9_preach_205 : decode cX9_preach 205 = .ok (.iload_n 3, 1) := by decide +kernel
theorem dX9_preach_206 : decode cX9_preach 206 = .ok (.iaload, 1) := by decide +kernel
theorem dX9_preach_207 : decode cX9_preach 207 = .ok (.bipush 111, 2) := by decide +kernel
theorem dX9_preach_209 : decode cX9_preach 209 = .ok (.if_icmp .ne 7, 3) := by decide +kernel
theorem dX9_preach_212 : decode cX9_preach 212 = .ok (.iconst 2, 1) := by decide +kernel
theorem dX9_preach_213 : decode cX9_preach 213 = .ok (.goto 4, 3) := by decide +kernel
theorem dX9_preach_216 : decode cX9_preach 216 = .ok (.iconst 0, 1) := by decide +kernel
theorem dX9_preach_217 : decode cX9_preach 217 = .ok (.istore 5, 2) := by decide +kernel
theorem dX9_preach_219 : decode cX9_preach 219 = .ok (.aload_n 0, 1) := by decide +kernel
theorem dX9_preach_220 : decode cX9_preach 220 = .ok (.dup, 1) := by decide +kernel
theorem dX9_preach_221 : decode cX9_preach 221 = .ok (.getfield 150, 3) := by decide +kernel
theorem dX9_preach_224 : decode cX9_preach 224 = .ok (.iload 5, 2) := by decide +kernel
theorem dX9_preach_226 : decode cX9_preach 226 = .ok (.aload_n 0, 1) := by decide +kernel
theorem dX9_preach_227 : decode cX9_preach 227 = .ok (.getfield 72, 3) := by decide +kernel
theorem dX9_preach_230 : decode cX9_preach 230 = .ok (.aload_n 0, 1) := by decide +kernel
theorem dX9_preach_231 : decode cX9_preach 231 = .ok (.getfield 47, 3) := by decide +kernel
theorem dX9_preach_234 : decode cX9_preach 234 = .ok (.iload_n 3, 1) := by decide +kernel
theorem dX9_preach_235 : decode cX9_preach 235 = .ok (.iaload, 1) := by decide +kernel
theorem dX9_preach_236 : decode cX9_preach 236 = .ok (.iconst (-1), 1) := by decide +kernel
theorem dX9_preach_237 : decode cX9_preach 237 = .ok (.ixor, 1) := by decide +kernel
theorem dX9_preach_238 : decode cX9_preach 238 = .ok (.iand, 1) := by decide +kernel
theorem dX9_preach_239 : decode cX9_preach 239 = .ok (.invokestatic 96, 3) := by decide +kernel
theorem dX9_preach_242 : decode cX9_preach 242 = .ok (.imul, 1) := by decide +kernel
theorem dX9_preach_243 : decode cX9_preach 243 = .ok (.iadd, 1) := by decide +kernel
theorem dX9_preach_244 : decode cX9_preach 244 = .ok (.putfield 150, 3) := by decide +kernel
theorem dX9_preach_247 : decode cX9_preach 247 = .ok (.iinc 3 1, 3) := by decide +kernel
theorem dX9_preach_250 : decode cX9_preach 250 = .ok (.goto (-160), 3) := by decide +kernel
theorem dX9_preach_253 : decode cX9_preach 253 = .ok (.return_, 1) := by decide +kernel
theorem dX9_isMinute_0 : decode cX9_isMinute 0 = .ok (.iload_n 1, 1) := by decide +kernel
theorem dX9_isMinute_1 : decode cX9_isMinute 1 = .ok (.iconst (-1), 1) := by decide +kernel
theorem dX9_isMinute_2 : decode cX9_isMinute 2 = .ok (.aload_n 0, 1) := by decide +kernel
theorem dX9_isMinute_3 : decode cX9_isMinute 3 = .ok (.getfield 103, 3) := by decide +kernel
theorem dX9_isMinute_6 : decode cX9_isMinute 6 = .ok (.iconst 1, 1) := by decide +kernel
theorem dX9_isMinute_7 : decode cX9_isMinute 7 = .ok (.isub, 1) := by decide +kernel
theorem dX9_isMinute_8 : decode cX9_isMinute 8 = .ok (.invokestatic 75, 3) := by decide +kernel
theorem dX9_isMinute_11 : decode cX9_isMinute 11 = .ok (.ireturn, 1) := by decide +kernel
theorem dX9_heard_0 : decode cX9_heard 0 = .ok (.aload_n 0, 1) := by decide +kernel
theorem dX9_heard_1 : decode cX9_heard 1 = .ok (.iload_n 1, 1) := by decide +kernel
theorem dX9_heard_2 : decode cX9_heard 2 = .ok (.invokevirtual 99, 3) := by decide +kernel
theorem dX9_heard_5 : decode cX9_heard 5 = .ok (.ifCond .ne 5, 3) := by decide +kernel
theorem dX9_heard_8 : decode cX9_heard 8 = .ok (.iconst (-1), 1) := by decide +kernel
theorem dX9_heard_9 : decode cX9_heard 9 = .ok (.ireturn, 1) := by decide +kernel
theorem dX9_heard_10 : decode cX9_heard 10 = .ok (.iload_n 3, 1) := by decide +kernel
theorem dX9_heard_11 : decode cX9_heard 11 = .ok (.iconst 0, 1) := by decide +kernel
theorem dX9_heard_12 : decode cX9_heard 12 = .ok (.iconst 3, 1) := by decide +kernel
theorem dX9_heard_13 : decode cX9_heard 13 = .ok (.invokestatic 75, 3) := by decide +kernel
theorem dX9_heard_16 : decode cX9_heard 16 = .ok (.ifCond .ne 6, 3) := by decide +kernel
theorem dX9_heard_19 : decode cX9_heard 19 = .ok (.bipush (-2), 2) := by decide +kernel
theorem dX9_heard_21 : decode cX9_heard 21 = .ok (.ireturn, 1) := by decide +kernel
theorem dX9_heard_22 : decode cX9_heard 22 = .ok (.aload_n 0, 1) := by decide +kernel
theorem dX9_heard_23 : decode cX9_heard 23 = .ok (.invokevirtual 109, 3) := by decide +kernel
theorem dX9_heard_26 : decode cX9_heard 26 = .ok (.ifCond .lt 6, 3) := by decide +kernel
theorem dX9_heard_29 : decode cX9_heard 29 = .ok (.bipush (-5), 2) := by decide +kernel
theorem dX9_heard_31 : decode cX9_heard 31 = .ok (.ireturn, 1) := by decide +kernel
theorem dX9_heard_32 : decode cX9_heard 32 = .ok (.iload_n 2, 1) := by decide +kernel
theorem dX9_heard_33 : decode cX9_heard 33 = .ok (.iconst 0, 1) := by decide +kernel
theorem dX9_heard_34 : decode cX9_heard 34 = .ok (.aload_n 0, 1) := by decide +kernel
theorem dX9_heard_35 : decode cX9_heard 35 = .ok (.getfield 103, 3) := by decide +kernel
theorem dX9_heard_38 : decode cX9_heard 38 = .ok (.iconst 1, 1) := by decide +kernel
theorem dX9_heard_39 : decode cX9_heard 39 = .ok (.isub, 1) := by decide +kernel
theorem dX9_heard_40 : decode cX9_heard 40 = .ok (.invokestatic 75, 3) := by decide +kernel
theorem dX9_heard_43 : decode cX9_heard 43 = .ok (.ifCond .ne 6, 3) := by decide +kernel
theorem dX9_heard_46 : decode cX9_heard 46 = .ok (.bipush (-2), 2) := by decide +kernel
theorem dX9_heard_48 : decode cX9_heard 48 = .ok (.ireturn, 1) := by decide +kernel
theorem dX9_heard_49 : decode cX9_heard 49 = .ok (.aload_n 0, 1) := by decide +kernel
theorem dX9_heard_50 : decode cX9_heard 50 = .ok (.invokevirtual 160, 3) := by decide +kernel
theorem dX9_heard_53 : decode cX9_heard 53 = .ok (.aload_n 0, 1) := by decide +kernel
theorem dX9_heard_54 : decode cX9_heard 54 = .ok (.aload_n 0, 1) := by decide +kernel
theorem dX9_heard_55 : decode cX9_heard 55 = .ok (.getfield 103, 3) := by decide +kernel
theorem dX9_heard_58 : decode cX9_heard 58 = .ok (.invokevirtual 163, 3) := by decide +kernel
theorem dX9_heard_61 : decode cX9_heard 61 = .ok (.iload_n 3, 1) := by decide +kernel
theorem dX9_heard_62 : decode cX9_heard 62 = .ok (.ifCond .ne 17, 3) := by decide +kernel
theorem dX9_heard_65 : decode cX9_heard 65 = .ok (.aload_n 0, 1) := by decide +kernel
theorem dX9_heard_66 : decode cX9_heard 66 = .ok (.getfield 56, 3) := by decide +kernel
theorem dX9_heard_69 : decode cX9_heard 69 = .ok (.bipush 8, 2) := by decide +kernel
theorem dX9_heard_71 : decode cX9_heard 71 = .ok (.iload_n 2, 1) := by decide +kernel
theorem dX9_heard_72 : decode cX9_heard 72 = .ok (.imul, 1) := by decide +kernel
theorem dX9_heard_73 : decode cX9_heard 73 = .ok (.iload_n 1, 1) := by decide +kernel
theorem dX9_heard_74 : decode cX9_heard 74 = .ok (.iadd, 1) := by decide +kernel
theorem dX9_heard_75 : decode cX9_heard 75 = .ok (.iaload, 1) := by decide +kernel
theorem dX9_heard_76 : decode cX9_heard 76 = .ok (.goto 49, 3) := by decide +kernel
theorem dX9_heard_79 : decode cX9_heard 79 = .ok (.iload_n 3, 1) := by decide +kernel
theorem dX9_heard_80 : decode cX9_heard 80 = .ok (.iconst 1, 1) := by decide +kernel
theorem dX9_heard_81 : decode cX9_heard 81 = .ok (.if_icmp .ne 16, 3) := by decide +kernel
theorem dX9_heard_84 : decode cX9_heard 84 = .ok (.aload_n 0, 1) := by decide +kernel
theorem dX9_heard_85 : decode cX9_heard 85 = .ok (.getfield 47, 3) := by decide +kernel
theorem dX9_heard_88 : decode cX9_heard 88 = .ok (.iload_n 2, 1) := by decide +kernel
theorem dX9_heard_89 : decode cX9_heard 89 = .ok (.iaload, 1) := by decide +kernel
theorem dX9_heard_90 : decode cX9_heard 90 = .ok (.iload_n 1, 1) := by decide +kernel
theorem dX9_heard_91 : decode cX9_heard 91 = .ok (.ishr, 1) := by decide +kernel
theorem dX9_heard_92 : decode cX9_heard 92 = .ok (.iconst 1, 1) := by decide +kernel
theorem dX9_heard_93 : decode cX9_heard 93 = .ok (.iand, 1) := by decide +kernel
theorem dX9_heard_94 : decode cX9_heard 94 = .ok (.goto 31, 3) := by decide +kernel
theorem dX9_heard_97 : decode cX9_heard 97 = .ok (.iload_n 3, 1) := by decide +kernel
theorem dX9_heard_98 : decode cX9_heard 98 = .ok (.iconst 2, 1) := by decide +kernel
theorem dX9_heard_99 : decode cX9_heard 99 = .ok (.if_icmp .ne 16, 3) := by decide +kernel
theorem dX9_heard_102 : decode cX9_heard 102 = .ok (.aload_n 0, 1) := by decide +kernel
theorem dX9_heard_103 : decode cX9_heard 103 = .ok (.getfield 50, 3) := by decide +kernel
theorem dX9_heard_106 : decode cX9_heard 106 = .ok (.iload_n 2, 1) := by decide +kernel
theorem dX9_heard_107 : decode cX9_heard 107 = .ok (.iaload, 1) := by decide +kernel
theorem dX9_heard_108 : decode cX9_heard 108 = .ok (.iload_n 1, 1) := by decide +kernel
theorem dX9_heard_109 : decode cX9_heard 109 = .ok (.ishr, 1) := by decide +kernel
theorem dX9_heard_110 : decode cX9_heard 110 = .ok (.iconst 1, 1) := by decide +kernel
theorem dX9_heard_111 : decode cX9_heard 111 = .ok (.iand, 1) := by decide +kernel
theorem dX9_heard_112 : decode cX9_heard 112 = .ok (.goto 13, 3) := by decide +kernel
theorem dX9_heard_115 : decode cX9_heard 115 = .ok (.aload_n 0, 1) := by decide +kernel
theorem dX9_heard_116 : decode cX9_heard 116 = .ok (.getfield 53, 3) := by decide +kernel
theorem dX9_heard_119 : decode cX9_heard 119 = .ok (.iload_n 2, 1) := by decide +kernel
theorem dX9_heard_120 : decode cX9_heard 120 = .ok (.iaload, 1) := by decide +kernel
theorem dX9_heard_121 : decode cX9_heard 121 = .ok (.iload_n 1, 1) := by decide +kernel
theorem dX9_heard_122 : decode cX9_heard 122 = .ok (.ishr, 1) := by decide +kernel
theorem dX9_heard_123 : decode cX9_heard 123 = .ok (.iconst 1, 1) := by decide +kernel
theorem dX9_heard_124 : decode cX9_heard 124 = .ok (.iand, 1) := by decide +kernel
theorem dX9_heard_125 : decode cX9_heard 125 = .ok (.ireturn, 1) := by decide +kernel
theorem dX9_sum_0 : decode cX9_sum 0 = .ok (.iload_n 2, 1) := by decide +kernel
theorem dX9_sum_1 : decode cX9_sum 1 = .ok (.iconst 0, 1) := by decide +kernel
theorem dX9_sum_2 : decode cX9_sum 2 = .ok (.iconst 4, 1) := by decide +kernel
theorem dX9_sum_3 : decode cX9_sum 3 = .ok (.invokestatic 75, 3) := by decide +kernel
theorem dX9_sum_6 : decode cX9_sum 6 = .ok (.ifCond .ne 6, 3) := by decide +kernel
theorem dX9_sum_9 : decode cX9_sum 9 = .ok (.bipush (-2), 2) := by decide +kernel
theorem dX9_sum_11 : decode cX9_sum 11 = .ok (.ireturn, 1) := by decide +kernel
theorem dX9_sum_12 : decode cX9_sum 12 = .ok (.aload_n 0, 1) := by decide +kernel
theorem dX9_sum_13 : decode cX9_sum 13 = .ok (.invokevirtual 109, 3) := by decide +kernel
theorem dX9_sum_16 : decode cX9_sum 16 = .ok (.ifCond .lt 6, 3) := by decide +kernel
theorem dX9_sum_19 : decode cX9_sum 19 = .ok (.bipush (-5), 2) := by decide +kernel
theorem dX9_sum_21 : decode cX9_sum 21 = .ok (.ireturn, 1) := by decide +kernel
theorem dX9_sum_22 : decode cX9_sum 22 = .ok (.aload_n 0, 1) := by decide +kernel
theorem dX9_sum_23 : decode cX9_sum 23 = .ok (.iload_n 1, 1) := by decide +kernel
theorem dX9_sum_24 : decode cX9_sum 24 = .ok (.invokevirtual 166, 3) := by decide +kernel
theorem dX9_sum_27 : decode cX9_sum 27 = .ok (.ifCond .ne 6, 3) := by decide +kernel
theorem dX9_sum_30 : decode cX9_sum 30 = .ok (.bipush (-2), 2) := by decide +kernel
theorem dX9_sum_32 : decode cX9_sum 32 = .ok (.ireturn, 1) := by decide +kernel
theorem dX9_sum_33 : decode cX9_sum 33 = .ok (.aload_n 0, 1) := by decide +kernel
theorem dX9_sum_34 : decode cX9_sum 34 = .ok (.invokevirtual 160, 3) := by decide +kernel
theorem dX9_sum_37 : decode cX9_sum 37 = .ok (.aload_n 0, 1) := by decide +kernel
theorem dX9_sum_38 : decode cX9_sum 38 = .ok (.iload_n 1, 1) := by decide +kernel
theorem dX9_sum_39 : decode cX9_sum 39 = .ok (.ifCond .ge 10, 3) := by decide +kernel
theorem dX9_sum_42 : decode cX9_sum 42 = .ok (.aload_n 0, 1) := by decide +kernel
theorem dX9_sum_43 : decode cX9_sum 43 = .ok (.getfield 103, 3) := by decide +kernel
theorem dX9_sum_46 : decode cX9_sum 46 = .ok (.goto 6, 3) := by decide +kernel
theorem dX9_sum_49 : decode cX9_sum 49 = .ok (.iload_n 1, 1) := by decide +kernel
theorem dX9_sum_50 : decode cX9_sum 50 = .ok (.iconst 1, 1) := by decide +kernel
theorem dX9_sum_51 : decode cX9_sum 51 = .ok (.iadd, 1) := by decide +kernel
theorem dX9_sum_52 : decode cX9_sum 52 = .ok (.invokevirtual 163, 3) := by decide +kernel
theorem dX9_sum_55 : decode cX9_sum 55 = .ok (.iload_n 2, 1) := by decide +kernel
theorem dX9_sum_56 : decode cX9_sum 56 = .ok (.ifCond .ne 10, 3) := by decide +kernel
theorem dX9_sum_59 : decode cX9_sum 59 = .ok (.aload_n 0, 1) := by decide +kernel
theorem dX9_sum_60 : decode cX9_sum 60 = .ok (.getfield 141, 3) := by decide +kernel
theorem dX9_sum_63 : decode cX9_sum 63 = .ok (.goto 43, 3) := by decide +kernel
theorem dX9_sum_66 : decode cX9_sum 66 = .ok (.iload_n 2, 1) := by decide +kernel
theorem dX9_sum_67 : decode cX9_sum 67 = .ok (.iconst 1, 1) := by decide +kernel
theorem dX9_sum_68 : decode cX9_sum 68 = .ok (.if_icmp .ne 10, 3) := by decide +kernel
theorem dX9_sum_71 : decode cX9_sum 71 = .ok (.aload_n 0, 1) := by decide +kernel
theorem dX9_sum_72 : decode cX9_sum 72 = .ok (.getfield 144, 3) := by decide +kernel
theorem dX9_sum_75 : decode cX9_sum 75 = .ok (.goto 31, 3) := by decide +kernel
theorem dX9_sum_78 : decode cX9_sum 78 = .ok (.iload_n 2, 1) := by decide +kernel
theorem dX9_sum_79 : decode cX9_sum 79 = .ok (.iconst 2, 1) := by decide +kernel
theorem dX9_sum_80 : decode cX9_sum 80 = .ok (.if_icmp .ne 10, 3) := by decide +kernel
theorem dX9_sum_83 : decode cX9_sum 83 = .ok (.aload_n 0, 1) := by decide +kernel
theorem dX9_sum_84 : decode cX9_sum 84 = .ok (.getfield 147, 3) := by decide +kernel
theorem dX9_sum_87 : decode cX9_sum 87 = .ok (.goto 19, 3) := by decide +kernel
theorem dX9_sum_90 : decode cX9_sum 90 = .ok (.iload_n 2, 1) := by decide +kernel
theorem dX9_sum_91 : decode cX9_sum 91 = .ok (.iconst 3, 1) := by decide +kernel
theorem dX9_sum_92 : decode cX9_sum 92 = .ok (.if_icmp .ne 10, 3) := by decide +kernel
theorem dX9_sum_95 : decode cX9_sum 95 = .ok (.aload_n 0, 1) := by decide +kernel
theorem dX9_sum_96 : decode cX9_sum 96 = .ok (.getfield 150, 3) := by decide +kernel
theorem dX9_sum_99 : decode cX9_sum 99 = .ok (.goto 7, 3) := by decide +kernel
theorem dX9_sum_102 : decode cX9_sum 102 = .ok (.aload_n 0, 1) := by decide +kernel
theorem dX9_sum_103 : decode cX9_sum 103 = .ok (.getfield 153, 3) := by decide +kernel
theorem dX9_sum_106 : decode cX9_sum 106 = .ok (.ireturn, 1) := by decide +kernel
theorem dX9_first_0 : decode cX9_first 0 = .ok (.iload_n 1, 1) := by decide +kernel
theorem dX9_first_1 : decode cX9_first 1 = .ok (.iconst 0, 1) := by decide +kernel
theorem dX9_first_2 : decode cX9_first 2 = .ok (.iconst 1, 1) := by decide +kernel
theorem dX9_first_3 : decode cX9_first 3 = .ok (.invokestatic 75, 3) := by decide +kernel
theorem dX9_first_6 : decode cX9_first 6 = .ok (.ifCond .ne 6, 3) := by decide +kernel
theorem dX9_first_9 : decode cX9_first 9 = .ok (.bipush (-2), 2) := by decide +kernel
theorem dX9_first_11 : decode cX9_first 11 = .ok (.ireturn, 1) := by decide +kernel
theorem dX9_first_12 : decode cX9_first 12 = .ok (.aload_n 0, 1) := by decide +kernel
theorem dX9_first_13 : decode cX9_first 13 = .ok (.invokevirtual 109, 3) := by decide +kernel
theorem dX9_first_16 : decode cX9_first 16 = .ok (.ifCond .lt 6, 3) := by decide +kernel
theorem dX9_first_19 : decode cX9_first 19 = .ok (.bipush (-5), 2) := by decide +kernel
theorem dX9_first_21 : decode cX9_first 21 = .ok (.ireturn, 1) := by decide +kernel
theorem dX9_first_22 : decode cX9_first 22 = .ok (.aload_n 0, 1) := by decide +kernel
theorem dX9_first_23 : decode cX9_first 23 = .ok (.invokevirtual 160, 3) := by decide +kernel
theorem dX9_first_26 : decode cX9_first 26 = .ok (.aload_n 0, 1) := by decide +kernel
theorem dX9_first_27 : decode cX9_first 27 = .ok (.aload_n 0, 1) := by decide +kernel
theorem dX9_first_28 : decode cX9_first 28 = .ok (.getfield 103, 3) := by decide +kernel
theorem dX9_first_31 : decode cX9_first 31 = .ok (.invokevirtual 163, 3) := by decide +kernel
theorem dX9_first_34 : decode cX9_first 34 = .ok (.bipush (-6), 2) := by decide +kernel
theorem dX9_first_36 : decode cX9_first 36 = .ok (.istore_n 2, 1) := by decide +kernel
theorem dX9_first_37 : decode cX9_first 37 = .ok (.aload_n 0, 1) := by decide +kernel
theorem dX9_first_38 : decode cX9_first 38 = .ok (.getfield 103, 3) := by decide +kernel
theorem dX9_first_41 : decode cX9_first 41 = .ok (.iconst 1, 1) := by decide +kernel
theorem dX9_first_42 : decode cX9_first 42 = .ok (.isub, 1) := by decide +kernel
theorem dX9_first_43 : decode cX9_first 43 = .ok (.istore_n 3, 1) := by decide +kernel
theorem dX9_first_44 : decode cX9_first 44 = .ok (.iload_n 3, 1) := by decide +kernel
theorem dX9_first_45 : decode cX9_first 45 = .ok (.ifCond .lt 37, 3) := by decide +kernel
theorem dX9_first_48 : decode cX9_first 48 = .ok (.iload_n 1, 1) := by decide +kernel
theorem dX9_first_49 : decode cX9_first 49 = .ok (.ifCond .ne 12, 3) := by decide +kernel
theorem dX9_first_52 : decode cX9_first 52 = .ok (.aload_n 0, 1) := by decide +kernel
theorem dX9_first_53 : decode cX9_first 53 = .ok (.getfield 47, 3) := by decide +kernel
theorem dX9_first_56 : decode cX9_first 56 = .ok (.iload_n 3, 1) := by decide +kernel
theorem dX9_first_57 : decode cX9_first 57 = .ok (.iaload, 1) := by decide +kernel
theorem dX9_first_58 : decode cX9_first 58 = .ok (.goto 9, 3) := by decide +kernel
theorem dX9_first_61 : decode cX9_first 61 = .ok (.aload_n 0, 1) := by decide +kernel
theorem dX9_first_62 : decode cX9_first 62 = .ok (.getfield 53, 3) := by decide +kernel
theorem dX9_first_65 : decode cX9_first 65 = .ok (.iload_n 3, 1) := by decide +kernel
theorem dX9_first_66 : decode cX9_first 66 = .ok (.iaload, 1) := by decide +kernel
theorem dX9_first_67 : decode cX9_first 67 = .ok (.ifCond .eq 7, 3) := by decide +kernel
theorem dX9_first_70 : decode cX9_first 70 = .ok (.iload_n 3, 1) := by decide +kernel
theorem dX9_first_71 : decode cX9_first 71 = .ok (.goto 4, 3) := by decide +kernel
theorem dX9_first_74 : decode cX9_first 74 = .ok (.iload_n 2, 1) := by decide +kernel
theorem dX9_first_75 : decode cX9_first 75 = .ok (.istore_n 2, 1) := by decide +kernel
theorem dX9_first_76 : decode cX9_first 76 = .ok (.iinc 3 (-1), 3) := by decide +kernel
theorem dX9_first_79 : decode cX9_first 79 = .ok (.goto (-35), 3) := by decide +kernel
theorem dX9_first_82 : decode cX9_first 82 = .ok (.iload_n 2, 1) := by decide +kernel
theorem dX9_first_83 : decode cX9_first 83 = .ok (.ireturn, 1) := by decide +kernel
theorem dX9_gainOf_0 : decode cX9_gainOf 0 = .ok (.aload_n 0, 1) := by decide +kernel
theorem dX9_gainOf_1 : decode cX9_gainOf 1 = .ok (.aload_n 0, 1) := by decide +kernel
theorem dX9_gainOf_2 : decode cX9_gainOf 2 = .ok (.getfield 113, 3) := by decide +kernel
theorem dX9_gainOf_5 : decode cX9_gainOf 5 = .ok (.invokevirtual 163, 3) := by decide +kernel
theorem dX9_gainOf_8 : decode cX9_gainOf 8 = .ok (.aload_n 0, 1) := by decide +kernel
theorem dX9_gainOf_9 : decode cX9_gainOf 9 = .ok (.getfield 150, 3) := by decide +kernel
theorem dX9_gainOf_12 : decode cX9_gainOf 12 = .ok (.aload_n 0, 1) := by decide +kernel
theorem dX9_gainOf_13 : decode cX9_gainOf 13 = .ok (.getfield 147, 3) := by decide +kernel
theorem dX9_gainOf_16 : decode cX9_gainOf 16 = .ok (.isub, 1) := by decide +kernel
theorem dX9_gainOf_17 : decode cX9_gainOf 17 = .ok (.ireturn, 1) := by decide +kernel
theorem dX9_gain_0 : decode cX9_gain 0 = .ok (.aload_n 0, 1) := by decide +kernel
theorem dX9_gain_1 : decode cX9_gain 1 = .ok (.invokevirtual 109, 3) := by decide +kernel
theorem dX9_gain_4 : decode cX9_gain 4 = .ok (.ifCond .lt 6, 3) := by decide +kernel
theorem dX9_gain_7 : decode cX9_gain 7 = .ok (.bipush (-5), 2) := by decide +kernel
theorem dX9_gain_9 : decode cX9_gain 9 = .ok (.ireturn, 1) := by decide +kernel
theorem dX9_gain_10 : decode cX9_gain 10 = .ok (.aload_n 0, 1) := by decide +kernel
theorem dX9_gain_11 : decode cX9_gain 11 = .ok (.invokevirtual 160, 3) := by decide +kernel
theorem dX9_gain_14 : decode cX9_gain 14 = .ok (.aload_n 0, 1) := by decide +kernel
theorem dX9_gain_15 : decode cX9_gain 15 = .ok (.invokevirtual 169, 3) := by decide +kernel
theorem dX9_gain_18 : decode cX9_gain 18 = .ok (.sipush 10000, 3) := by decide +kernel
theorem dX9_gain_21 : decode cX9_gain 21 = .ok (.iadd, 1) := by decide +kernel
theorem dX9_gain_22 : decode cX9_gain 22 = .ok (.ireturn, 1) := by decide +kernel
theorem dX9_sort_0 : decode cX9_sort 0 = .ok (.iconst 0, 1) := by decide +kernel
theorem dX9_sort_1 : decode cX9_sort 1 = .ok (.istore_n 1, 1) := by decide +kernel
theorem dX9_sort_2 : decode cX9_sort 2 = .ok (.iload_n 1, 1) := by decide +kernel
theorem dX9_sort_3 : decode cX9_sort 3 = .ok (.aload_n 0, 1) := by decide +kernel
theorem dX9_sort_4 : decode cX9_sort 4 = .ok (.getfield 113, 3) := by decide +kernel
theorem dX9_sort_7 : decode cX9_sort 7 = .ok (.if_icmp .ge 48, 3) := by decide +kernel
theorem dX9_sort_10 : decode cX9_sort 10 = .ok (.iload_n 1, 1) := by decide +kernel
theorem dX9_sort_11 : decode cX9_sort 11 = .ok (.iconst 1, 1) := by decide +kernel
theorem dX9_sort_12 : decode cX9_sort 12 = .ok (.iadd, 1) := by decide +kernel
theorem dX9_sort_13 : decode cX9_sort 13 = .ok (.istore_n 2, 1) := by decide +kernel
theorem dX9_sort_14 : decode cX9_sort 14 = .ok (.iload_n 2, 1) := by decide +kernel
theorem dX9_sort_15 : decode cX9_sort 15 = .ok (.aload_n 0, 1) := by decide +kernel
theorem dX9_sort_16 : decode cX9_sort 16 = .ok (.getfield 113, 3) := by decide +kernel
theorem dX9_sort_19 : decode cX9_sort 19 = .ok (.if_icmp .ge 30, 3) := by decide +kernel
theorem dX9_sort_22 : decode cX9_sort 22 = .ok (.aload_n 0, 1) := by decide +kernel
theorem dX9_sort_23 : decode cX9_sort 23 = .ok (.getfield 38, 3) := by decide +kernel
theorem dX9_sort_26 : decode cX9_sort 26 = .ok (.iload_n 2, 1) := by decide +kernel
theorem dX9_sort_27 : decode cX9_sort 27 = .ok (.iaload, 1) := by decide +kernel
theorem dX9_sort_28 : decode cX9_sort 28 = .ok (.aload_n 0, 1) := by decide +kernel
theorem dX9_sort_29 : decode cX9_sort 29 = .ok (.getfield 38, 3) := by decide +kernel
theorem dX9_sort_32 : decode cX9_sort 32 = .ok (.iload_n 1, 1) := by decide +kernel
theorem dX9_sort_33 : decode cX9_sort 33 = .ok (.iaload, 1) := by decide +kernel
theorem dX9_sort_34 : decode cX9_sort 34 = .ok (.if_icmp .ge 9, 3) := by decide +kernel
theorem dX9_sort_37 : decode cX9_sort 37 = .ok (.aload_n 0, 1) := by decide +kernel
theorem dX9_sort_38 : decode cX9_sort 38 = .ok (.iload_n 2, 1) := by decide +kernel
theorem dX9_sort_39 : decode cX9_sort 39 = .ok (.iload_n 1, 1) := by decide +kernel
theorem dX9_sort_40 : decode cX9_sort 40 = .ok (.invokevirtual 172, 3) := by decide +kernel
theorem dX9_sort_43 : decode cX9_sort 43 = .ok (.iinc 2 1, 3) := by decide +kernel
theorem dX9_sort_46 : decode cX9_sort 46 = .ok (.goto (-32), 3) := by decide +kernel
theorem dX9_sort_49 : decode cX9_sort 49 = .ok (.iinc 1 1, 3) := by decide +kernel
theorem dX9_sort_52 : decode cX9_sort 52 = .ok (.goto (-50), 3) := by decide +kernel
theorem dX9_sort_55 : decode cX9_sort 55 = .ok (.return_, 1) := by decide +kernel
theorem dX9_swap_0 : decode cX9_swap 0 = .ok (.aload_n 0, 1) := by decide +kernel
theorem dX9_swap_1 : decode cX9_swap 1 = .ok (.getfield 38, 3) := by decide +kernel
theorem dX9_swap_4 : decode cX9_swap 4 = .ok (.iload_n 1, 1) := by decide +kernel
theorem dX9_swap_5 : decode cX9_swap 5 = .ok (.iaload, 1) := by decide +kernel
theorem dX9_swap_6 : decode cX9_swap 6 = .ok (.istore_n 3, 1) := by decide +kernel
theorem dX9_swap_7 : decode cX9_swap 7 = .ok (.aload_n 0, 1) := by decide +kernel
theorem dX9_swap_8 : decode cX9_swap 8 = .ok (.getfield 38, 3) := by decide +kernel
theorem dX9_swap_11 : decode cX9_swap 11 = .ok (.iload_n 1, 1) := by decide +kernel
theorem dX9_swap_12 : decode cX9_swap 12 = .ok (.aload_n 0, 1) := by decide +kernel
theorem dX9_swap_13 : decode cX9_swap 13 = .ok (.getfield 38, 3) := by decide +kernel
theorem dX9_swap_16 : decode cX9_swap 16 = .ok (.iload_n 2, 1) := by decide +kernel
theorem dX9_swap_17 : decode cX9_swap 17 = .ok (.iaload, 1) := by decide +kernel
theorem dX9_swap_18 : decode cX9_swap 18 = .ok (.iastore, 1) := by decide +kernel
theorem dX9_swap_19 : decode cX9_swap 19 = .ok (.aload_n 0, 1) := by decide +kernel
theorem dX9_swap_20 : decode cX9_swap 20 = .ok (.getfield 38, 3) := by decide +kernel
theorem dX9_swap_23 : decode cX9_swap 23 = .ok (.iload_n 2, 1) := by decide +kernel
theorem dX9_swap_24 : decode cX9_swap 24 = .ok (.iload_n 3, 1) := by decide +kernel
theorem dX9_swap_25 : decode cX9_swap 25 = .ok (.iastore, 1) := by decide +kernel
theorem dX9_swap_26 : decode cX9_swap 26 = .ok (.return_, 1) := by decide +kernel
theorem dX9_goOn_0 : decode cX9_goOn 0 = .ok (.aload_n 0, 1) := by decide +kernel
theorem dX9_goOn_1 : decode cX9_goOn 1 = .ok (.getfield 113, 3) := by decide +kernel
theorem dX9_goOn_4 : decode cX9_goOn 4 = .ok (.iconst 2, 1) := by decide +kernel
theorem dX9_goOn_5 : decode cX9_goOn 5 = .ok (.isub, 1) := by decide +kernel
theorem dX9_goOn_6 : decode cX9_goOn 6 = .ok (.istore_n 1, 1) := by decide +kernel
theorem dX9_goOn_7 : decode cX9_goOn 7 = .ok (.iload_n 1, 1) := by decide +kernel
theorem dX9_goOn_8 : decode cX9_goOn 8 = .ok (.ifCond .lt 26, 3) := by decide +kernel
theorem dX9_goOn_11 : decode cX9_goOn 11 = .ok (.aload_n 0, 1) := by decide +kernel
theorem dX9_goOn_12 : decode cX9_goOn 12 = .ok (.getfield 38, 3) := by decide +kernel
theorem dX9_goOn_15 : decode cX9_goOn 15 = .ok (.iload_n 1, 1) := by decide +kernel
theorem dX9_goOn_16 : decode cX9_goOn 16 = .ok (.iaload, 1) := by decide +kernel
theorem dX9_goOn_17 : decode cX9_goOn 17 = .ok (.aload_n 0, 1) := by decide +kernel
theorem dX9_goOn_18 : decode cX9_goOn 18 = .ok (.getfield 38, 3) := by decide +kernel
theorem dX9_goOn_21 : decode cX9_goOn 21 = .ok (.iload_n 1, 1) := by decide +kernel
theorem dX9_goOn_22 : decode cX9_goOn 22 = .ok (.iconst 1, 1) := by decide +kernel
theorem dX9_goOn_23 : decode cX9_goOn 23 = .ok (.iadd, 1) := by decide +kernel
theorem dX9_goOn_24 : decode cX9_goOn 24 = .ok (.iaload, 1) := by decide +kernel
theorem dX9_goOn_25 : decode cX9_goOn 25 = .ok (.if_icmp .lt 9, 3) := by decide +kernel
theorem dX9_goOn_28 : decode cX9_goOn 28 = .ok (.iinc 1 (-1), 3) := by decide +kernel
theorem dX9_goOn_31 : decode cX9_goOn 31 = .ok (.goto (-24), 3) := by decide +kernel
theorem dX9_goOn_34 : decode cX9_goOn 34 = .ok (.iload_n 1, 1) := by decide +kernel
theorem dX9_goOn_35 : decode cX9_goOn 35 = .ok (.ifCond .ge 5, 3) := by decide +kernel
theorem dX9_goOn_38 : decode cX9_goOn 38 = .ok (.iconst 0, 1) := by decide +kernel
theorem dX9_goOn_39 : decode cX9_goOn 39 = .ok (.ireturn, 1) := by decide +kernel
theorem dX9_goOn_40 : decode cX9_goOn 40 = .ok (.aload_n 0, 1) := by decide +kernel
theorem dX9_goOn_41 : decode cX9_goOn 41 = .ok (.getfield 113, 3) := by decide +kernel
theorem dX9_goOn_44 : decode cX9_goOn 44 = .ok (.iconst 1, 1) := by decide +kernel
theorem dX9_goOn_45 : decode cX9_goOn 45 = .ok (.isub, 1) := by decide +kernel
theorem dX9_goOn_46 : decode cX9_goOn 46 = .ok (.istore_n 2, 1) := by decide +kernel
theorem dX9_goOn_47 : decode cX9_goOn 47 = .ok (.aload_n 0, 1) := by decide +kernel
theorem dX9_goOn_48 : decode cX9_goOn 48 = .ok (.getfield 38, 3) := by decide +kernel
theorem dX9_goOn_51 : decode cX9_goOn 51 = .ok (.iload_n 2, 1) := by decide +kernel
theorem dX9_goOn_52 : decode cX9_goOn 52 = .ok (.iaload, 1) := by decide +kernel
theorem dX9_goOn_53 : decode cX9_goOn 53 = .ok (.aload_n 0, 1) := by decide +kernel
theorem dX9_goOn_54 : decode cX9_goOn 54 = .ok (.getfield 38, 3) := by decide +kernel
theorem dX9_goOn_57 : decode cX9_goOn 57 = .ok (.iload_n 1, 1) := by decide +kernel
theorem dX9_goOn_58 : decode cX9_goOn 58 = .ok (.iaload, 1) := by decide +kernel
theorem dX9_goOn_59 : decode cX9_goOn 59 = .ok (.if_icmp .gt 9, 3) := by decide +kernel
theorem dX9_goOn_62 : decode cX9_goOn 62 = .ok (.iinc 2 (-1), 3) := by decide +kernel
theorem dX9_goOn_65 : decode cX9_goOn 65 = .ok (.goto (-18), 3) := by decide +kernel
theorem dX9_goOn_68 : decode cX9_goOn 68 = .ok (.aload_n 0, 1) := by decide +kernel
theorem dX9_goOn_69 : decode cX9_goOn 69 = .ok (.iload_n 2, 1) := by decide +kernel
theorem dX9_goOn_70 : decode cX9_goOn 70 = .ok (.iload_n 1, 1) := by decide +kernel
theorem dX9_goOn_71 : decode cX9_goOn 71 = .ok (.invokevirtual 172, 3) := by decide +kernel
theorem dX9_goOn_74 : decode cX9_goOn 74 = .ok (.iload_n 1, 1) := by decide +kernel
theorem dX9_goOn_75 : decode cX9_goOn 75 = .ok (.iconst 1, 1) := by decide +kernel
theorem dX9_goOn_76 : decode cX9_goOn 76 = .ok (.iadd, 1) := by decide +kernel
theorem dX9_goOn_77 : decode cX9_goOn 77 = .ok (.istore_n 3, 1) := by decide +kernel
theorem dX9_goOn_78 : decode cX9_goOn 78 = .ok (.aload_n 0, 1) := by decide +kernel
theorem dX9_goOn_79 : decode cX9_goOn 79 = .ok (.getfield 113, 3) := by decide +kernel
theorem dX9_goOn_82 : decode cX9_goOn 82 = .ok (.iconst 1, 1) := by decide +kernel
theorem dX9_goOn_83 : decode cX9_goOn 83 = .ok (.isub, 1) := by decide +kernel
theorem dX9_goOn_84 : decode cX9_goOn 84 = .ok (.istore 4, 2) := by decide +kernel
theorem dX9_goOn_86 : decode cX9_goOn 86 = .ok (.iload_n 3, 1) := by decide +kernel
theorem dX9_goOn_87 : decode cX9_goOn 87 = .ok (.iload 4, 2) := by decide +kernel
theorem dX9_goOn_89 : decode cX9_goOn 89 = .ok (.if_icmp .ge 19, 3) := by decide +kernel
theorem dX9_goOn_92 : decode cX9_goOn 92 = .ok (.aload_n 0, 1) := by decide +kernel
theorem dX9_goOn_93 : decode cX9_goOn 93 = .ok (.iload_n 3, 1) := by decide +kernel
theorem dX9_goOn_94 : decode cX9_goOn 94 = .ok (.iload 4, 2) := by decide +kernel
theorem dX9_goOn_96 : decode cX9_goOn 96 = .ok (.invokevirtual 172, 3) := by decide +kernel
theorem dX9_goOn_99 : decode cX9_goOn 99 = .ok (.iinc 3 1, 3) := by decide +kernel
theorem dX9_goOn_102 : decode cX9_goOn 102 = .ok (.iinc 4 (-1), 3) := by decide +kernel
theorem dX9_goOn_105 : decode cX9_goOn 105 = .ok (.goto (-19), 3) := by decide +kernel
theorem dX9_goOn_108 : decode cX9_goOn 108 = .ok (.iconst 1, 1) := by decide +kernel
theorem dX9_goOn_109 : decode cX9_goOn 109 = .ok (.ireturn, 1) := by decide +kernel
theorem dX9_order_0 : decode cX9_order 0 = .ok (.iload_n 1, 1) := by decide +kernel
theorem dX9_order_1 : decode cX9_order 1 = .ok (.iconst 0, 1) := by decide +kernel
theorem dX9_order_2 : decode cX9_order 2 = .ok (.iconst 1, 1) := by decide +kernel
theorem dX9_order_3 : decode cX9_order 3 = .ok (.invokestatic 75, 3) := by decide +kernel
theorem dX9_order_6 : decode cX9_order 6 = .ok (.ifCond .ne 6, 3) := by decide +kernel
theorem dX9_order_9 : decode cX9_order 9 = .ok (.bipush (-2), 2) := by decide +kernel
theorem dX9_order_11 : decode cX9_order 11 = .ok (.ireturn, 1) := by decide +kernel
theorem dX9_order_12 : decode cX9_order 12 = .ok (.aload_n 0, 1) := by decide +kernel
theorem dX9_order_13 : decode cX9_order 13 = .ok (.invokevirtual 109, 3) := by decide +kernel
theorem dX9_order_16 : decode cX9_order 16 = .ok (.ifCond .lt 6, 3) := by decide +kernel
theorem dX9_order_19 : decode cX9_order 19 = .ok (.bipush (-5), 2) := by decide +kernel
theorem dX9_order_21 : decode cX9_order 21 = .ok (.ireturn, 1) := by decide +kernel
theorem dX9_order_22 : decode cX9_order 22 = .ok (.aload_n 0, 1) := by decide +kernel
theorem dX9_order_23 : decode cX9_order 23 = .ok (.getfield 103, 3) := by decide +kernel
theorem dX9_order_26 : decode cX9_order 26 = .ok (.bipush 7, 2) := by decide +kernel
theorem dX9_order_28 : decode cX9_order 28 = .ok (.if_icmp .le 6, 3) := by decide +kernel
theorem dX9_order_31 : decode cX9_order 31 = .ok (.bipush (-4), 2) := by decide +kernel
theorem dX9_order_33 : decode cX9_order 33 = .ok (.ireturn, 1) := by decide +kernel
theorem dX9_order_34 : decode cX9_order 34 = .ok (.aload_n 0, 1) := by decide +kernel
theorem dX9_order_35 : decode cX9_order 35 = .ok (.invokevirtual 160, 3) := by decide +kernel
theorem dX9_order_38 : decode cX9_order 38 = .ok (.aload_n 0, 1) := by decide +kernel
theorem dX9_order_39 : decode cX9_order 39 = .ok (.invokevirtual 176, 3) := by decide +kernel
theorem dX9_order_42 : decode cX9_order 42 = .ok (.ldc 179, 2) := by decide +kernel
theorem dX9_order_44 : decode cX9_order 44 = .ok (.istore_n 3, 1) := by decide +kernel
theorem dX9_order_45 : decode cX9_order 45 = .ok (.iconst 1, 1) := by decide +kernel
theorem dX9_order_46 : decode cX9_order 46 = .ok (.istore 4, 2) := by decide +kernel
theorem dX9_order_48 : decode cX9_order 48 = .ok (.iload 4, 2) := by decide +kernel
theorem dX9_order_50 : decode cX9_order 50 = .ok (.ifCond .eq 75, 3) := by decide +kernel
theorem dX9_order_53 : decode cX9_order 53 = .ok (.aload_n 0, 1) := by decide +kernel
theorem dX9_order_54 : decode cX9_order 54 = .ok (.invokevirtual 169, 3) := by decide +kernel
theorem dX9_order_57 : decode cX9_order 57 = .ok (.istore 5, 2) := by decide +kernel
theorem dX9_order_59 : decode cX9_order 59 = .ok (.iload_n 1, 1) := by decide +kernel
theorem dX9_order_60 : decode cX9_order 60 = .ok (.ifCond .ne 10, 3) := by decide +kernel
theorem dX9_order_63 : decode cX9_order 63 = .ok (.aload_n 0, 1) := by decide +kernel
theorem dX9_order_64 : decode cX9_order 64 = .ok (.getfield 147, 3) := by decide +kernel
theorem dX9_order_67 : decode cX9_order 67 = .ok (.goto 6, 3) := by decide +kernel
theorem dX9_order_70 : decode cX9_order 70 = .ok (.iload 5, 2) := by decide +kernel
theorem dX9_order_72 : decode cX9_order 72 = .ok (.ineg, 1) := by decide +kernel
theorem dX9_order_73 : decode cX9_order 73 = .ok (.istore 6, 2) := by decide +kernel
theorem dX9_order_75 : decode cX9_order 75 = .ok (.iload 6, 2) := by decide +kernel
theorem dX9_order_77 : decode cX9_order 77 = .ok (.iload_n 3, 1) := by decide +kernel
theorem dX9_order_78 : decode cX9_order 78 = .ok (.if_icmp .ge 38, 3) := by decide +kernel
theorem dX9_order_81 : decode cX9_order 81 = .ok (.iload 6, 2) := by decide +kernel
theorem dX9_order_83 : decode cX9_order 83 = .ok (.istore_n 3, 1) := by decide +kernel
theorem dX9_order_84 : decode cX9_order 84 = .ok (.iconst 0, 1) := by decide +kernel
theorem dX9_order_85 : decode cX9_order 85 = .ok (.istore 7, 2) := by decide +kernel
theorem dX9_order_87 : decode cX9_order 87 = .ok (.iload 7, 2) := by decide +kernel
theorem dX9_order_89 : decode cX9_order 89 = .ok (.aload_n 0, 1) := by decide +kernel
theorem dX9_order_90 : decode cX9_order 90 = .ok (.getfield 113, 3) := by decide +kernel
theorem dX9_order_93 : decode cX9_order 93 = .ok (.if_icmp .ge 23, 3) := by decide +kernel
theorem dX9_order_96 : decode cX9_order 96 = .ok (.aload_n 0, 1) := by decide +kernel
theorem dX9_order_97 : decode cX9_order 97 = .ok (.getfield 59, 3) := by decide +kernel
theorem dX9_order_100 : decode cX9_order 100 = .ok (.iload 7, 2) := by decide +kernel
theorem dX9_order_102 : decode cX9_order 102 = .ok (.aload_n 0, 1) := by decide +kernel
theorem dX9_order_103 : decode cX9_order 103 = .ok (.getfield 38, 3) := by decide +kernel
theorem dX9_order_106 : decode cX9_order 106 = .ok (.iload 7, 2) := by decide +kernel
theorem dX9_order_108 : decode cX9_order 108 = .ok (.iaload, 1) := by decide +kernel
theorem dX9_order_109 : decode cX9_order 109 = .ok (.iastore, 1) := by decide +kernel
theorem dX9_order_110 : decode cX9_order 110 = .ok (.iinc 7 1, 3) := by decide +kernel
theorem dX9_order_113 : decode cX9_order 113 = .ok (.goto (-26), 3) := by decide +kernel
theorem dX9_order_116 : decode cX9_order 116 = .ok (.aload_n 0, 1) := by decide +kernel
theorem dX9_order_117 : decode cX9_order 117 = .ok (.invokevirtual 180, 3) := by decide +kernel
theorem dX9_order_120 : decode cX9_order 120 = .ok (.istore 4, 2) := by decide +kernel
theorem dX9_order_122 : decode cX9_order 122 = .ok (.goto (-74), 3) := by decide +kernel
theorem dX9_order_125 : decode cX9_order 125 = .ok (.iload_n 2, 1) := by decide +kernel
theorem dX9_order_126 : decode cX9_order 126 = .ok (.iconst (-1), 1) := by decide +kernel
theorem dX9_order_127 : decode cX9_order 127 = .ok (.if_icmp .ne 17, 3) := by decide +kernel
theorem dX9_order_130 : decode cX9_order 130 = .ok (.iload_n 1, 1) := by decide +kernel
theorem dX9_order_131 : decode cX9_order 131 = .ok (.ifCond .ne 7, 3) := by decide +kernel
theorem dX9_order_134 : decode cX9_order 134 = .ok (.iload_n 3, 1) := by decide +kernel
theorem dX9_order_135 : decode cX9_order 135 = .ok (.goto 8, 3) := by decide +kernel
theorem dX9_order_138 : decode cX9_order 138 = .ok (.sipush 10000, 3) := by decide +kernel
theorem dX9_order_141 : decode cX9_order 141 = .ok (.iload_n 3, 1) := by decide +kernel
theorem dX9_order_142 : decode cX9_order 142 = .ok (.isub, 1) := by decide +kernel
theorem dX9_order_143 : decode cX9_order 143 = .ok (.ireturn, 1) := by decide +kernel
theorem dX9_order_144 : decode cX9_order 144 = .ok (.iload_n 2, 1) := by decide +kernel
theorem dX9_order_145 : decode cX9_order 145 = .ok (.iconst 0, 1) := by decide +kernel
theorem dX9_order_146 : decode cX9_order 146 = .ok (.aload_n 0, 1) := by decide +kernel
theorem dX9_order_147 : decode cX9_order 147 = .ok (.getfield 103, 3) := by decide +kernel
theorem dX9_order_150 : decode cX9_order 150 = .ok (.iconst 1, 1) := by decide +kernel
theorem dX9_order_151 : decode cX9_order 151 = .ok (.isub, 1) := by decide +kernel
theorem dX9_order_152 : decode cX9_order 152 = .ok (.invokestatic 75, 3) := by decide +kernel
theorem dX9_order_155 : decode cX9_order 155 = .ok (.ifCond .eq 12, 3) := by decide +kernel
theorem dX9_order_158 : decode cX9_order 158 = .ok (.aload_n 0, 1) := by decide +kernel
theorem dX9_order_159 : decode cX9_order 159 = .ok (.getfield 59, 3) := by decide +kernel
theorem dX9_order_162 : decode cX9_order 162 = .ok (.iload_n 2, 1) := by decide +kernel
theorem dX9_order_163 : decode cX9_order 163 = .ok (.iaload, 1) := by decide +kernel
theorem dX9_order_164 : decode cX9_order 164 = .ok (.goto 5, 3) := by decide +kernel
theorem dX9_order_167 : decode cX9_order 167 = .ok (.bipush (-6), 2) := by decide +kernel
theorem dX9_order_169 : decode cX9_order 169 = .ok (.ireturn, 1) := by decide +kernel
theorem dX9_start_0 : decode cX9_start 0 = .ok (.iload_n 1, 1) := by decide +kernel
theorem dX9_start_1 : decode cX9_start 1 = .ok (.iconst 0, 1) := by decide +kernel
theorem dX9_start_2 : decode cX9_start 2 = .ok (.iconst 1, 1) := by decide +kernel
theorem dX9_start_3 : decode cX9_start 3 = .ok (.invokestatic 75, 3) := by decide +kernel
theorem dX9_start_6 : decode cX9_start 6 = .ok (.ifCond .ne 6, 3) := by decide +kernel
theorem dX9_start_9 : decode cX9_start 9 = .ok (.bipush (-2), 2) := by decide +kernel
theorem dX9_start_11 : decode cX9_start 11 = .ok (.ireturn, 1) := by decide +kernel
theorem dX9_start_12 : decode cX9_start 12 = .ok (.aload_n 0, 1) := by decide +kernel
theorem dX9_start_13 : decode cX9_start 13 = .ok (.invokevirtual 109, 3) := by decide +kernel
end
section
theorem dX9_start_16 : decode cX9_start 16 = .ok (.ifCond .lt 6, 3) := by decide +kernel
theorem dX9_start_19 : decode cX9_start 19 = .ok (.bipush (-5), 2) := by decide +kernel
theorem dX9_start_21 : decode cX9_start 21 = .ok (.ireturn, 1) := by decide +kernel
theorem dX9_start_22 : decode cX9_start 22 = .ok (.aload_n 0, 1) := by decide +kernel
theorem dX9_start_23 : decode cX9_start 23 = .ok (.getfield 103, 3) := by decide +kernel
theorem dX9_start_26 : decode cX9_start 26 = .ok (.bipush 59, 2) := by decide +kernel
theorem dX9_start_28 : decode cX9_start 28 = .ok (.if_icmp .le 6, 3) := by decide +kernel
theorem dX9_start_31 : decode cX9_start 31 = .ok (.bipush (-4), 2) := by decide +kernel
theorem dX9_start_33 : decode cX9_start 33 = .ok (.ireturn, 1) := by decide +kernel
theorem dX9_start_34 : decode cX9_start 34 = .ok (.ldc 184, 2) := by decide +kernel
theorem dX9_start_36 : decode cX9_start 36 = .ok (.istore_n 2, 1) := by decide +kernel
theorem dX9_start_37 : decode cX9_start 37 = .ok (.iconst 0, 1) := by decide +kernel
theorem dX9_start_38 : decode cX9_start 38 = .ok (.istore_n 3, 1) := by decide +kernel
theorem dX9_start_39 : decode cX9_start 39 = .ok (.iconst 0, 1) := by decide +kernel
theorem dX9_start_40 : decode cX9_start 40 = .ok (.istore 4, 2) := by decide +kernel
theorem dX9_start_42 : decode cX9_start 42 = .ok (.iload 4, 2) := by decide +kernel
theorem dX9_start_44 : decode cX9_start 44 = .ok (.aload_n 0, 1) := by decide +kernel
theorem dX9_start_45 : decode cX9_start 45 = .ok (.getfield 103, 3) := by decide +kernel
theorem dX9_start_48 : decode cX9_start 48 = .ok (.if_icmp .gt 99, 3) := by decide +kernel
theorem dX9_start_51 : decode cX9_start 51 = .ok (.aload_n 0, 1) := by decide +kernel
theorem dX9_start_52 : decode cX9_start 52 = .ok (.invokevirtual 160, 3) := by decide +kernel
theorem dX9_start_55 : decode cX9_start 55 = .ok (.aload_n 0, 1) := by decide +kernel
theorem dX9_start_56 : decode cX9_start 56 = .ok (.aload_n 0, 1) := by decide +kernel
theorem dX9_start_57 : decode cX9_start 57 = .ok (.getfield 103, 3) := by decide +kernel
theorem dX9_start_60 : decode cX9_start 60 = .ok (.iconst 1, 1) := by decide +kernel
theorem dX9_start_61 : decode cX9_start 61 = .ok (.iadd, 1) := by decide +kernel
theorem dX9_start_62 : decode cX9_start 62 = .ok (.putfield 113, 3) := by decide +kernel
theorem dX9_start_65 : decode cX9_start 65 = .ok (.aload_n 0, 1) := by decide +kernel
theorem dX9_start_66 : decode cX9_start 66 = .ok (.getfield 103, 3) := by decide +kernel
theorem dX9_start_69 : decode cX9_start 69 = .ok (.istore 5, 2) := by decide +kernel
theorem dX9_start_71 : decode cX9_start 71 = .ok (.iload 5, 2) := by decide +kernel
theorem dX9_start_73 : decode cX9_start 73 = .ok (.iload 4, 2) := by decide +kernel
theorem dX9_start_75 : decode cX9_start 75 = .ok (.if_icmp .le 25, 3) := by decide +kernel
theorem dX9_start_78 : decode cX9_start 78 = .ok (.aload_n 0, 1) := by decide +kernel
theorem dX9_start_79 : decode cX9_start 79 = .ok (.getfield 38, 3) := by decide +kernel
theorem dX9_start_82 : decode cX9_start 82 = .ok (.iload 5, 2) := by decide +kernel
theorem dX9_start_84 : decode cX9_start 84 = .ok (.aload_n 0, 1) := by decide +kernel
theorem dX9_start_85 : decode cX9_start 85 = .ok (.getfield 35, 3) := by decide +kernel
theorem dX9_start_88 : decode cX9_start 88 = .ok (.iload 5, 2) := by decide +kernel
theorem dX9_start_90 : decode cX9_start 90 = .ok (.iconst 1, 1) := by decide +kernel
theorem dX9_start_91 : decode cX9_start 91 = .ok (.isub, 1) := by decide +kernel
theorem dX9_start_92 : decode cX9_start 92 = .ok (.iaload, 1) := by decide +kernel
theorem dX9_start_93 : decode cX9_start 93 = .ok (.iastore, 1) := by decide +kernel
theorem dX9_start_94 : decode cX9_start 94 = .ok (.iinc 5 (-1), 3) := by decide +kernel
theorem dX9_start_97 : decode cX9_start 97 = .ok (.goto (-26), 3) := by decide +kernel
theorem dX9_start_100 : decode cX9_start 100 = .ok (.aload_n 0, 1) := by decide +kernel
theorem dX9_start_101 : decode cX9_start 101 = .ok (.getfield 38, 3) := by decide +kernel
theorem dX9_start_104 : decode cX9_start 104 = .ok (.iload 4, 2) := by decide +kernel
theorem dX9_start_106 : decode cX9_start 106 = .ok (.bipush 115, 2) := by decide +kernel
theorem dX9_start_108 : decode cX9_start 108 = .ok (.iastore, 1) := by decide +kernel
theorem dX9_start_109 : decode cX9_start 109 = .ok (.aload_n 0, 1) := by decide +kernel
theorem dX9_start_110 : decode cX9_start 110 = .ok (.invokevirtual 169, 3) := by decide +kernel
theorem dX9_start_113 : decode cX9_start 113 = .ok (.istore 5, 2) := by decide +kernel
theorem dX9_start_115 : decode cX9_start 115 = .ok (.iload 5, 2) := by decide +kernel
theorem dX9_start_117 : decode cX9_start 117 = .ok (.iload_n 2, 1) := by decide +kernel
theorem dX9_start_118 : decode cX9_start 118 = .ok (.if_icmp .le 8, 3) := by decide +kernel
theorem dX9_start_121 : decode cX9_start 121 = .ok (.iload 4, 2) := by decide +kernel
theorem dX9_start_123 : decode cX9_start 123 = .ok (.goto 4, 3) := by decide +kernel
theorem dX9_start_126 : decode cX9_start 126 = .ok (.iload_n 3, 1) := by decide +kernel
theorem dX9_start_127 : decode cX9_start 127 = .ok (.istore_n 3, 1) := by decide +kernel
theorem dX9_start_128 : decode cX9_start 128 = .ok (.iload 5, 2) := by decide +kernel
theorem dX9_start_130 : decode cX9_start 130 = .ok (.iload_n 2, 1) := by decide +kernel
theorem dX9_start_131 : decode cX9_start 131 = .ok (.if_icmp .le 8, 3) := by decide +kernel
theorem dX9_start_134 : decode cX9_start 134 = .ok (.iload 5, 2) := by decide +kernel
theorem dX9_start_136 : decode cX9_start 136 = .ok (.goto 4, 3) := by decide +kernel
theorem dX9_start_139 : decode cX9_start 139 = .ok (.iload_n 2, 1) := by decide +kernel
theorem dX9_start_140 : decode cX9_start 140 = .ok (.istore_n 2, 1) := by decide +kernel
theorem dX9_start_141 : decode cX9_start 141 = .ok (.iinc 4 1, 3) := by decide +kernel
theorem dX9_start_144 : decode cX9_start 144 = .ok (.goto (-102), 3) := by decide +kernel
theorem dX9_start_147 : decode cX9_start 147 = .ok (.iload_n 1, 1) := by decide +kernel
theorem dX9_start_148 : decode cX9_start 148 = .ok (.ifCond .ne 11, 3) := by decide +kernel
theorem dX9_start_151 : decode cX9_start 151 = .ok (.iload_n 2, 1) := by decide +kernel
theorem dX9_start_152 : decode cX9_start 152 = .ok (.sipush 10000, 3) := by decide +kernel
theorem dX9_start_155 : decode cX9_start 155 = .ok (.iadd, 1) := by decide +kernel
theorem dX9_start_156 : decode cX9_start 156 = .ok (.goto 4, 3) := by decide +kernel
theorem dX9_start_159 : decode cX9_start 159 = .ok (.iload_n 3, 1) := by decide +kernel
theorem dX9_start_160 : decode cX9_start 160 = .ok (.ireturn, 1) := by decide +kernel
theorem dX9_seated_0 : decode cX9_seated 0 = .ok (.iload_n 1, 1) := by decide +kernel
theorem dX9_seated_1 : decode cX9_seated 1 = .ok (.iconst 0, 1) := by decide +kernel
theorem dX9_seated_2 : decode cX9_seated 2 = .ok (.iconst 1, 1) := by decide +kernel
theorem dX9_seated_3 : decode cX9_seated 3 = .ok (.invokestatic 75, 3) := by decide +kernel
theorem dX9_seated_6 : decode cX9_seated 6 = .ok (.ifCond .ne 6, 3) := by decide +kernel
theorem dX9_seated_9 : decode cX9_seated 9 = .ok (.bipush (-2), 2) := by decide +kernel
theorem dX9_seated_11 : decode cX9_seated 11 = .ok (.ireturn, 1) := by decide +kernel
theorem dX9_seated_12 : decode cX9_seated 12 = .ok (.aload_n 0, 1) := by decide +kernel
theorem dX9_seated_13 : decode cX9_seated 13 = .ok (.invokevirtual 109, 3) := by decide +kernel
theorem dX9_seated_16 : decode cX9_seated 16 = .ok (.ifCond .lt 6, 3) := by decide +kernel
theorem dX9_seated_19 : decode cX9_seated 19 = .ok (.bipush (-5), 2) := by decide +kernel
theorem dX9_seated_21 : decode cX9_seated 21 = .ok (.ireturn, 1) := by decide +kernel
theorem dX9_seated_22 : decode cX9_seated 22 = .ok (.aload_n 0, 1) := by decide +kernel
theorem dX9_seated_23 : decode cX9_seated 23 = .ok (.invokevirtual 160, 3) := by decide +kernel
theorem dX9_seated_26 : decode cX9_seated 26 = .ok (.aload_n 0, 1) := by decide +kernel
theorem dX9_seated_27 : decode cX9_seated 27 = .ok (.aload_n 0, 1) := by decide +kernel
theorem dX9_seated_28 : decode cX9_seated 28 = .ok (.getfield 103, 3) := by decide +kernel
theorem dX9_seated_31 : decode cX9_seated 31 = .ok (.invokevirtual 163, 3) := by decide +kernel
theorem dX9_seated_34 : decode cX9_seated 34 = .ok (.aload_n 0, 1) := by decide +kernel
theorem dX9_seated_35 : decode cX9_seated 35 = .ok (.getfield 141, 3) := by decide +kernel
theorem dX9_seated_38 : decode cX9_seated 38 = .ok (.istore_n 2, 1) := by decide +kernel
theorem dX9_seated_39 : decode cX9_seated 39 = .ok (.bipush (-6), 2) := by decide +kernel
theorem dX9_seated_41 : decode cX9_seated 41 = .ok (.istore_n 3, 1) := by decide +kernel
theorem dX9_seated_42 : decode cX9_seated 42 = .ok (.iconst 0, 1) := by decide +kernel
theorem dX9_seated_43 : decode cX9_seated 43 = .ok (.istore 4, 2) := by decide +kernel
theorem dX9_seated_45 : decode cX9_seated 45 = .ok (.iload 4, 2) := by decide +kernel
theorem dX9_seated_47 : decode cX9_seated 47 = .ok (.bipush 8, 2) := by decide +kernel
theorem dX9_seated_49 : decode cX9_seated 49 = .ok (.if_icmp .ge 139, 3) := by decide +kernel
theorem dX9_seated_52 : decode cX9_seated 52 = .ok (.iconst 0, 1) := by decide +kernel
theorem dX9_seated_53 : decode cX9_seated 53 = .ok (.istore 5, 2) := by decide +kernel
theorem dX9_seated_55 : decode cX9_seated 55 = .ok (.iload 5, 2) := by decide +kernel
theorem dX9_seated_57 : decode cX9_seated 57 = .ok (.iconst 4, 1) := by decide +kernel
theorem dX9_seated_58 : decode cX9_seated 58 = .ok (.aload_n 0, 1) := by decide +kernel
theorem dX9_seated_59 : decode cX9_seated 59 = .ok (.getfield 7, 3) := by decide +kernel
theorem dX9_seated_62 : decode cX9_seated 62 = .ok (.imul, 1) := by decide +kernel
theorem dX9_seated_63 : decode cX9_seated 63 = .ok (.if_icmp .ge 119, 3) := by decide +kernel
theorem dX9_seated_66 : decode cX9_seated 66 = .ok (.aload_n 0, 1) := by decide +kernel
theorem dX9_seated_67 : decode cX9_seated 67 = .ok (.getfield 72, 3) := by decide +kernel
theorem dX9_seated_70 : decode cX9_seated 70 = .ok (.iload 4, 2) := by decide +kernel
theorem dX9_seated_72 : decode cX9_seated 72 = .ok (.invokestatic 79, 3) := by decide +kernel
theorem dX9_seated_75 : decode cX9_seated 75 = .ok (.ifCond .eq 101, 3) := by decide +kernel
theorem dX9_seated_78 : decode cX9_seated 78 = .ok (.iload 5, 2) := by decide +kernel
theorem dX9_seated_80 : decode cX9_seated 80 = .ok (.aload_n 0, 1) := by decide +kernel
theorem dX9_seated_81 : decode cX9_seated 81 = .ok (.getfield 13, 3) := by decide +kernel
theorem dX9_seated_84 : decode cX9_seated 84 = .ok (.iload 4, 2) := by decide +kernel
theorem dX9_seated_86 : decode cX9_seated 86 = .ok (.iaload, 1) := by decide +kernel
theorem dX9_seated_87 : decode cX9_seated 87 = .ok (.if_icmp .eq 89, 3) := by decide +kernel
theorem dX9_seated_90 : decode cX9_seated 90 = .ok (.aload_n 0, 1) := by decide +kernel
theorem dX9_seated_91 : decode cX9_seated 91 = .ok (.invokevirtual 160, 3) := by decide +kernel
theorem dX9_seated_94 : decode cX9_seated 94 = .ok (.aload_n 0, 1) := by decide +kernel
theorem dX9_seated_95 : decode cX9_seated 95 = .ok (.iload 5, 2) := by decide +kernel
theorem dX9_seated_97 : decode cX9_seated 97 = .ok (.invokevirtual 92, 3) := by decide +kernel
theorem dX9_seated_100 : decode cX9_seated 100 = .ok (.istore 6, 2) := by decide +kernel
theorem dX9_seated_102 : decode cX9_seated 102 = .ok (.aload_n 0, 1) := by decide +kernel
theorem dX9_seated_103 : decode cX9_seated 103 = .ok (.getfield 41, 3) := by decide +kernel
theorem dX9_seated_106 : decode cX9_seated 106 = .ok (.iload 4, 2) := by decide +kernel
theorem dX9_seated_108 : decode cX9_seated 108 = .ok (.iload 5, 2) := by decide +kernel
theorem dX9_seated_110 : decode cX9_seated 110 = .ok (.iastore, 1) := by decide +kernel
theorem dX9_seated_111 : decode cX9_seated 111 = .ok (.iload 6, 2) := by decide +kernel
theorem dX9_seated_113 : decode cX9_seated 113 = .ok (.ifCond .lt 17, 3) := by decide +kernel
theorem dX9_seated_116 : decode cX9_seated 116 = .ok (.aload_n 0, 1) := by decide +kernel
theorem dX9_seated_117 : decode cX9_seated 117 = .ok (.getfield 41, 3) := by decide +kernel
theorem dX9_seated_120 : decode cX9_seated 120 = .ok (.iload 6, 2) := by decide +kernel
theorem dX9_seated_122 : decode cX9_seated 122 = .ok (.aload_n 0, 1) := by decide +kernel
theorem dX9_seated_123 : decode cX9_seated 123 = .ok (.getfield 13, 3) := by decide +kernel
theorem dX9_seated_126 : decode cX9_seated 126 = .ok (.iload 4, 2) := by decide +kernel
theorem dX9_seated_128 : decode cX9_seated 128 = .ok (.iaload, 1) := by decide +kernel
theorem dX9_seated_129 : decode cX9_seated 129 = .ok (.iastore, 1) := by decide +kernel
theorem dX9_seated_130 : decode cX9_seated 130 = .ok (.aload_n 0, 1) := by decide +kernel
theorem dX9_seated_131 : decode cX9_seated 131 = .ok (.aload_n 0, 1) := by decide +kernel
theorem dX9_seated_132 : decode cX9_seated 132 = .ok (.getfield 103, 3) := by decide +kernel
theorem dX9_seated_135 : decode cX9_seated 135 = .ok (.invokevirtual 163, 3) := by decide +kernel
theorem dX9_seated_138 : decode cX9_seated 138 = .ok (.aload_n 0, 1) := by decide +kernel
theorem dX9_seated_139 : decode cX9_seated 139 = .ok (.getfield 141, 3) := by decide +kernel
theorem dX9_seated_142 : decode cX9_seated 142 = .ok (.iload_n 2, 1) := by decide +kernel
theorem dX9_seated_143 : decode cX9_seated 143 = .ok (.if_icmp .ge 14, 3) := by decide +kernel
theorem dX9_seated_146 : decode cX9_seated 146 = .ok (.bipush 100, 2) := by decide +kernel
theorem dX9_seated_148 : decode cX9_seated 148 = .ok (.iload 4, 2) := by decide +kernel
theorem dX9_seated_150 : decode cX9_seated 150 = .ok (.imul, 1) := by decide +kernel
theorem dX9_seated_151 : decode cX9_seated 151 = .ok (.iload 5, 2) := by decide +kernel
theorem dX9_seated_153 : decode cX9_seated 153 = .ok (.iadd, 1) := by decide +kernel
theorem dX9_seated_154 : decode cX9_seated 154 = .ok (.goto 4, 3) := by decide +kernel
theorem dX9_seated_157 : decode cX9_seated 157 = .ok (.iload_n 3, 1) := by decide +kernel
theorem dX9_seated_158 : decode cX9_seated 158 = .ok (.istore_n 3, 1) := by decide +kernel
theorem dX9_seated_159 : decode cX9_seated 159 = .ok (.aload_n 0, 1) := by decide +kernel
theorem dX9_seated_160 : decode cX9_seated 160 = .ok (.getfield 141, 3) := by decide +kernel
theorem dX9_seated_163 : decode cX9_seated 163 = .ok (.iload_n 2, 1) := by decide +kernel
theorem dX9_seated_164 : decode cX9_seated 164 = .ok (.if_icmp .ge 10, 3) := by decide +kernel
theorem dX9_seated_167 : decode cX9_seated 167 = .ok (.aload_n 0, 1) := by decide +kernel
theorem dX9_seated_168 : decode cX9_seated 168 = .ok (.getfield 141, 3) := by decide +kernel
theorem dX9_seated_171 : decode cX9_seated 171 = .ok (.goto 4, 3) := by decide +kernel
theorem dX9_seated_174 : decode cX9_seated 174 = .ok (.iload_n 2, 1) := by decide +kernel
theorem dX9_seated_175 : decode cX9_seated 175 = .ok (.istore_n 2, 1) := by decide +kernel
theorem dX9_seated_176 : decode cX9_seated 176 = .ok (.iinc 5 1, 3) := by decide +kernel
theorem dX9_seated_179 : decode cX9_seated 179 = .ok (.goto (-124), 3) := by decide +kernel
theorem dX9_seated_182 : decode cX9_seated 182 = .ok (.iinc 4 1, 3) := by decide +kernel
theorem dX9_seated_185 : decode cX9_seated 185 = .ok (.goto (-140), 3) := by decide +kernel
theorem dX9_seated_188 : decode cX9_seated 188 = .ok (.iload_n 1, 1) := by decide +kernel
theorem dX9_seated_189 : decode cX9_seated 189 = .ok (.ifCond .ne 7, 3) := by decide +kernel
theorem dX9_seated_192 : decode cX9_seated 192 = .ok (.iload_n 2, 1) := by decide +kernel
theorem dX9_seated_193 : decode cX9_seated 193 = .ok (.goto 4, 3) := by decide +kernel
theorem dX9_seated_196 : decode cX9_seated 196 = .ok (.iload_n 3, 1) := by decide +kernel
theorem dX9_seated_197 : decode cX9_seated 197 = .ok (.ireturn, 1) := by decide +kernel
theorem dX9_hired_0 : decode cX9_hired 0 = .ok (.iload_n 1, 1) := by decide +kernel
theorem dX9_hired_1 : decode cX9_hired 1 = .ok (.iconst 0, 1) := by decide +kernel
theorem dX9_hired_2 : decode cX9_hired 2 = .ok (.sipush 999, 3) := by decide +kernel
theorem dX9_hired_5 : decode cX9_hired 5 = .ok (.invokestatic 75, 3) := by decide +kernel
theorem dX9_hired_8 : decode cX9_hired 8 = .ok (.ifCond .eq 12, 3) := by decide +kernel
theorem dX9_hired_11 : decode cX9_hired 11 = .ok (.iload_n 2, 1) := by decide +kernel
theorem dX9_hired_12 : decode cX9_hired 12 = .ok (.iconst 0, 1) := by decide +kernel
theorem dX9_hired_13 : decode cX9_hired 13 = .ok (.iconst 1, 1) := by decide +kernel
theorem dX9_hired_14 : decode cX9_hired 14 = .ok (.invokestatic 75, 3) := by decide +kernel
theorem dX9_hired_17 : decode cX9_hired 17 = .ok (.ifCond .ne 6, 3) := by decide +kernel
theorem dX9_hired_20 : decode cX9_hired 20 = .ok (.bipush (-2), 2) := by decide +kernel
theorem dX9_hired_22 : decode cX9_hired 22 = .ok (.ireturn, 1) := by decide +kernel
theorem dX9_hired_23 : decode cX9_hired 23 = .ok (.aload_n 0, 1) := by decide +kernel
theorem dX9_hired_24 : decode cX9_hired 24 = .ok (.invokevirtual 109, 3) := by decide +kernel
theorem dX9_hired_27 : decode cX9_hired 27 = .ok (.ifCond .lt 6, 3) := by decide +kernel
theorem dX9_hired_30 : decode cX9_hired 30 = .ok (.bipush (-5), 2) := by decide +kernel
theorem dX9_hired_32 : decode cX9_hired 32 = .ok (.ireturn, 1) := by decide +kernel
theorem dX9_hired_33 : decode cX9_hired 33 = .ok (.bipush (-6), 2) := by decide +kernel
theorem dX9_hired_35 : decode cX9_hired 35 = .ok (.istore_n 3, 1) := by decide +kernel
theorem dX9_hired_36 : decode cX9_hired 36 = .ok (.iconst 0, 1) := by decide +kernel
theorem dX9_hired_37 : decode cX9_hired 37 = .ok (.istore 4, 2) := by decide +kernel
theorem dX9_hired_39 : decode cX9_hired 39 = .ok (.iload 4, 2) := by decide +kernel
theorem dX9_hired_41 : decode cX9_hired 41 = .ok (.sipush 256, 3) := by decide +kernel
theorem dX9_hired_44 : decode cX9_hired 44 = .ok (.if_icmp .ge 85, 3) := by decide +kernel
theorem dX9_hired_47 : decode cX9_hired 47 = .ok (.iload 4, 2) := by decide +kernel
theorem dX9_hired_49 : decode cX9_hired 49 = .ok (.aload_n 0, 1) := by decide +kernel
theorem dX9_hired_50 : decode cX9_hired 50 = .ok (.getfield 72, 3) := by decide +kernel
theorem dX9_hired_53 : decode cX9_hired 53 = .ok (.iconst (-1), 1) := by decide +kernel
theorem dX9_hired_54 : decode cX9_hired 54 = .ok (.ixor, 1) := by decide +kernel
theorem dX9_hired_55 : decode cX9_hired 55 = .ok (.iand, 1) := by decide +kernel
theorem dX9_hired_56 : decode cX9_hired 56 = .ok (.ifCond .ne 67, 3) := by decide +kernel
theorem dX9_hired_59 : decode cX9_hired 59 = .ok (.iload 4, 2) := by decide +kernel
theorem dX9_hired_61 : decode cX9_hired 61 = .ok (.aload_n 0, 1) := by decide +kernel
theorem dX9_hired_62 : decode cX9_hired 62 = .ok (.getfield 83, 3) := by decide +kernel
theorem dX9_hired_65 : decode cX9_hired 65 = .ok (.iand, 1) := by decide +kernel
theorem dX9_hired_66 : decode cX9_hired 66 = .ok (.ifCond .ne 57, 3) := by decide +kernel
theorem dX9_hired_69 : decode cX9_hired 69 = .ok (.iload_n 3, 1) := by decide +kernel
theorem dX9_hired_70 : decode cX9_hired 70 = .ok (.ifCond .lt 15, 3) := by decide +kernel
theorem dX9_hired_73 : decode cX9_hired 73 = .ok (.iload 4, 2) := by decide +kernel
theorem dX9_hired_75 : decode cX9_hired 75 = .ok (.invokestatic 96, 3) := by decide +kernel
theorem dX9_hired_78 : decode cX9_hired 78 = .ok (.iload_n 3, 1) := by decide +kernel
theorem dX9_hired_79 : decode cX9_hired 79 = .ok (.invokestatic 96, 3) := by decide +kernel
theorem dX9_hired_82 : decode cX9_hired 82 = .ok (.if_icmp .ge 41, 3) := by decide +kernel
theorem dX9_hired_85 : decode cX9_hired 85 = .ok (.aload_n 0, 1) := by decide +kernel
theorem dX9_hired_86 : decode cX9_hired 86 = .ok (.invokevirtual 160, 3) := by decide +kernel
theorem dX9_hired_89 : decode cX9_hired 89 = .ok (.aload_n 0, 1) := by decide +kernel
theorem dX9_hired_90 : decode cX9_hired 90 = .ok (.aload_n 0, 1) := by decide +kernel
theorem dX9_hired_91 : decode cX9_hired 91 = .ok (.getfield 83, 3) := by decide +kernel
theorem dX9_hired_94 : decode cX9_hired 94 = .ok (.iload 4, 2) := by decide +kernel
theorem dX9_hired_96 : decode cX9_hired 96 = .ok (.ior, 1) := by decide +kernel
theorem dX9_hired_97 : decode cX9_hired 97 = .ok (.putfield 116, 3) := by decide +kernel
theorem dX9_hired_100 : decode cX9_hired 100 = .ok (.aload_n 0, 1) := by decide +kernel
theorem dX9_hired_101 : decode cX9_hired 101 = .ok (.aload_n 0, 1) := by decide +kernel
theorem dX9_hired_102 : decode cX9_hired 102 = .ok (.getfield 103, 3) := by decide +kernel
theorem dX9_hired_105 : decode cX9_hired 105 = .ok (.invokevirtual 163, 3) := by decide +kernel
theorem dX9_hired_108 : decode cX9_hired 108 = .ok (.aload_n 0, 1) := by decide +kernel
theorem dX9_hired_109 : decode cX9_hired 109 = .ok (.getfield 147, 3) := by decide +kernel
theorem dX9_hired_112 : decode cX9_hired 112 = .ok (.iload_n 1, 1) := by decide +kernel
theorem dX9_hired_113 : decode cX9_hired 113 = .ok (.if_icmp .gt 8, 3) := by decide +kernel
theorem dX9_hired_116 : decode cX9_hired 116 = .ok (.iload 4, 2) := by decide +kernel
theorem dX9_hired_118 : decode cX9_hired 118 = .ok (.goto 4, 3) := by decide +kernel
theorem dX9_hired_121 : decode cX9_hired 121 = .ok (.iload_n 3, 1) := by decide +kernel
theorem dX9_hired_122 : decode cX9_hired 122 = .ok (.istore_n 3, 1) := by decide +kernel
theorem dX9_hired_123 : decode cX9_hired 123 = .ok (.iinc 4 1, 3) := by decide +kernel
theorem dX9_hired_126 : decode cX9_hired 126 = .ok (.goto (-87), 3) := by decide +kernel
theorem dX9_hired_129 : decode cX9_hired 129 = .ok (.iload_n 3, 1) := by decide +kernel
theorem dX9_hired_130 : decode cX9_hired 130 = .ok (.ifCond .lt 8, 3) := by decide +kernel
theorem dX9_hired_133 : decode cX9_hired 133 = .ok (.iload_n 2, 1) := by decide +kernel
theorem dX9_hired_134 : decode cX9_hired 134 = .ok (.iconst 1, 1) := by decide +kernel
theorem dX9_hired_135 : decode cX9_hired 135 = .ok (.if_icmp .ne 7, 3) := by decide +kernel
theorem dX9_hired_138 : decode cX9_hired 138 = .ok (.iload_n 3, 1) := by decide +kernel
theorem dX9_hired_139 : decode cX9_hired 139 = .ok (.goto 7, 3) := by decide +kernel
theorem dX9_hired_142 : decode cX9_hired 142 = .ok (.iload_n 3, 1) := by decide +kernel
theorem dX9_hired_143 : decode cX9_hired 143 = .ok (.invokestatic 96, 3) := by decide +kernel
theorem dX9_hired_146 : decode cX9_hired 146 = .ok (.ireturn, 1) := by decide +kernel
theorem dX9_least_0 : decode cX9_least 0 = .ok (.aload_n 0, 1) := by decide +kernel
theorem dX9_least_1 : decode cX9_least 1 = .ok (.invokevirtual 109, 3) := by decide +kernel
theorem dX9_least_4 : decode cX9_least 4 = .ok (.ifCond .lt 6, 3) := by decide +kernel
theorem dX9_least_7 : decode cX9_least 7 = .ok (.bipush (-5), 2) := by decide +kernel
theorem dX9_least_9 : decode cX9_least 9 = .ok (.ireturn, 1) := by decide +kernel
theorem dX9_least_10 : decode cX9_least 10 = .ok (.aload_n 0, 1) := by decide +kernel
theorem dX9_least_11 : decode cX9_least 11 = .ok (.getfield 103, 3) := by decide +kernel
theorem dX9_least_14 : decode cX9_least 14 = .ok (.bipush 59, 2) := by decide +kernel
theorem dX9_least_16 : decode cX9_least 16 = .ok (.if_icmp .le 6, 3) := by decide +kernel
theorem dX9_least_19 : decode cX9_least 19 = .ok (.bipush (-4), 2) := by decide +kernel
theorem dX9_least_21 : decode cX9_least 21 = .ok (.ireturn, 1) := by decide +kernel
theorem dX9_least_22 : decode cX9_least 22 = .ok (.iconst 1, 1) := by decide +kernel
theorem dX9_least_23 : decode cX9_least 23 = .ok (.istore_n 1, 1) := by decide +kernel
theorem dX9_least_24 : decode cX9_least 24 = .ok (.iload_n 1, 1) := by decide +kernel
theorem dX9_least_25 : decode cX9_least 25 = .ok (.bipush 10, 2) := by decide +kernel
theorem dX9_least_27 : decode cX9_least 27 = .ok (.if_icmp .ge 54, 3) := by decide +kernel
theorem dX9_least_30 : decode cX9_least 30 = .ok (.aload_n 0, 1) := by decide +kernel
theorem dX9_least_31 : decode cX9_least 31 = .ok (.invokevirtual 160, 3) := by decide +kernel
theorem dX9_least_34 : decode cX9_least 34 = .ok (.aload_n 0, 1) := by decide +kernel
theorem dX9_least_35 : decode cX9_least 35 = .ok (.iload_n 1, 1) := by decide +kernel
theorem dX9_least_36 : decode cX9_least 36 = .ok (.putfield 119, 3) := by decide +kernel
theorem dX9_least_39 : decode cX9_least 39 = .ok (.aload_n 0, 1) := by decide +kernel
theorem dX9_least_40 : decode cX9_least 40 = .ok (.invokevirtual 169, 3) := by decide +kernel
theorem dX9_least_43 : decode cX9_least 43 = .ok (.istore_n 2, 1) := by decide +kernel
theorem dX9_least_44 : decode cX9_least 44 = .ok (.aload_n 0, 1) := by decide +kernel
theorem dX9_least_45 : decode cX9_least 45 = .ok (.getfield 38, 3) := by decide +kernel
theorem dX9_least_48 : decode cX9_least 48 = .ok (.aload_n 0, 1) := by decide +kernel
theorem dX9_least_49 : decode cX9_least 49 = .ok (.getfield 103, 3) := by decide +kernel
theorem dX9_least_52 : decode cX9_least 52 = .ok (.bipush 104, 2) := by decide +kernel
theorem dX9_least_54 : decode cX9_least 54 = .ok (.iastore, 1) := by decide +kernel
theorem dX9_least_55 : decode cX9_least 55 = .ok (.aload_n 0, 1) := by decide +kernel
theorem dX9_least_56 : decode cX9_least 56 = .ok (.aload_n 0, 1) := by decide +kernel
theorem dX9_least_57 : decode cX9_least 57 = .ok (.getfield 103, 3) := by decide +kernel
theorem dX9_least_60 : decode cX9_least 60 = .ok (.iconst 1, 1) := by decide +kernel
theorem dX9_least_61 : decode cX9_least 61 = .ok (.iadd, 1) := by decide +kernel
theorem dX9_least_62 : decode cX9_least 62 = .ok (.putfield 113, 3) := by decide +kernel
theorem dX9_least_65 : decode cX9_least 65 = .ok (.aload_n 0, 1) := by decide +kernel
theorem dX9_least_66 : decode cX9_least 66 = .ok (.invokevirtual 169, 3) := by decide +kernel
theorem dX9_least_69 : decode cX9_least 69 = .ok (.iload_n 2, 1) := by decide +kernel
theorem dX9_least_70 : decode cX9_least 70 = .ok (.if_icmp .gt 5, 3) := by decide +kernel
theorem dX9_least_73 : decode cX9_least 73 = .ok (.iload_n 1, 1) := by decide +kernel
theorem dX9_least_74 : decode cX9_least 74 = .ok (.ireturn, 1) := by decide +kernel
theorem dX9_least_75 : decode cX9_least 75 = .ok (.iinc 1 1, 3) := by decide +kernel
theorem dX9_least_78 : decode cX9_least 78 = .ok (.goto (-54), 3) := by decide +kernel
theorem dX9_least_81 : decode cX9_least 81 = .ok (.bipush (-6), 2) := by decide +kernel
theorem dX9_least_83 : decode cX9_least 83 = .ok (.ireturn, 1) := by decide +kernel
theorem dX9_seen_0 : decode cX9_seen 0 = .ok (.iload_n 1, 1) := by decide +kernel
theorem dX9_seen_1 : decode cX9_seen 1 = .ok (.iconst 0, 1) := by decide +kernel
theorem dX9_seen_2 : decode cX9_seen 2 = .ok (.bipush 59, 2) := by decide +kernel
theorem dX9_seen_4 : decode cX9_seen 4 = .ok (.invokestatic 75, 3) := by decide +kernel
theorem dX9_seen_7 : decode cX9_seen 7 = .ok (.ifCond .eq 13, 3) := by decide +kernel
theorem dX9_seen_10 : decode cX9_seen 10 = .ok (.iload_n 2, 1) := by decide +kernel
theorem dX9_seen_11 : decode cX9_seen 11 = .ok (.iconst 0, 1) := by decide +kernel
theorem dX9_seen_12 : decode cX9_seen 12 = .ok (.bipush 8, 2) := by decide +kernel
theorem dX9_seen_14 : decode cX9_seen 14 = .ok (.invokestatic 75, 3) := by decide +kernel
theorem dX9_seen_17 : decode cX9_seen 17 = .ok (.ifCond .ne 6, 3) := by decide +kernel
theorem dX9_seen_20 : decode cX9_seen 20 = .ok (.bipush (-2), 2) := by decide +kernel
theorem dX9_seen_22 : decode cX9_seen 22 = .ok (.ireturn, 1) := by decide +kernel
theorem dX9_seen_23 : decode cX9_seen 23 = .ok (.aload_n 0, 1) := by decide +kernel
theorem dX9_seen_24 : decode cX9_seen 24 = .ok (.getfield 86, 3) := by decide +kernel
theorem dX9_seen_27 : decode cX9_seen 27 = .ok (.bipush 8, 2) := by decide +kernel
theorem dX9_seen_29 : decode cX9_seen 29 = .ok (.if_icmp .ne 6, 3) := by decide +kernel
theorem dX9_seen_32 : decode cX9_seen 32 = .ok (.bipush (-4), 2) := by decide +kernel
theorem dX9_seen_34 : decode cX9_seen 34 = .ok (.ireturn, 1) := by decide +kernel
theorem dX9_seen_35 : decode cX9_seen 35 = .ok (.aload_n 0, 1) := by decide +kernel
theorem dX9_seen_36 : decode cX9_seen 36 = .ok (.getfield 32, 3) := by decide +kernel
theorem dX9_seen_39 : decode cX9_seen 39 = .ok (.iconst 2, 1) := by decide +kernel
theorem dX9_seen_40 : decode cX9_seen 40 = .ok (.aload_n 0, 1) := by decide +kernel
theorem dX9_seen_41 : decode cX9_seen 41 = .ok (.getfield 86, 3) := by decide +kernel
theorem dX9_seen_44 : decode cX9_seen 44 = .ok (.imul, 1) := by decide +kernel
theorem dX9_seen_45 : decode cX9_seen 45 = .ok (.iload_n 1, 1) := by decide +kernel
theorem dX9_seen_46 : decode cX9_seen 46 = .ok (.iastore, 1) := by decide +kernel
theorem dX9_seen_47 : decode cX9_seen 47 = .ok (.aload_n 0, 1) := by decide +kernel
theorem dX9_seen_48 : decode cX9_seen 48 = .ok (.getfield 32, 3) := by decide +kernel
theorem dX9_seen_51 : decode cX9_seen 51 = .ok (.iconst 2, 1) := by decide +kernel
theorem dX9_seen_52 : decode cX9_seen 52 = .ok (.aload_n 0, 1) := by decide +kernel
theorem dX9_seen_53 : decode cX9_seen 53 = .ok (.getfield 86, 3) := by decide +kernel
theorem dX9_seen_56 : decode cX9_seen 56 = .ok (.imul, 1) := by decide +kernel
theorem dX9_seen_57 : decode cX9_seen 57 = .ok (.iconst 1, 1) := by decide +kernel
theorem dX9_seen_58 : decode cX9_seen 58 = .ok (.iadd, 1) := by decide +kernel
theorem dX9_seen_59 : decode cX9_seen 59 = .ok (.iload_n 2, 1) := by decide +kernel
theorem dX9_seen_60 : decode cX9_seen 60 = .ok (.iastore, 1) := by decide +kernel
theorem dX9_seen_61 : decode cX9_seen 61 = .ok (.aload_n 0, 1) := by decide +kernel
theorem dX9_seen_62 : decode cX9_seen 62 = .ok (.dup, 1) := by decide +kernel
theorem dX9_seen_63 : decode cX9_seen 63 = .ok (.getfield 86, 3) := by decide +kernel
theorem dX9_seen_66 : decode cX9_seen 66 = .ok (.iconst 1, 1) := by decide +kernel
theorem dX9_seen_67 : decode cX9_seen 67 = .ok (.iadd, 1) := by decide +kernel
theorem dX9_seen_68 : decode cX9_seen 68 = .ok (.putfield 86, 3) := by decide +kernel
theorem dX9_seen_71 : decode cX9_seen 71 = .ok (.aload_n 0, 1) := by decide +kernel
theorem dX9_seen_72 : decode cX9_seen 72 = .ok (.getfield 86, 3) := by decide +kernel
theorem dX9_seen_75 : decode cX9_seen 75 = .ok (.ireturn, 1) := by decide +kernel
theorem dX9_forget_0 : decode cX9_forget 0 = .ok (.aload_n 0, 1) := by decide +kernel
theorem dX9_forget_1 : decode cX9_forget 1 = .ok (.getfield 86, 3) := by decide +kernel
theorem dX9_forget_4 : decode cX9_forget 4 = .ok (.istore_n 1, 1) := by decide +kernel
theorem dX9_forget_5 : decode cX9_forget 5 = .ok (.aload_n 0, 1) := by decide +kernel
theorem dX9_forget_6 : decode cX9_forget 6 = .ok (.iconst 0, 1) := by decide +kernel
theorem dX9_forget_7 : decode cX9_forget 7 = .ok (.putfield 86, 3) := by decide +kernel
theorem dX9_forget_10 : decode cX9_forget 10 = .ok (.iload_n 1, 1) := by decide +kernel
theorem dX9_forget_11 : decode cX9_forget 11 = .ok (.ireturn, 1) := by decide +kernel
theorem dX9_isCounted_0 : decode cX9_isCounted 0 = .ok (.aload_n 0, 1) := by decide +kernel
theorem dX9_isCounted_1 : decode cX9_isCounted 1 = .ok (.aload_n 0, 1) := by decide +kernel
theorem dX9_isCounted_2 : decode cX9_isCounted 2 = .ok (.getfield 113, 3) := by decide +kernel
theorem dX9_isCounted_5 : decode cX9_isCounted 5 = .ok (.invokevirtual 163, 3) := by decide +kernel
theorem dX9_isCounted_8 : decode cX9_isCounted 8 = .ok (.iconst 1, 1) := by decide +kernel
theorem dX9_isCounted_9 : decode cX9_isCounted 9 = .ok (.istore_n 1, 1) := by decide +kernel
theorem dX9_isCounted_10 : decode cX9_isCounted 10 = .ok (.iconst 0, 1) := by decide +kernel
theorem dX9_isCounted_11 : decode cX9_isCounted 11 = .ok (.istore_n 2, 1) := by decide +kernel
theorem dX9_isCounted_12 : decode cX9_isCounted 12 = .ok (.iload_n 2, 1) := by decide +kernel
theorem dX9_isCounted_13 : decode cX9_isCounted 13 = .ok (.aload_n 0, 1) := by decide +kernel
theorem dX9_isCounted_14 : decode cX9_isCounted 14 = .ok (.getfield 86, 3) := by decide +kernel
theorem dX9_isCounted_17 : decode cX9_isCounted 17 = .ok (.if_icmp .ge 65, 3) := by decide +kernel
theorem dX9_isCounted_20 : decode cX9_isCounted 20 = .ok (.aload_n 0, 1) := by decide +kernel
theorem dX9_isCounted_21 : decode cX9_isCounted 21 = .ok (.getfield 32, 3) := by decide +kernel
theorem dX9_isCounted_24 : decode cX9_isCounted 24 = .ok (.iconst 2, 1) := by decide +kernel
theorem dX9_isCounted_25 : decode cX9_isCounted 25 = .ok (.iload_n 2, 1) := by decide +kernel
theorem dX9_isCounted_26 : decode cX9_isCounted 26 = .ok (.imul, 1) := by decide +kernel
theorem dX9_isCounted_27 : decode cX9_isCounted 27 = .ok (.iaload, 1) := by decide +kernel
theorem dX9_isCounted_28 : decode cX9_isCounted 28 = .ok (.istore_n 3, 1) := by decide +kernel
theorem dX9_isCounted_29 : decode cX9_isCounted 29 = .ok (.iload_n 1, 1) := by decide +kernel
theorem dX9_isCounted_30 : decode cX9_isCounted 30 = .ok (.ifCond .eq 44, 3) := by decide +kernel
theorem dX9_isCounted_33 : decode cX9_isCounted 33 = .ok (.iload_n 3, 1) := by decide +kernel
theorem dX9_isCounted_34 : decode cX9_isCounted 34 = .ok (.aload_n 0, 1) := by decide +kernel
theorem dX9_isCounted_35 : decode cX9_isCounted 35 = .ok (.getfield 113, 3) := by decide +kernel
theorem dX9_isCounted_38 : decode cX9_isCounted 38 = .ok (.if_icmp .ge 36, 3) := by decide +kernel
theorem dX9_isCounted_41 : decode cX9_isCounted 41 = .ok (.aload_n 0, 1) := by decide +kernel
theorem dX9_isCounted_42 : decode cX9_isCounted 42 = .ok (.getfield 47, 3) := by decide +kernel
theorem dX9_isCounted_45 : decode cX9_isCounted 45 = .ok (.iload_n 3, 1) := by decide +kernel
theorem dX9_isCounted_46 : decode cX9_isCounted 46 = .ok (.iaload, 1) := by decide +kernel
theorem dX9_isCounted_47 : decode cX9_isCounted 47 = .ok (.aload_n 0, 1) := by decide +kernel
theorem dX9_isCounted_48 : decode cX9_isCounted 48 = .ok (.getfield 50, 3) := by decide +kernel
theorem dX9_isCounted_51 : decode cX9_isCounted 51 = .ok (.iload_n 3, 1) := by decide +kernel
theorem dX9_isCounted_52 : decode cX9_isCounted 52 = .ok (.iaload, 1) := by decide +kernel
theorem dX9_isCounted_53 : decode cX9_isCounted 53 = .ok (.ior, 1) := by decide +kernel
theorem dX9_isCounted_54 : decode cX9_isCounted 54 = .ok (.invokestatic 96, 3) := by decide +kernel
theorem dX9_isCounted_57 : decode cX9_isCounted 57 = .ok (.aload_n 0, 1) := by decide +kernel
theorem dX9_isCounted_58 : decode cX9_isCounted 58 = .ok (.getfield 32, 3) := by decide +kernel
theorem dX9_isCounted_61 : decode cX9_isCounted 61 = .ok (.iconst 2, 1) := by decide +kernel
theorem dX9_isCounted_62 : decode cX9_isCounted 62 = .ok (.iload_n 2, 1) := by decide +kernel
theorem dX9_isCounted_63 : decode cX9_isCounted 63 = .ok (.imul, 1) := by decide +kernel
theorem dX9_isCounted_64 : decode cX9_isCounted 64 = .ok (.iconst 1, 1) := by decide +kernel
theorem dX9_isCounted_65 : decode cX9_isCounted 65 = .ok (.iadd, 1) := by decide +kernel
theorem dX9_isCounted_66 : decode cX9_isCounted 66 = .ok (.iaload, 1) := by decide +kernel
theorem dX9_isCounted_67 : decode cX9_isCounted 67 = .ok (.if_icmp .ne 7, 3) := by decide +kernel
theorem dX9_isCounted_70 : decode cX9_isCounted 70 = .ok (.iconst 1, 1) := by decide +kernel
theorem dX9_isCounted_71 : decode cX9_isCounted 71 = .ok (.goto 4, 3) := by decide +kernel
theorem dX9_isCounted_74 : decode cX9_isCounted 74 = .ok (.iconst 0, 1) := by decide +kernel
theorem dX9_isCounted_75 : decode cX9_isCounted 75 = .ok (.istore_n 1, 1) := by decide +kernel
theorem dX9_isCounted_76 : decode cX9_isCounted 76 = .ok (.iinc 2 1, 3) := by decide +kernel
theorem dX9_isCounted_79 : decode cX9_isCounted 79 = .ok (.goto (-67), 3) := by decide +kernel
theorem dX9_isCounted_82 : decode cX9_isCounted 82 = .ok (.iload_n 1, 1) := by decide +kernel
theorem dX9_isCounted_83 : decode cX9_isCounted 83 = .ok (.ireturn, 1) := by decide +kernel
theorem dX9_layPreached_0 : decode cX9_layPreached 0 = .ok (.aload_n 0, 1) := by decide +kernel
theorem dX9_layPreached_1 : decode cX9_layPreached 1 = .ok (.invokevirtual 160, 3) := by decide +kernel
theorem dX9_layPreached_4 : decode cX9_layPreached 4 = .ok (.aload_n 0, 1) := by decide +kernel
theorem dX9_layPreached_5 : decode cX9_layPreached 5 = .ok (.invokevirtual 176, 3) := by decide +kernel
theorem dX9_layPreached_8 : decode cX9_layPreached 8 = .ok (.iconst 0, 1) := by decide +kernel
theorem dX9_layPreached_9 : decode cX9_layPreached 9 = .ok (.istore_n 1, 1) := by decide +kernel
theorem dX9_layPreached_10 : decode cX9_layPreached 10 = .ok (.aload_n 0, 1) := by decide +kernel
theorem dX9_layPreached_11 : decode cX9_layPreached 11 = .ok (.iconst 0, 1) := by decide +kernel
theorem dX9_layPreached_12 : decode cX9_layPreached 12 = .ok (.putfield 185, 3) := by decide +kernel
theorem dX9_layPreached_15 : decode cX9_layPreached 15 = .ok (.iconst 1, 1) := by decide +kernel
theorem dX9_layPreached_16 : decode cX9_layPreached 16 = .ok (.istore_n 2, 1) := by decide +kernel
theorem dX9_layPreached_17 : decode cX9_layPreached 17 = .ok (.iload_n 2, 1) := by decide +kernel
theorem dX9_layPreached_18 : decode cX9_layPreached 18 = .ok (.ifCond .eq 115, 3) := by decide +kernel
theorem dX9_layPreached_21 : decode cX9_layPreached 21 = .ok (.aload_n 0, 1) := by decide +kernel
theorem dX9_layPreached_22 : decode cX9_layPreached 22 = .ok (.invokevirtual 188, 3) := by decide +kernel
theorem dX9_layPreached_25 : decode cX9_layPreached 25 = .ok (.ifCond .eq 100, 3) := by decide +kernel
theorem dX9_layPreached_28 : decode cX9_layPreached 28 = .ok (.iconst 0, 1) := by decide +kernel
theorem dX9_layPreached_29 : decode cX9_layPreached 29 = .ok (.istore_n 3, 1) := by decide +kernel
theorem dX9_layPreached_30 : decode cX9_layPreached 30 = .ok (.iload_n 3, 1) := by decide +kernel
theorem dX9_layPreached_31 : decode cX9_layPreached 31 = .ok (.aload_n 0, 1) := by decide +kernel
theorem dX9_layPreached_32 : decode cX9_layPreached 32 = .ok (.getfield 113, 3) := by decide +kernel
theorem dX9_layPreached_35 : decode cX9_layPreached 35 = .ok (.if_icmp .ge 87, 3) := by decide +kernel
theorem dX9_layPreached_38 : decode cX9_layPreached 38 = .ok (.aload_n 0, 1) := by decide +kernel
theorem dX9_layPreached_39 : decode cX9_layPreached 39 = .ok (.dup, 1) := by decide +kernel
theorem dX9_layPreached_40 : decode cX9_layPreached 40 = .ok (.getfield 185, 3) := by decide +kernel
theorem dX9_layPreached_43 : decode cX9_layPreached 43 = .ok (.iload_n 1, 1) := by decide +kernel
theorem dX9_layPreached_44 : decode cX9_layPreached 44 = .ok (.ifCond .ne 9, 3) := by decide +kernel
theorem dX9_layPreached_47 : decode cX9_layPreached 47 = .ok (.iconst 1, 1) := by decide +kernel
theorem dX9_layPreached_48 : decode cX9_layPreached 48 = .ok (.iload_n 3, 1) := by decide +kernel
theorem dX9_layPreached_49 : decode cX9_layPreached 49 = .ok (.ishl, 1) := by decide +kernel
theorem dX9_layPreached_50 : decode cX9_layPreached 50 = .ok (.goto 4, 3) := by decide +kernel
theorem dX9_layPreached_53 : decode cX9_layPreached 53 = .ok (.iconst 0, 1) := by decide +kernel
theorem dX9_layPreached_54 : decode cX9_layPreached 54 = .ok (.ior, 1) := by decide +kernel
theorem dX9_layPreached_55 : decode cX9_layPreached 55 = .ok (.putfield 185, 3) := by decide +kernel
theorem dX9_layPreached_58 : decode cX9_layPreached 58 = .ok (.aload_n 0, 1) := by decide +kernel
theorem dX9_layPreached_59 : decode cX9_layPreached 59 = .ok (.getfield 59, 3) := by decide +kernel
theorem dX9_layPreached_62 : decode cX9_layPreached 62 = .ok (.iload_n 3, 1) := by decide +kernel
theorem dX9_layPreached_63 : decode cX9_layPreached 63 = .ok (.iload_n 1, 1) := by decide +kernel
theorem dX9_layPreached_64 : decode cX9_layPreached 64 = .ok (.ifCond .ne 12, 3) := by decide +kernel
theorem dX9_layPreached_67 : decode cX9_layPreached 67 = .ok (.aload_n 0, 1) := by decide +kernel
theorem dX9_layPreached_68 : decode cX9_layPreached 68 = .ok (.getfield 38, 3) := by decide +kernel
theorem dX9_layPreached_71 : decode cX9_layPreached 71 = .ok (.iload_n 3, 1) := by decide +kernel
theorem dX9_layPreached_72 : decode cX9_layPreached 72 = .ok (.iaload, 1) := by decide +kernel
theorem dX9_layPreached_73 : decode cX9_layPreached 73 = .ok (.goto 9, 3) := by decide +kernel
theorem dX9_layPreached_76 : decode cX9_layPreached 76 = .ok (.aload_n 0, 1) := by decide +kernel
theorem dX9_layPreached_77 : decode cX9_layPreached 77 = .ok (.getfield 59, 3) := by decide +kernel
theorem dX9_layPreached_80 : decode cX9_layPreached 80 = .ok (.iload_n 3, 1) := by decide +kernel
theorem dX9_layPreached_81 : decode cX9_layPreached 81 = .ok (.iaload, 1) := by decide +kernel
theorem dX9_layPreached_82 : decode cX9_layPreached 82 = .ok (.iastore, 1) := by decide +kernel
theorem dX9_layPreached_83 : decode cX9_layPreached 83 = .ok (.aload_n 0, 1) := by decide +kernel
theorem dX9_layPreached_84 : decode cX9_layPreached 84 = .ok (.dup, 1) := by decide +kernel
theorem dX9_layPreached_85 : decode cX9_layPreached 85 = .ok (.getfield 185, 3) := by decide +kernel
theorem dX9_layPreached_88 : decode cX9_layPreached 88 = .ok (.aload_n 0, 1) := by decide +kernel
theorem dX9_layPreached_89 : decode cX9_layPreached 89 = .ok (.getfield 59, 3) := by decide +kernel
theorem dX9_layPreached_92 : decode cX9_layPreached 92 = .ok (.iload_n 3, 1) := by decide +kernel
theorem dX9_layPreached_93 : decode cX9_layPreached 93 = .ok (.iaload, 1) := by decide +kernel
theorem dX9_layPreached_94 : decode cX9_layPreached 94 = .ok (.aload_n 0, 1) := by decide +kernel
theorem dX9_layPreached_95 : decode cX9_layPreached 95 = .ok (.getfield 38, 3) := by decide +kernel
theorem dX9_layPreached_98 : decode cX9_layPreached 98 = .ok (.iload_n 3, 1) := by decide +kernel
theorem dX9_layPreached_99 : decode cX9_layPreached 99 = .ok (.iaload, 1) := by decide +kernel
theorem dX9_layPreached_100 : decode cX9_layPreached 100 = .ok (.if_icmp .ne 7, 3) := by decide +kernel
theorem dX9_layPreached_103 : decode cX9_layPreached 103 = .ok (.iconst (-1), 1) := by decide +kernel
theorem dX9_layPreached_104 : decode cX9_layPreached 104 = .ok (.goto 8, 3) := by decide +kernel
theorem dX9_layPreached_107 : decode cX9_layPreached 107 = .ok (.iconst 1, 1) := by decide +kernel
theorem dX9_layPreached_108 : decode cX9_layPreached 108 = .ok (.iload_n 3, 1) := by decide +kernel
theorem dX9_layPreached_109 : decode cX9_layPreached 109 = .ok (.ishl, 1) := by decide +kernel
theorem dX9_layPreached_110 : decode cX9_layPreached 110 = .ok (.iconst (-1), 1) := by decide +kernel
theorem dX9_layPreached_111 : decode cX9_layPreached 111 = .ok (.ixor, 1) := by decide +kernel
theorem dX9_layPreached_112 : decode cX9_layPreached 112 = .ok (.iand, 1) := by decide +kernel
theorem dX9_layPreached_113 : decode cX9_layPreached 113 = .ok (.putfield 185, 3) := by decide +kernel
theorem dX9_layPreached_116 : decode cX9_layPreached 116 = .ok (.iinc 3 1, 3) := by decide +kernel
theorem dX9_layPreached_119 : decode cX9_layPreached 119 = .ok (.goto (-89), 3) := by decide +kernel
theorem dX9_layPreached_122 : decode cX9_layPreached 122 = .ok (.iinc 1 1, 3) := by decide +kernel
theorem dX9_layPreached_125 : decode cX9_layPreached 125 = .ok (.aload_n 0, 1) := by decide +kernel
theorem dX9_layPreached_126 : decode cX9_layPreached 126 = .ok (.invokevirtual 180, 3) := by decide +kernel
theorem dX9_layPreached_129 : decode cX9_layPreached 129 = .ok (.istore_n 2, 1) := by decide +kernel
theorem dX9_layPreached_130 : decode cX9_layPreached 130 = .ok (.goto (-113), 3) := by decide +kernel
theorem dX9_layPreached_133 : decode cX9_layPreached 133 = .ok (.iload_n 1, 1) := by decide +kernel
theorem dX9_layPreached_134 : decode cX9_layPreached 134 = .ok (.ireturn, 1) := by decide +kernel
theorem dX9_preached_0 : decode cX9_preached 0 = .ok (.aload_n 0, 1) := by decide +kernel
theorem dX9_preached_1 : decode cX9_preached 1 = .ok (.invokevirtual 109, 3) := by decide +kernel
theorem dX9_preached_4 : decode cX9_preached 4 = .ok (.ifCond .lt 6, 3) := by decide +kernel
theorem dX9_preached_7 : decode cX9_preached 7 = .ok (.bipush (-5), 2) := by decide +kernel
theorem dX9_preached_9 : decode cX9_preached 9 = .ok (.ireturn, 1) := by decide +kernel
theorem dX9_preached_10 : decode cX9_preached 10 = .ok (.aload_n 0, 1) := by decide +kernel
theorem dX9_preached_11 : decode cX9_preached 11 = .ok (.getfield 103, 3) := by decide +kernel
theorem dX9_preached_14 : decode cX9_preached 14 = .ok (.bipush 6, 2) := by decide +kernel
theorem dX9_preached_16 : decode cX9_preached 16 = .ok (.if_icmp .le 6, 3) := by decide +kernel
theorem dX9_preached_19 : decode cX9_preached 19 = .ok (.bipush (-4), 2) := by decide +kernel
theorem dX9_preached_21 : decode cX9_preached 21 = .ok (.ireturn, 1) := by decide +kernel
theorem dX9_preached_22 : decode cX9_preached 22 = .ok (.aload_n 0, 1) := by decide +kernel
theorem dX9_preached_23 : decode cX9_preached 23 = .ok (.invokevirtual 191, 3) := by decide +kernel
theorem dX9_preached_26 : decode cX9_preached 26 = .ok (.istore_n 2, 1) := by decide +kernel
theorem dX9_preached_27 : decode cX9_preached 27 = .ok (.iload_n 1, 1) := by decide +kernel
theorem dX9_preached_28 : decode cX9_preached 28 = .ok (.iconst (-1), 1) := by decide +kernel
theorem dX9_preached_29 : decode cX9_preached 29 = .ok (.if_icmp .ne 5, 3) := by decide +kernel
theorem dX9_preached_32 : decode cX9_preached 32 = .ok (.iload_n 2, 1) := by decide +kernel
theorem dX9_preached_33 : decode cX9_preached 33 = .ok (.ireturn, 1) := by decide +kernel
theorem dX9_preached_34 : decode cX9_preached 34 = .ok (.iload_n 2, 1) := by decide +kernel
theorem dX9_preached_35 : decode cX9_preached 35 = .ok (.ifCond .le 26, 3) := by decide +kernel
theorem dX9_preached_38 : decode cX9_preached 38 = .ok (.iload_n 1, 1) := by decide +kernel
theorem dX9_preached_39 : decode cX9_preached 39 = .ok (.iconst 0, 1) := by decide +kernel
theorem dX9_preached_40 : decode cX9_preached 40 = .ok (.aload_n 0, 1) := by decide +kernel
theorem dX9_preached_41 : decode cX9_preached 41 = .ok (.getfield 103, 3) := by decide +kernel
theorem dX9_preached_44 : decode cX9_preached 44 = .ok (.iconst 1, 1) := by decide +kernel
theorem dX9_preached_45 : decode cX9_preached 45 = .ok (.isub, 1) := by decide +kernel
theorem dX9_preached_46 : decode cX9_preached 46 = .ok (.invokestatic 75, 3) := by decide +kernel
theorem dX9_preached_49 : decode cX9_preached 49 = .ok (.ifCond .eq 12, 3) := by decide +kernel
theorem dX9_preached_52 : decode cX9_preached 52 = .ok (.aload_n 0, 1) := by decide +kernel
theorem dX9_preached_53 : decode cX9_preached 53 = .ok (.getfield 59, 3) := by decide +kernel
theorem dX9_preached_56 : decode cX9_preached 56 = .ok (.iload_n 1, 1) := by decide +kernel
theorem dX9_preached_57 : decode cX9_preached 57 = .ok (.iaload, 1) := by decide +kernel
theorem dX9_preached_58 : decode cX9_preached 58 = .ok (.goto 5, 3) := by decide +kernel
theorem dX9_preached_61 : decode cX9_preached 61 = .ok (.bipush (-6), 2) := by decide +kernel
theorem dX9_preached_63 : decode cX9_preached 63 = .ok (.ireturn, 1) := by decide +kernel
theorem dX9_surely_0 : decode cX9_surely 0 = .ok (.aload_n 0, 1) := by decide +kernel
theorem dX9_surely_1 : decode cX9_surely 1 = .ok (.invokevirtual 109, 3) := by decide +kernel
theorem dX9_surely_4 : decode cX9_surely 4 = .ok (.ifCond .lt 6, 3) := by decide +kernel
theorem dX9_surely_7 : decode cX9_surely 7 = .ok (.bipush (-5), 2) := by decide +kernel
theorem dX9_surely_9 : decode cX9_surely 9 = .ok (.ireturn, 1) := by decide +kernel
theorem dX9_surely_10 : decode cX9_surely 10 = .ok (.aload_n 0, 1) := by decide +kernel
theorem dX9_surely_11 : decode cX9_surely 11 = .ok (.getfield 103, 3) := by decide +kernel
theorem dX9_surely_14 : decode cX9_surely 14 = .ok (.bipush 6, 2) := by decide +kernel
theorem dX9_surely_16 : decode cX9_surely 16 = .ok (.if_icmp .le 6, 3) := by decide +kernel
theorem dX9_surely_19 : decode cX9_surely 19 = .ok (.bipush (-4), 2) := by decide +kernel
theorem dX9_surely_21 : decode cX9_surely 21 = .ok (.ireturn, 1) := by decide +kernel
theorem dX9_surely_22 : decode cX9_surely 22 = .ok (.aload_n 0, 1) := by decide +kernel
theorem dX9_surely_23 : decode cX9_surely 23 = .ok (.invokevirtual 191, 3) := by decide +kernel
theorem dX9_surely_26 : decode cX9_surely 26 = .ok (.ifCond .ne 7, 3) := by decide +kernel
theorem dX9_surely_29 : decode cX9_surely 29 = .ok (.iconst 0, 1) := by decide +kernel
theorem dX9_surely_30 : decode cX9_surely 30 = .ok (.goto 7, 3) := by decide +kernel
theorem dX9_surely_33 : decode cX9_surely 33 = .ok (.aload_n 0, 1) := by decide +kernel
theorem dX9_surely_34 : decode cX9_surely 34 = .ok (.getfield 185, 3) := by decide +kernel
theorem dX9_surely_37 : decode cX9_surely 37 = .ok (.ireturn, 1) := by decide +kernel
theorem dX9_dips_0 : decode cX9_dips 0 = .ok (.aload_n 0, 1) := by decide +kernel
theorem dX9_dips_1 : decode cX9_dips 1 = .ok (.iload_n 1, 1) := by decide +kernel
theorem dX9_dips_2 : decode cX9_dips 2 = .ok (.invokevirtual 99, 3) := by decide +kernel
theorem dX9_dips_5 : decode cX9_dips 5 = .ok (.ifCond .ne 5, 3) := by decide +kernel
theorem dX9_dips_8 : decode cX9_dips 8 = .ok (.iconst (-1), 1) := by decide +kernel
theorem dX9_dips_9 : decode cX9_dips 9 = .ok (.ireturn, 1) := by decide +kernel
theorem dX9_dips_10 : decode cX9_dips 10 = .ok (.iload_n 2, 1) := by decide +kernel
theorem dX9_dips_11 : decode cX9_dips 11 = .ok (.iconst 0, 1) := by decide +kernel
theorem dX9_dips_12 : decode cX9_dips 12 = .ok (.iconst 1, 1) := by decide +kernel
theorem dX9_dips_13 : decode cX9_dips 13 = .ok (.invokestatic 75, 3) := by decide +kernel
theorem dX9_dips_16 : decode cX9_dips 16 = .ok (.ifCond .ne 6, 3) := by decide +kernel
theorem dX9_dips_19 : decode cX9_dips 19 = .ok (.bipush (-2), 2) := by decide +kernel
theorem dX9_dips_21 : decode cX9_dips 21 = .ok (.ireturn, 1) := by decide +kernel
theorem dX9_dips_22 : decode cX9_dips 22 = .ok (.aload_n 0, 1) := by decide +kernel
theorem dX9_dips_23 : decode cX9_dips 23 = .ok (.invokevirtual 109, 3) := by decide +kernel
theorem dX9_dips_26 : decode cX9_dips 26 = .ok (.ifCond .lt 6, 3) := by decide +kernel
theorem dX9_dips_29 : decode cX9_dips 29 = .ok (.bipush (-5), 2) := by decide +kernel
theorem dX9_dips_31 : decode cX9_dips 31 = .ok (.ireturn, 1) := by decide +kernel
theorem dX9_dips_32 : decode cX9_dips 32 = .ok (.aload_n 0, 1) := by decide +kernel
theorem dX9_dips_33 : decode cX9_dips 33 = .ok (.invokevirtual 160, 3) := by decide +kernel
theorem dX9_dips_36 : decode cX9_dips 36 = .ok (.aload_n 0, 1) := by decide +kernel
theorem dX9_dips_37 : decode cX9_dips 37 = .ok (.aload_n 0, 1) := by decide +kernel
theorem dX9_dips_38 : decode cX9_dips 38 = .ok (.getfield 103, 3) := by decide +kernel
theorem dX9_dips_41 : decode cX9_dips 41 = .ok (.invokevirtual 163, 3) := by decide +kernel
theorem dX9_dips_44 : decode cX9_dips 44 = .ok (.iconst 0, 1) := by decide +kernel
theorem dX9_dips_45 : decode cX9_dips 45 = .ok (.istore_n 3, 1) := by decide +kernel
theorem dX9_dips_46 : decode cX9_dips 46 = .ok (.iconst 0, 1) := by decide +kernel
theorem dX9_dips_47 : decode cX9_dips 47 = .ok (.istore 4, 2) := by decide +kernel
theorem dX9_dips_49 : decode cX9_dips 49 = .ok (.iload 4, 2) := by decide +kernel
theorem dX9_dips_51 : decode cX9_dips 51 = .ok (.aload_n 0, 1) := by decide +kernel
theorem dX9_dips_52 : decode cX9_dips 52 = .ok (.getfield 103, 3) := by decide +kernel
theorem dX9_dips_55 : decode cX9_dips 55 = .ok (.if_icmp .ge 71, 3) := by decide +kernel
theorem dX9_dips_58 : decode cX9_dips 58 = .ok (.iload 4, 2) := by decide +kernel
theorem dX9_dips_60 : decode cX9_dips 60 = .ok (.bipush 30, 2) := by decide +kernel
theorem dX9_dips_62 : decode cX9_dips 62 = .ok (.if_icmp .ge 64, 3) := by decide +kernel
theorem dX9_dips_65 : decode cX9_dips 65 = .ok (.aload_n 0, 1) := by decide +kernel
theorem dX9_dips_66 : decode cX9_dips 66 = .ok (.getfield 50, 3) := by decide +kernel
theorem dX9_dips_69 : decode cX9_dips 69 = .ok (.iload 4, 2) := by decide +kernel
theorem dX9_dips_71 : decode cX9_dips 71 = .ok (.iaload, 1) := by decide +kernel
theorem dX9_dips_72 : decode cX9_dips 72 = .ok (.iload_n 1, 1) := by decide +kernel
theorem dX9_dips_73 : decode cX9_dips 73 = .ok (.invokestatic 79, 3) := by decide +kernel
theorem dX9_dips_76 : decode cX9_dips 76 = .ok (.ifCond .ne 21, 3) := by decide +kernel
theorem dX9_dips_79 : decode cX9_dips 79 = .ok (.iload_n 2, 1) := by decide +kernel
theorem dX9_dips_80 : decode cX9_dips 80 = .ok (.ifCond .ne 21, 3) := by decide +kernel
theorem dX9_dips_83 : decode cX9_dips 83 = .ok (.aload_n 0, 1) := by decide +kernel
theorem dX9_dips_84 : decode cX9_dips 84 = .ok (.getfield 47, 3) := by decide +kernel
theorem dX9_dips_87 : decode cX9_dips 87 = .ok (.iload 4, 2) := by decide +kernel
theorem dX9_dips_89 : decode cX9_dips 89 = .ok (.iaload, 1) := by decide +kernel
theorem dX9_dips_90 : decode cX9_dips 90 = .ok (.iload_n 1, 1) := by decide +kernel
theorem dX9_dips_91 : decode cX9_dips 91 = .ok (.invokestatic 79, 3) := by decide +kernel
theorem dX9_dips_94 : decode cX9_dips 94 = .ok (.ifCond .eq 7, 3) := by decide +kernel
theorem dX9_dips_97 : decode cX9_dips 97 = .ok (.iconst 1, 1) := by decide +kernel
theorem dX9_dips_98 : decode cX9_dips 98 = .ok (.goto 4, 3) := by decide +kernel
theorem dX9_dips_101 : decode cX9_dips 101 = .ok (.iconst 0, 1) := by decide +kernel
theorem dX9_dips_102 : decode cX9_dips 102 = .ok (.istore 5, 2) := by decide +kernel
theorem dX9_dips_104 : decode cX9_dips 104 = .ok (.iload_n 3, 1) := by decide +kernel
theorem dX9_dips_105 : decode cX9_dips 105 = .ok (.iload 5, 2) := by decide +kernel
theorem dX9_dips_107 : decode cX9_dips 107 = .ok (.ifCond .eq 10, 3) := by decide +kernel
theorem dX9_dips_110 : decode cX9_dips 110 = .ok (.iconst 1, 1) := by decide +kernel
theorem dX9_dips_111 : decode cX9_dips 111 = .ok (.iload 4, 2) := by decide +kernel
theorem dX9_dips_113 : decode cX9_dips 113 = .ok (.ishl, 1) := by decide +kernel
theorem dX9_dips_114 : decode cX9_dips 114 = .ok (.goto 4, 3) := by decide +kernel
theorem dX9_dips_117 : decode cX9_dips 117 = .ok (.iconst 0, 1) := by decide +kernel
theorem dX9_dips_118 : decode cX9_dips 118 = .ok (.ior, 1) := by decide +kernel
theorem dX9_dips_119 : decode cX9_dips 119 = .ok (.istore_n 3, 1) := by decide +kernel
theorem dX9_dips_120 : decode cX9_dips 120 = .ok (.iinc 4 1, 3) := by decide +kernel
theorem dX9_dips_123 : decode cX9_dips 123 = .ok (.goto (-74), 3) := by decide +kernel
theorem dX9_dips_126 : decode cX9_dips 126 = .ok (.iload_n 3, 1) := by decide +kernel
theorem dX9_dips_127 : decode cX9_dips 127 = .ok (.ireturn, 1) := by decide +kernel
theorem dX9_areAlike_0 : decode cX9_areAlike 0 = .ok (.iconst 1, 1) := by decide +kernel
theorem dX9_areAlike_1 : decode cX9_areAlike 1 = .ok (.istore_n 3, 1) := by decide +kernel
theorem dX9_areAlike_2 : decode cX9_areAlike 2 = .ok (.iconst 0, 1) := by decide +kernel
theorem dX9_areAlike_3 : decode cX9_areAlike 3 = .ok (.istore 4, 2) := by decide +kernel
theorem dX9_areAlike_5 : decode cX9_areAlike 5 = .ok (.iload 4, 2) := by decide +kernel
theorem dX9_areAlike_7 : decode cX9_areAlike 7 = .ok (.aload_n 0, 1) := by decide +kernel
theorem dX9_areAlike_8 : decode cX9_areAlike 8 = .ok (.getfield 103, 3) := by decide +kernel
theorem dX9_areAlike_11 : decode cX9_areAlike 11 = .ok (.if_icmp .ge 51, 3) := by decide +kernel
theorem dX9_areAlike_14 : decode cX9_areAlike 14 = .ok (.aload_n 0, 1) := by decide +kernel
theorem dX9_areAlike_15 : decode cX9_areAlike 15 = .ok (.getfield 47, 3) := by decide +kernel
theorem dX9_areAlike_18 : decode cX9_areAlike 18 = .ok (.iload 4, 2) := by decide +kernel
theorem dX9_areAlike_20 : decode cX9_areAlike 20 = .ok (.iaload, 1) := by decide +kernel
theorem dX9_areAlike_21 : decode cX9_areAlike 21 = .ok (.aload_n 0, 1) := by decide +kernel
theorem dX9_areAlike_22 : decode cX9_areAlike 22 = .ok (.getfield 50, 3) := by decide +kernel
theorem dX9_areAlike_25 : decode cX9_areAlike 25 = .ok (.iload 4, 2) := by decide +kernel
theorem dX9_areAlike_27 : decode cX9_areAlike 27 = .ok (.iaload, 1) := by decide +kernel
theorem dX9_areAlike_28 : decode cX9_areAlike 28 = .ok (.ior, 1) := by decide +kernel
theorem dX9_areAlike_29 : decode cX9_areAlike 29 = .ok (.istore 5, 2) := by decide +kernel
theorem dX9_areAlike_31 : decode cX9_areAlike 31 = .ok (.iload_n 3, 1) := by decide +kernel
theorem dX9_areAlike_32 : decode cX9_areAlike 32 = .ok (.ifCond .eq 22, 3) := by decide +kernel
theorem dX9_areAlike_35 : decode cX9_areAlike 35 = .ok (.iload 5, 2) := by decide +kernel
theorem dX9_areAlike_37 : decode cX9_areAlike 37 = .ok (.iload_n 1, 1) := by decide +kernel
theorem dX9_areAlike_38 : decode cX9_areAlike 38 = .ok (.invokestatic 79, 3) := by decide +kernel
theorem dX9_areAlike_41 : decode cX9_areAlike 41 = .ok (.iload 5, 2) := by decide +kernel
theorem dX9_areAlike_43 : decode cX9_areAlike 43 = .ok (.iload_n 2, 1) := by decide +kernel
theorem dX9_areAlike_44 : decode cX9_areAlike 44 = .ok (.invokestatic 79, 3) := by decide +kernel
theorem dX9_areAlike_47 : decode cX9_areAlike 47 = .ok (.if_icmp .ne 7, 3) := by decide +kernel
theorem dX9_areAlike_50 : decode cX9_areAlike 50 = .ok (.iconst 1, 1) := by decide +kernel
theorem dX9_areAlike_51 : decode cX9_areAlike 51 = .ok (.goto 4, 3) := by decide +kernel
theorem dX9_areAlike_54 : decode cX9_areAlike 54 = .ok (.iconst 0, 1) := by decide +kernel
theorem dX9_areAlike_55 : decode cX9_areAlike 55 = .ok (.istore_n 3, 1) := by decide +kernel
theorem dX9_areAlike_56 : decode cX9_areAlike 56 = .ok (.iinc 4 1, 3) := by decide +kernel
theorem dX9_areAlike_59 : decode cX9_areAlike 59 = .ok (.goto (-54), 3) := by decide +kernel
theorem dX9_areAlike_62 : decode cX9_areAlike 62 = .ok (.iload_n 3, 1) := by decide +kernel
theorem dX9_areAlike_63 : decode cX9_areAlike 63 = .ok (.ireturn, 1) := by decide +kernel
theorem dX9_alike_0 : decode cX9_alike 0 = .ok (.aload_n 0, 1) := by decide +kernel
theorem dX9_alike_1 : decode cX9_alike 1 = .ok (.invokevirtual 109, 3) := by decide +kernel
theorem dX9_alike_4 : decode cX9_alike 4 = .ok (.ifCond .lt 6, 3) := by decide +kernel
theorem dX9_alike_7 : decode cX9_alike 7 = .ok (.bipush (-5), 2) := by decide +kernel
theorem dX9_alike_9 : decode cX9_alike 9 = .ok (.ireturn, 1) := by decide +kernel
theorem dX9_alike_10 : decode cX9_alike 10 = .ok (.aload_n 0, 1) := by decide +kernel
theorem dX9_alike_11 : decode cX9_alike 11 = .ok (.invokevirtual 160, 3) := by decide +kernel
theorem dX9_alike_14 : decode cX9_alike 14 = .ok (.aload_n 0, 1) := by decide +kernel
theorem dX9_alike_15 : decode cX9_alike 15 = .ok (.aload_n 0, 1) := by decide +kernel
theorem dX9_alike_16 : decode cX9_alike 16 = .ok (.getfield 103, 3) := by decide +kernel
theorem dX9_alike_19 : decode cX9_alike 19 = .ok (.invokevirtual 163, 3) := by decide +kernel
theorem dX9_alike_22 : decode cX9_alike 22 = .ok (.iconst 0, 1) := by decide +kernel
theorem dX9_alike_23 : decode cX9_alike 23 = .ok (.istore_n 2, 1) := by decide +kernel
theorem dX9_alike_24 : decode cX9_alike 24 = .ok (.iconst 0, 1) := by decide +kernel
theorem dX9_alike_25 : decode cX9_alike 25 = .ok (.istore_n 3, 1) := by decide +kernel
theorem dX9_alike_26 : decode cX9_alike 26 = .ok (.iload_n 3, 1) := by decide +kernel
theorem dX9_alike_27 : decode cX9_alike 27 = .ok (.bipush 8, 2) := by decide +kernel
theorem dX9_alike_29 : decode cX9_alike 29 = .ok (.if_icmp .ge 76, 3) := by decide +kernel
theorem dX9_alike_32 : decode cX9_alike 32 = .ok (.iload_n 3, 1) := by decide +kernel
theorem dX9_alike_33 : decode cX9_alike 33 = .ok (.iconst 1, 1) := by decide +kernel
theorem dX9_alike_34 : decode cX9_alike 34 = .ok (.iadd, 1) := by decide +kernel
theorem dX9_alike_35 : decode cX9_alike 35 = .ok (.istore 4, 2) := by decide +kernel
theorem dX9_alike_37 : decode cX9_alike 37 = .ok (.iload 4, 2) := by decide +kernel
theorem dX9_alike_39 : decode cX9_alike 39 = .ok (.bipush 8, 2) := by decide +kernel
theorem dX9_alike_41 : decode cX9_alike 41 = .ok (.if_icmp .ge 58, 3) := by decide +kernel
theorem dX9_alike_44 : decode cX9_alike 44 = .ok (.aload_n 0, 1) := by decide +kernel
theorem dX9_alike_45 : decode cX9_alike 45 = .ok (.getfield 72, 3) := by decide +kernel
theorem dX9_alike_48 : decode cX9_alike 48 = .ok (.iload_n 3, 1) := by decide +kernel
theorem dX9_alike_49 : decode cX9_alike 49 = .ok (.invokestatic 79, 3) := by decide +kernel
theorem dX9_alike_52 : decode cX9_alike 52 = .ok (.ifCond .eq 41, 3) := by decide +kernel
theorem dX9_alike_55 : decode cX9_alike 55 = .ok (.aload_n 0, 1) := by decide +kernel
theorem dX9_alike_56 : decode cX9_alike 56 = .ok (.getfield 72, 3) := by decide +kernel
theorem dX9_alike_59 : decode cX9_alike 59 = .ok (.iload 4, 2) := by decide +kernel
theorem dX9_alike_61 : decode cX9_alike 61 = .ok (.invokestatic 79, 3) := by decide +kernel
theorem dX9_alike_64 : decode cX9_alike 64 = .ok (.ifCond .eq 29, 3) := by decide +kernel
theorem dX9_alike_67 : decode cX9_alike 67 = .ok (.aload_n 0, 1) := by decide +kernel
theorem dX9_alike_68 : decode cX9_alike 68 = .ok (.iload_n 3, 1) := by decide +kernel
theorem dX9_alike_69 : decode cX9_alike 69 = .ok (.iload 4, 2) := by decide +kernel
theorem dX9_alike_71 : decode cX9_alike 71 = .ok (.invokevirtual 194, 3) := by decide +kernel
theorem dX9_alike_74 : decode cX9_alike 74 = .ok (.ifCond .eq 19, 3) := by decide +kernel
theorem dX9_alike_77 : decode cX9_alike 77 = .ok (.iload_n 2, 1) := by decide +kernel
theorem dX9_alike_78 : decode cX9_alike 78 = .ok (.iload_n 1, 1) := by decide +kernel
theorem dX9_alike_79 : decode cX9_alike 79 = .ok (.if_icmp .ne 11, 3) := by decide +kernel
theorem dX9_alike_82 : decode cX9_alike 82 = .ok (.bipush 10, 2) := by decide +kernel
theorem dX9_alike_84 : decode cX9_alike 84 = .ok (.iload_n 3, 1) := by decide +kernel
theorem dX9_alike_85 : decode cX9_alike 85 = .ok (.imul, 1) := by decide +kernel
theorem dX9_alike_86 : decode cX9_alike 86 = .ok (.iload 4, 2) := by decide +kernel
theorem dX9_alike_88 : decode cX9_alike 88 = .ok (.iadd, 1) := by decide +kernel
theorem dX9_alike_89 : decode cX9_alike 89 = .ok (.ireturn, 1) := by decide +kernel
theorem dX9_alike_90 : decode cX9_alike 90 = .ok (.iinc 2 1, 3) := by decide +kernel
theorem dX9_alike_93 : decode cX9_alike 93 = .ok (.iinc 4 1, 3) := by decide +kernel
theorem dX9_alike_96 : decode cX9_alike 96 = .ok (.goto (-59), 3) := by decide +kernel
theorem dX9_alike_99 : decode cX9_alike 99 = .ok (.iinc 3 1, 3) := by decide +kernel
theorem dX9_alike_102 : decode cX9_alike 102 = .ok (.goto (-76), 3) := by decide +kernel
theorem dX9_alike_105 : decode cX9_alike 105 = .ok (.iload_n 1, 1) := by decide +kernel
theorem dX9_alike_106 : decode cX9_alike 106 = .ok (.iconst (-1), 1) := by decide +kernel
theorem dX9_alike_107 : decode cX9_alike 107 = .ok (.if_icmp .ne 7, 3) := by decide +kernel
theorem dX9_alike_110 : decode cX9_alike 110 = .ok (.iload_n 2, 1) := by decide +kernel
theorem dX9_alike_111 : decode cX9_alike 111 = .ok (.goto 5, 3) := by decide +kernel
theorem dX9_alike_114 : decode cX9_alike 114 = .ok (.bipush (-6), 2) := by decide +kernel
theorem dX9_alike_116 : decode cX9_alike 116 = .ok (.ireturn, 1) := by decide +kernel
theorem dX9_likes_0 : decode cX9_likes 0 = .ok (.iconst 0, 1) := by decide +kernel
theorem dX9_likes_1 : decode cX9_likes 1 = .ok (.istore_n 3, 1) := by decide +kernel
theorem dX9_likes_2 : decode cX9_likes 2 = .ok (.iconst 0, 1) := by decide +kernel
theorem dX9_likes_3 : decode cX9_likes 3 = .ok (.istore 4, 2) := by decide +kernel
theorem dX9_likes_5 : decode cX9_likes 5 = .ok (.iload 4, 2) := by decide +kernel
theorem dX9_likes_7 : decode cX9_likes 7 = .ok (.bipush 8, 2) := by decide +kernel
theorem dX9_likes_9 : decode cX9_likes 9 = .ok (.if_icmp .ge 46, 3) := by decide +kernel
theorem dX9_likes_12 : decode cX9_likes 12 = .ok (.iload_n 3, 1) := by decide +kernel
theorem dX9_likes_13 : decode cX9_likes 13 = .ok (.aload_n 0, 1) := by decide +kernel
theorem dX9_likes_14 : decode cX9_likes 14 = .ok (.getfield 72, 3) := by decide +kernel
theorem dX9_likes_17 : decode cX9_likes 17 = .ok (.iload 4, 2) := by decide +kernel
theorem dX9_likes_19 : decode cX9_likes 19 = .ok (.invokestatic 79, 3) := by decide +kernel
theorem dX9_likes_22 : decode cX9_likes 22 = .ok (.ifCond .eq 24, 3) := by decide +kernel
theorem dX9_likes_25 : decode cX9_likes 25 = .ok (.iload 4, 2) := by decide +kernel
theorem dX9_likes_27 : decode cX9_likes 27 = .ok (.iload_n 1, 1) := by decide +kernel
theorem dX9_likes_28 : decode cX9_likes 28 = .ok (.if_icmp .eq 18, 3) := by decide +kernel
theorem dX9_likes_31 : decode cX9_likes 31 = .ok (.aload_n 0, 1) := by decide +kernel
theorem dX9_likes_32 : decode cX9_likes 32 = .ok (.getfield 62, 3) := by decide +kernel
theorem dX9_likes_35 : decode cX9_likes 35 = .ok (.iload 4, 2) := by decide +kernel
theorem dX9_likes_37 : decode cX9_likes 37 = .ok (.iaload, 1) := by decide +kernel
theorem dX9_likes_38 : decode cX9_likes 38 = .ok (.iload_n 2, 1) := by decide +kernel
theorem dX9_likes_39 : decode cX9_likes 39 = .ok (.if_icmp .ne 7, 3) := by decide +kernel
theorem dX9_likes_42 : decode cX9_likes 42 = .ok (.iconst 1, 1) := by decide +kernel
theorem dX9_likes_43 : decode cX9_likes 43 = .ok (.goto 4, 3) := by decide +kernel
theorem dX9_likes_46 : decode cX9_likes 46 = .ok (.iconst 0, 1) := by decide +kernel
theorem dX9_likes_47 : decode cX9_likes 47 = .ok (.iadd, 1) := by decide +kernel
theorem dX9_likes_48 : decode cX9_likes 48 = .ok (.istore_n 3, 1) := by decide +kernel
theorem dX9_likes_49 : decode cX9_likes 49 = .ok (.iinc 4 1, 3) := by decide +kernel
theorem dX9_likes_52 : decode cX9_likes 52 = .ok (.goto (-47), 3) := by decide +kernel
theorem dX9_likes_55 : decode cX9_likes 55 = .ok (.iconst 2, 1) := by decide +kernel
theorem dX9_likes_56 : decode cX9_likes 56 = .ok (.aload_n 0, 1) := by decide +kernel
theorem dX9_likes_57 : decode cX9_likes 57 = .ok (.getfield 23, 3) := by decide +kernel
theorem dX9_likes_60 : decode cX9_likes 60 = .ok (.iload_n 1, 1) := by decide +kernel
theorem dX9_likes_61 : decode cX9_likes 61 = .ok (.iaload, 1) := by decide +kernel
theorem dX9_likes_62 : decode cX9_likes 62 = .ok (.ifCond .ne 7, 3) := by decide +kernel
theorem dX9_likes_65 : decode cX9_likes 65 = .ok (.iload_n 2, 1) := by decide +kernel
theorem dX9_likes_66 : decode cX9_likes 66 = .ok (.goto 6, 3) := by decide +kernel
theorem dX9_likes_69 : decode cX9_likes 69 = .ok (.iconst 2, 1) := by decide +kernel
theorem dX9_likes_70 : decode cX9_likes 70 = .ok (.iload_n 2, 1) := by decide +kernel
theorem dX9_likes_71 : decode cX9_likes 71 = .ok (.isub, 1) := by decide +kernel
theorem dX9_likes_72 : decode cX9_likes 72 = .ok (.imul, 1) := by decide +kernel
theorem dX9_likes_73 : decode cX9_likes 73 = .ok (.iload_n 3, 1) := by decide +kernel
theorem dX9_likes_74 : decode cX9_likes 74 = .ok (.isub, 1) := by decide +kernel
theorem dX9_likes_75 : decode cX9_likes 75 = .ok (.ireturn, 1) := by decide +kernel
theorem dX9_parishes_0 : decode cX9_parishes 0 = .ok (.iload_n 1, 1) := by decide +kernel
theorem dX9_parishes_1 : decode cX9_parishes 1 = .ok (.iconst (-1), 1) := by decide +kernel
theorem dX9_parishes_2 : decode cX9_parishes 2 = .ok (.iconst 2, 1) := by decide +kernel
theorem dX9_parishes_3 : decode cX9_parishes 3 = .ok (.invokestatic 75, 3) := by decide +kernel
theorem dX9_parishes_6 : decode cX9_parishes 6 = .ok (.ifCond .ne 6, 3) := by decide +kernel
theorem dX9_parishes_9 : decode cX9_parishes 9 = .ok (.bipush (-2), 2) := by decide +kernel
theorem dX9_parishes_11 : decode cX9_parishes 11 = .ok (.ireturn, 1) := by decide +kernel
theorem dX9_parishes_12 : decode cX9_parishes 12 = .ok (.iconst 0, 1) := by decide +kernel
theorem dX9_parishes_13 : decode cX9_parishes 13 = .ok (.istore_n 2, 1) := by decide +kernel
theorem dX9_parishes_14 : decode cX9_parishes 14 = .ok (.iload_n 2, 1) := by decide +kernel
theorem dX9_parishes_15 : decode cX9_parishes 15 = .ok (.bipush 8, 2) := by decide +kernel
theorem dX9_parishes_17 : decode cX9_parishes 17 = .ok (.if_icmp .ge 16, 3) := by decide +kernel
theorem dX9_parishes_20 : decode cX9_parishes 20 = .ok (.aload_n 0, 1) := by decide +kernel
theorem dX9_parishes_21 : decode cX9_parishes 21 = .ok (.getfield 62, 3) := by decide +kernel
theorem dX9_parishes_24 : decode cX9_parishes 24 = .ok (.iload_n 2, 1) := by decide +kernel
theorem dX9_parishes_25 : decode cX9_parishes 25 = .ok (.iconst 0, 1) := by decide +kernel
theorem dX9_parishes_26 : decode cX9_parishes 26 = .ok (.iastore, 1) := by decide +kernel
theorem dX9_parishes_27 : decode cX9_parishes 27 = .ok (.iinc 2 1, 3) := by decide +kernel
theorem dX9_parishes_30 : decode cX9_parishes 30 = .ok (.goto (-16), 3) := by decide +kernel
theorem dX9_parishes_33 : decode cX9_parishes 33 = .ok (.iconst 0, 1) := by decide +kernel
theorem dX9_parishes_34 : decode cX9_parishes 34 = .ok (.istore_n 2, 1) := by decide +kernel
theorem dX9_parishes_35 : decode cX9_parishes 35 = .ok (.iconst 1, 1) := by decide +kernel
theorem dX9_parishes_36 : decode cX9_parishes 36 = .ok (.istore_n 3, 1) := by decide +kernel
theorem dX9_parishes_37 : decode cX9_parishes 37 = .ok (.iload_n 3, 1) := by decide +kernel
theorem dX9_parishes_38 : decode cX9_parishes 38 = .ok (.ifCond .eq 135, 3) := by decide +kernel
theorem dX9_parishes_41 : decode cX9_parishes 41 = .ok (.iload_n 2, 1) := by decide +kernel
theorem dX9_parishes_42 : decode cX9_parishes 42 = .ok (.bipush 99, 2) := by decide +kernel
theorem dX9_parishes_44 : decode cX9_parishes 44 = .ok (.if_icmp .ge 129, 3) := by decide +kernel
theorem dX9_parishes_47 : decode cX9_parishes 47 = .ok (.iconst 0, 1) := by decide +kernel
theorem dX9_parishes_48 : decode cX9_parishes 48 = .ok (.istore_n 3, 1) := by decide +kernel
theorem dX9_parishes_49 : decode cX9_parishes 49 = .ok (.iconst 0, 1) := by decide +kernel
theorem dX9_parishes_50 : decode cX9_parishes 50 = .ok (.istore 4, 2) := by decide +kernel
theorem dX9_parishes_52 : decode cX9_parishes 52 = .ok (.iload 4, 2) := by decide +kernel
theorem dX9_parishes_54 : decode cX9_parishes 54 = .ok (.bipush 8, 2) := by decide +kernel
theorem dX9_parishes_56 : decode cX9_parishes 56 = .ok (.if_icmp .ge 111, 3) := by decide +kernel
theorem dX9_parishes_59 : decode cX9_parishes 59 = .ok (.aload_n 0, 1) := by decide +kernel
theorem dX9_parishes_60 : decode cX9_parishes 60 = .ok (.getfield 72, 3) := by decide +kernel
theorem dX9_parishes_63 : decode cX9_parishes 63 = .ok (.iload 4, 2) := by decide +kernel
theorem dX9_parishes_65 : decode cX9_parishes 65 = .ok (.invokestatic 79, 3) := by decide +kernel
theorem dX9_parishes_68 : decode cX9_parishes 68 = .ok (.ifCond .eq 93, 3) := by decide +kernel
theorem dX9_parishes_71 : decode cX9_parishes 71 = .ok (.aload_n 0, 1) := by decide +kernel
theorem dX9_parishes_72 : decode cX9_parishes 72 = .ok (.getfield 62, 3) := by decide +kernel
theorem dX9_parishes_75 : decode cX9_parishes 75 = .ok (.iload 4, 2) := by decide +kernel
theorem dX9_parishes_77 : decode cX9_parishes 77 = .ok (.iaload, 1) := by decide +kernel
theorem dX9_parishes_78 : decode cX9_parishes 78 = .ok (.istore 5, 2) := by decide +kernel
theorem dX9_parishes_80 : decode cX9_parishes 80 = .ok (.aload_n 0, 1) := by decide +kernel
theorem dX9_parishes_81 : decode cX9_parishes 81 = .ok (.iload 4, 2) := by decide +kernel
theorem dX9_parishes_83 : decode cX9_parishes 83 = .ok (.iload 5, 2) := by decide +kernel
theorem dX9_parishes_85 : decode cX9_parishes 85 = .ok (.invokevirtual 197, 3) := by decide +kernel
theorem dX9_parishes_88 : decode cX9_parishes 88 = .ok (.istore 6, 2) := by decide +kernel
theorem dX9_parishes_90 : decode cX9_parishes 90 = .ok (.iconst 0, 1) := by decide +kernel
theorem dX9_parishes_91 : decode cX9_parishes 91 = .ok (.istore 7, 2) := by decide +kernel
theorem dX9_parishes_93 : decode cX9_parishes 93 = .ok (.iload 7, 2) := by decide +kernel
theorem dX9_parishes_95 : decode cX9_parishes 95 = .ok (.iconst 3, 1) := by decide +kernel
theorem dX9_parishes_96 : decode cX9_parishes 96 = .ok (.if_icmp .ge 34, 3) := by decide +kernel
theorem dX9_parishes_99 : decode cX9_parishes 99 = .ok (.aload_n 0, 1) := by decide +kernel
theorem dX9_parishes_100 : decode cX9_parishes 100 = .ok (.iload 4, 2) := by decide +kernel
theorem dX9_parishes_102 : decode cX9_parishes 102 = .ok (.iload 7, 2) := by decide +kernel
theorem dX9_parishes_104 : decode cX9_parishes 104 = .ok (.invokevirtual 197, 3) := by decide +kernel
theorem dX9_parishes_107 : decode cX9_parishes 107 = .ok (.istore 8, 2) := by decide +kernel
theorem dX9_parishes_109 : decode cX9_parishes 109 = .ok (.iload 8, 2) := by decide +kernel
theorem dX9_parishes_111 : decode cX9_parishes 111 = .ok (.iload 6, 2) := by decide +kernel
theorem dX9_parishes_113 : decode cX9_parishes 113 = .ok (.if_icmp .le 11, 3) := by decide +kernel
theorem dX9_parishes_116 : decode cX9_parishes 116 = .ok (.iload 7, 2) := by decide +kernel
theorem dX9_parishes_118 : decode cX9_parishes 118 = .ok (.istore 5, 2) := by decide +kernel
theorem dX9_parishes_120 : decode cX9_parishes 120 = .ok (.iload 8, 2) := by decide +kernel
theorem dX9_parishes_122 : decode cX9_parishes 122 = .ok (.istore 6, 2) := by decide +kernel
theorem dX9_parishes_124 : decode cX9_parishes 124 = .ok (.iinc 7 1, 3) := by decide +kernel
theorem dX9_parishes_127 : decode cX9_parishes 127 = .ok (.goto (-34), 3) := by decide +kernel
theorem dX9_parishes_130 : decode cX9_parishes 130 = .ok (.iload_n 3, 1) := by decide +kernel
theorem dX9_parishes_131 : decode cX9_parishes 131 = .ok (.ifCond .ne 15, 3) := by decide +kernel
theorem dX9_parishes_134 : decode cX9_parishes 134 = .ok (.iload 5, 2) := by decide +kernel
theorem dX9_parishes_136 : decode cX9_parishes 136 = .ok (.aload_n 0, 1) := by decide +kernel
theorem dX9_parishes_137 : decode cX9_parishes 137 = .ok (.getfield 62, 3) := by decide +kernel
theorem dX9_parishes_140 : decode cX9_parishes 140 = .ok (.iload 4, 2) := by decide +kernel
theorem dX9_parishes_142 : decode cX9_parishes 142 = .ok (.iaload, 1) := by decide +kernel
theorem dX9_parishes_143 : decode cX9_parishes 143 = .ok (.if_icmp .eq 7, 3) := by decide +kernel
theorem dX9_parishes_146 : decode cX9_parishes 146 = .ok (.iconst 1, 1) := by decide +kernel
theorem dX9_parishes_147 : decode cX9_parishes 147 = .ok (.goto 4, 3) := by decide +kernel
theorem dX9_parishes_150 : decode cX9_parishes 150 = .ok (.iconst 0, 1) := by decide +kernel
theorem dX9_parishes_151 : decode cX9_parishes 151 = .ok (.istore_n 3, 1) := by decide +kernel
theorem dX9_parishes_152 : decode cX9_parishes 152 = .ok (.aload_n 0, 1) := by decide +kernel
theorem dX9_parishes_153 : decode cX9_parishes 153 = .ok (.getfield 62, 3) := by decide +kernel
theorem dX9_parishes_156 : decode cX9_parishes 156 = .ok (.iload 4, 2) := by decide +kernel
theorem dX9_parishes_158 : decode cX9_parishes 158 = .ok (.iload 5, 2) := by decide +kernel
theorem dX9_parishes_160 : decode cX9_parishes 160 = .ok (.iastore, 1) := by decide +kernel
theorem dX9_parishes_161 : decode cX9_parishes 161 = .ok (.iinc 4 1, 3) := by decide +kernel
theorem dX9_parishes_164 : decode cX9_parishes 164 = .ok (.goto (-112), 3) := by decide +kernel
theorem dX9_parishes_167 : decode cX9_parishes 167 = .ok (.iinc 2 1, 3) := by decide +kernel
theorem dX9_parishes_170 : decode cX9_parishes 170 = .ok (.goto (-133), 3) := by decide +kernel
theorem dX9_parishes_173 : decode cX9_parishes 173 = .ok (.iconst 0, 1) := by decide +kernel
theorem dX9_parishes_174 : decode cX9_parishes 174 = .ok (.istore 4, 2) := by decide +kernel
theorem dX9_parishes_176 : decode cX9_parishes 176 = .ok (.iconst 0, 1) := by decide +kernel
theorem dX9_parishes_177 : decode cX9_parishes 177 = .ok (.istore 5, 2) := by decide +kernel
theorem dX9_parishes_179 : decode cX9_parishes 179 = .ok (.iload 5, 2) := by decide +kernel
theorem dX9_parishes_181 : decode cX9_parishes 181 = .ok (.bipush 8, 2) := by decide +kernel
theorem dX9_parishes_183 : decode cX9_parishes 183 = .ok (.if_icmp .ge 42, 3) := by decide +kernel
theorem dX9_parishes_186 : decode cX9_parishes 186 = .ok (.iload 4, 2) := by decide +kernel
theorem dX9_parishes_188 : decode cX9_parishes 188 = .ok (.aload_n 0, 1) := by decide +kernel
theorem dX9_parishes_189 : decode cX9_parishes 189 = .ok (.getfield 72, 3) := by decide +kernel
theorem dX9_parishes_192 : decode cX9_parishes 192 = .ok (.iload 5, 2) := by decide +kernel
theorem dX9_parishes_194 : decode cX9_parishes 194 = .ok (.invokestatic 79, 3) := by decide +kernel
theorem dX9_parishes_197 : decode cX9_parishes 197 = .ok (.ifCond .eq 18, 3) := by decide +kernel
theorem dX9_parishes_200 : decode cX9_parishes 200 = .ok (.aload_n 0, 1) := by decide +kernel
theorem dX9_parishes_201 : decode cX9_parishes 201 = .ok (.getfield 62, 3) := by decide +kernel
theorem dX9_parishes_204 : decode cX9_parishes 204 = .ok (.iload 5, 2) := by decide +kernel
theorem dX9_parishes_206 : decode cX9_parishes 206 = .ok (.iaload, 1) := by decide +kernel
theorem dX9_parishes_207 : decode cX9_parishes 207 = .ok (.iload_n 1, 1) := by decide +kernel
theorem dX9_parishes_208 : decode cX9_parishes 208 = .ok (.if_icmp .ne 7, 3) := by decide +kernel
theorem dX9_parishes_211 : decode cX9_parishes 211 = .ok (.iconst 1, 1) := by decide +kernel
theorem dX9_parishes_212 : decode cX9_parishes 212 = .ok (.goto 4, 3) := by decide +kernel
theorem dX9_parishes_215 : decode cX9_parishes 215 = .ok (.iconst 0, 1) := by decide +kernel
theorem dX9_parishes_216 : decode cX9_parishes 216 = .ok (.iadd, 1) := by decide +kernel
theorem dX9_parishes_217 : decode cX9_parishes 217 = .ok (.istore 4, 2) := by decide +kernel
theorem dX9_parishes_219 : decode cX9_parishes 219 = .ok (.iinc 5 1, 3) := by decide +kernel
theorem dX9_parishes_222 : decode cX9_parishes 222 = .ok (.goto (-43), 3) := by decide +kernel
theorem dX9_parishes_225 : decode cX9_parishes 225 = .ok (.iload_n 1, 1) := by decide +kernel
theorem dX9_parishes_226 : decode cX9_parishes 226 = .ok (.ifCond .lt 8, 3) := by decide +kernel
theorem dX9_parishes_229 : decode cX9_parishes 229 = .ok (.iload 4, 2) := by decide +kernel
theorem dX9_parishes_231 : decode cX9_parishes 231 = .ok (.goto 13, 3) := by decide +kernel
theorem dX9_parishes_234 : decode cX9_parishes 234 = .ok (.iload_n 3, 1) := by decide +kernel
theorem dX9_parishes_235 : decode cX9_parishes 235 = .ok (.ifCond .eq 8, 3) := by decide +kernel
theorem dX9_parishes_238 : decode cX9_parishes 238 = .ok (.bipush (-6), 2) := by decide +kernel
theorem dX9_parishes_240 : decode cX9_parishes 240 = .ok (.goto 4, 3) := by decide +kernel
theorem dX9_parishes_243 : decode cX9_parishes 243 = .ok (.iload_n 2, 1) := by decide +kernel
theorem dX9_parishes_244 : decode cX9_parishes 244 = .ok (.ireturn, 1) := by decide +kernel
theorem dX9_cold_0 : decode cX9_cold 0 = .ok (.iload_n 1, 1) := by decide +kernel
theorem dX9_cold_1 : decode cX9_cold 1 = .ok (.iconst 0, 1) := by decide +kernel
theorem dX9_cold_2 : decode cX9_cold 2 = .ok (.bipush 10, 2) := by decide +kernel
theorem dX9_cold_4 : decode cX9_cold 4 = .ok (.invokestatic 75, 3) := by decide +kernel
theorem dX9_cold_7 : decode cX9_cold 7 = .ok (.ifCond .eq 21, 3) := by decide +kernel
theorem dX9_cold_10 : decode cX9_cold 10 = .ok (.iload_n 2, 1) := by decide +kernel
theorem dX9_cold_11 : decode cX9_cold 11 = .ok (.iconst 0, 1) := by decide +kernel
theorem dX9_cold_12 : decode cX9_cold 12 = .ok (.iconst 1, 1) := by decide +kernel
theorem dX9_cold_13 : decode cX9_cold 13 = .ok (.invokestatic 75, 3) := by decide +kernel
theorem dX9_cold_16 : decode cX9_cold 16 = .ok (.ifCond .eq 12, 3) := by decide +kernel
theorem dX9_cold_19 : decode cX9_cold 19 = .ok (.iload_n 3, 1) := by decide +kernel
theorem dX9_cold_20 : decode cX9_cold 20 = .ok (.iconst 0, 1) := by decide +kernel
theorem dX9_cold_21 : decode cX9_cold 21 = .ok (.iconst 1, 1) := by decide +kernel
theorem dX9_cold_22 : decode cX9_cold 22 = .ok (.invokestatic 75, 3) := by decide +kernel
theorem dX9_cold_25 : decode cX9_cold 25 = .ok (.ifCond .ne 7, 3) := by decide +kernel
theorem dX9_cold_28 : decode cX9_cold 28 = .ok (.ldc2_w 200, 3) := by decide +kernel
theorem dX9_cold_31 : decode cX9_cold 31 = .ok (.lreturn, 1) := by decide +kernel
theorem dX9_cold_32 : decode cX9_cold 32 = .ok (.aload_n 0, 1) := by decide +kernel
theorem dX9_cold_33 : decode cX9_cold 33 = .ok (.invokevirtual 109, 3) := by decide +kernel
theorem dX9_cold_36 : decode cX9_cold 36 = .ok (.ifCond .lt 7, 3) := by decide +kernel
theorem dX9_cold_39 : decode cX9_cold 39 = .ok (.ldc2_w 202, 3) := by decide +kernel
theorem dX9_cold_42 : decode cX9_cold 42 = .ok (.lreturn, 1) := by decide +kernel
theorem dX9_cold_43 : decode cX9_cold 43 = .ok (.aload_n 0, 1) := by decide +kernel
theorem dX9_cold_44 : decode cX9_cold 44 = .ok (.getfield 103, 3) := by decide +kernel
theorem dX9_cold_47 : decode cX9_cold 47 = .ok (.bipush 10, 2) := by decide +kernel
theorem dX9_cold_49 : decode cX9_cold 49 = .ok (.if_icmp .le 7, 3) := by decide +kernel
theorem dX9_cold_52 : decode cX9_cold 52 = .ok (.ldc2_w 204, 3) := by decide +kernel
theorem dX9_cold_55 : decode cX9_cold 55 = .ok (.lreturn, 1) := by decide +kernel
theorem dX9_cold_56 : decode cX9_cold 56 = .ok (.lconst 0, 1) := by decide +kernel
theorem dX9_cold_57 : decode cX9_cold 57 = .ok (.lstore 4, 2) := by decide +kernel
theorem dX9_cold_59 : decode cX9_cold 59 = .ok (.lconst 1, 1) := by decide +kernel
theorem dX9_cold_60 : decode cX9_cold 60 = .ok (.lstore 6, 2) := by decide +kernel
theorem dX9_cold_62 : decode cX9_cold 62 = .ok (.iconst 0, 1) := by decide +kernel
theorem dX9_cold_63 : decode cX9_cold 63 = .ok (.istore 8, 2) := by decide +kernel
theorem dX9_cold_65 : decode cX9_cold 65 = .ok (.iload 8, 2) := by decide +kernel
theorem dX9_cold_67 : decode cX9_cold 67 = .ok (.aload_n 0, 1) := by decide +kernel
theorem dX9_cold_68 : decode cX9_cold 68 = .ok (.getfield 103, 3) := by decide +kernel
theorem dX9_cold_71 : decode cX9_cold 71 = .ok (.if_icmp .ge 17, 3) := by decide +kernel
theorem dX9_cold_74 : decode cX9_cold 74 = .ok (.lload 6, 2) := by decide +kernel
theorem dX9_cold_76 : decode cX9_cold 76 = .ok (.ldc2_w 206, 3) := by decide +kernel
theorem dX9_cold_79 : decode cX9_cold 79 = .ok (.lmul, 1) := by decide +kernel
theorem dX9_cold_80 : decode cX9_cold 80 = .ok (.lstore 6, 2) := by decide +kernel
theorem dX9_cold_82 : decode cX9_cold 82 = .ok (.iinc 8 1, 3) := by decide +kernel
theorem dX9_cold_85 : decode cX9_cold 85 = .ok (.goto (-20), 3) := by decide +kernel
theorem dX9_cold_88 : decode cX9_cold 88 = .ok (.iconst 0, 1) := by decide +kernel
theorem dX9_cold_89 : decode cX9_cold 89 = .ok (.istore 8, 2) := by decide +kernel
theorem dX9_cold_91 : decode cX9_cold 91 = .ok (.iload 8, 2) := by decide +kernel
theorem dX9_cold_93 : decode cX9_cold 93 = .ok (.iconst 1, 1) := by decide +kernel
theorem dX9_cold_94 : decode cX9_cold 94 = .ok (.aload_n 0, 1) := by decide +kernel
theorem dX9_cold_95 : decode cX9_cold 95 = .ok (.getfield 103, 3) := by decide +kernel
theorem dX9_cold_98 : decode cX9_cold 98 = .ok (.ishl, 1) := by decide +kernel
theorem dX9_cold_99 : decode cX9_cold 99 = .ok (.if_icmp .ge 106, 3) := by decide +kernel
theorem dX9_cold_102 : decode cX9_cold 102 = .ok (.lconst 1, 1) := by decide +kernel
theorem dX9_cold_103 : decode cX9_cold 103 = .ok (.lstore 9, 2) := by decide +kernel
theorem dX9_cold_105 : decode cX9_cold 105 = .ok (.iconst 0, 1) := by decide +kernel
theorem dX9_cold_106 : decode cX9_cold 106 = .ok (.istore 11, 2) := by decide +kernel
theorem dX9_cold_108 : decode cX9_cold 108 = .ok (.iload 11, 2) := by decide +kernel
theorem dX9_cold_110 : decode cX9_cold 110 = .ok (.aload_n 0, 1) := by decide +kernel
theorem dX9_cold_111 : decode cX9_cold 111 = .ok (.getfield 103, 3) := by decide +kernel
theorem dX9_cold_114 : decode cX9_cold 114 = .ok (.if_icmp .ge 34, 3) := by decide +kernel
theorem dX9_cold_117 : decode cX9_cold 117 = .ok (.lload 9, 2) := by decide +kernel
theorem dX9_cold_119 : decode cX9_cold 119 = .ok (.iload 8, 2) := by decide +kernel
theorem dX9_cold_121 : decode cX9_cold 121 = .ok (.iload 11, 2) := by decide +kernel
theorem dX9_cold_123 : decode cX9_cold 123 = .ok (.invokestatic 79, 3) := by decide +kernel
theorem dX9_cold_126 : decode cX9_cold 126 = .ok (.ifCond .eq 8, 3) := by decide +kernel
theorem dX9_cold_129 : decode cX9_cold 129 = .ok (.iload_n 1, 1) := by decide +kernel
theorem dX9_cold_130 : decode cX9_cold 130 = .ok (.i2l, 1) := by decide +kernel
theorem dX9_cold_131 : decode cX9_cold 131 = .ok (.goto 8, 3) := by decide +kernel
theorem dX9_cold_134 : decode cX9_cold 134 = .ok (.bipush 10, 2) := by decide +kernel
theorem dX9_cold_136 : decode cX9_cold 136 = .ok (.iload_n 1, 1) := by decide +kernel
theorem dX9_cold_137 : decode cX9_cold 137 = .ok (.isub, 1) := by decide +kernel
theorem dX9_cold_138 : decode cX9_cold 138 = .ok (.i2l, 1) := by decide +kernel
theorem dX9_cold_139 : decode cX9_cold 139 = .ok (.lmul, 1) := by decide +kernel
theorem dX9_cold_140 : decode cX9_cold 140 = .ok (.lstore 9, 2) := by decide +kernel
theorem dX9_cold_142 : decode cX9_cold 142 = .ok (.iinc 11 1, 3) := by decide +kernel
theorem dX9_cold_145 : decode cX9_cold 145 = .ok (.goto (-37), 3) := by decide +kernel
theorem dX9_cold_148 : decode cX9_cold 148 = .ok (.aload_n 0, 1) := by decide +kernel
theorem dX9_cold_149 : decode cX9_cold 149 = .ok (.invokevirtual 160, 3) := by decide +kernel
theorem dX9_cold_152 : decode cX9_cold 152 = .ok (.aload_n 0, 1) := by decide +kernel
theorem dX9_cold_153 : decode cX9_cold 153 = .ok (.iload 8, 2) := by decide +kernel
theorem dX9_cold_155 : decode cX9_cold 155 = .ok (.putfield 122, 3) := by decide +kernel
theorem dX9_cold_158 : decode cX9_cold 158 = .ok (.aload_n 0, 1) := by decide +kernel
theorem dX9_cold_159 : decode cX9_cold 159 = .ok (.aload_n 0, 1) := by decide +kernel
theorem dX9_cold_160 : decode cX9_cold 160 = .ok (.getfield 103, 3) := by decide +kernel
theorem dX9_cold_163 : decode cX9_cold 163 = .ok (.invokevirtual 163, 3) := by decide +kernel
theorem dX9_cold_166 : decode cX9_cold 166 = .ok (.lload 4, 2) := by decide +kernel
theorem dX9_cold_168 : decode cX9_cold 168 = .ok (.iload_n 2, 1) := by decide +kernel
theorem dX9_cold_169 : decode cX9_cold 169 = .ok (.ifCond .ne 19, 3) := by decide +kernel
theorem dX9_cold_172 : decode cX9_cold 172 = .ok (.aload_n 0, 1) := by decide +kernel
theorem dX9_cold_173 : decode cX9_cold 173 = .ok (.getfield 141, 3) := by decide +kernel
theorem dX9_cold_176 : decode cX9_cold 176 = .ok (.ifCond .ne 8, 3) := by decide +kernel
theorem dX9_cold_179 : decode cX9_cold 179 = .ok (.lload 9, 2) := by decide +kernel
theorem dX9_cold_181 : decode cX9_cold 181 = .ok (.goto 15, 3) := by decide +kernel
theorem dX9_cold_184 : decode cX9_cold 184 = .ok (.lconst 0, 1) := by decide +kernel
theorem dX9_cold_185 : decode cX9_cold 185 = .ok (.goto 11, 3) := by decide +kernel
theorem dX9_cold_188 : decode cX9_cold 188 = .ok (.lload 9, 2) := by decide +kernel
theorem dX9_cold_190 : decode cX9_cold 190 = .ok (.aload_n 0, 1) := by decide +kernel
theorem dX9_cold_191 : decode cX9_cold 191 = .ok (.getfield 141, 3) := by decide +kernel
theorem dX9_cold_194 : decode cX9_cold 194 = .ok (.i2l, 1) := by decide +kernel
theorem dX9_cold_195 : decode cX9_cold 195 = .ok (.lmul, 1) := by decide +kernel
theorem dX9_cold_196 : decode cX9_cold 196 = .ok (.ladd, 1) := by decide +kernel
theorem dX9_cold_197 : decode cX9_cold 197 = .ok (.lstore 4, 2) := by decide +kernel
theorem dX9_cold_199 : decode cX9_cold 199 = .ok (.iinc 8 1, 3) := by decide +kernel
theorem dX9_cold_202 : decode cX9_cold 202 = .ok (.goto (-111), 3) := by decide +kernel
theorem dX9_cold_205 : decode cX9_cold 205 = .ok (.lload 4, 2) := by decide +kernel
theorem dX9_cold_207 : decode cX9_cold 207 = .ok (.lstore 8, 2) := by decide +kernel
theorem dX9_cold_209 : decode cX9_cold 209 = .ok (.lload 6, 2) := by decide +kernel
theorem dX9_cold_211 : decode cX9_cold 211 = .ok (.lstore 10, 2) := by decide +kernel
theorem dX9_cold_213 : decode cX9_cold 213 = .ok (.lload 10, 2) := by decide +kernel
theorem dX9_cold_215 : decode cX9_cold 215 = .ok (.lconst 0, 1) := by decide +kernel
theorem dX9_cold_216 : decode cX9_cold 216 = .ok (.lcmp, 1) := by decide +kernel
theorem dX9_cold_217 : decode cX9_cold 217 = .ok (.ifCond .eq 21, 3) := by decide +kernel
theorem dX9_cold_220 : decode cX9_cold 220 = .ok (.lload 8, 2) := by decide +kernel
theorem dX9_cold_222 : decode cX9_cold 222 = .ok (.lload 10, 2) := by decide +kernel
theorem dX9_cold_224 : decode cX9_cold 224 = .ok (.lrem, 1) := by decide +kernel
theorem dX9_cold_225 : decode cX9_cold 225 = .ok (.lstore 12, 2) := by decide +kernel
theorem dX9_cold_227 : decode cX9_cold 227 = .ok (.lload 10, 2) := by decide +kernel
theorem dX9_cold_229 : decode cX9_cold 229 = .ok (.lstore 8, 2) := by decide +kernel
theorem dX9_cold_231 : decode cX9_cold 231 = .ok (.lload 12, 2) := by decide +kernel
theorem dX9_cold_233 : decode cX9_cold 233 = .ok (.lstore 10, 2) := by decide +kernel
theorem dX9_cold_235 : decode cX9_cold 235 = .ok (.goto (-22), 3) := by decide +kernel
theorem dX9_cold_238 : decode cX9_cold 238 = .ok (.iload_n 3, 1) := by decide +kernel
theorem dX9_cold_239 : decode cX9_cold 239 = .ok (.ifCond .ne 11, 3) := by decide +kernel
theorem dX9_cold_242 : decode cX9_cold 242 = .ok (.lload 4, 2) := by decide +kernel
theorem dX9_cold_244 : decode cX9_cold 244 = .ok (.lload 8, 2) := by decide +kernel
theorem dX9_cold_246 : decode cX9_cold 246 = .ok (.ldiv, 1) := by decide +kernel
theorem dX9_cold_247 : decode cX9_cold 247 = .ok (.goto 8, 3) := by decide +kernel
theorem dX9_cold_250 : decode cX9_cold 250 = .ok (.lload 6, 2) := by decide +kernel
theorem dX9_cold_252 : decode cX9_cold 252 = .ok (.lload 8, 2) := by decide +kernel
theorem dX9_cold_254 : decode cX9_cold 254 = .ok (.ldiv, 1) := by decide +kernel
theorem dX9_cold_255 : decode cX9_cold 255 = .ok (.lreturn, 1) := by decide +kernel
theorem dX9_signAt_0 : decode cX9_signAt 0 = .ok (.iload_n 0, 1) := by decide +kernel
theorem dX9_signAt_1 : decode cX9_signAt 1 = .ok (.ifCond .ne 8, 3) := by decide +kernel
theorem dX9_signAt_4 : decode cX9_signAt 4 = .ok (.bipush 119, 2) := by decide +kernel
theorem dX9_signAt_6 : decode cX9_signAt 6 = .ok (.goto 55, 3) := by decide +kernel
theorem dX9_signAt_9 : decode cX9_signAt 9 = .ok (.iload_n 0, 1) := by decide +kernel
theorem dX9_signAt_10 : decode cX9_signAt 10 = .ok (.iconst 1, 1) := by decide +kernel
theorem dX9_signAt_11 : decode cX9_signAt 11 = .ok (.if_icmp .ne 8, 3) := by decide +kernel
theorem dX9_signAt_14 : decode cX9_signAt 14 = .ok (.bipush 104, 2) := by decide +kernel
theorem dX9_signAt_16 : decode cX9_signAt 16 = .ok (.goto 45, 3) := by decide +kernel
theorem dX9_signAt_19 : decode cX9_signAt 19 = .ok (.iload_n 0, 1) := by decide +kernel
theorem dX9_signAt_20 : decode cX9_signAt 20 = .ok (.iconst 2, 1) := by decide +kernel
theorem dX9_signAt_21 : decode cX9_signAt 21 = .ok (.if_icmp .ne 8, 3) := by decide +kernel
theorem dX9_signAt_24 : decode cX9_signAt 24 = .ok (.bipush 111, 2) := by decide +kernel
theorem dX9_signAt_26 : decode cX9_signAt 26 = .ok (.goto 35, 3) := by decide +kernel
theorem dX9_signAt_29 : decode cX9_signAt 29 = .ok (.iload_n 0, 1) := by decide +kernel
theorem dX9_signAt_30 : decode cX9_signAt 30 = .ok (.iconst 3, 1) := by decide +kernel
theorem dX9_signAt_31 : decode cX9_signAt 31 = .ok (.if_icmp .ne 8, 3) := by decide +kernel
theorem dX9_signAt_34 : decode cX9_signAt 34 = .ok (.bipush 110, 2) := by decide +kernel
theorem dX9_signAt_36 : decode cX9_signAt 36 = .ok (.goto 25, 3) := by decide +kernel
theorem dX9_signAt_39 : decode cX9_signAt 39 = .ok (.iload_n 0, 1) := by decide +kernel
theorem dX9_signAt_40 : decode cX9_signAt 40 = .ok (.iconst 4, 1) := by decide +kernel
theorem dX9_signAt_41 : decode cX9_signAt 41 = .ok (.if_icmp .ne 8, 3) := by decide +kernel
theorem dX9_signAt_44 : decode cX9_signAt 44 = .ok (.bipush 99, 2) := by decide +kernel
theorem dX9_signAt_46 : decode cX9_signAt 46 = .ok (.goto 15, 3) := by decide +kernel
theorem dX9_signAt_49 : decode cX9_signAt 49 = .ok (.iload_n 0, 1) := by decide +kernel
theorem dX9_signAt_50 : decode cX9_signAt 50 = .ok (.iconst 5, 1) := by decide +kernel
theorem dX9_signAt_51 : decode cX9_signAt 51 = .ok (.if_icmp .ne 8, 3) := by decide +kernel
theorem dX9_signAt_54 : decode cX9_signAt 54 = .ok (.bipush 115, 2) := by decide +kernel
theorem dX9_signAt_56 : decode cX9_signAt 56 = .ok (.goto 5, 3) := by decide +kernel
theorem dX9_signAt_59 : decode cX9_signAt 59 = .ok (.bipush 126, 2) := by decide +kernel
theorem dX9_signAt_61 : decode cX9_signAt 61 = .ok (.ireturn, 1) := by decide +kernel
theorem dX9_year_0 : decode cX9_year 0 = .ok (.iload_n 1, 1) := by decide +kernel
theorem dX9_year_1 : decode cX9_year 1 = .ok (.iconst 0, 1) := by decide +kernel
theorem dX9_year_2 : decode cX9_year 2 = .ok (.sipush 9999, 3) := by decide +kernel
theorem dX9_year_5 : decode cX9_year 5 = .ok (.invokestatic 75, 3) := by decide +kernel
theorem dX9_year_8 : decode cX9_year 8 = .ok (.ifCond .eq 22, 3) := by decide +kernel
theorem dX9_year_11 : decode cX9_year 11 = .ok (.iload_n 2, 1) := by decide +kernel
theorem dX9_year_12 : decode cX9_year 12 = .ok (.iconst 1, 1) := by decide +kernel
theorem dX9_year_13 : decode cX9_year 13 = .ok (.bipush 50, 2) := by decide +kernel
theorem dX9_year_15 : decode cX9_year 15 = .ok (.invokestatic 75, 3) := by decide +kernel
theorem dX9_year_18 : decode cX9_year 18 = .ok (.ifCond .eq 12, 3) := by decide +kernel
theorem dX9_year_21 : decode cX9_year 21 = .ok (.iload_n 3, 1) := by decide +kernel
theorem dX9_year_22 : decode cX9_year 22 = .ok (.iconst 0, 1) := by decide +kernel
theorem dX9_year_23 : decode cX9_year 23 = .ok (.iconst 2, 1) := by decide +kernel
theorem dX9_year_24 : decode cX9_year 24 = .ok (.invokestatic 75, 3) := by decide +kernel
theorem dX9_year_27 : decode cX9_year 27 = .ok (.ifCond .ne 6, 3) := by decide +kernel
theorem dX9_year_30 : decode cX9_year 30 = .ok (.bipush (-2), 2) := by decide +kernel
theorem dX9_year_32 : decode cX9_year 32 = .ok (.ireturn, 1) := by decide +kernel
theorem dX9_year_33 : decode cX9_year 33 = .ok (.iload_n 1, 1) := by decide +kernel
theorem dX9_year_34 : decode cX9_year 34 = .ok (.istore 4, 2) := by decide +kernel
theorem dX9_year_36 : decode cX9_year 36 = .ok (.iconst 0, 1) := by decide +kernel
theorem dX9_year_37 : decode cX9_year 37 = .ok (.istore 5, 2) := by decide +kernel
theorem dX9_year_39 : decode cX9_year 39 = .ok (.iconst 0, 1) := by decide +kernel
theorem dX9_year_40 : decode cX9_year 40 = .ok (.istore 6, 2) := by decide +kernel
theorem dX9_year_42 : decode cX9_year 42 = .ok (.iconst 0, 1) := by decide +kernel
theorem dX9_year_43 : decode cX9_year 43 = .ok (.istore 7, 2) := by decide +kernel
theorem dX9_year_45 : decode cX9_year 45 = .ok (.iconst 0, 1) := by decide +kernel
theorem dX9_year_46 : decode cX9_year 46 = .ok (.istore 8, 2) := by decide +kernel
theorem dX9_year_48 : decode cX9_year 48 = .ok (.iload 8, 2) := by decide +kernel
theorem dX9_year_50 : decode cX9_year 50 = .ok (.iload_n 2, 1) := by decide +kernel
theorem dX9_year_51 : decode cX9_year 51 = .ok (.if_icmp .ge 104, 3) := by decide +kernel
theorem dX9_year_54 : decode cX9_year 54 = .ok (.aload_n 0, 1) := by decide +kernel
theorem dX9_year_55 : decode cX9_year 55 = .ok (.invokevirtual 160, 3) := by decide +kernel
theorem dX9_year_58 : decode cX9_year 58 = .ok (.aload_n 0, 1) := by decide +kernel
theorem dX9_year_59 : decode cX9_year 59 = .ok (.bipush 6, 2) := by decide +kernel
theorem dX9_year_61 : decode cX9_year 61 = .ok (.putfield 113, 3) := by decide +kernel
theorem dX9_year_64 : decode cX9_year 64 = .ok (.iconst 0, 1) := by decide +kernel
theorem dX9_year_65 : decode cX9_year 65 = .ok (.istore 9, 2) := by decide +kernel
theorem dX9_year_67 : decode cX9_year 67 = .ok (.iload 9, 2) := by decide +kernel
theorem dX9_year_69 : decode cX9_year 69 = .ok (.bipush 6, 2) := by decide +kernel
theorem dX9_year_71 : decode cX9_year 71 = .ok (.if_icmp .ge 37, 3) := by decide +kernel
theorem dX9_year_74 : decode cX9_year 74 = .ok (.bipush 75, 2) := by decide +kernel
theorem dX9_year_76 : decode cX9_year 76 = .ok (.iload 4, 2) := by decide +kernel
theorem dX9_year_78 : decode cX9_year 78 = .ok (.imul, 1) := by decide +kernel
theorem dX9_year_79 : decode cX9_year 79 = .ok (.bipush 74, 2) := by decide +kernel
theorem dX9_year_81 : decode cX9_year 81 = .ok (.iadd, 1) := by decide +kernel
theorem dX9_year_82 : decode cX9_year 82 = .ok (.ldc 208, 2) := by decide +kernel
theorem dX9_year_84 : decode cX9_year 84 = .ok (.irem, 1) := by decide +kernel
theorem dX9_year_85 : decode cX9_year 85 = .ok (.istore 4, 2) := by decide +kernel
theorem dX9_year_87 : decode cX9_year 87 = .ok (.aload_n 0, 1) := by decide +kernel
theorem dX9_year_88 : decode cX9_year 88 = .ok (.getfield 38, 3) := by decide +kernel
theorem dX9_year_91 : decode cX9_year 91 = .ok (.iload 9, 2) := by decide +kernel
theorem dX9_year_93 : decode cX9_year 93 = .ok (.iload 4, 2) := by decide +kernel
theorem dX9_year_95 : decode cX9_year 95 = .ok (.bipush 7, 2) := by decide +kernel
theorem dX9_year_97 : decode cX9_year 97 = .ok (.irem, 1) := by decide +kernel
theorem dX9_year_98 : decode cX9_year 98 = .ok (.invokestatic 209, 3) := by decide +kernel
theorem dX9_year_101 : decode cX9_year 101 = .ok (.iastore, 1) := by decide +kernel
theorem dX9_year_102 : decode cX9_year 102 = .ok (.iinc 9 1, 3) := by decide +kernel
theorem dX9_year_105 : decode cX9_year 105 = .ok (.goto (-38), 3) := by decide +kernel
theorem dX9_year_108 : decode cX9_year 108 = .ok (.aload_n 0, 1) := by decide +kernel
theorem dX9_year_109 : decode cX9_year 109 = .ok (.bipush 6, 2) := by decide +kernel
theorem dX9_year_111 : decode cX9_year 111 = .ok (.invokevirtual 163, 3) := by decide +kernel
theorem dX9_year_114 : decode cX9_year 114 = .ok (.iload 5, 2) := by decide +kernel
theorem dX9_year_116 : decode cX9_year 116 = .ok (.aload_n 0, 1) := by decide +kernel
theorem dX9_year_117 : decode cX9_year 117 = .ok (.getfield 147, 3) := by decide +kernel
theorem dX9_year_120 : decode cX9_year 120 = .ok (.iadd, 1) := by decide +kernel
theorem dX9_year_121 : decode cX9_year 121 = .ok (.istore 5, 2) := by decide +kernel
theorem dX9_year_123 : decode cX9_year 123 = .ok (.iload 6, 2) := by decide +kernel
theorem dX9_year_125 : decode cX9_year 125 = .ok (.aload_n 0, 1) := by decide +kernel
theorem dX9_year_126 : decode cX9_year 126 = .ok (.getfield 150, 3) := by decide +kernel
theorem dX9_year_129 : decode cX9_year 129 = .ok (.iadd, 1) := by decide +kernel
theorem dX9_year_130 : decode cX9_year 130 = .ok (.istore 6, 2) := by decide +kernel
theorem dX9_year_132 : decode cX9_year 132 = .ok (.iload 7, 2) := by decide +kernel
theorem dX9_year_134 : decode cX9_year 134 = .ok (.aload_n 0, 1) := by decide +kernel
theorem dX9_year_135 : decode cX9_year 135 = .ok (.getfield 141, 3) := by decide +kernel
theorem dX9_year_138 : decode cX9_year 138 = .ok (.ifCond .ne 7, 3) := by decide +kernel
theorem dX9_year_141 : decode cX9_year 141 = .ok (.iconst 1, 1) := by decide +kernel
theorem dX9_year_142 : decode cX9_year 142 = .ok (.goto 4, 3) := by decide +kernel
theorem dX9_year_145 : decode cX9_year 145 = .ok (.iconst 0, 1) := by decide +kernel
theorem dX9_year_146 : decode cX9_year 146 = .ok (.iadd, 1) := by decide +kernel
theorem dX9_year_147 : decode cX9_year 147 = .ok (.istore 7, 2) := by decide +kernel
theorem dX9_year_149 : decode cX9_year 149 = .ok (.iinc 8 1, 3) := by decide +kernel
theorem dX9_year_152 : decode cX9_year 152 = .ok (.goto (-104), 3) := by decide +kernel
theorem dX9_year_155 : decode cX9_year 155 = .ok (.iload_n 3, 1) := by decide +kernel
theorem dX9_year_156 : decode cX9_year 156 = .ok (.ifCond .ne 8, 3) := by decide +kernel
theorem dX9_year_159 : decode cX9_year 159 = .ok (.iload 5, 2) := by decide +kernel
theorem dX9_year_161 : decode cX9_year 161 = .ok (.goto 15, 3) := by decide +kernel
theorem dX9_year_164 : decode cX9_year 164 = .ok (.iload_n 3, 1) := by decide +kernel
theorem dX9_year_165 : decode cX9_year 165 = .ok (.iconst 1, 1) := by decide +kernel
theorem dX9_year_166 : decode cX9_year 166 = .ok (.if_icmp .ne 8, 3) := by decide +kernel
theorem dX9_year_169 : decode cX9_year 169 = .ok (.iload 6, 2) := by decide +kernel
theorem dX9_year_171 : decode cX9_year 171 = .ok (.goto 5, 3) := by decide +kernel
theorem dX9_year_174 : decode cX9_year 174 = .ok (.iload 7, 2) := by decide +kernel
theorem dX9_year_176 : decode cX9_year 176 = .ok (.ireturn, 1) := by decide +kernel
theorem dX9_image_0 : decode cX9_image 0 = .ok (.iload_n 1, 1) := by decide +kernel
theorem dX9_image_1 : decode cX9_image 1 = .ok (.iconst 0, 1) := by decide +kernel
theorem dX9_image_2 : decode cX9_image 2 = .ok (.iconst 1, 1) := by decide +kernel
theorem dX9_image_3 : decode cX9_image 3 = .ok (.invokestatic 75, 3) := by decide +kernel
theorem dX9_image_6 : decode cX9_image 6 = .ok (.ifCond .ne 6, 3) := by decide +kernel
theorem dX9_image_9 : decode cX9_image 9 = .ok (.bipush (-2), 2) := by decide +kernel
theorem dX9_image_11 : decode cX9_image 11 = .ok (.ireturn, 1) := by decide +kernel
theorem dX9_image_12 : decode cX9_image 12 = .ok (.bipush 70, 2) := by decide +kernel
theorem dX9_image_14 : decode cX9_image 14 = .ok (.iload_n 1, 1) := by decide +kernel
theorem dX9_image_15 : decode cX9_image 15 = .ok (.imul, 1) := by decide +kernel
theorem dX9_image_16 : decode cX9_image 16 = .ok (.istore_n 2, 1) := by decide +kernel
theorem dX9_image_17 : decode cX9_image 17 = .ok (.iconst 0, 1) := by decide +kernel
theorem dX9_image_18 : decode cX9_image 18 = .ok (.istore_n 3, 1) := by decide +kernel
theorem dX9_image_19 : decode cX9_image 19 = .ok (.iload_n 3, 1) := by decide +kernel
theorem dX9_image_20 : decode cX9_image 20 = .ok (.bipush 8, 2) := by decide +kernel
theorem dX9_image_22 : decode cX9_image 22 = .ok (.if_icmp .ge 74, 3) := by decide +kernel
theorem dX9_image_25 : decode cX9_image 25 = .ok (.aload_n 0, 1) := by decide +kernel
theorem dX9_image_26 : decode cX9_image 26 = .ok (.getfield 65, 3) := by decide +kernel
theorem dX9_image_29 : decode cX9_image 29 = .ok (.iload_n 2, 1) := by decide +kernel
theorem dX9_image_30 : decode cX9_image 30 = .ok (.iload_n 3, 1) := by decide +kernel
theorem dX9_image_31 : decode cX9_image 31 = .ok (.iadd, 1) := by decide +kernel
theorem dX9_image_32 : decode cX9_image 32 = .ok (.aload_n 0, 1) := by decide +kernel
theorem dX9_image_33 : decode cX9_image 33 = .ok (.getfield 13, 3) := by decide +kernel
theorem dX9_image_36 : decode cX9_image 36 = .ok (.iload_n 3, 1) := by decide +kernel
theorem dX9_image_37 : decode cX9_image 37 = .ok (.iaload, 1) := by decide +kernel
theorem dX9_image_38 : decode cX9_image 38 = .ok (.iastore, 1) := by decide +kernel
theorem dX9_image_39 : decode cX9_image 39 = .ok (.aload_n 0, 1) := by decide +kernel
theorem dX9_image_40 : decode cX9_image 40 = .ok (.getfield 65, 3) := by decide +kernel
theorem dX9_image_43 : decode cX9_image 43 = .ok (.iload_n 2, 1) := by decide +kernel
theorem dX9_image_44 : decode cX9_image 44 = .ok (.bipush 8, 2) := by decide +kernel
theorem dX9_image_46 : decode cX9_image 46 = .ok (.iadd, 1) := by decide +kernel
theorem dX9_image_47 : decode cX9_image 47 = .ok (.iload_n 3, 1) := by decide +kernel
theorem dX9_image_48 : decode cX9_image 48 = .ok (.iadd, 1) := by decide +kernel
theorem dX9_image_49 : decode cX9_image 49 = .ok (.aload_n 0, 1) := by decide +kernel
theorem dX9_image_50 : decode cX9_image 50 = .ok (.getfield 17, 3) := by decide +kernel
theorem dX9_image_53 : decode cX9_image 53 = .ok (.iload_n 3, 1) := by decide +kernel
theorem dX9_image_54 : decode cX9_image 54 = .ok (.iaload, 1) := by decide +kernel
theorem dX9_image_55 : decode cX9_image 55 = .ok (.iastore, 1) := by decide +kernel
theorem dX9_image_56 : decode cX9_image 56 = .ok (.aload_n 0, 1) := by decide +kernel
theorem dX9_image_57 : decode cX9_image 57 = .ok (.getfield 65, 3) := by decide +kernel
theorem dX9_image_60 : decode cX9_image 60 = .ok (.iload_n 2, 1) := by decide +kernel
theorem dX9_image_61 : decode cX9_image 61 = .ok (.bipush 16, 2) := by decide +kernel
theorem dX9_image_63 : decode cX9_image 63 = .ok (.iadd, 1) := by decide +kernel
theorem dX9_image_64 : decode cX9_image 64 = .ok (.iload_n 3, 1) := by decide +kernel
theorem dX9_image_65 : decode cX9_image 65 = .ok (.iadd, 1) := by decide +kernel
theorem dX9_image_66 : decode cX9_image 66 = .ok (.aload_n 0, 1) := by decide +kernel
theorem dX9_image_67 : decode cX9_image 67 = .ok (.getfield 20, 3) := by decide +kernel
theorem dX9_image_70 : decode cX9_image 70 = .ok (.iload_n 3, 1) := by decide +kernel
theorem dX9_image_71 : decode cX9_image 71 = .ok (.iaload, 1) := by decide +kernel
theorem dX9_image_72 : decode cX9_image 72 = .ok (.iastore, 1) := by decide +kernel
theorem dX9_image_73 : decode cX9_image 73 = .ok (.aload_n 0, 1) := by decide +kernel
theorem dX9_image_74 : decode cX9_image 74 = .ok (.getfield 65, 3) := by decide +kernel
theorem dX9_image_77 : decode cX9_image 77 = .ok (.iload_n 2, 1) := by decide +kernel
theorem dX9_image_78 : decode cX9_image 78 = .ok (.bipush 24, 2) := by decide +kernel
theorem dX9_image_80 : decode cX9_image 80 = .ok (.iadd, 1) := by decide +kernel
theorem dX9_image_81 : decode cX9_image 81 = .ok (.iload_n 3, 1) := by decide +kernel
theorem dX9_image_82 : decode cX9_image 82 = .ok (.iadd, 1) := by decide +kernel
theorem dX9_image_83 : decode cX9_image 83 = .ok (.aload_n 0, 1) := by decide +kernel
theorem dX9_image_84 : decode cX9_image 84 = .ok (.getfield 23, 3) := by decide +kernel
theorem dX9_image_87 : decode cX9_image 87 = .ok (.iload_n 3, 1) := by decide +kernel
theorem dX9_image_88 : decode cX9_image 88 = .ok (.iaload, 1) := by decide +kernel
theorem dX9_image_89 : decode cX9_image 89 = .ok (.iastore, 1) := by decide +kernel
theorem dX9_image_90 : decode cX9_image 90 = .ok (.iinc 3 1, 3) := by decide +kernel
theorem dX9_image_93 : decode cX9_image 93 = .ok (.goto (-74), 3) := by decide +kernel
theorem dX9_image_96 : decode cX9_image 96 = .ok (.iconst 0, 1) := by decide +kernel
theorem dX9_image_97 : decode cX9_image 97 = .ok (.istore_n 3, 1) := by decide +kernel
theorem dX9_image_98 : decode cX9_image 98 = .ok (.iload_n 3, 1) := by decide +kernel
theorem dX9_image_99 : decode cX9_image 99 = .ok (.bipush 16, 2) := by decide +kernel
theorem dX9_image_101 : decode cX9_image 101 = .ok (.if_icmp .ge 26, 3) := by decide +kernel
theorem dX9_image_104 : decode cX9_image 104 = .ok (.aload_n 0, 1) := by decide +kernel
end
section
theorem dX9_image_105 : decode cX9_image 105 = .ok (.getfield 65, 3) := by decide +kernel
theorem dX9_image_108 : decode cX9_image 108 = .ok (.iload_n 2, 1) := by decide +kernel
theorem dX9_image_109 : decode cX9_image 109 = .ok (.bipush 32, 2) := by decide +kernel
theorem dX9_image_111 : decode cX9_image 111 = .ok (.iadd, 1) := by decide +kernel
theorem dX9_image_112 : decode cX9_image 112 = .ok (.iload_n 3, 1) := by decide +kernel
theorem dX9_image_113 : decode cX9_image 113 = .ok (.iadd, 1) := by decide +kernel
theorem dX9_image_114 : decode cX9_image 114 = .ok (.aload_n 0, 1) := by decide +kernel
theorem dX9_image_115 : decode cX9_image 115 = .ok (.getfield 32, 3) := by decide +kernel
theorem dX9_image_118 : decode cX9_image 118 = .ok (.iload_n 3, 1) := by decide +kernel
theorem dX9_image_119 : decode cX9_image 119 = .ok (.iaload, 1) := by decide +kernel
theorem dX9_image_120 : decode cX9_image 120 = .ok (.iastore, 1) := by decide +kernel
theorem dX9_image_121 : decode cX9_image 121 = .ok (.iinc 3 1, 3) := by decide +kernel
theorem dX9_image_124 : decode cX9_image 124 = .ok (.goto (-26), 3) := by decide +kernel
theorem dX9_image_127 : decode cX9_image 127 = .ok (.aload_n 0, 1) := by decide +kernel
theorem dX9_image_128 : decode cX9_image 128 = .ok (.getfield 65, 3) := by decide +kernel
theorem dX9_image_131 : decode cX9_image 131 = .ok (.iload_n 2, 1) := by decide +kernel
theorem dX9_image_132 : decode cX9_image 132 = .ok (.bipush 50, 2) := by decide +kernel
theorem dX9_image_134 : decode cX9_image 134 = .ok (.iadd, 1) := by decide +kernel
theorem dX9_image_135 : decode cX9_image 135 = .ok (.aload_n 0, 1) := by decide +kernel
theorem dX9_image_136 : decode cX9_image 136 = .ok (.getfield 7, 3) := by decide +kernel
theorem dX9_image_139 : decode cX9_image 139 = .ok (.iastore, 1) := by decide +kernel
theorem dX9_image_140 : decode cX9_image 140 = .ok (.aload_n 0, 1) := by decide +kernel
theorem dX9_image_141 : decode cX9_image 141 = .ok (.getfield 65, 3) := by decide +kernel
theorem dX9_image_144 : decode cX9_image 144 = .ok (.iload_n 2, 1) := by decide +kernel
theorem dX9_image_145 : decode cX9_image 145 = .ok (.bipush 51, 2) := by decide +kernel
theorem dX9_image_147 : decode cX9_image 147 = .ok (.iadd, 1) := by decide +kernel
theorem dX9_image_148 : decode cX9_image 148 = .ok (.aload_n 0, 1) := by decide +kernel
theorem dX9_image_149 : decode cX9_image 149 = .ok (.getfield 72, 3) := by decide +kernel
theorem dX9_image_152 : decode cX9_image 152 = .ok (.iastore, 1) := by decide +kernel
theorem dX9_image_153 : decode cX9_image 153 = .ok (.aload_n 0, 1) := by decide +kernel
theorem dX9_image_154 : decode cX9_image 154 = .ok (.getfield 65, 3) := by decide +kernel
theorem dX9_image_157 : decode cX9_image 157 = .ok (.iload_n 2, 1) := by decide +kernel
theorem dX9_image_158 : decode cX9_image 158 = .ok (.bipush 52, 2) := by decide +kernel
theorem dX9_image_160 : decode cX9_image 160 = .ok (.iadd, 1) := by decide +kernel
theorem dX9_image_161 : decode cX9_image 161 = .ok (.aload_n 0, 1) := by decide +kernel
theorem dX9_image_162 : decode cX9_image 162 = .ok (.getfield 83, 3) := by decide +kernel
theorem dX9_image_165 : decode cX9_image 165 = .ok (.iastore, 1) := by decide +kernel
theorem dX9_image_166 : decode cX9_image 166 = .ok (.aload_n 0, 1) := by decide +kernel
theorem dX9_image_167 : decode cX9_image 167 = .ok (.getfield 65, 3) := by decide +kernel
theorem dX9_image_170 : decode cX9_image 170 = .ok (.iload_n 2, 1) := by decide +kernel
theorem dX9_image_171 : decode cX9_image 171 = .ok (.bipush 53, 2) := by decide +kernel
theorem dX9_image_173 : decode cX9_image 173 = .ok (.iadd, 1) := by decide +kernel
theorem dX9_image_174 : decode cX9_image 174 = .ok (.aload_n 0, 1) := by decide +kernel
theorem dX9_image_175 : decode cX9_image 175 = .ok (.getfield 26, 3) := by decide +kernel
theorem dX9_image_178 : decode cX9_image 178 = .ok (.iastore, 1) := by decide +kernel
theorem dX9_image_179 : decode cX9_image 179 = .ok (.aload_n 0, 1) := by decide +kernel
theorem dX9_image_180 : decode cX9_image 180 = .ok (.getfield 65, 3) := by decide +kernel
theorem dX9_image_183 : decode cX9_image 183 = .ok (.iload_n 2, 1) := by decide +kernel
theorem dX9_image_184 : decode cX9_image 184 = .ok (.bipush 54, 2) := by decide +kernel
theorem dX9_image_186 : decode cX9_image 186 = .ok (.iadd, 1) := by decide +kernel
theorem dX9_image_187 : decode cX9_image 187 = .ok (.aload_n 0, 1) := by decide +kernel
theorem dX9_image_188 : decode cX9_image 188 = .ok (.getfield 29, 3) := by decide +kernel
theorem dX9_image_191 : decode cX9_image 191 = .ok (.iastore, 1) := by decide +kernel
theorem dX9_image_192 : decode cX9_image 192 = .ok (.aload_n 0, 1) := by decide +kernel
theorem dX9_image_193 : decode cX9_image 193 = .ok (.getfield 65, 3) := by decide +kernel
theorem dX9_image_196 : decode cX9_image 196 = .ok (.iload_n 2, 1) := by decide +kernel
theorem dX9_image_197 : decode cX9_image 197 = .ok (.bipush 55, 2) := by decide +kernel
theorem dX9_image_199 : decode cX9_image 199 = .ok (.iadd, 1) := by decide +kernel
theorem dX9_image_200 : decode cX9_image 200 = .ok (.aload_n 0, 1) := by decide +kernel
theorem dX9_image_201 : decode cX9_image 201 = .ok (.getfield 89, 3) := by decide +kernel
theorem dX9_image_204 : decode cX9_image 204 = .ok (.iastore, 1) := by decide +kernel
theorem dX9_image_205 : decode cX9_image 205 = .ok (.aload_n 0, 1) := by decide +kernel
theorem dX9_image_206 : decode cX9_image 206 = .ok (.getfield 65, 3) := by decide +kernel
theorem dX9_image_209 : decode cX9_image 209 = .ok (.iload_n 2, 1) := by decide +kernel
theorem dX9_image_210 : decode cX9_image 210 = .ok (.bipush 56, 2) := by decide +kernel
theorem dX9_image_212 : decode cX9_image 212 = .ok (.iadd, 1) := by decide +kernel
theorem dX9_image_213 : decode cX9_image 213 = .ok (.aload_n 0, 1) := by decide +kernel
theorem dX9_image_214 : decode cX9_image 214 = .ok (.getfield 86, 3) := by decide +kernel
theorem dX9_image_217 : decode cX9_image 217 = .ok (.iastore, 1) := by decide +kernel
theorem dX9_image_218 : decode cX9_image 218 = .ok (.aload_n 0, 1) := by decide +kernel
theorem dX9_image_219 : decode cX9_image 219 = .ok (.getfield 68, 3) := by decide +kernel
theorem dX9_image_222 : decode cX9_image 222 = .ok (.iload_n 1, 1) := by decide +kernel
theorem dX9_image_223 : decode cX9_image 223 = .ok (.iconst 1, 1) := by decide +kernel
theorem dX9_image_224 : decode cX9_image 224 = .ok (.bastore, 1) := by decide +kernel
theorem dX9_image_225 : decode cX9_image 225 = .ok (.iconst 1, 1) := by decide +kernel
theorem dX9_image_226 : decode cX9_image 226 = .ok (.ireturn, 1) := by decide +kernel
theorem dX9_restore_0 : decode cX9_restore 0 = .ok (.iload_n 1, 1) := by decide +kernel
theorem dX9_restore_1 : decode cX9_restore 1 = .ok (.iconst 0, 1) := by decide +kernel
theorem dX9_restore_2 : decode cX9_restore 2 = .ok (.iconst 1, 1) := by decide +kernel
theorem dX9_restore_3 : decode cX9_restore 3 = .ok (.invokestatic 75, 3) := by decide +kernel
theorem dX9_restore_6 : decode cX9_restore 6 = .ok (.ifCond .ne 6, 3) := by decide +kernel
theorem dX9_restore_9 : decode cX9_restore 9 = .ok (.bipush (-2), 2) := by decide +kernel
theorem dX9_restore_11 : decode cX9_restore 11 = .ok (.ireturn, 1) := by decide +kernel
theorem dX9_restore_12 : decode cX9_restore 12 = .ok (.aload_n 0, 1) := by decide +kernel
theorem dX9_restore_13 : decode cX9_restore 13 = .ok (.getfield 68, 3) := by decide +kernel
theorem dX9_restore_16 : decode cX9_restore 16 = .ok (.iload_n 1, 1) := by decide +kernel
theorem dX9_restore_17 : decode cX9_restore 17 = .ok (.baload, 1) := by decide +kernel
theorem dX9_restore_18 : decode cX9_restore 18 = .ok (.ifCond .ne 6, 3) := by decide +kernel
theorem dX9_restore_21 : decode cX9_restore 21 = .ok (.bipush (-3), 2) := by decide +kernel
theorem dX9_restore_23 : decode cX9_restore 23 = .ok (.ireturn, 1) := by decide +kernel
theorem dX9_restore_24 : decode cX9_restore 24 = .ok (.bipush 70, 2) := by decide +kernel
theorem dX9_restore_26 : decode cX9_restore 26 = .ok (.iload_n 1, 1) := by decide +kernel
theorem dX9_restore_27 : decode cX9_restore 27 = .ok (.imul, 1) := by decide +kernel
theorem dX9_restore_28 : decode cX9_restore 28 = .ok (.istore_n 2, 1) := by decide +kernel
theorem dX9_restore_29 : decode cX9_restore 29 = .ok (.iconst 0, 1) := by decide +kernel
theorem dX9_restore_30 : decode cX9_restore 30 = .ok (.istore_n 3, 1) := by decide +kernel
theorem dX9_restore_31 : decode cX9_restore 31 = .ok (.iload_n 3, 1) := by decide +kernel
theorem dX9_restore_32 : decode cX9_restore 32 = .ok (.bipush 8, 2) := by decide +kernel
theorem dX9_restore_34 : decode cX9_restore 34 = .ok (.if_icmp .ge 74, 3) := by decide +kernel
theorem dX9_restore_37 : decode cX9_restore 37 = .ok (.aload_n 0, 1) := by decide +kernel
theorem dX9_restore_38 : decode cX9_restore 38 = .ok (.getfield 13, 3) := by decide +kernel
theorem dX9_restore_41 : decode cX9_restore 41 = .ok (.iload_n 3, 1) := by decide +kernel
theorem dX9_restore_42 : decode cX9_restore 42 = .ok (.aload_n 0, 1) := by decide +kernel
theorem dX9_restore_43 : decode cX9_restore 43 = .ok (.getfield 65, 3) := by decide +kernel
theorem dX9_restore_46 : decode cX9_restore 46 = .ok (.iload_n 2, 1) := by decide +kernel
theorem dX9_restore_47 : decode cX9_restore 47 = .ok (.iload_n 3, 1) := by decide +kernel
theorem dX9_restore_48 : decode cX9_restore 48 = .ok (.iadd, 1) := by decide +kernel
theorem dX9_restore_49 : decode cX9_restore 49 = .ok (.iaload, 1) := by decide +kernel
theorem dX9_restore_50 : decode cX9_restore 50 = .ok (.iastore, 1) := by decide +kernel
theorem dX9_restore_51 : decode cX9_restore 51 = .ok (.aload_n 0, 1) := by decide +kernel
theorem dX9_restore_52 : decode cX9_restore 52 = .ok (.getfield 17, 3) := by decide +kernel
theorem dX9_restore_55 : decode cX9_restore 55 = .ok (.iload_n 3, 1) := by decide +kernel
theorem dX9_restore_56 : decode cX9_restore 56 = .ok (.aload_n 0, 1) := by decide +kernel
theorem dX9_restore_57 : decode cX9_restore 57 = .ok (.getfield 65, 3) := by decide +kernel
theorem dX9_restore_60 : decode cX9_restore 60 = .ok (.iload_n 2, 1) := by decide +kernel
theorem dX9_restore_61 : decode cX9_restore 61 = .ok (.bipush 8, 2) := by decide +kernel
theorem dX9_restore_63 : decode cX9_restore 63 = .ok (.iadd, 1) := by decide +kernel
theorem dX9_restore_64 : decode cX9_restore 64 = .ok (.iload_n 3, 1) := by decide +kernel
theorem dX9_restore_65 : decode cX9_restore 65 = .ok (.iadd, 1) := by decide +kernel
theorem dX9_restore_66 : decode cX9_restore 66 = .ok (.iaload, 1) := by decide +kernel
theorem dX9_restore_67 : decode cX9_restore 67 = .ok (.iastore, 1) := by decide +kernel
theorem dX9_restore_68 : decode cX9_restore 68 = .ok (.aload_n 0, 1) := by decide +kernel
theorem dX9_restore_69 : decode cX9_restore 69 = .ok (.getfield 20, 3) := by decide +kernel
theorem dX9_restore_72 : decode cX9_restore 72 = .ok (.iload_n 3, 1) := by decide +kernel
theorem dX9_restore_73 : decode cX9_restore 73 = .ok (.aload_n 0, 1) := by decide +kernel
theorem dX9_restore_74 : decode cX9_restore 74 = .ok (.getfield 65, 3) := by decide +kernel
theorem dX9_restore_77 : decode cX9_restore 77 = .ok (.iload_n 2, 1) := by decide +kernel
theorem dX9_restore_78 : decode cX9_restore 78 = .ok (.bipush 16, 2) := by decide +kernel
theorem dX9_restore_80 : decode cX9_restore 80 = .ok (.iadd, 1) := by decide +kernel
theorem dX9_restore_81 : decode cX9_restore 81 = .ok (.iload_n 3, 1) := by decide +kernel
theorem dX9_restore_82 : decode cX9_restore 82 = .ok (.iadd, 1) := by decide +kernel
theorem dX9_restore_83 : decode cX9_restore 83 = .ok (.iaload, 1) := by decide +kernel
theorem dX9_restore_84 : decode cX9_restore 84 = .ok (.iastore, 1) := by decide +kernel
theorem dX9_restore_85 : decode cX9_restore 85 = .ok (.aload_n 0, 1) := by decide +kernel
theorem dX9_restore_86 : decode cX9_restore 86 = .ok (.getfield 23, 3) := by decide +kernel
theorem dX9_restore_89 : decode cX9_restore 89 = .ok (.iload_n 3, 1) := by decide +kernel
theorem dX9_restore_90 : decode cX9_restore 90 = .ok (.aload_n 0, 1) := by decide +kernel
theorem dX9_restore_91 : decode cX9_restore 91 = .ok (.getfield 65, 3) := by decide +kernel
theorem dX9_restore_94 : decode cX9_restore 94 = .ok (.iload_n 2, 1) := by decide +kernel
theorem dX9_restore_95 : decode cX9_restore 95 = .ok (.bipush 24, 2) := by decide +kernel
theorem dX9_restore_97 : decode cX9_restore 97 = .ok (.iadd, 1) := by decide +kernel
theorem dX9_restore_98 : decode cX9_restore 98 = .ok (.iload_n 3, 1) := by decide +kernel
theorem dX9_restore_99 : decode cX9_restore 99 = .ok (.iadd, 1) := by decide +kernel
theorem dX9_restore_100 : decode cX9_restore 100 = .ok (.iaload, 1) := by decide +kernel
theorem dX9_restore_101 : decode cX9_restore 101 = .ok (.iastore, 1) := by decide +kernel
theorem dX9_restore_102 : decode cX9_restore 102 = .ok (.iinc 3 1, 3) := by decide +kernel
theorem dX9_restore_105 : decode cX9_restore 105 = .ok (.goto (-74), 3) := by decide +kernel
theorem dX9_restore_108 : decode cX9_restore 108 = .ok (.iconst 0, 1) := by decide +kernel
theorem dX9_restore_109 : decode cX9_restore 109 = .ok (.istore_n 3, 1) := by decide +kernel
theorem dX9_restore_110 : decode cX9_restore 110 = .ok (.iload_n 3, 1) := by decide +kernel
theorem dX9_restore_111 : decode cX9_restore 111 = .ok (.bipush 16, 2) := by decide +kernel
theorem dX9_restore_113 : decode cX9_restore 113 = .ok (.if_icmp .ge 26, 3) := by decide +kernel
theorem dX9_restore_116 : decode cX9_restore 116 = .ok (.aload_n 0, 1) := by decide +kernel
theorem dX9_restore_117 : decode cX9_restore 117 = .ok (.getfield 32, 3) := by decide +kernel
theorem dX9_restore_120 : decode cX9_restore 120 = .ok (.iload_n 3, 1) := by decide +kernel
theorem dX9_restore_121 : decode cX9_restore 121 = .ok (.aload_n 0, 1) := by decide +kernel
theorem dX9_restore_122 : decode cX9_restore 122 = .ok (.getfield 65, 3) := by decide +kernel
theorem dX9_restore_125 : decode cX9_restore 125 = .ok (.iload_n 2, 1) := by decide +kernel
theorem dX9_restore_126 : decode cX9_restore 126 = .ok (.bipush 32, 2) := by decide +kernel
theorem dX9_restore_128 : decode cX9_restore 128 = .ok (.iadd, 1) := by decide +kernel
theorem dX9_restore_129 : decode cX9_restore 129 = .ok (.iload_n 3, 1) := by decide +kernel
theorem dX9_restore_130 : decode cX9_restore 130 = .ok (.iadd, 1) := by decide +kernel
theorem dX9_restore_131 : decode cX9_restore 131 = .ok (.iaload, 1) := by decide +kernel
theorem dX9_restore_132 : decode cX9_restore 132 = .ok (.iastore, 1) := by decide +kernel
theorem dX9_restore_133 : decode cX9_restore 133 = .ok (.iinc 3 1, 3) := by decide +kernel
theorem dX9_restore_136 : decode cX9_restore 136 = .ok (.goto (-26), 3) := by decide +kernel
theorem dX9_restore_139 : decode cX9_restore 139 = .ok (.aload_n 0, 1) := by decide +kernel
theorem dX9_restore_140 : decode cX9_restore 140 = .ok (.aload_n 0, 1) := by decide +kernel
theorem dX9_restore_141 : decode cX9_restore 141 = .ok (.getfield 65, 3) := by decide +kernel
theorem dX9_restore_144 : decode cX9_restore 144 = .ok (.iload_n 2, 1) := by decide +kernel
theorem dX9_restore_145 : decode cX9_restore 145 = .ok (.bipush 50, 2) := by decide +kernel
theorem dX9_restore_147 : decode cX9_restore 147 = .ok (.iadd, 1) := by decide +kernel
theorem dX9_restore_148 : decode cX9_restore 148 = .ok (.iaload, 1) := by decide +kernel
theorem dX9_restore_149 : decode cX9_restore 149 = .ok (.putfield 7, 3) := by decide +kernel
theorem dX9_restore_152 : decode cX9_restore 152 = .ok (.aload_n 0, 1) := by decide +kernel
theorem dX9_restore_153 : decode cX9_restore 153 = .ok (.aload_n 0, 1) := by decide +kernel
theorem dX9_restore_154 : decode cX9_restore 154 = .ok (.getfield 65, 3) := by decide +kernel
theorem dX9_restore_157 : decode cX9_restore 157 = .ok (.iload_n 2, 1) := by decide +kernel
theorem dX9_restore_158 : decode cX9_restore 158 = .ok (.bipush 51, 2) := by decide +kernel
theorem dX9_restore_160 : decode cX9_restore 160 = .ok (.iadd, 1) := by decide +kernel
theorem dX9_restore_161 : decode cX9_restore 161 = .ok (.iaload, 1) := by decide +kernel
theorem dX9_restore_162 : decode cX9_restore 162 = .ok (.putfield 72, 3) := by decide +kernel
theorem dX9_restore_165 : decode cX9_restore 165 = .ok (.aload_n 0, 1) := by decide +kernel
theorem dX9_restore_166 : decode cX9_restore 166 = .ok (.aload_n 0, 1) := by decide +kernel
theorem dX9_restore_167 : decode cX9_restore 167 = .ok (.getfield 65, 3) := by decide +kernel
theorem dX9_restore_170 : decode cX9_restore 170 = .ok (.iload_n 2, 1) := by decide +kernel
theorem dX9_restore_171 : decode cX9_restore 171 = .ok (.bipush 52, 2) := by decide +kernel
theorem dX9_restore_173 : decode cX9_restore 173 = .ok (.iadd, 1) := by decide +kernel
theorem dX9_restore_174 : decode cX9_restore 174 = .ok (.iaload, 1) := by decide +kernel
theorem dX9_restore_175 : decode cX9_restore 175 = .ok (.putfield 83, 3) := by decide +kernel
theorem dX9_restore_178 : decode cX9_restore 178 = .ok (.aload_n 0, 1) := by decide +kernel
theorem dX9_restore_179 : decode cX9_restore 179 = .ok (.aload_n 0, 1) := by decide +kernel
theorem dX9_restore_180 : decode cX9_restore 180 = .ok (.getfield 65, 3) := by decide +kernel
theorem dX9_restore_183 : decode cX9_restore 183 = .ok (.iload_n 2, 1) := by decide +kernel
theorem dX9_restore_184 : decode cX9_restore 184 = .ok (.bipush 53, 2) := by decide +kernel
theorem dX9_restore_186 : decode cX9_restore 186 = .ok (.iadd, 1) := by decide +kernel
theorem dX9_restore_187 : decode cX9_restore 187 = .ok (.iaload, 1) := by decide +kernel
theorem dX9_restore_188 : decode cX9_restore 188 = .ok (.putfield 26, 3) := by decide +kernel
theorem dX9_restore_191 : decode cX9_restore 191 = .ok (.aload_n 0, 1) := by decide +kernel
theorem dX9_restore_192 : decode cX9_restore 192 = .ok (.aload_n 0, 1) := by decide +kernel
theorem dX9_restore_193 : decode cX9_restore 193 = .ok (.getfield 65, 3) := by decide +kernel
theorem dX9_restore_196 : decode cX9_restore 196 = .ok (.iload_n 2, 1) := by decide +kernel
theorem dX9_restore_197 : decode cX9_restore 197 = .ok (.bipush 54, 2) := by decide +kernel
theorem dX9_restore_199 : decode cX9_restore 199 = .ok (.iadd, 1) := by decide +kernel
theorem dX9_restore_200 : decode cX9_restore 200 = .ok (.iaload, 1) := by decide +kernel
theorem dX9_restore_201 : decode cX9_restore 201 = .ok (.putfield 29, 3) := by decide +kernel
theorem dX9_restore_204 : decode cX9_restore 204 = .ok (.aload_n 0, 1) := by decide +kernel
theorem dX9_restore_205 : decode cX9_restore 205 = .ok (.aload_n 0, 1) := by decide +kernel
theorem dX9_restore_206 : decode cX9_restore 206 = .ok (.getfield 65, 3) := by decide +kernel
theorem dX9_restore_209 : decode cX9_restore 209 = .ok (.iload_n 2, 1) := by decide +kernel
theorem dX9_restore_210 : decode cX9_restore 210 = .ok (.bipush 55, 2) := by decide +kernel
theorem dX9_restore_212 : decode cX9_restore 212 = .ok (.iadd, 1) := by decide +kernel
theorem dX9_restore_213 : decode cX9_restore 213 = .ok (.iaload, 1) := by decide +kernel
theorem dX9_restore_214 : decode cX9_restore 214 = .ok (.putfield 89, 3) := by decide +kernel
theorem dX9_restore_217 : decode cX9_restore 217 = .ok (.aload_n 0, 1) := by decide +kernel
theorem dX9_restore_218 : decode cX9_restore 218 = .ok (.aload_n 0, 1) := by decide +kernel
theorem dX9_restore_219 : decode cX9_restore 219 = .ok (.getfield 65, 3) := by decide +kernel
theorem dX9_restore_222 : decode cX9_restore 222 = .ok (.iload_n 2, 1) := by decide +kernel
theorem dX9_restore_223 : decode cX9_restore 223 = .ok (.bipush 56, 2) := by decide +kernel
theorem dX9_restore_225 : decode cX9_restore 225 = .ok (.iadd, 1) := by decide +kernel
theorem dX9_restore_226 : decode cX9_restore 226 = .ok (.iaload, 1) := by decide +kernel
theorem dX9_restore_227 : decode cX9_restore 227 = .ok (.putfield 86, 3) := by decide +kernel
theorem dX9_restore_230 : decode cX9_restore 230 = .ok (.iconst 1, 1) := by decide +kernel
theorem dX9_restore_231 : decode cX9_restore 231 = .ok (.ireturn, 1) := by decide +kernel
theorem dX9_told_0 : decode cX9_told 0 = .ok (.iload_n 1, 1) := by decide +kernel
theorem dX9_told_1 : decode cX9_told 1 = .ok (.bipush 10, 2) := by decide +kernel
theorem dX9_told_3 : decode cX9_told 3 = .ok (.if_icmp .lt 107, 3) := by decide +kernel
theorem dX9_told_6 : decode cX9_told 6 = .ok (.iload_n 1, 1) := by decide +kernel
theorem dX9_told_7 : decode cX9_told 7 = .ok (.bipush 10, 2) := by decide +kernel
theorem dX9_told_9 : decode cX9_told 9 = .ok (.idiv, 1) := by decide +kernel
theorem dX9_told_10 : decode cX9_told 10 = .ok (.iconst 1, 1) := by decide +kernel
theorem dX9_told_11 : decode cX9_told 11 = .ok (.isub, 1) := by decide +kernel
theorem dX9_told_12 : decode cX9_told 12 = .ok (.istore_n 2, 1) := by decide +kernel
theorem dX9_told_13 : decode cX9_told 13 = .ok (.aload_n 0, 1) := by decide +kernel
theorem dX9_told_14 : decode cX9_told 14 = .ok (.iload_n 2, 1) := by decide +kernel
theorem dX9_told_15 : decode cX9_told 15 = .ok (.invokevirtual 99, 3) := by decide +kernel
theorem dX9_told_18 : decode cX9_told 18 = .ok (.ifCond .ne 6, 3) := by decide +kernel
theorem dX9_told_21 : decode cX9_told 21 = .ok (.bipush (-2), 2) := by decide +kernel
theorem dX9_told_23 : decode cX9_told 23 = .ok (.ireturn, 1) := by decide +kernel
theorem dX9_told_24 : decode cX9_told 24 = .ok (.iload_n 1, 1) := by decide +kernel
theorem dX9_told_25 : decode cX9_told 25 = .ok (.bipush 10, 2) := by decide +kernel
theorem dX9_told_27 : decode cX9_told 27 = .ok (.irem, 1) := by decide +kernel
theorem dX9_told_28 : decode cX9_told 28 = .ok (.tableswitch 60 0 3 #[32, 39, 46, 53], 32) := by decide +kernel
theorem dX9_told_60 : decode cX9_told 60 = .ok (.aload_n 0, 1) := by decide +kernel
theorem dX9_told_61 : decode cX9_told 61 = .ok (.getfield 13, 3) := by decide +kernel
theorem dX9_told_64 : decode cX9_told 64 = .ok (.iload_n 2, 1) := by decide +kernel
theorem dX9_told_65 : decode cX9_told 65 = .ok (.iaload, 1) := by decide +kernel
theorem dX9_told_66 : decode cX9_told 66 = .ok (.ireturn, 1) := by decide +kernel
theorem dX9_told_67 : decode cX9_told 67 = .ok (.aload_n 0, 1) := by decide +kernel
theorem dX9_told_68 : decode cX9_told 68 = .ok (.getfield 17, 3) := by decide +kernel
theorem dX9_told_71 : decode cX9_told 71 = .ok (.iload_n 2, 1) := by decide +kernel
theorem dX9_told_72 : decode cX9_told 72 = .ok (.iaload, 1) := by decide +kernel
theorem dX9_told_73 : decode cX9_told 73 = .ok (.ireturn, 1) := by decide +kernel
theorem dX9_told_74 : decode cX9_told 74 = .ok (.aload_n 0, 1) := by decide +kernel
theorem dX9_told_75 : decode cX9_told 75 = .ok (.getfield 20, 3) := by decide +kernel
theorem dX9_told_78 : decode cX9_told 78 = .ok (.iload_n 2, 1) := by decide +kernel
theorem dX9_told_79 : decode cX9_told 79 = .ok (.iaload, 1) := by decide +kernel
theorem dX9_told_80 : decode cX9_told 80 = .ok (.ireturn, 1) := by decide +kernel
theorem dX9_told_81 : decode cX9_told 81 = .ok (.aload_n 0, 1) := by decide +kernel
theorem dX9_told_82 : decode cX9_told 82 = .ok (.getfield 23, 3) := by decide +kernel
theorem dX9_told_85 : decode cX9_told 85 = .ok (.iload_n 2, 1) := by decide +kernel
theorem dX9_told_86 : decode cX9_told 86 = .ok (.iaload, 1) := by decide +kernel
theorem dX9_told_87 : decode cX9_told 87 = .ok (.ireturn, 1) := by decide +kernel
theorem dX9_told_88 : decode cX9_told 88 = .ok (.iload_n 1, 1) := by decide +kernel
theorem dX9_told_89 : decode cX9_told 89 = .ok (.bipush 10, 2) := by decide +kernel
theorem dX9_told_91 : decode cX9_told 91 = .ok (.irem, 1) := by decide +kernel
theorem dX9_told_92 : decode cX9_told 92 = .ok (.iconst 4, 1) := by decide +kernel
theorem dX9_told_93 : decode cX9_told 93 = .ok (.if_icmp .ne 14, 3) := by decide +kernel
theorem dX9_told_96 : decode cX9_told 96 = .ok (.aload_n 0, 1) := by decide +kernel
theorem dX9_told_97 : decode cX9_told 97 = .ok (.getfield 83, 3) := by decide +kernel
theorem dX9_told_100 : decode cX9_told 100 = .ok (.iload_n 2, 1) := by decide +kernel
theorem dX9_told_101 : decode cX9_told 101 = .ok (.ishr, 1) := by decide +kernel
theorem dX9_told_102 : decode cX9_told 102 = .ok (.iconst 1, 1) := by decide +kernel
theorem dX9_told_103 : decode cX9_told 103 = .ok (.iand, 1) := by decide +kernel
theorem dX9_told_104 : decode cX9_told 104 = .ok (.goto 5, 3) := by decide +kernel
theorem dX9_told_107 : decode cX9_told 107 = .ok (.bipush (-2), 2) := by decide +kernel
theorem dX9_told_109 : decode cX9_told 109 = .ok (.ireturn, 1) := by decide +kernel
theorem dX9_told_110 : decode cX9_told 110 = .ok (.iload_n 1, 1) := by decide +kernel
theorem dX9_told_111 : decode cX9_told 111 = .ok (.tableswitch 67 0 5 #[37, 42, 47, 52, 57, 62], 37) := by decide +kernel
theorem dX9_told_148 : decode cX9_told 148 = .ok (.aload_n 0, 1) := by decide +kernel
theorem dX9_told_149 : decode cX9_told 149 = .ok (.getfield 103, 3) := by decide +kernel
theorem dX9_told_152 : decode cX9_told 152 = .ok (.ireturn, 1) := by decide +kernel
theorem dX9_told_153 : decode cX9_told 153 = .ok (.aload_n 0, 1) := by decide +kernel
theorem dX9_told_154 : decode cX9_told 154 = .ok (.getfield 7, 3) := by decide +kernel
theorem dX9_told_157 : decode cX9_told 157 = .ok (.ireturn, 1) := by decide +kernel
theorem dX9_told_158 : decode cX9_told 158 = .ok (.aload_n 0, 1) := by decide +kernel
theorem dX9_told_159 : decode cX9_told 159 = .ok (.getfield 72, 3) := by decide +kernel
theorem dX9_told_162 : decode cX9_told 162 = .ok (.ireturn, 1) := by decide +kernel
theorem dX9_told_163 : decode cX9_told 163 = .ok (.aload_n 0, 1) := by decide +kernel
theorem dX9_told_164 : decode cX9_told 164 = .ok (.getfield 26, 3) := by decide +kernel
theorem dX9_told_167 : decode cX9_told 167 = .ok (.ireturn, 1) := by decide +kernel
theorem dX9_told_168 : decode cX9_told 168 = .ok (.aload_n 0, 1) := by decide +kernel
theorem dX9_told_169 : decode cX9_told 169 = .ok (.getfield 29, 3) := by decide +kernel
theorem dX9_told_172 : decode cX9_told 172 = .ok (.ireturn, 1) := by decide +kernel
theorem dX9_told_173 : decode cX9_told 173 = .ok (.aload_n 0, 1) := by decide +kernel
theorem dX9_told_174 : decode cX9_told 174 = .ok (.getfield 89, 3) := by decide +kernel
theorem dX9_told_177 : decode cX9_told 177 = .ok (.ireturn, 1) := by decide +kernel
theorem dX9_told_178 : decode cX9_told 178 = .ok (.iload_n 1, 1) := by decide +kernel
theorem dX9_told_179 : decode cX9_told 179 = .ok (.bipush 6, 2) := by decide +kernel
theorem dX9_told_181 : decode cX9_told 181 = .ok (.if_icmp .ne 10, 3) := by decide +kernel
theorem dX9_told_184 : decode cX9_told 184 = .ok (.aload_n 0, 1) := by decide +kernel
theorem dX9_told_185 : decode cX9_told 185 = .ok (.getfield 86, 3) := by decide +kernel
theorem dX9_told_188 : decode cX9_told 188 = .ok (.goto 5, 3) := by decide +kernel
theorem dX9_told_191 : decode cX9_told 191 = .ok (.bipush (-2), 2) := by decide +kernel
theorem dX9_told_193 : decode cX9_told 193 = .ok (.ireturn, 1) := by decide +kernel
theorem dJ6_bitCount_0f7a4_0 : decode cJ6_bitCount_0f7a4 0 = .ok (.iload_n 0, 1) := by decide +kernel
theorem dJ6_bitCount_0f7a4_1 : decode cJ6_bitCount_0f7a4 1 = .ok (.iload_n 0, 1) := by decide +kernel
theorem dJ6_bitCount_0f7a4_2 : decode cJ6_bitCount_0f7a4 2 = .ok (.iconst 1, 1) := by decide +kernel
theorem dJ6_bitCount_0f7a4_3 : decode cJ6_bitCount_0f7a4 3 = .ok (.iushr, 1) := by decide +kernel
theorem dJ6_bitCount_0f7a4_4 : decode cJ6_bitCount_0f7a4 4 = .ok (.ldc_w 265, 3) := by decide +kernel
theorem dJ6_bitCount_0f7a4_7 : decode cJ6_bitCount_0f7a4 7 = .ok (.iand, 1) := by decide +kernel
theorem dJ6_bitCount_0f7a4_8 : decode cJ6_bitCount_0f7a4 8 = .ok (.isub, 1) := by decide +kernel
theorem dJ6_bitCount_0f7a4_9 : decode cJ6_bitCount_0f7a4 9 = .ok (.istore_n 0, 1) := by decide +kernel
theorem dJ6_bitCount_0f7a4_10 : decode cJ6_bitCount_0f7a4 10 = .ok (.iload_n 0, 1) := by decide +kernel
theorem dJ6_bitCount_0f7a4_11 : decode cJ6_bitCount_0f7a4 11 = .ok (.ldc_w 266, 3) := by decide +kernel
theorem dJ6_bitCount_0f7a4_14 : decode cJ6_bitCount_0f7a4 14 = .ok (.iand, 1) := by decide +kernel
theorem dJ6_bitCount_0f7a4_15 : decode cJ6_bitCount_0f7a4 15 = .ok (.iload_n 0, 1) := by decide +kernel
theorem dJ6_bitCount_0f7a4_16 : decode cJ6_bitCount_0f7a4 16 = .ok (.iconst 2, 1) := by decide +kernel
theorem dJ6_bitCount_0f7a4_17 : decode cJ6_bitCount_0f7a4 17 = .ok (.iushr, 1) := by decide +kernel
theorem dJ6_bitCount_0f7a4_18 : decode cJ6_bitCount_0f7a4 18 = .ok (.ldc_w 266, 3) := by decide +kernel
theorem dJ6_bitCount_0f7a4_21 : decode cJ6_bitCount_0f7a4 21 = .ok (.iand, 1) := by decide +kernel
theorem dJ6_bitCount_0f7a4_22 : decode cJ6_bitCount_0f7a4 22 = .ok (.iadd, 1) := by decide +kernel
theorem dJ6_bitCount_0f7a4_23 : decode cJ6_bitCount_0f7a4 23 = .ok (.istore_n 0, 1) := by decide +kernel
theorem dJ6_bitCount_0f7a4_24 : decode cJ6_bitCount_0f7a4 24 = .ok (.iload_n 0, 1) := by decide +kernel
theorem dJ6_bitCount_0f7a4_25 : decode cJ6_bitCount_0f7a4 25 = .ok (.iload_n 0, 1) := by decide +kernel
theorem dJ6_bitCount_0f7a4_26 : decode cJ6_bitCount_0f7a4 26 = .ok (.iconst 4, 1) := by decide +kernel
theorem dJ6_bitCount_0f7a4_27 : decode cJ6_bitCount_0f7a4 27 = .ok (.iushr, 1) := by decide +kernel
theorem dJ6_bitCount_0f7a4_28 : decode cJ6_bitCount_0f7a4 28 = .ok (.iadd, 1) := by decide +kernel
theorem dJ6_bitCount_0f7a4_29 : decode cJ6_bitCount_0f7a4 29 = .ok (.ldc_w 267, 3) := by decide +kernel
theorem dJ6_bitCount_0f7a4_32 : decode cJ6_bitCount_0f7a4 32 = .ok (.iand, 1) := by decide +kernel
theorem dJ6_bitCount_0f7a4_33 : decode cJ6_bitCount_0f7a4 33 = .ok (.istore_n 0, 1) := by decide +kernel
theorem dJ6_bitCount_0f7a4_34 : decode cJ6_bitCount_0f7a4 34 = .ok (.iload_n 0, 1) := by decide +kernel
theorem dJ6_bitCount_0f7a4_35 : decode cJ6_bitCount_0f7a4 35 = .ok (.iload_n 0, 1) := by decide +kernel
theorem dJ6_bitCount_0f7a4_36 : decode cJ6_bitCount_0f7a4 36 = .ok (.bipush 8, 2) := by decide +kernel
theorem dJ6_bitCount_0f7a4_38 : decode cJ6_bitCount_0f7a4 38 = .ok (.iushr, 1) := by decide +kernel
theorem dJ6_bitCount_0f7a4_39 : decode cJ6_bitCount_0f7a4 39 = .ok (.iadd, 1) := by decide +kernel
theorem dJ6_bitCount_0f7a4_40 : decode cJ6_bitCount_0f7a4 40 = .ok (.istore_n 0, 1) := by decide +kernel
theorem dJ6_bitCount_0f7a4_41 : decode cJ6_bitCount_0f7a4 41 = .ok (.iload_n 0, 1) := by decide +kernel
theorem dJ6_bitCount_0f7a4_42 : decode cJ6_bitCount_0f7a4 42 = .ok (.iload_n 0, 1) := by decide +kernel
theorem dJ6_bitCount_0f7a4_43 : decode cJ6_bitCount_0f7a4 43 = .ok (.bipush 16, 2) := by decide +kernel
theorem dJ6_bitCount_0f7a4_45 : decode cJ6_bitCount_0f7a4 45 = .ok (.iushr, 1) := by decide +kernel
theorem dJ6_bitCount_0f7a4_46 : decode cJ6_bitCount_0f7a4 46 = .ok (.iadd, 1) := by decide +kernel
theorem dJ6_bitCount_0f7a4_47 : decode cJ6_bitCount_0f7a4 47 = .ok (.istore_n 0, 1) := by decide +kernel
theorem dJ6_bitCount_0f7a4_48 : decode cJ6_bitCount_0f7a4 48 = .ok (.iload_n 0, 1) := by decide +kernel
theorem dJ6_bitCount_0f7a4_49 : decode cJ6_bitCount_0f7a4 49 = .ok (.bipush 63, 2) := by decide +kernel
theorem dJ6_bitCount_0f7a4_51 : decode cJ6_bitCount_0f7a4 51 = .ok (.iand, 1) := by decide +kernel
theorem dJ6_bitCount_0f7a4_52 : decode cJ6_bitCount_0f7a4 52 = .ok (.ireturn, 1) := by decide +kernel
theorem dJ9_max_7cf53_0 : decode cJ9_max_7cf53 0 = .ok (.iload_n 0, 1) := by decide +kernel
theorem dJ9_max_7cf53_1 : decode cJ9_max_7cf53 1 = .ok (.iload_n 1, 1) := by decide +kernel
theorem dJ9_max_7cf53_2 : decode cJ9_max_7cf53 2 = .ok (.if_icmp .lt 7, 3) := by decide +kernel
theorem dJ9_max_7cf53_5 : decode cJ9_max_7cf53 5 = .ok (.iload_n 0, 1) := by decide +kernel
theorem dJ9_max_7cf53_6 : decode cJ9_max_7cf53 6 = .ok (.goto 4, 3) := by decide +kernel
theorem dJ9_max_7cf53_9 : decode cJ9_max_7cf53 9 = .ok (.iload_n 1, 1) := by decide +kernel
theorem dJ9_max_7cf53_10 : decode cJ9_max_7cf53 10 = .ok (.ireturn, 1) := by decide +kernel
theorem dJ9_min_7cf53_0 : decode cJ9_min_7cf53 0 = .ok (.iload_n 0, 1) := by decide +kernel
theorem dJ9_min_7cf53_1 : decode cJ9_min_7cf53 1 = .ok (.iload_n 1, 1) := by decide +kernel
theorem dJ9_min_7cf53_2 : decode cJ9_min_7cf53 2 = .ok (.if_icmp .gt 7, 3) := by decide +kernel
theorem dJ9_min_7cf53_5 : decode cJ9_min_7cf53 5 = .ok (.iload_n 0, 1) := by decide +kernel
theorem dJ9_min_7cf53_6 : decode cJ9_min_7cf53 6 = .ok (.goto 4, 3) := by decide +kernel
theorem dJ9_min_7cf53_9 : decode cJ9_min_7cf53 9 = .ok (.iload_n 1, 1) := by decide +kernel
theorem dJ9_min_7cf53_10 : decode cJ9_min_7cf53 10 = .ok (.ireturn, 1) := by decide +kernel
theorem dL_law_0 : decode cL_law 0 = .ok (.new 7, 3) := by decide +kernel
theorem dL_law_3 : decode cL_law 3 = .ok (.dup, 1) := by decide +kernel
theorem dL_law_4 : decode cL_law 4 = .ok (.invokespecial 9, 3) := by decide +kernel
theorem dL_law_7 : decode cL_law 7 = .ok (.astore_n 1, 1) := by decide +kernel
theorem dL_law_8 : decode cL_law 8 = .ok (.new 10, 3) := by decide +kernel
theorem dL_law_11 : decode cL_law 11 = .ok (.dup, 1) := by decide +kernel
theorem dL_law_12 : decode cL_law 12 = .ok (.invokespecial 12, 3) := by decide +kernel
theorem dL_law_15 : decode cL_law 15 = .ok (.astore_n 2, 1) := by decide +kernel
theorem dL_law_16 : decode cL_law 16 = .ok (.iconst 0, 1) := by decide +kernel
theorem dL_law_17 : decode cL_law 17 = .ok (.istore_n 3, 1) := by decide +kernel
theorem dL_law_18 : decode cL_law 18 = .ok (.iload_n 3, 1) := by decide +kernel
theorem dL_law_19 : decode cL_law 19 = .ok (.aload_n 0, 1) := by decide +kernel
theorem dL_law_20 : decode cL_law 20 = .ok (.arraylength, 1) := by decide +kernel
theorem dL_law_21 : decode cL_law 21 = .ok (.bipush 7, 2) := by decide +kernel
theorem dL_law_23 : decode cL_law 23 = .ok (.isub, 1) := by decide +kernel
theorem dL_law_24 : decode cL_law 24 = .ok (.if_icmp .gt 915, 3) := by decide +kernel
theorem dL_law_27 : decode cL_law 27 = .ok (.aload_n 0, 1) := by decide +kernel
theorem dL_law_28 : decode cL_law 28 = .ok (.iload_n 3, 1) := by decide +kernel
theorem dL_law_29 : decode cL_law 29 = .ok (.iaload, 1) := by decide +kernel
theorem dL_law_30 : decode cL_law 30 = .ok (.bipush 31, 2) := by decide +kernel
theorem dL_law_32 : decode cL_law 32 = .ok (.iand, 1) := by decide +kernel
theorem dL_law_33 : decode cL_law 33 = .ok (.tableswitch 900 0 27 #[127, 150, 241, 264, 297, 320, 333, 346, 389, 422, 445, 458, 491, 514, 537, 570, 583, 616, 629, 652, 665, 698, 721, 744, 788, 831, 854, 877], 127) := by decide +kernel
theorem dL_law_160 : decode cL_law 160 = .ok (.aload_n 1, 1) := by decide +kernel
theorem dL_law_161 : decode cL_law 161 = .ok (.aload_n 0, 1) := by decide +kernel
theorem dL_law_162 : decode cL_law 162 = .ok (.iload_n 3, 1) := by decide +kernel
theorem dL_law_163 : decode cL_law 163 = .ok (.iconst 1, 1) := by decide +kernel
theorem dL_law_164 : decode cL_law 164 = .ok (.iadd, 1) := by decide +kernel
theorem dL_law_165 : decode cL_law 165 = .ok (.iaload, 1) := by decide +kernel
theorem dL_law_166 : decode cL_law 166 = .ok (.invokevirtual 13, 3) := by decide +kernel
theorem dL_law_169 : decode cL_law 169 = .ok (.aload_n 2, 1) := by decide +kernel
theorem dL_law_170 : decode cL_law 170 = .ok (.aload_n 0, 1) := by decide +kernel
theorem dL_law_171 : decode cL_law 171 = .ok (.iload_n 3, 1) := by decide +kernel
theorem dL_law_172 : decode cL_law 172 = .ok (.iconst 1, 1) := by decide +kernel
theorem dL_law_173 : decode cL_law 173 = .ok (.iadd, 1) := by decide +kernel
theorem dL_law_174 : decode cL_law 174 = .ok (.iaload, 1) := by decide +kernel
theorem dL_law_175 : decode cL_law 175 = .ok (.invokevirtual 17, 3) := by decide +kernel
theorem dL_law_178 : decode cL_law 178 = .ok (.if_icmp .eq 755, 3) := by decide +kernel
theorem dL_law_181 : decode cL_law 181 = .ok (.iconst 0, 1) := by decide +kernel
theorem dL_law_182 : decode cL_law 182 = .ok (.ireturn, 1) := by decide +kernel
theorem dL_law_183 : decode cL_law 183 = .ok (.aload_n 1, 1) := by decide +kernel
theorem dL_law_184 : decode cL_law 184 = .ok (.aload_n 0, 1) := by decide +kernel
theorem dL_law_185 : decode cL_law 185 = .ok (.iload_n 3, 1) := by decide +kernel
theorem dL_law_186 : decode cL_law 186 = .ok (.iconst 1, 1) := by decide +kernel
theorem dL_law_187 : decode cL_law 187 = .ok (.iadd, 1) := by decide +kernel
theorem dL_law_188 : decode cL_law 188 = .ok (.iaload, 1) := by decide +kernel
theorem dL_law_189 : decode cL_law 189 = .ok (.aload_n 0, 1) := by decide +kernel
theorem dL_law_190 : decode cL_law 190 = .ok (.iload_n 3, 1) := by decide +kernel
theorem dL_law_191 : decode cL_law 191 = .ok (.iconst 2, 1) := by decide +kernel
theorem dL_law_192 : decode cL_law 192 = .ok (.iadd, 1) := by decide +kernel
theorem dL_law_193 : decode cL_law 193 = .ok (.iaload, 1) := by decide +kernel
theorem dL_law_194 : decode cL_law 194 = .ok (.aload_n 0, 1) := by decide +kernel
theorem dL_law_195 : decode cL_law 195 = .ok (.iload_n 3, 1) := by decide +kernel
theorem dL_law_196 : decode cL_law 196 = .ok (.iconst 3, 1) := by decide +kernel
theorem dL_law_197 : decode cL_law 197 = .ok (.iadd, 1) := by decide +kernel
theorem dL_law_198 : decode cL_law 198 = .ok (.iaload, 1) := by decide +kernel
theorem dL_law_199 : decode cL_law 199 = .ok (.aload_n 0, 1) := by decide +kernel
theorem dL_law_200 : decode cL_law 200 = .ok (.iload_n 3, 1) := by decide +kernel
theorem dL_law_201 : decode cL_law 201 = .ok (.iconst 4, 1) := by decide +kernel
theorem dL_law_202 : decode cL_law 202 = .ok (.iadd, 1) := by decide +kernel
theorem dL_law_203 : decode cL_law 203 = .ok (.iaload, 1) := by decide +kernel
theorem dL_law_204 : decode cL_law 204 = .ok (.aload_n 0, 1) := by decide +kernel
theorem dL_law_205 : decode cL_law 205 = .ok (.iload_n 3, 1) := by decide +kernel
theorem dL_law_206 : decode cL_law 206 = .ok (.iconst 5, 1) := by decide +kernel
theorem dL_law_207 : decode cL_law 207 = .ok (.iadd, 1) := by decide +kernel
theorem dL_law_208 : decode cL_law 208 = .ok (.iaload, 1) := by decide +kernel
theorem dL_law_209 : decode cL_law 209 = .ok (.aload_n 0, 1) := by decide +kernel
theorem dL_law_210 : decode cL_law 210 = .ok (.iload_n 3, 1) := by decide +kernel
theorem dL_law_211 : decode cL_law 211 = .ok (.bipush 6, 2) := by decide +kernel
theorem dL_law_213 : decode cL_law 213 = .ok (.iadd, 1) := by decide +kernel
theorem dL_law_214 : decode cL_law 214 = .ok (.iaload, 1) := by decide +kernel
theorem dL_law_215 : decode cL_law 215 = .ok (.ifCond .eq 7, 3) := by decide +kernel
theorem dL_law_218 : decode cL_law 218 = .ok (.iconst 1, 1) := by decide +kernel
theorem dL_law_219 : decode cL_law 219 = .ok (.goto 4, 3) := by decide +kernel
theorem dL_law_222 : decode cL_law 222 = .ok (.iconst 0, 1) := by decide +kernel
theorem dL_law_223 : decode cL_law 223 = .ok (.invokevirtual 18, 3) := by decide +kernel
theorem dL_law_226 : decode cL_law 226 = .ok (.aload_n 2, 1) := by decide +kernel
theorem dL_law_227 : decode cL_law 227 = .ok (.aload_n 0, 1) := by decide +kernel
theorem dL_law_228 : decode cL_law 228 = .ok (.iload_n 3, 1) := by decide +kernel
theorem dL_law_229 : decode cL_law 229 = .ok (.iconst 1, 1) := by decide +kernel
theorem dL_law_230 : decode cL_law 230 = .ok (.iadd, 1) := by decide +kernel
theorem dL_law_231 : decode cL_law 231 = .ok (.iaload, 1) := by decide +kernel
theorem dL_law_232 : decode cL_law 232 = .ok (.aload_n 0, 1) := by decide +kernel
theorem dL_law_233 : decode cL_law 233 = .ok (.iload_n 3, 1) := by decide +kernel
theorem dL_law_234 : decode cL_law 234 = .ok (.iconst 2, 1) := by decide +kernel
theorem dL_law_235 : decode cL_law 235 = .ok (.iadd, 1) := by decide +kernel
theorem dL_law_236 : decode cL_law 236 = .ok (.iaload, 1) := by decide +kernel
theorem dL_law_237 : decode cL_law 237 = .ok (.aload_n 0, 1) := by decide +kernel
theorem dL_law_238 : decode cL_law 238 = .ok (.iload_n 3, 1) := by decide +kernel
theorem dL_law_239 : decode cL_law 239 = .ok (.iconst 3, 1) := by decide +kernel
theorem dL_law_240 : decode cL_law 240 = .ok (.iadd, 1) := by decide +kernel
theorem dL_law_241 : decode cL_law 241 = .ok (.iaload, 1) := by decide +kernel
theorem dL_law_242 : decode cL_law 242 = .ok (.aload_n 0, 1) := by decide +kernel
theorem dL_law_243 : decode cL_law 243 = .ok (.iload_n 3, 1) := by decide +kernel
theorem dL_law_244 : decode cL_law 244 = .ok (.iconst 4, 1) := by decide +kernel
theorem dL_law_245 : decode cL_law 245 = .ok (.iadd, 1) := by decide +kernel
theorem dL_law_246 : decode cL_law 246 = .ok (.iaload, 1) := by decide +kernel
theorem dL_law_247 : decode cL_law 247 = .ok (.aload_n 0, 1) := by decide +kernel
theorem dL_law_248 : decode cL_law 248 = .ok (.iload_n 3, 1) := by decide +kernel
theorem dL_law_249 : decode cL_law 249 = .ok (.iconst 5, 1) := by decide +kernel
theorem dL_law_250 : decode cL_law 250 = .ok (.iadd, 1) := by decide +kernel
theorem dL_law_251 : decode cL_law 251 = .ok (.iaload, 1) := by decide +kernel
theorem dL_law_252 : decode cL_law 252 = .ok (.aload_n 0, 1) := by decide +kernel
theorem dL_law_253 : decode cL_law 253 = .ok (.iload_n 3, 1) := by decide +kernel
theorem dL_law_254 : decode cL_law 254 = .ok (.bipush 6, 2) := by decide +kernel
theorem dL_law_256 : decode cL_law 256 = .ok (.iadd, 1) := by decide +kernel
theorem dL_law_257 : decode cL_law 257 = .ok (.iaload, 1) := by decide +kernel
theorem dL_law_258 : decode cL_law 258 = .ok (.ifCond .eq 7, 3) := by decide +kernel
theorem dL_law_261 : decode cL_law 261 = .ok (.iconst 1, 1) := by decide +kernel
theorem dL_law_262 : decode cL_law 262 = .ok (.goto 4, 3) := by decide +kernel
theorem dL_law_265 : decode cL_law 265 = .ok (.iconst 0, 1) := by decide +kernel
theorem dL_law_266 : decode cL_law 266 = .ok (.invokevirtual 22, 3) := by decide +kernel
theorem dL_law_269 : decode cL_law 269 = .ok (.if_icmp .eq 664, 3) := by decide +kernel
theorem dL_law_272 : decode cL_law 272 = .ok (.iconst 0, 1) := by decide +kernel
theorem dL_law_273 : decode cL_law 273 = .ok (.ireturn, 1) := by decide +kernel
theorem dL_law_274 : decode cL_law 274 = .ok (.aload_n 1, 1) := by decide +kernel
theorem dL_law_275 : decode cL_law 275 = .ok (.aload_n 0, 1) := by decide +kernel
theorem dL_law_276 : decode cL_law 276 = .ok (.iload_n 3, 1) := by decide +kernel
theorem dL_law_277 : decode cL_law 277 = .ok (.iconst 1, 1) := by decide +kernel
theorem dL_law_278 : decode cL_law 278 = .ok (.iadd, 1) := by decide +kernel
theorem dL_law_279 : decode cL_law 279 = .ok (.iaload, 1) := by decide +kernel
theorem dL_law_280 : decode cL_law 280 = .ok (.invokevirtual 23, 3) := by decide +kernel
theorem dL_law_283 : decode cL_law 283 = .ok (.aload_n 2, 1) := by decide +kernel
theorem dL_law_284 : decode cL_law 284 = .ok (.aload_n 0, 1) := by decide +kernel
theorem dL_law_285 : decode cL_law 285 = .ok (.iload_n 3, 1) := by decide +kernel
theorem dL_law_286 : decode cL_law 286 = .ok (.iconst 1, 1) := by decide +kernel
theorem dL_law_287 : decode cL_law 287 = .ok (.iadd, 1) := by decide +kernel
theorem dL_law_288 : decode cL_law 288 = .ok (.iaload, 1) := by decide +kernel
theorem dL_law_289 : decode cL_law 289 = .ok (.invokevirtual 26, 3) := by decide +kernel
theorem dL_law_292 : decode cL_law 292 = .ok (.if_icmp .eq 641, 3) := by decide +kernel
theorem dL_law_295 : decode cL_law 295 = .ok (.iconst 0, 1) := by decide +kernel
theorem dL_law_296 : decode cL_law 296 = .ok (.ireturn, 1) := by decide +kernel
theorem dL_law_297 : decode cL_law 297 = .ok (.aload_n 1, 1) := by decide +kernel
theorem dL_law_298 : decode cL_law 298 = .ok (.aload_n 0, 1) := by decide +kernel
theorem dL_law_299 : decode cL_law 299 = .ok (.iload_n 3, 1) := by decide +kernel
theorem dL_law_300 : decode cL_law 300 = .ok (.iconst 1, 1) := by decide +kernel
theorem dL_law_301 : decode cL_law 301 = .ok (.iadd, 1) := by decide +kernel
theorem dL_law_302 : decode cL_law 302 = .ok (.iaload, 1) := by decide +kernel
theorem dL_law_303 : decode cL_law 303 = .ok (.aload_n 0, 1) := by decide +kernel
theorem dL_law_304 : decode cL_law 304 = .ok (.iload_n 3, 1) := by decide +kernel
theorem dL_law_305 : decode cL_law 305 = .ok (.iconst 2, 1) := by decide +kernel
theorem dL_law_306 : decode cL_law 306 = .ok (.iadd, 1) := by decide +kernel
theorem dL_law_307 : decode cL_law 307 = .ok (.iaload, 1) := by decide +kernel
theorem dL_law_308 : decode cL_law 308 = .ok (.invokevirtual 27, 3) := by decide +kernel
theorem dL_law_311 : decode cL_law 311 = .ok (.aload_n 2, 1) := by decide +kernel
theorem dL_law_312 : decode cL_law 312 = .ok (.aload_n 0, 1) := by decide +kernel
theorem dL_law_313 : decode cL_law 313 = .ok (.iload_n 3, 1) := by decide +kernel
theorem dL_law_314 : decode cL_law 314 = .ok (.iconst 1, 1) := by decide +kernel
theorem dL_law_315 : decode cL_law 315 = .ok (.iadd, 1) := by decide +kernel
theorem dL_law_316 : decode cL_law 316 = .ok (.iaload, 1) := by decide +kernel
theorem dL_law_317 : decode cL_law 317 = .ok (.aload_n 0, 1) := by decide +kernel
theorem dL_law_318 : decode cL_law 318 = .ok (.iload_n 3, 1) := by decide +kernel
theorem dL_law_319 : decode cL_law 319 = .ok (.iconst 2, 1) := by decide +kernel
theorem dL_law_320 : decode cL_law 320 = .ok (.iadd, 1) := by decide +kernel
theorem dL_law_321 : decode cL_law 321 = .ok (.iaload, 1) := by decide +kernel
theorem dL_law_322 : decode cL_law 322 = .ok (.invokevirtual 31, 3) := by decide +kernel
theorem dL_law_325 : decode cL_law 325 = .ok (.if_icmp .eq 608, 3) := by decide +kernel
theorem dL_law_328 : decode cL_law 328 = .ok (.iconst 0, 1) := by decide +kernel
theorem dL_law_329 : decode cL_law 329 = .ok (.ireturn, 1) := by decide +kernel
theorem dL_law_330 : decode cL_law 330 = .ok (.aload_n 1, 1) := by decide +kernel
theorem dL_law_331 : decode cL_law 331 = .ok (.aload_n 0, 1) := by decide +kernel
theorem dL_law_332 : decode cL_law 332 = .ok (.iload_n 3, 1) := by decide +kernel
theorem dL_law_333 : decode cL_law 333 = .ok (.iconst 1, 1) := by decide +kernel
theorem dL_law_334 : decode cL_law 334 = .ok (.iadd, 1) := by decide +kernel
theorem dL_law_335 : decode cL_law 335 = .ok (.iaload, 1) := by decide +kernel
theorem dL_law_336 : decode cL_law 336 = .ok (.invokevirtual 32, 3) := by decide +kernel
theorem dL_law_339 : decode cL_law 339 = .ok (.aload_n 2, 1) := by decide +kernel
theorem dL_law_340 : decode cL_law 340 = .ok (.aload_n 0, 1) := by decide +kernel
theorem dL_law_341 : decode cL_law 341 = .ok (.iload_n 3, 1) := by decide +kernel
theorem dL_law_342 : decode cL_law 342 = .ok (.iconst 1, 1) := by decide +kernel
theorem dL_law_343 : decode cL_law 343 = .ok (.iadd, 1) := by decide +kernel
theorem dL_law_344 : decode cL_law 344 = .ok (.iaload, 1) := by decide +kernel
theorem dL_law_345 : decode cL_law 345 = .ok (.invokevirtual 35, 3) := by decide +kernel
theorem dL_law_348 : decode cL_law 348 = .ok (.if_icmp .eq 585, 3) := by decide +kernel
theorem dL_law_351 : decode cL_law 351 = .ok (.iconst 0, 1) := by decide +kernel
theorem dL_law_352 : decode cL_law 352 = .ok (.ireturn, 1) := by decide +kernel
theorem dL_law_353 : decode cL_law 353 = .ok (.aload_n 1, 1) := by decide +kernel
theorem dL_law_354 : decode cL_law 354 = .ok (.invokevirtual 36, 3) := by decide +kernel
theorem dL_law_357 : decode cL_law 357 = .ok (.aload_n 2, 1) := by decide +kernel
theorem dL_law_358 : decode cL_law 358 = .ok (.invokevirtual 40, 3) := by decide +kernel
theorem dL_law_361 : decode cL_law 361 = .ok (.if_icmp .eq 572, 3) := by decide +kernel
theorem dL_law_364 : decode cL_law 364 = .ok (.iconst 0, 1) := by decide +kernel
theorem dL_law_365 : decode cL_law 365 = .ok (.ireturn, 1) := by decide +kernel
theorem dL_law_366 : decode cL_law 366 = .ok (.aload_n 1, 1) := by decide +kernel
theorem dL_law_367 : decode cL_law 367 = .ok (.invokevirtual 41, 3) := by decide +kernel
theorem dL_law_370 : decode cL_law 370 = .ok (.aload_n 2, 1) := by decide +kernel
theorem dL_law_371 : decode cL_law 371 = .ok (.invokevirtual 44, 3) := by decide +kernel
theorem dL_law_374 : decode cL_law 374 = .ok (.if_icmp .eq 559, 3) := by decide +kernel
theorem dL_law_377 : decode cL_law 377 = .ok (.iconst 0, 1) := by decide +kernel
theorem dL_law_378 : decode cL_law 378 = .ok (.ireturn, 1) := by decide +kernel
theorem dL_law_379 : decode cL_law 379 = .ok (.aload_n 1, 1) := by decide +kernel
theorem dL_law_380 : decode cL_law 380 = .ok (.aload_n 0, 1) := by decide +kernel
theorem dL_law_381 : decode cL_law 381 = .ok (.iload_n 3, 1) := by decide +kernel
theorem dL_law_382 : decode cL_law 382 = .ok (.iconst 1, 1) := by decide +kernel
theorem dL_law_383 : decode cL_law 383 = .ok (.iadd, 1) := by decide +kernel
theorem dL_law_384 : decode cL_law 384 = .ok (.iaload, 1) := by decide +kernel
theorem dL_law_385 : decode cL_law 385 = .ok (.aload_n 0, 1) := by decide +kernel
theorem dL_law_386 : decode cL_law 386 = .ok (.iload_n 3, 1) := by decide +kernel
theorem dL_law_387 : decode cL_law 387 = .ok (.iconst 2, 1) := by decide +kernel
theorem dL_law_388 : decode cL_law 388 = .ok (.iadd, 1) := by decide +kernel
theorem dL_law_389 : decode cL_law 389 = .ok (.iaload, 1) := by decide +kernel
theorem dL_law_390 : decode cL_law 390 = .ok (.aload_n 0, 1) := by decide +kernel
theorem dL_law_391 : decode cL_law 391 = .ok (.iload_n 3, 1) := by decide +kernel
theorem dL_law_392 : decode cL_law 392 = .ok (.iconst 3, 1) := by decide +kernel
theorem dL_law_393 : decode cL_law 393 = .ok (.iadd, 1) := by decide +kernel
theorem dL_law_394 : decode cL_law 394 = .ok (.iaload, 1) := by decide +kernel
theorem dL_law_395 : decode cL_law 395 = .ok (.invokevirtual 45, 3) := by decide +kernel
theorem dL_law_398 : decode cL_law 398 = .ok (.aload_n 2, 1) := by decide +kernel
theorem dL_law_399 : decode cL_law 399 = .ok (.aload_n 0, 1) := by decide +kernel
theorem dL_law_400 : decode cL_law 400 = .ok (.iload_n 3, 1) := by decide +kernel
theorem dL_law_401 : decode cL_law 401 = .ok (.iconst 1, 1) := by decide +kernel
theorem dL_law_402 : decode cL_law 402 = .ok (.iadd, 1) := by decide +kernel
theorem dL_law_403 : decode cL_law 403 = .ok (.iaload, 1) := by decide +kernel
theorem dL_law_404 : decode cL_law 404 = .ok (.aload_n 0, 1) := by decide +kernel
theorem dL_law_405 : decode cL_law 405 = .ok (.iload_n 3, 1) := by decide +kernel
theorem dL_law_406 : decode cL_law 406 = .ok (.iconst 2, 1) := by decide +kernel
theorem dL_law_407 : decode cL_law 407 = .ok (.iadd, 1) := by decide +kernel
theorem dL_law_408 : decode cL_law 408 = .ok (.iaload, 1) := by decide +kernel
theorem dL_law_409 : decode cL_law 409 = .ok (.aload_n 0, 1) := by decide +kernel
theorem dL_law_410 : decode cL_law 410 = .ok (.iload_n 3, 1) := by decide +kernel
theorem dL_law_411 : decode cL_law 411 = .ok (.iconst 3, 1) := by decide +kernel
theorem dL_law_412 : decode cL_law 412 = .ok (.iadd, 1) := by decide +kernel
theorem dL_law_413 : decode cL_law 413 = .ok (.iaload, 1) := by decide +kernel
theorem dL_law_414 : decode cL_law 414 = .ok (.invokevirtual 49, 3) := by decide +kernel
theorem dL_law_417 : decode cL_law 417 = .ok (.if_icmp .eq 516, 3) := by decide +kernel
theorem dL_law_420 : decode cL_law 420 = .ok (.iconst 0, 1) := by decide +kernel
theorem dL_law_421 : decode cL_law 421 = .ok (.ireturn, 1) := by decide +kernel
theorem dL_law_422 : decode cL_law 422 = .ok (.aload_n 1, 1) := by decide +kernel
theorem dL_law_423 : decode cL_law 423 = .ok (.aload_n 0, 1) := by decide +kernel
theorem dL_law_424 : decode cL_law 424 = .ok (.iload_n 3, 1) := by decide +kernel
theorem dL_law_425 : decode cL_law 425 = .ok (.iconst 1, 1) := by decide +kernel
theorem dL_law_426 : decode cL_law 426 = .ok (.iadd, 1) := by decide +kernel
theorem dL_law_427 : decode cL_law 427 = .ok (.iaload, 1) := by decide +kernel
theorem dL_law_428 : decode cL_law 428 = .ok (.aload_n 0, 1) := by decide +kernel
theorem dL_law_429 : decode cL_law 429 = .ok (.iload_n 3, 1) := by decide +kernel
theorem dL_law_430 : decode cL_law 430 = .ok (.iconst 2, 1) := by decide +kernel
theorem dL_law_431 : decode cL_law 431 = .ok (.iadd, 1) := by decide +kernel
theorem dL_law_432 : decode cL_law 432 = .ok (.iaload, 1) := by decide +kernel
theorem dL_law_433 : decode cL_law 433 = .ok (.invokevirtual 50, 3) := by decide +kernel
theorem dL_law_436 : decode cL_law 436 = .ok (.aload_n 2, 1) := by decide +kernel
theorem dL_law_437 : decode cL_law 437 = .ok (.aload_n 0, 1) := by decide +kernel
theorem dL_law_438 : decode cL_law 438 = .ok (.iload_n 3, 1) := by decide +kernel
theorem dL_law_439 : decode cL_law 439 = .ok (.iconst 1, 1) := by decide +kernel
theorem dL_law_440 : decode cL_law 440 = .ok (.iadd, 1) := by decide +kernel
theorem dL_law_441 : decode cL_law 441 = .ok (.iaload, 1) := by decide +kernel
theorem dL_law_442 : decode cL_law 442 = .ok (.aload_n 0, 1) := by decide +kernel
theorem dL_law_443 : decode cL_law 443 = .ok (.iload_n 3, 1) := by decide +kernel
theorem dL_law_444 : decode cL_law 444 = .ok (.iconst 2, 1) := by decide +kernel
theorem dL_law_445 : decode cL_law 445 = .ok (.iadd, 1) := by decide +kernel
theorem dL_law_446 : decode cL_law 446 = .ok (.iaload, 1) := by decide +kernel
theorem dL_law_447 : decode cL_law 447 = .ok (.invokevirtual 53, 3) := by decide +kernel
theorem dL_law_450 : decode cL_law 450 = .ok (.if_icmp .eq 483, 3) := by decide +kernel
theorem dL_law_453 : decode cL_law 453 = .ok (.iconst 0, 1) := by decide +kernel
theorem dL_law_454 : decode cL_law 454 = .ok (.ireturn, 1) := by decide +kernel
theorem dL_law_455 : decode cL_law 455 = .ok (.aload_n 1, 1) := by decide +kernel
theorem dL_law_456 : decode cL_law 456 = .ok (.aload_n 0, 1) := by decide +kernel
theorem dL_law_457 : decode cL_law 457 = .ok (.iload_n 3, 1) := by decide +kernel
theorem dL_law_458 : decode cL_law 458 = .ok (.iconst 1, 1) := by decide +kernel
theorem dL_law_459 : decode cL_law 459 = .ok (.iadd, 1) := by decide +kernel
theorem dL_law_460 : decode cL_law 460 = .ok (.iaload, 1) := by decide +kernel
theorem dL_law_461 : decode cL_law 461 = .ok (.invokevirtual 54, 3) := by decide +kernel
theorem dL_law_464 : decode cL_law 464 = .ok (.aload_n 2, 1) := by decide +kernel
theorem dL_law_465 : decode cL_law 465 = .ok (.aload_n 0, 1) := by decide +kernel
theorem dL_law_466 : decode cL_law 466 = .ok (.iload_n 3, 1) := by decide +kernel
theorem dL_law_467 : decode cL_law 467 = .ok (.iconst 1, 1) := by decide +kernel
theorem dL_law_468 : decode cL_law 468 = .ok (.iadd, 1) := by decide +kernel
theorem dL_law_469 : decode cL_law 469 = .ok (.iaload, 1) := by decide +kernel
theorem dL_law_470 : decode cL_law 470 = .ok (.invokevirtual 57, 3) := by decide +kernel
theorem dL_law_473 : decode cL_law 473 = .ok (.if_icmp .eq 460, 3) := by decide +kernel
theorem dL_law_476 : decode cL_law 476 = .ok (.iconst 0, 1) := by decide +kernel
theorem dL_law_477 : decode cL_law 477 = .ok (.ireturn, 1) := by decide +kernel
theorem dL_law_478 : decode cL_law 478 = .ok (.aload_n 1, 1) := by decide +kernel
theorem dL_law_479 : decode cL_law 479 = .ok (.invokevirtual 58, 3) := by decide +kernel
theorem dL_law_482 : decode cL_law 482 = .ok (.aload_n 2, 1) := by decide +kernel
theorem dL_law_483 : decode cL_law 483 = .ok (.invokevirtual 61, 3) := by decide +kernel
theorem dL_law_486 : decode cL_law 486 = .ok (.if_icmp .eq 447, 3) := by decide +kernel
theorem dL_law_489 : decode cL_law 489 = .ok (.iconst 0, 1) := by decide +kernel
theorem dL_law_490 : decode cL_law 490 = .ok (.ireturn, 1) := by decide +kernel
theorem dL_law_491 : decode cL_law 491 = .ok (.aload_n 1, 1) := by decide +kernel
theorem dL_law_492 : decode cL_law 492 = .ok (.aload_n 0, 1) := by decide +kernel
theorem dL_law_493 : decode cL_law 493 = .ok (.iload_n 3, 1) := by decide +kernel
theorem dL_law_494 : decode cL_law 494 = .ok (.iconst 1, 1) := by decide +kernel
theorem dL_law_495 : decode cL_law 495 = .ok (.iadd, 1) := by decide +kernel
theorem dL_law_496 : decode cL_law 496 = .ok (.iaload, 1) := by decide +kernel
theorem dL_law_497 : decode cL_law 497 = .ok (.aload_n 0, 1) := by decide +kernel
theorem dL_law_498 : decode cL_law 498 = .ok (.iload_n 3, 1) := by decide +kernel
theorem dL_law_499 : decode cL_law 499 = .ok (.iconst 2, 1) := by decide +kernel
theorem dL_law_500 : decode cL_law 500 = .ok (.iadd, 1) := by decide +kernel
theorem dL_law_501 : decode cL_law 501 = .ok (.iaload, 1) := by decide +kernel
theorem dL_law_502 : decode cL_law 502 = .ok (.invokevirtual 62, 3) := by decide +kernel
theorem dL_law_505 : decode cL_law 505 = .ok (.aload_n 2, 1) := by decide +kernel
theorem dL_law_506 : decode cL_law 506 = .ok (.aload_n 0, 1) := by decide +kernel
theorem dL_law_507 : decode cL_law 507 = .ok (.iload_n 3, 1) := by decide +kernel
theorem dL_law_508 : decode cL_law 508 = .ok (.iconst 1, 1) := by decide +kernel
theorem dL_law_509 : decode cL_law 509 = .ok (.iadd, 1) := by decide +kernel
theorem dL_law_510 : decode cL_law 510 = .ok (.iaload, 1) := by decide +kernel
theorem dL_law_511 : decode cL_law 511 = .ok (.aload_n 0, 1) := by decide +kernel
theorem dL_law_512 : decode cL_law 512 = .ok (.iload_n 3, 1) := by decide +kernel
theorem dL_law_513 : decode cL_law 513 = .ok (.iconst 2, 1) := by decide +kernel
theorem dL_law_514 : decode cL_law 514 = .ok (.iadd, 1) := by decide +kernel
theorem dL_law_515 : decode cL_law 515 = .ok (.iaload, 1) := by decide +kernel
theorem dL_law_516 : decode cL_law 516 = .ok (.invokevirtual 65, 3) := by decide +kernel
theorem dL_law_519 : decode cL_law 519 = .ok (.if_icmp .eq 414, 3) := by decide +kernel
theorem dL_law_522 : decode cL_law 522 = .ok (.iconst 0, 1) := by decide +kernel
theorem dL_law_523 : decode cL_law 523 = .ok (.ireturn, 1) := by decide +kernel
theorem dL_law_524 : decode cL_law 524 = .ok (.aload_n 1, 1) := by decide +kernel
theorem dL_law_525 : decode cL_law 525 = .ok (.aload_n 0, 1) := by decide +kernel
theorem dL_law_526 : decode cL_law 526 = .ok (.iload_n 3, 1) := by decide +kernel
theorem dL_law_527 : decode cL_law 527 = .ok (.iconst 1, 1) := by decide +kernel
theorem dL_law_528 : decode cL_law 528 = .ok (.iadd, 1) := by decide +kernel
theorem dL_law_529 : decode cL_law 529 = .ok (.iaload, 1) := by decide +kernel
theorem dL_law_530 : decode cL_law 530 = .ok (.invokevirtual 66, 3) := by decide +kernel
theorem dL_law_533 : decode cL_law 533 = .ok (.aload_n 2, 1) := by decide +kernel
theorem dL_law_534 : decode cL_law 534 = .ok (.aload_n 0, 1) := by decide +kernel
theorem dL_law_535 : decode cL_law 535 = .ok (.iload_n 3, 1) := by decide +kernel
theorem dL_law_536 : decode cL_law 536 = .ok (.iconst 1, 1) := by decide +kernel
theorem dL_law_537 : decode cL_law 537 = .ok (.iadd, 1) := by decide +kernel
theorem dL_law_538 : decode cL_law 538 = .ok (.iaload, 1) := by decide +kernel
theorem dL_law_539 : decode cL_law 539 = .ok (.invokevirtual 69, 3) := by decide +kernel
theorem dL_law_542 : decode cL_law 542 = .ok (.if_icmp .eq 391, 3) := by decide +kernel
theorem dL_law_545 : decode cL_law 545 = .ok (.iconst 0, 1) := by decide +kernel
theorem dL_law_546 : decode cL_law 546 = .ok (.ireturn, 1) := by decide +kernel
theorem dL_law_547 : decode cL_law 547 = .ok (.aload_n 1, 1) := by decide +kernel
theorem dL_law_548 : decode cL_law 548 = .ok (.aload_n 0, 1) := by decide +kernel
theorem dL_law_549 : decode cL_law 549 = .ok (.iload_n 3, 1) := by decide +kernel
theorem dL_law_550 : decode cL_law 550 = .ok (.iconst 1, 1) := by decide +kernel
theorem dL_law_551 : decode cL_law 551 = .ok (.iadd, 1) := by decide +kernel
theorem dL_law_552 : decode cL_law 552 = .ok (.iaload, 1) := by decide +kernel
theorem dL_law_553 : decode cL_law 553 = .ok (.invokevirtual 70, 3) := by decide +kernel
theorem dL_law_556 : decode cL_law 556 = .ok (.aload_n 2, 1) := by decide +kernel
theorem dL_law_557 : decode cL_law 557 = .ok (.aload_n 0, 1) := by decide +kernel
theorem dL_law_558 : decode cL_law 558 = .ok (.iload_n 3, 1) := by decide +kernel
theorem dL_law_559 : decode cL_law 559 = .ok (.iconst 1, 1) := by decide +kernel
theorem dL_law_560 : decode cL_law 560 = .ok (.iadd, 1) := by decide +kernel
theorem dL_law_561 : decode cL_law 561 = .ok (.iaload, 1) := by decide +kernel
theorem dL_law_562 : decode cL_law 562 = .ok (.invokevirtual 73, 3) := by decide +kernel
theorem dL_law_565 : decode cL_law 565 = .ok (.if_icmp .eq 368, 3) := by decide +kernel
theorem dL_law_568 : decode cL_law 568 = .ok (.iconst 0, 1) := by decide +kernel
theorem dL_law_569 : decode cL_law 569 = .ok (.ireturn, 1) := by decide +kernel
theorem dL_law_570 : decode cL_law 570 = .ok (.aload_n 1, 1) := by decide +kernel
theorem dL_law_571 : decode cL_law 571 = .ok (.aload_n 0, 1) := by decide +kernel
theorem dL_law_572 : decode cL_law 572 = .ok (.iload_n 3, 1) := by decide +kernel
theorem dL_law_573 : decode cL_law 573 = .ok (.iconst 1, 1) := by decide +kernel
theorem dL_law_574 : decode cL_law 574 = .ok (.iadd, 1) := by decide +kernel
theorem dL_law_575 : decode cL_law 575 = .ok (.iaload, 1) := by decide +kernel
theorem dL_law_576 : decode cL_law 576 = .ok (.aload_n 0, 1) := by decide +kernel
theorem dL_law_577 : decode cL_law 577 = .ok (.iload_n 3, 1) := by decide +kernel
theorem dL_law_578 : decode cL_law 578 = .ok (.iconst 2, 1) := by decide +kernel
theorem dL_law_579 : decode cL_law 579 = .ok (.iadd, 1) := by decide +kernel
theorem dL_law_580 : decode cL_law 580 = .ok (.iaload, 1) := by decide +kernel
theorem dL_law_581 : decode cL_law 581 = .ok (.invokevirtual 74, 3) := by decide +kernel
theorem dL_law_584 : decode cL_law 584 = .ok (.aload_n 2, 1) := by decide +kernel
theorem dL_law_585 : decode cL_law 585 = .ok (.aload_n 0, 1) := by decide +kernel
theorem dL_law_586 : decode cL_law 586 = .ok (.iload_n 3, 1) := by decide +kernel
theorem dL_law_587 : decode cL_law 587 = .ok (.iconst 1, 1) := by decide +kernel
theorem dL_law_588 : decode cL_law 588 = .ok (.iadd, 1) := by decide +kernel
theorem dL_law_589 : decode cL_law 589 = .ok (.iaload, 1) := by decide +kernel
theorem dL_law_590 : decode cL_law 590 = .ok (.aload_n 0, 1) := by decide +kernel
theorem dL_law_591 : decode cL_law 591 = .ok (.iload_n 3, 1) := by decide +kernel
theorem dL_law_592 : decode cL_law 592 = .ok (.iconst 2, 1) := by decide +kernel
theorem dL_law_593 : decode cL_law 593 = .ok (.iadd, 1) := by decide +kernel
theorem dL_law_594 : decode cL_law 594 = .ok (.iaload, 1) := by decide +kernel
theorem dL_law_595 : decode cL_law 595 = .ok (.invokevirtual 77, 3) := by decide +kernel
theorem dL_law_598 : decode cL_law 598 = .ok (.if_icmp .eq 335, 3) := by decide +kernel
theorem dL_law_601 : decode cL_law 601 = .ok (.iconst 0, 1) := by decide +kernel
theorem dL_law_602 : decode cL_law 602 = .ok (.ireturn, 1) := by decide +kernel
theorem dL_law_603 : decode cL_law 603 = .ok (.aload_n 1, 1) := by decide +kernel
theorem dL_law_604 : decode cL_law 604 = .ok (.invokevirtual 78, 3) := by decide +kernel
theorem dL_law_607 : decode cL_law 607 = .ok (.aload_n 2, 1) := by decide +kernel
theorem dL_law_608 : decode cL_law 608 = .ok (.invokevirtual 81, 3) := by decide +kernel
theorem dL_law_611 : decode cL_law 611 = .ok (.if_icmp .eq 322, 3) := by decide +kernel
theorem dL_law_614 : decode cL_law 614 = .ok (.iconst 0, 1) := by decide +kernel
theorem dL_law_615 : decode cL_law 615 = .ok (.ireturn, 1) := by decide +kernel
theorem dL_law_616 : decode cL_law 616 = .ok (.aload_n 1, 1) := by decide +kernel
theorem dL_law_617 : decode cL_law 617 = .ok (.aload_n 0, 1) := by decide +kernel
theorem dL_law_618 : decode cL_law 618 = .ok (.iload_n 3, 1) := by decide +kernel
theorem dL_law_619 : decode cL_law 619 = .ok (.iconst 1, 1) := by decide +kernel
theorem dL_law_620 : decode cL_law 620 = .ok (.iadd, 1) := by decide +kernel
theorem dL_law_621 : decode cL_law 621 = .ok (.iaload, 1) := by decide +kernel
theorem dL_law_622 : decode cL_law 622 = .ok (.aload_n 0, 1) := by decide +kernel
theorem dL_law_623 : decode cL_law 623 = .ok (.iload_n 3, 1) := by decide +kernel
theorem dL_law_624 : decode cL_law 624 = .ok (.iconst 2, 1) := by decide +kernel
theorem dL_law_625 : decode cL_law 625 = .ok (.iadd, 1) := by decide +kernel
theorem dL_law_626 : decode cL_law 626 = .ok (.iaload, 1) := by decide +kernel
theorem dL_law_627 : decode cL_law 627 = .ok (.invokevirtual 82, 3) := by decide +kernel
theorem dL_law_630 : decode cL_law 630 = .ok (.aload_n 2, 1) := by decide +kernel
theorem dL_law_631 : decode cL_law 631 = .ok (.aload_n 0, 1) := by decide +kernel
theorem dL_law_632 : decode cL_law 632 = .ok (.iload_n 3, 1) := by decide +kernel
theorem dL_law_633 : decode cL_law 633 = .ok (.iconst 1, 1) := by decide +kernel
theorem dL_law_634 : decode cL_law 634 = .ok (.iadd, 1) := by decide +kernel
theorem dL_law_635 : decode cL_law 635 = .ok (.iaload, 1) := by decide +kernel
theorem dL_law_636 : decode cL_law 636 = .ok (.aload_n 0, 1) := by decide +kernel
theorem dL_law_637 : decode cL_law 637 = .ok (.iload_n 3, 1) := by decide +kernel
theorem dL_law_638 : decode cL_law 638 = .ok (.iconst 2, 1) := by decide +kernel
theorem dL_law_639 : decode cL_law 639 = .ok (.iadd, 1) := by decide +kernel
theorem dL_law_640 : decode cL_law 640 = .ok (.iaload, 1) := by decide +kernel
theorem dL_law_641 : decode cL_law 641 = .ok (.invokevirtual 85, 3) := by decide +kernel
theorem dL_law_644 : decode cL_law 644 = .ok (.if_icmp .eq 289, 3) := by decide +kernel
theorem dL_law_647 : decode cL_law 647 = .ok (.iconst 0, 1) := by decide +kernel
theorem dL_law_648 : decode cL_law 648 = .ok (.ireturn, 1) := by decide +kernel
theorem dL_law_649 : decode cL_law 649 = .ok (.aload_n 1, 1) := by decide +kernel
theorem dL_law_650 : decode cL_law 650 = .ok (.invokevirtual 86, 3) := by decide +kernel
theorem dL_law_653 : decode cL_law 653 = .ok (.aload_n 2, 1) := by decide +kernel
theorem dL_law_654 : decode cL_law 654 = .ok (.invokevirtual 89, 3) := by decide +kernel
theorem dL_law_657 : decode cL_law 657 = .ok (.if_icmp .eq 276, 3) := by decide +kernel
theorem dL_law_660 : decode cL_law 660 = .ok (.iconst 0, 1) := by decide +kernel
theorem dL_law_661 : decode cL_law 661 = .ok (.ireturn, 1) := by decide +kernel
theorem dL_law_662 : decode cL_law 662 = .ok (.aload_n 1, 1) := by decide +kernel
theorem dL_law_663 : decode cL_law 663 = .ok (.aload_n 0, 1) := by decide +kernel
theorem dL_law_664 : decode cL_law 664 = .ok (.iload_n 3, 1) := by decide +kernel
theorem dL_law_665 : decode cL_law 665 = .ok (.iconst 1, 1) := by decide +kernel
theorem dL_law_666 : decode cL_law 666 = .ok (.iadd, 1) := by decide +kernel
theorem dL_law_667 : decode cL_law 667 = .ok (.iaload, 1) := by decide +kernel
theorem dL_law_668 : decode cL_law 668 = .ok (.invokevirtual 90, 3) := by decide +kernel
theorem dL_law_671 : decode cL_law 671 = .ok (.aload_n 2, 1) := by decide +kernel
theorem dL_law_672 : decode cL_law 672 = .ok (.aload_n 0, 1) := by decide +kernel
theorem dL_law_673 : decode cL_law 673 = .ok (.iload_n 3, 1) := by decide +kernel
theorem dL_law_674 : decode cL_law 674 = .ok (.iconst 1, 1) := by decide +kernel
theorem dL_law_675 : decode cL_law 675 = .ok (.iadd, 1) := by decide +kernel
theorem dL_law_676 : decode cL_law 676 = .ok (.iaload, 1) := by decide +kernel
theorem dL_law_677 : decode cL_law 677 = .ok (.invokevirtual 93, 3) := by decide +kernel
theorem dL_law_680 : decode cL_law 680 = .ok (.if_icmp .eq 253, 3) := by decide +kernel
theorem dL_law_683 : decode cL_law 683 = .ok (.iconst 0, 1) := by decide +kernel
theorem dL_law_684 : decode cL_law 684 = .ok (.ireturn, 1) := by decide +kernel
theorem dL_law_685 : decode cL_law 685 = .ok (.aload_n 1, 1) := by decide +kernel
theorem dL_law_686 : decode cL_law 686 = .ok (.invokevirtual 94, 3) := by decide +kernel
theorem dL_law_689 : decode cL_law 689 = .ok (.aload_n 2, 1) := by decide +kernel
theorem dL_law_690 : decode cL_law 690 = .ok (.invokevirtual 97, 3) := by decide +kernel
theorem dL_law_693 : decode cL_law 693 = .ok (.if_icmp .eq 240, 3) := by decide +kernel
theorem dL_law_696 : decode cL_law 696 = .ok (.iconst 0, 1) := by decide +kernel
theorem dL_law_697 : decode cL_law 697 = .ok (.ireturn, 1) := by decide +kernel
theorem dL_law_698 : decode cL_law 698 = .ok (.aload_n 1, 1) := by decide +kernel
theorem dL_law_699 : decode cL_law 699 = .ok (.aload_n 0, 1) := by decide +kernel
theorem dL_law_700 : decode cL_law 700 = .ok (.iload_n 3, 1) := by decide +kernel
theorem dL_law_701 : decode cL_law 701 = .ok (.iconst 1, 1) := by decide +kernel
theorem dL_law_702 : decode cL_law 702 = .ok (.iadd, 1) := by decide +kernel
theorem dL_law_703 : decode cL_law 703 = .ok (.iaload, 1) := by decide +kernel
theorem dL_law_704 : decode cL_law 704 = .ok (.aload_n 0, 1) := by decide +kernel
theorem dL_law_705 : decode cL_law 705 = .ok (.iload_n 3, 1) := by decide +kernel
theorem dL_law_706 : decode cL_law 706 = .ok (.iconst 2, 1) := by decide +kernel
theorem dL_law_707 : decode cL_law 707 = .ok (.iadd, 1) := by decide +kernel
theorem dL_law_708 : decode cL_law 708 = .ok (.iaload, 1) := by decide +kernel
theorem dL_law_709 : decode cL_law 709 = .ok (.invokevirtual 98, 3) := by decide +kernel
theorem dL_law_712 : decode cL_law 712 = .ok (.aload_n 2, 1) := by decide +kernel
theorem dL_law_713 : decode cL_law 713 = .ok (.aload_n 0, 1) := by decide +kernel
theorem dL_law_714 : decode cL_law 714 = .ok (.iload_n 3, 1) := by decide +kernel
theorem dL_law_715 : decode cL_law 715 = .ok (.iconst 1, 1) := by decide +kernel
theorem dL_law_716 : decode cL_law 716 = .ok (.iadd, 1) := by decide +kernel
theorem dL_law_717 : decode cL_law 717 = .ok (.iaload, 1) := by decide +kernel
theorem dL_law_718 : decode cL_law 718 = .ok (.aload_n 0, 1) := by decide +kernel
theorem dL_law_719 : decode cL_law 719 = .ok (.iload_n 3, 1) := by decide +kernel
theorem dL_law_720 : decode cL_law 720 = .ok (.iconst 2, 1) := by decide +kernel
theorem dL_law_721 : decode cL_law 721 = .ok (.iadd, 1) := by decide +kernel
theorem dL_law_722 : decode cL_law 722 = .ok (.iaload, 1) := by decide +kernel
theorem dL_law_723 : decode cL_law 723 = .ok (.invokevirtual 101, 3) := by decide +kernel
theorem dL_law_726 : decode cL_law 726 = .ok (.if_icmp .eq 207, 3) := by decide +kernel
theorem dL_law_729 : decode cL_law 729 = .ok (.iconst 0, 1) := by decide +kernel
theorem dL_law_730 : decode cL_law 730 = .ok (.ireturn, 1) := by decide +kernel
theorem dL_law_731 : decode cL_law 731 = .ok (.aload_n 1, 1) := by decide +kernel
theorem dL_law_732 : decode cL_law 732 = .ok (.aload_n 0, 1) := by decide +kernel
theorem dL_law_733 : decode cL_law 733 = .ok (.iload_n 3, 1) := by decide +kernel
theorem dL_law_734 : decode cL_law 734 = .ok (.iconst 1, 1) := by decide +kernel
theorem dL_law_735 : decode cL_law 735 = .ok (.iadd, 1) := by decide +kernel
theorem dL_law_736 : decode cL_law 736 = .ok (.iaload, 1) := by decide +kernel
theorem dL_law_737 : decode cL_law 737 = .ok (.invokevirtual 102, 3) := by decide +kernel
theorem dL_law_740 : decode cL_law 740 = .ok (.aload_n 2, 1) := by decide +kernel
theorem dL_law_741 : decode cL_law 741 = .ok (.aload_n 0, 1) := by decide +kernel
theorem dL_law_742 : decode cL_law 742 = .ok (.iload_n 3, 1) := by decide +kernel
theorem dL_law_743 : decode cL_law 743 = .ok (.iconst 1, 1) := by decide +kernel
theorem dL_law_744 : decode cL_law 744 = .ok (.iadd, 1) := by decide +kernel
theorem dL_law_745 : decode cL_law 745 = .ok (.iaload, 1) := by decide +kernel
theorem dL_law_746 : decode cL_law 746 = .ok (.invokevirtual 105, 3) := by decide +kernel
theorem dL_law_749 : decode cL_law 749 = .ok (.if_icmp .eq 184, 3) := by decide +kernel
theorem dL_law_752 : decode cL_law 752 = .ok (.iconst 0, 1) := by decide +kernel
theorem dL_law_753 : decode cL_law 753 = .ok (.ireturn, 1) := by decide +kernel
theorem dL_law_754 : decode cL_law 754 = .ok (.aload_n 1, 1) := by decide +kernel
theorem dL_law_755 : decode cL_law 755 = .ok (.aload_n 0, 1) := by decide +kernel
theorem dL_law_756 : decode cL_law 756 = .ok (.iload_n 3, 1) := by decide +kernel
theorem dL_law_757 : decode cL_law 757 = .ok (.iconst 1, 1) := by decide +kernel
theorem dL_law_758 : decode cL_law 758 = .ok (.iadd, 1) := by decide +kernel
theorem dL_law_759 : decode cL_law 759 = .ok (.iaload, 1) := by decide +kernel
theorem dL_law_760 : decode cL_law 760 = .ok (.invokevirtual 106, 3) := by decide +kernel
theorem dL_law_763 : decode cL_law 763 = .ok (.aload_n 2, 1) := by decide +kernel
theorem dL_law_764 : decode cL_law 764 = .ok (.aload_n 0, 1) := by decide +kernel
theorem dL_law_765 : decode cL_law 765 = .ok (.iload_n 3, 1) := by decide +kernel
theorem dL_law_766 : decode cL_law 766 = .ok (.iconst 1, 1) := by decide +kernel
theorem dL_law_767 : decode cL_law 767 = .ok (.iadd, 1) := by decide +kernel
theorem dL_law_768 : decode cL_law 768 = .ok (.iaload, 1) := by decide +kernel
theorem dL_law_769 : decode cL_law 769 = .ok (.invokevirtual 109, 3) := by decide +kernel
theorem dL_law_772 : decode cL_law 772 = .ok (.if_icmp .eq 161, 3) := by decide +kernel
theorem dL_law_775 : decode cL_law 775 = .ok (.iconst 0, 1) := by decide +kernel
theorem dL_law_776 : decode cL_law 776 = .ok (.ireturn, 1) := by decide +kernel
theorem dL_law_777 : decode cL_law 777 = .ok (.aload_n 1, 1) := by decide +kernel
theorem dL_law_778 : decode cL_law 778 = .ok (.aload_n 0, 1) := by decide +kernel
theorem dL_law_779 : decode cL_law 779 = .ok (.iload_n 3, 1) := by decide +kernel
theorem dL_law_780 : decode cL_law 780 = .ok (.iconst 1, 1) := by decide +kernel
theorem dL_law_781 : decode cL_law 781 = .ok (.iadd, 1) := by decide +kernel
theorem dL_law_782 : decode cL_law 782 = .ok (.iaload, 1) := by decide +kernel
theorem dL_law_783 : decode cL_law 783 = .ok (.aload_n 0, 1) := by decide +kernel
theorem dL_law_784 : decode cL_law 784 = .ok (.iload_n 3, 1) := by decide +kernel
theorem dL_law_785 : decode cL_law 785 = .ok (.iconst 2, 1) := by decide +kernel
theorem dL_law_786 : decode cL_law 786 = .ok (.iadd, 1) := by decide +kernel
theorem dL_law_787 : decode cL_law 787 = .ok (.iaload, 1) := by decide +kernel
theorem dL_law_788 : decode cL_law 788 = .ok (.aload_n 0, 1) := by decide +kernel
theorem dL_law_789 : decode cL_law 789 = .ok (.iload_n 3, 1) := by decide +kernel
theorem dL_law_790 : decode cL_law 790 = .ok (.iconst 3, 1) := by decide +kernel
theorem dL_law_791 : decode cL_law 791 = .ok (.iadd, 1) := by decide +kernel
theorem dL_law_792 : decode cL_law 792 = .ok (.iaload, 1) := by decide +kernel
theorem dL_law_793 : decode cL_law 793 = .ok (.invokevirtual 110, 3) := by decide +kernel
theorem dL_law_796 : decode cL_law 796 = .ok (.aload_n 2, 1) := by decide +kernel
theorem dL_law_797 : decode cL_law 797 = .ok (.aload_n 0, 1) := by decide +kernel
theorem dL_law_798 : decode cL_law 798 = .ok (.iload_n 3, 1) := by decide +kernel
theorem dL_law_799 : decode cL_law 799 = .ok (.iconst 1, 1) := by decide +kernel
theorem dL_law_800 : decode cL_law 800 = .ok (.iadd, 1) := by decide +kernel
theorem dL_law_801 : decode cL_law 801 = .ok (.iaload, 1) := by decide +kernel
theorem dL_law_802 : decode cL_law 802 = .ok (.aload_n 0, 1) := by decide +kernel
theorem dL_law_803 : decode cL_law 803 = .ok (.iload_n 3, 1) := by decide +kernel
theorem dL_law_804 : decode cL_law 804 = .ok (.iconst 2, 1) := by decide +kernel
theorem dL_law_805 : decode cL_law 805 = .ok (.iadd, 1) := by decide +kernel
theorem dL_law_806 : decode cL_law 806 = .ok (.iaload, 1) := by decide +kernel
theorem dL_law_807 : decode cL_law 807 = .ok (.aload_n 0, 1) := by decide +kernel
theorem dL_law_808 : decode cL_law 808 = .ok (.iload_n 3, 1) := by decide +kernel
theorem dL_law_809 : decode cL_law 809 = .ok (.iconst 3, 1) := by decide +kernel
theorem dL_law_810 : decode cL_law 810 = .ok (.iadd, 1) := by decide +kernel
theorem dL_law_811 : decode cL_law 811 = .ok (.iaload, 1) := by decide +kernel
theorem dL_law_812 : decode cL_law 812 = .ok (.invokevirtual 114, 3) := by decide +kernel
theorem dL_law_815 : decode cL_law 815 = .ok (.lcmp, 1) := by decide +kernel
theorem dL_law_816 : decode cL_law 816 = .ok (.ifCond .eq 117, 3) := by decide +kernel
theorem dL_law_819 : decode cL_law 819 = .ok (.iconst 0, 1) := by decide +kernel
theorem dL_law_820 : decode cL_law 820 = .ok (.ireturn, 1) := by decide +kernel
theorem dL_law_821 : decode cL_law 821 = .ok (.aload_n 1, 1) := by decide +kernel
theorem dL_law_822 : decode cL_law 822 = .ok (.aload_n 0, 1) := by decide +kernel
theorem dL_law_823 : decode cL_law 823 = .ok (.iload_n 3, 1) := by decide +kernel
theorem dL_law_824 : decode cL_law 824 = .ok (.iconst 1, 1) := by decide +kernel
theorem dL_law_825 : decode cL_law 825 = .ok (.iadd, 1) := by decide +kernel
theorem dL_law_826 : decode cL_law 826 = .ok (.iaload, 1) := by decide +kernel
theorem dL_law_827 : decode cL_law 827 = .ok (.aload_n 0, 1) := by decide +kernel
theorem dL_law_828 : decode cL_law 828 = .ok (.iload_n 3, 1) := by decide +kernel
theorem dL_law_829 : decode cL_law 829 = .ok (.iconst 2, 1) := by decide +kernel
theorem dL_law_830 : decode cL_law 830 = .ok (.iadd, 1) := by decide +kernel
theorem dL_law_831 : decode cL_law 831 = .ok (.iaload, 1) := by decide +kernel
theorem dL_law_832 : decode cL_law 832 = .ok (.aload_n 0, 1) := by decide +kernel
theorem dL_law_833 : decode cL_law 833 = .ok (.iload_n 3, 1) := by decide +kernel
theorem dL_law_834 : decode cL_law 834 = .ok (.iconst 3, 1) := by decide +kernel
theorem dL_law_835 : decode cL_law 835 = .ok (.iadd, 1) := by decide +kernel
theorem dL_law_836 : decode cL_law 836 = .ok (.iaload, 1) := by decide +kernel
theorem dL_law_837 : decode cL_law 837 = .ok (.invokevirtual 115, 3) := by decide +kernel
theorem dL_law_840 : decode cL_law 840 = .ok (.aload_n 2, 1) := by decide +kernel
theorem dL_law_841 : decode cL_law 841 = .ok (.aload_n 0, 1) := by decide +kernel
theorem dL_law_842 : decode cL_law 842 = .ok (.iload_n 3, 1) := by decide +kernel
theorem dL_law_843 : decode cL_law 843 = .ok (.iconst 1, 1) := by decide +kernel
theorem dL_law_844 : decode cL_law 844 = .ok (.iadd, 1) := by decide +kernel
theorem dL_law_845 : decode cL_law 845 = .ok (.iaload, 1) := by decide +kernel
theorem dL_law_846 : decode cL_law 846 = .ok (.aload_n 0, 1) := by decide +kernel
theorem dL_law_847 : decode cL_law 847 = .ok (.iload_n 3, 1) := by decide +kernel
theorem dL_law_848 : decode cL_law 848 = .ok (.iconst 2, 1) := by decide +kernel
theorem dL_law_849 : decode cL_law 849 = .ok (.iadd, 1) := by decide +kernel
theorem dL_law_850 : decode cL_law 850 = .ok (.iaload, 1) := by decide +kernel
theorem dL_law_851 : decode cL_law 851 = .ok (.aload_n 0, 1) := by decide +kernel
theorem dL_law_852 : decode cL_law 852 = .ok (.iload_n 3, 1) := by decide +kernel
theorem dL_law_853 : decode cL_law 853 = .ok (.iconst 3, 1) := by decide +kernel
theorem dL_law_854 : decode cL_law 854 = .ok (.iadd, 1) := by decide +kernel
theorem dL_law_855 : decode cL_law 855 = .ok (.iaload, 1) := by decide +kernel
theorem dL_law_856 : decode cL_law 856 = .ok (.invokevirtual 118, 3) := by decide +kernel
theorem dL_law_859 : decode cL_law 859 = .ok (.if_icmp .eq 74, 3) := by decide +kernel
theorem dL_law_862 : decode cL_law 862 = .ok (.iconst 0, 1) := by decide +kernel
theorem dL_law_863 : decode cL_law 863 = .ok (.ireturn, 1) := by decide +kernel
theorem dL_law_864 : decode cL_law 864 = .ok (.aload_n 1, 1) := by decide +kernel
theorem dL_law_865 : decode cL_law 865 = .ok (.aload_n 0, 1) := by decide +kernel
theorem dL_law_866 : decode cL_law 866 = .ok (.iload_n 3, 1) := by decide +kernel
theorem dL_law_867 : decode cL_law 867 = .ok (.iconst 1, 1) := by decide +kernel
theorem dL_law_868 : decode cL_law 868 = .ok (.iadd, 1) := by decide +kernel
theorem dL_law_869 : decode cL_law 869 = .ok (.iaload, 1) := by decide +kernel
theorem dL_law_870 : decode cL_law 870 = .ok (.invokevirtual 119, 3) := by decide +kernel
theorem dL_law_873 : decode cL_law 873 = .ok (.aload_n 2, 1) := by decide +kernel
theorem dL_law_874 : decode cL_law 874 = .ok (.aload_n 0, 1) := by decide +kernel
theorem dL_law_875 : decode cL_law 875 = .ok (.iload_n 3, 1) := by decide +kernel
theorem dL_law_876 : decode cL_law 876 = .ok (.iconst 1, 1) := by decide +kernel
theorem dL_law_877 : decode cL_law 877 = .ok (.iadd, 1) := by decide +kernel
theorem dL_law_878 : decode cL_law 878 = .ok (.iaload, 1) := by decide +kernel
theorem dL_law_879 : decode cL_law 879 = .ok (.invokevirtual 122, 3) := by decide +kernel
theorem dL_law_882 : decode cL_law 882 = .ok (.if_icmp .eq 51, 3) := by decide +kernel
theorem dL_law_885 : decode cL_law 885 = .ok (.iconst 0, 1) := by decide +kernel
theorem dL_law_886 : decode cL_law 886 = .ok (.ireturn, 1) := by decide +kernel
theorem dL_law_887 : decode cL_law 887 = .ok (.aload_n 1, 1) := by decide +kernel
theorem dL_law_888 : decode cL_law 888 = .ok (.aload_n 0, 1) := by decide +kernel
theorem dL_law_889 : decode cL_law 889 = .ok (.iload_n 3, 1) := by decide +kernel
theorem dL_law_890 : decode cL_law 890 = .ok (.iconst 1, 1) := by decide +kernel
theorem dL_law_891 : decode cL_law 891 = .ok (.iadd, 1) := by decide +kernel
theorem dL_law_892 : decode cL_law 892 = .ok (.iaload, 1) := by decide +kernel
theorem dL_law_893 : decode cL_law 893 = .ok (.invokevirtual 123, 3) := by decide +kernel
theorem dL_law_896 : decode cL_law 896 = .ok (.aload_n 2, 1) := by decide +kernel
theorem dL_law_897 : decode cL_law 897 = .ok (.aload_n 0, 1) := by decide +kernel
theorem dL_law_898 : decode cL_law 898 = .ok (.iload_n 3, 1) := by decide +kernel
theorem dL_law_899 : decode cL_law 899 = .ok (.iconst 1, 1) := by decide +kernel
theorem dL_law_900 : decode cL_law 900 = .ok (.iadd, 1) := by decide +kernel
theorem dL_law_901 : decode cL_law 901 = .ok (.iaload, 1) := by decide +kernel
theorem dL_law_902 : decode cL_law 902 = .ok (.invokevirtual 126, 3) := by decide +kernel
theorem dL_law_905 : decode cL_law 905 = .ok (.if_icmp .eq 28, 3) := by decide +kernel
theorem dL_law_908 : decode cL_law 908 = .ok (.iconst 0, 1) := by decide +kernel
theorem dL_law_909 : decode cL_law 909 = .ok (.ireturn, 1) := by decide +kernel
theorem dL_law_910 : decode cL_law 910 = .ok (.aload_n 1, 1) := by decide +kernel
theorem dL_law_911 : decode cL_law 911 = .ok (.aload_n 0, 1) := by decide +kernel
theorem dL_law_912 : decode cL_law 912 = .ok (.iload_n 3, 1) := by decide +kernel
theorem dL_law_913 : decode cL_law 913 = .ok (.iconst 1, 1) := by decide +kernel
theorem dL_law_914 : decode cL_law 914 = .ok (.iadd, 1) := by decide +kernel
theorem dL_law_915 : decode cL_law 915 = .ok (.iaload, 1) := by decide +kernel
theorem dL_law_916 : decode cL_law 916 = .ok (.invokevirtual 127, 3) := by decide +kernel
theorem dL_law_919 : decode cL_law 919 = .ok (.aload_n 2, 1) := by decide +kernel
theorem dL_law_920 : decode cL_law 920 = .ok (.aload_n 0, 1) := by decide +kernel
theorem dL_law_921 : decode cL_law 921 = .ok (.iload_n 3, 1) := by decide +kernel
theorem dL_law_922 : decode cL_law 922 = .ok (.iconst 1, 1) := by decide +kernel
theorem dL_law_923 : decode cL_law 923 = .ok (.iadd, 1) := by decide +kernel
theorem dL_law_924 : decode cL_law 924 = .ok (.iaload, 1) := by decide +kernel
theorem dL_law_925 : decode cL_law 925 = .ok (.invokevirtual 130, 3) := by decide +kernel
theorem dL_law_928 : decode cL_law 928 = .ok (.if_icmp .eq 5, 3) := by decide +kernel
theorem dL_law_931 : decode cL_law 931 = .ok (.iconst 0, 1) := by decide +kernel
theorem dL_law_932 : decode cL_law 932 = .ok (.ireturn, 1) := by decide +kernel
theorem dL_law_933 : decode cL_law 933 = .ok (.iinc 3 7, 3) := by decide +kernel
theorem dL_law_936 : decode cL_law 936 = .ok (.goto (-918), 3) := by decide +kernel
theorem dL_law_939 : decode cL_law 939 = .ok (.iconst 1, 1) := by decide +kernel
theorem dL_law_940 : decode cL_law 940 = .ok (.ireturn, 1) := by decide +kernel
end
section
theorem minX0 : ∀ w ∈ u_ws RX0 TX0 7, w ∈ lw_tbl := by decide +kernel
theorem minX1 : ∀ w ∈ u_ws RX1 TX1 6, w ∈ lw_tbl := by decide +kernel
theorem minX3 : ∀ w ∈ u_ws RX3 TX3 2, w ∈ lw_tbl := by decide +kernel
theorem minX4 : ∀ w ∈ u_ws RX4 TX4 13, w ∈ lw_tbl := by decide +kernel
theorem minX5 : ∀ w ∈ u_ws RX5 TX5 3, w ∈ lw_tbl := by decide +kernel
theorem minX6 : ∀ w ∈ u_ws RX6 TX6 13, w ∈ lw_tbl := by decide +kernel
theorem minX7 : ∀ w ∈ u_ws RX7 TX7 4, w ∈ lw_tbl := by decide +kernel
theorem minX8 : ∀ w ∈ u_ws RX8 TX8 11, w ∈ lw_tbl := by decide +kernel
theorem minX9 : ∀ w ∈ u_ws RX9 TX9 37, w ∈ lw_tbl := by decide +kernel
theorem mq_0 : Cond.selects "NodTax" ⟨"NodTax", "goneThrough", "(I)LNodTax$Walk;"⟩ ⟨"NodTax", "goneThrough", "(I)LNodTax$Walk;"⟩ ∈ lw_tbl := List.mem_of_getElem? (i := 0) (by decide +kernel)
theorem mq_1 : Cond.selects "NodTax$Walk" ⟨"NodTax$Walk", "changeLevels", "(LNodTax$Parish;IIZ)V"⟩ ⟨"NodTax$Walk", "changeLevels", "(LNodTax$Parish;IIZ)V"⟩ ∈ lw_tbl := List.mem_of_getElem? (i := 1) (by decide +kernel)
theorem mq_2 : Cond.selects "NodTax$Walk" ⟨"NodTax$Walk", "startled", "(LNodTax$Parish;I)I"⟩ ⟨"NodTax$Walk", "startled", "(LNodTax$Parish;I)I"⟩ ∈ lw_tbl := List.mem_of_getElem? (i := 2) (by decide +kernel)
theorem mq_3 : Cond.selects "NodTax$Walk" ⟨"NodTax$Walk", "findHeads", "(LNodTax$Parish;I)V"⟩ ⟨"NodTax$Walk", "findHeads", "(LNodTax$Parish;I)V"⟩ ∈ lw_tbl := List.mem_of_getElem? (i := 3) (by decide +kernel)
theorem mq_4 : Cond.selects "NodTax$Walk" ⟨"NodTax$Walk", "elbow", "(LNodTax$Parish;)V"⟩ ⟨"NodTax$Walk", "elbow", "(LNodTax$Parish;)V"⟩ ∈ lw_tbl := List.mem_of_getElem? (i := 4) (by decide +kernel)
theorem mq_5 : Cond.selects "NodTax$Walk" ⟨"NodTax$Walk", "count", "(LNodTax$Parish;I)V"⟩ ⟨"NodTax$Walk", "count", "(LNodTax$Parish;I)V"⟩ ∈ lw_tbl := List.mem_of_getElem? (i := 5) (by decide +kernel)
theorem mq_6 : Cond.selects "NodTax$CheapestOrder" ⟨"NodTax$CheapestOrder", "loss", "(LNodTax$Walk;)I"⟩ ⟨"NodTax$CheapestOrder", "loss", "(LNodTax$Walk;)I"⟩ ∈ lw_tbl := List.mem_of_getElem? (i := 6) (by decide +kernel)
theorem mq_7 : Cond.selects "NodTax" ⟨"NodTax", "bestStart", "(Z)I"⟩ ⟨"NodTax", "bestStart", "(Z)I"⟩ ∈ lw_tbl := List.mem_of_getElem? (i := 7) (by decide +kernel)
theorem mq_8 : Cond.selects "NodTax" ⟨"NodTax", "bestChange", "(Z)I"⟩ ⟨"NodTax", "bestChange", "(Z)I"⟩ ∈ lw_tbl := List.mem_of_getElem? (i := 8) (by decide +kernel)
theorem mq_9 : Cond.selects "NodTax" ⟨"NodTax", "isNewChange", "(II)Z"⟩ ⟨"NodTax", "isNewChange", "(II)Z"⟩ ∈ lw_tbl := List.mem_of_getElem? (i := 9) (by decide +kernel)
theorem mq_10 : Cond.selects "NodTax" ⟨"NodTax", "nodsWhenChanged", "(II)I"⟩ ⟨"NodTax", "nodsWhenChanged", "(II)I"⟩ ∈ lw_tbl := List.mem_of_getElem? (i := 10) (by decide +kernel)
theorem mq_11 : Cond.selects "NodTax" ⟨"NodTax", "fewestUprights", "(I)I"⟩ ⟨"NodTax", "fewestUprights", "(I)I"⟩ ∈ lw_tbl := List.mem_of_getElem? (i := 11) (by decide +kernel)
theorem mq_12 : Cond.selects "NodTax" ⟨"NodTax", "isTrialTaxWithin", "(I)Z"⟩ ⟨"NodTax", "isTrialTaxWithin", "(I)Z"⟩ ∈ lw_tbl := List.mem_of_getElem? (i := 12) (by decide +kernel)
theorem mq_13 : Cond.selects "NodTax" ⟨"NodTax", "rateAgainstHell", "()I"⟩ ⟨"NodTax", "rateAgainstHell", "()I"⟩ ∈ lw_tbl := List.mem_of_getElem? (i := 13) (by decide +kernel)
theorem mq_14 : Cond.selects "NodTax" ⟨"NodTax", "preachedRefusal", "()I"⟩ ⟨"NodTax", "preachedRefusal", "()I"⟩ ∈ lw_tbl := List.mem_of_getElem? (i := 14) (by decide +kernel)
theorem mq_15 : Cond.selects "NodTax" ⟨"NodTax", "dipBits", "(IZ)I"⟩ ⟨"NodTax", "dipBits", "(IZ)I"⟩ ∈ lw_tbl := List.mem_of_getElem? (i := 15) (by decide +kernel)
theorem mq_16 : Cond.selects "NodTax" ⟨"NodTax", "fillDipRows", "()V"⟩ ⟨"NodTax", "fillDipRows", "()V"⟩ ∈ lw_tbl := List.mem_of_getElem? (i := 16) (by decide +kernel)
theorem mq_17 : Cond.selects "NodTax" ⟨"NodTax", "pairsAlike", "()I"⟩ ⟨"NodTax", "pairsAlike", "()I"⟩ ∈ lw_tbl := List.mem_of_getElem? (i := 17) (by decide +kernel)
theorem mq_18 : Cond.selects "NodTax" ⟨"NodTax", "areAlike", "(II)Z"⟩ ⟨"NodTax", "areAlike", "(II)Z"⟩ ∈ lw_tbl := List.mem_of_getElem? (i := 18) (by decide +kernel)
theorem mq_19 : Cond.selects "NodTax" ⟨"NodTax", "pairAlike", "(I)I"⟩ ⟨"NodTax", "pairAlike", "(I)I"⟩ ∈ lw_tbl := List.mem_of_getElem? (i := 19) (by decide +kernel)
theorem mq_20 : Cond.selects "NodTax$Rivals" ⟨"NodTax$Rivals", "doesAnybodyGo", "(LNodTax$Parish;)Z"⟩ ⟨"NodTax$Rivals", "doesAnybodyGo", "(LNodTax$Parish;)Z"⟩ ∈ lw_tbl := List.mem_of_getElem? (i := 20) (by decide +kernel)
theorem mq_21 : Cond.selects "NodTax$Rivals" ⟨"NodTax$Rivals", "bestChurch", "(II)I"⟩ ⟨"NodTax$Rivals", "bestChurch", "(II)I"⟩ ∈ lw_tbl := List.mem_of_getElem? (i := 21) (by decide +kernel)
theorem mq_22 : Cond.selects "NodTax$Rivals" ⟨"NodTax$Rivals", "liking", "(III)I"⟩ ⟨"NodTax$Rivals", "liking", "(III)I"⟩ ∈ lw_tbl := List.mem_of_getElem? (i := 22) (by decide +kernel)
theorem mq_23 : Cond.selects "NodTax$Weather" ⟨"NodTax$Weather", "goOn", "(LNodTax$Parish;LNodTax$Pad;[LNodTax$Walk;IJ)V"⟩ ⟨"NodTax$Weather", "goOn", "(LNodTax$Parish;LNodTax$Pad;[LNodTax$Walk;IJ)V"⟩ ∈ lw_tbl := List.mem_of_getElem? (i := 23) (by decide +kernel)
theorem mq_24 : Cond.selects "NodTax" ⟨"NodTax", "yearTotal", "(III)I"⟩ ⟨"NodTax", "yearTotal", "(III)I"⟩ ∈ lw_tbl := List.mem_of_getElem? (i := 24) (by decide +kernel)
theorem mq_25 : Cond.selects "NodTax" ⟨"NodTax", "toldOf", "(II)I"⟩ ⟨"NodTax", "toldOf", "(II)I"⟩ ∈ lw_tbl := List.mem_of_getElem? (i := 25) (by decide +kernel)
theorem mq_26 : Cond.selects "NodTaxModel" ⟨"NodTaxModel", "whoSits", "(I)I"⟩ ⟨"NodTaxModel", "whoSits", "(I)I"⟩ ∈ lw_tbl := List.mem_of_getElem? (i := 26) (by decide +kernel)
theorem mq_27 : Cond.selects "NodTaxModel" ⟨"NodTaxModel", "isThere", "(I)Z"⟩ ⟨"NodTaxModel", "isThere", "(I)Z"⟩ ∈ lw_tbl := List.mem_of_getElem? (i := 27) (by decide +kernel)
theorem mq_28 : Cond.selects "NodTaxModel" ⟨"NodTaxModel", "faultOf", "()I"⟩ ⟨"NodTaxModel", "faultOf", "()I"⟩ ∈ lw_tbl := List.mem_of_getElem? (i := 28) (by decide +kernel)
theorem mq_29 : Cond.selects "NodTaxModel" ⟨"NodTaxModel", "lay", "()V"⟩ ⟨"NodTaxModel", "lay", "()V"⟩ ∈ lw_tbl := List.mem_of_getElem? (i := 29) (by decide +kernel)
theorem mq_30 : Cond.selects "NodTaxModel" ⟨"NodTaxModel", "preach", "(I)V"⟩ ⟨"NodTaxModel", "preach", "(I)V"⟩ ∈ lw_tbl := List.mem_of_getElem? (i := 30) (by decide +kernel)
theorem mq_31 : Cond.selects "NodTaxModel" ⟨"NodTaxModel", "minute", "(I)V"⟩ ⟨"NodTaxModel", "minute", "(I)V"⟩ ∈ lw_tbl := List.mem_of_getElem? (i := 31) (by decide +kernel)
theorem mq_32 : Cond.selects "NodTaxModel" ⟨"NodTaxModel", "change", "(II)I"⟩ ⟨"NodTaxModel", "change", "(II)I"⟩ ∈ lw_tbl := List.mem_of_getElem? (i := 32) (by decide +kernel)
theorem mq_33 : Cond.selects "NodTaxModel" ⟨"NodTaxModel", "turn", "(I)I"⟩ ⟨"NodTaxModel", "turn", "(I)I"⟩ ∈ lw_tbl := List.mem_of_getElem? (i := 33) (by decide +kernel)
theorem mq_34 : Cond.selects "NodTaxModel" ⟨"NodTaxModel", "beside", "(II)I"⟩ ⟨"NodTaxModel", "beside", "(II)I"⟩ ∈ lw_tbl := List.mem_of_getElem? (i := 34) (by decide +kernel)
theorem mq_35 : Cond.selects "NodTaxModel" ⟨"NodTaxModel", "isMinute", "(I)Z"⟩ ⟨"NodTaxModel", "isMinute", "(I)Z"⟩ ∈ lw_tbl := List.mem_of_getElem? (i := 35) (by decide +kernel)
theorem mq_36 : Cond.selects "NodTaxModel" ⟨"NodTaxModel", "gainOf", "()I"⟩ ⟨"NodTaxModel", "gainOf", "()I"⟩ ∈ lw_tbl := List.mem_of_getElem? (i := 36) (by decide +kernel)
theorem mq_37 : Cond.selects "NodTaxModel" ⟨"NodTaxModel", "sort", "()V"⟩ ⟨"NodTaxModel", "sort", "()V"⟩ ∈ lw_tbl := List.mem_of_getElem? (i := 37) (by decide +kernel)
theorem mq_38 : Cond.selects "NodTaxModel" ⟨"NodTaxModel", "swap", "(II)V"⟩ ⟨"NodTaxModel", "swap", "(II)V"⟩ ∈ lw_tbl := List.mem_of_getElem? (i := 38) (by decide +kernel)
theorem mq_39 : Cond.selects "NodTaxModel" ⟨"NodTaxModel", "goOn", "()Z"⟩ ⟨"NodTaxModel", "goOn", "()Z"⟩ ∈ lw_tbl := List.mem_of_getElem? (i := 39) (by decide +kernel)
theorem mq_40 : Cond.selects "NodTaxModel" ⟨"NodTaxModel", "layPreached", "()I"⟩ ⟨"NodTaxModel", "layPreached", "()I"⟩ ∈ lw_tbl := List.mem_of_getElem? (i := 40) (by decide +kernel)
theorem mq_41 : Cond.selects "NodTaxModel" ⟨"NodTaxModel", "isCounted", "()Z"⟩ ⟨"NodTaxModel", "isCounted", "()Z"⟩ ∈ lw_tbl := List.mem_of_getElem? (i := 41) (by decide +kernel)
theorem mq_42 : Cond.selects "NodTaxModel" ⟨"NodTaxModel", "areAlike", "(II)Z"⟩ ⟨"NodTaxModel", "areAlike", "(II)Z"⟩ ∈ lw_tbl := List.mem_of_getElem? (i := 42) (by decide +kernel)
theorem mq_43 : Cond.selects "NodTaxModel" ⟨"NodTaxModel", "likes", "(II)I"⟩ ⟨"NodTaxModel", "likes", "(II)I"⟩ ∈ lw_tbl := List.mem_of_getElem? (i := 43) (by decide +kernel)
theorem mq_45 : Jvm.Cond.initialized "NodTax" ∈ lw_tbl := List.mem_of_getElem? (i := 45) (by decide +kernel)
theorem mq_46 : Jvm.Cond.initialized "NodTax$Parish" ∈ lw_tbl := List.mem_of_getElem? (i := 46) (by decide +kernel)
theorem mq_47 : Jvm.Cond.initialized "NodTax$Pad" ∈ lw_tbl := List.mem_of_getElem? (i := 47) (by decide +kernel)
theorem mq_48 : Jvm.Cond.initialized "NodTax$Orders" ∈ lw_tbl := List.mem_of_getElem? (i := 48) (by decide +kernel)
theorem mq_49 : Jvm.Cond.initialized "NodTax$CheapestOrder" ∈ lw_tbl := List.mem_of_getElem? (i := 49) (by decide +kernel)
theorem mq_50 : Jvm.Cond.initialized "NodTax$FittingOrders" ∈ lw_tbl := List.mem_of_getElem? (i := 50) (by decide +kernel)
theorem mq_51 : Jvm.Cond.initialized "NodTax$Weather" ∈ lw_tbl := List.mem_of_getElem? (i := 51) (by decide +kernel)
theorem mq_52 : Jvm.Cond.initialized "NodTax$Rivals" ∈ lw_tbl := List.mem_of_getElem? (i := 52) (by decide +kernel)
theorem mq_53 : Jvm.Cond.initialized "NodTax$Walk" ∈ lw_tbl := List.mem_of_getElem? (i := 53) (by decide +kernel)
theorem mq_54 : Jvm.Cond.initialized "NodTaxModel" ∈ lw_tbl := List.mem_of_getElem? (i := 54) (by decide +kernel)
theorem mq_55 : Jvm.Cond.initialized "java/lang/Integer" ∈ lw_tbl := List.mem_of_getElem? (i := 55) (by decide +kernel)
theorem mq_56 : Jvm.Cond.initialized "java/lang/System" ∈ lw_tbl := List.mem_of_getElem? (i := 56) (by decide +kernel)
theorem mq_57 : Jvm.Cond.initialized "java/lang/Math" ∈ lw_tbl := List.mem_of_getElem? (i := 57) (by decide +kernel)
theorem mq_72 : Jvm.Cond.fieldLink "NodTax$Parish" (9 : Nat) "NodTax$Parish" "rows" "I" ∈ lw_tbl := List.mem_of_getElem? (i := 72) (by decide +kernel)
theorem mq_73 : Jvm.Cond.fieldLink "NodTax" (77 : Nat) "NodTax$Parish" "rows" "I" ∈ lw_tbl := List.mem_of_getElem? (i := 73) (by decide +kernel)
theorem mq_74 : Jvm.Cond.fieldLink "NodTax$Parish" (15 : Nat) "NodTax$Parish" "reach" "I" ∈ lw_tbl := List.mem_of_getElem? (i := 74) (by decide +kernel)
theorem mq_75 : Jvm.Cond.fieldLink "NodTax$Walk" (117 : Nat) "NodTax$Parish" "reach" "I" ∈ lw_tbl := List.mem_of_getElem? (i := 75) (by decide +kernel)
theorem mq_76 : Jvm.Cond.fieldLink "NodTax" (275 : Nat) "NodTax$Parish" "reach" "I" ∈ lw_tbl := List.mem_of_getElem? (i := 76) (by decide +kernel)
theorem mq_77 : Jvm.Cond.fieldLink "NodTax$Parish" (18 : Nat) "NodTax$Parish" "rate" "I" ∈ lw_tbl := List.mem_of_getElem? (i := 77) (by decide +kernel)
theorem mq_78 : Jvm.Cond.fieldLink "NodTax$Walk" (144 : Nat) "NodTax$Parish" "rate" "I" ∈ lw_tbl := List.mem_of_getElem? (i := 78) (by decide +kernel)
theorem mq_79 : Jvm.Cond.fieldLink "NodTax" (278 : Nat) "NodTax$Parish" "rate" "I" ∈ lw_tbl := List.mem_of_getElem? (i := 79) (by decide +kernel)
theorem mq_80 : Jvm.Cond.fieldLink "NodTax$Parish" (21 : Nat) "NodTax$Parish" "inspector" "I" ∈ lw_tbl := List.mem_of_getElem? (i := 80) (by decide +kernel)
theorem mq_81 : Jvm.Cond.fieldLink "NodTax$Walk" (132 : Nat) "NodTax$Parish" "inspector" "I" ∈ lw_tbl := List.mem_of_getElem? (i := 81) (by decide +kernel)
theorem mq_82 : Jvm.Cond.fieldLink "NodTax" (281 : Nat) "NodTax$Parish" "inspector" "I" ∈ lw_tbl := List.mem_of_getElem? (i := 82) (by decide +kernel)
theorem mq_83 : Jvm.Cond.fieldLink "NodTax$Parish" (24 : Nat) "NodTax$Parish" "present" "I" ∈ lw_tbl := List.mem_of_getElem? (i := 83) (by decide +kernel)
theorem mq_84 : Jvm.Cond.fieldLink "NodTax" (106 : Nat) "NodTax$Parish" "present" "I" ∈ lw_tbl := List.mem_of_getElem? (i := 84) (by decide +kernel)
theorem mq_85 : Jvm.Cond.fieldLink "NodTax$Parish" (27 : Nat) "NodTax$Parish" "uprights" "I" ∈ lw_tbl := List.mem_of_getElem? (i := 85) (by decide +kernel)
theorem mq_86 : Jvm.Cond.fieldLink "NodTax" (109 : Nat) "NodTax$Parish" "uprights" "I" ∈ lw_tbl := List.mem_of_getElem? (i := 86) (by decide +kernel)
theorem mq_87 : Jvm.Cond.fieldLink "NodTax$Parish" (30 : Nat) "NodTax$Parish" "sights" "I" ∈ lw_tbl := List.mem_of_getElem? (i := 87) (by decide +kernel)
theorem mq_88 : Jvm.Cond.fieldLink "NodTax$FittingOrders" (26 : Nat) "NodTax$Parish" "sights" "I" ∈ lw_tbl := List.mem_of_getElem? (i := 88) (by decide +kernel)
theorem mq_89 : Jvm.Cond.fieldLink "NodTax" (200 : Nat) "NodTax$Parish" "sights" "I" ∈ lw_tbl := List.mem_of_getElem? (i := 89) (by decide +kernel)
theorem mq_90 : Jvm.Cond.fieldLink "NodTax$Parish" (33 : Nat) "NodTax$Parish" "seat" "[I" ∈ lw_tbl := List.mem_of_getElem? (i := 90) (by decide +kernel)
theorem mq_91 : Jvm.Cond.fieldLink "NodTax" (93 : Nat) "NodTax$Parish" "seat" "[I" ∈ lw_tbl := List.mem_of_getElem? (i := 91) (by decide +kernel)
theorem mq_92 : Jvm.Cond.fieldLink "NodTax$Walk" (114 : Nat) "NodTax$Parish" "seat" "[I" ∈ lw_tbl := List.mem_of_getElem? (i := 92) (by decide +kernel)
theorem mq_93 : Jvm.Cond.fieldLink "NodTax$Parish" (37 : Nat) "NodTax$Parish" "awake" "[I" ∈ lw_tbl := List.mem_of_getElem? (i := 93) (by decide +kernel)
theorem mq_94 : Jvm.Cond.fieldLink "NodTax$Walk" (52 : Nat) "NodTax$Parish" "awake" "[I" ∈ lw_tbl := List.mem_of_getElem? (i := 94) (by decide +kernel)
theorem mq_95 : Jvm.Cond.fieldLink "NodTax" (97 : Nat) "NodTax$Parish" "awake" "[I" ∈ lw_tbl := List.mem_of_getElem? (i := 95) (by decide +kernel)
theorem mq_96 : Jvm.Cond.fieldLink "NodTax$Parish" (40 : Nat) "NodTax$Parish" "dull" "[I" ∈ lw_tbl := List.mem_of_getElem? (i := 96) (by decide +kernel)
theorem mq_97 : Jvm.Cond.fieldLink "NodTax" (100 : Nat) "NodTax$Parish" "dull" "[I" ∈ lw_tbl := List.mem_of_getElem? (i := 97) (by decide +kernel)
theorem mq_98 : Jvm.Cond.fieldLink "NodTax$Walk" (98 : Nat) "NodTax$Parish" "dull" "[I" ∈ lw_tbl := List.mem_of_getElem? (i := 98) (by decide +kernel)
theorem mq_99 : Jvm.Cond.fieldLink "NodTax$Parish" (43 : Nat) "NodTax$Parish" "creed" "[I" ∈ lw_tbl := List.mem_of_getElem? (i := 99) (by decide +kernel)
theorem mq_100 : Jvm.Cond.fieldLink "NodTax$Rivals" (36 : Nat) "NodTax$Parish" "creed" "[I" ∈ lw_tbl := List.mem_of_getElem? (i := 100) (by decide +kernel)
theorem mq_101 : Jvm.Cond.fieldLink "NodTax" (103 : Nat) "NodTax$Parish" "creed" "[I" ∈ lw_tbl := List.mem_of_getElem? (i := 101) (by decide +kernel)
theorem mq_102 : Jvm.Cond.fieldLink "NodTax$Walk" (123 : Nat) "NodTax$Parish" "creed" "[I" ∈ lw_tbl := List.mem_of_getElem? (i := 102) (by decide +kernel)
theorem mq_103 : Jvm.Cond.fieldLink "NodTax$Parish" (46 : Nat) "NodTax$Parish" "sightMinute" "[I" ∈ lw_tbl := List.mem_of_getElem? (i := 103) (by decide +kernel)
theorem mq_104 : Jvm.Cond.fieldLink "NodTax$FittingOrders" (31 : Nat) "NodTax$Parish" "sightMinute" "[I" ∈ lw_tbl := List.mem_of_getElem? (i := 104) (by decide +kernel)
theorem mq_105 : Jvm.Cond.fieldLink "NodTax$Parish" (49 : Nat) "NodTax$Parish" "sightDips" "[I" ∈ lw_tbl := List.mem_of_getElem? (i := 105) (by decide +kernel)
theorem mq_106 : Jvm.Cond.fieldLink "NodTax$FittingOrders" (40 : Nat) "NodTax$Parish" "sightDips" "[I" ∈ lw_tbl := List.mem_of_getElem? (i := 106) (by decide +kernel)
theorem mq_142 : Jvm.Cond.fieldLink "NodTax$Pad" (9 : Nat) "NodTax$Pad" "signs" "[I" ∈ lw_tbl := List.mem_of_getElem? (i := 142) (by decide +kernel)
theorem mq_143 : Jvm.Cond.fieldLink "NodTax$Weather" (49 : Nat) "NodTax$Pad" "signs" "[I" ∈ lw_tbl := List.mem_of_getElem? (i := 143) (by decide +kernel)
theorem mq_144 : Jvm.Cond.fieldLink "NodTax$Walk" (63 : Nat) "NodTax$Pad" "signs" "[I" ∈ lw_tbl := List.mem_of_getElem? (i := 144) (by decide +kernel)
theorem mq_145 : Jvm.Cond.fieldLink "NodTax$Orders" (34 : Nat) "NodTax$Pad" "signs" "[I" ∈ lw_tbl := List.mem_of_getElem? (i := 145) (by decide +kernel)
theorem mq_146 : Jvm.Cond.fieldLink "NodTax" (131 : Nat) "NodTax$Pad" "signs" "[I" ∈ lw_tbl := List.mem_of_getElem? (i := 146) (by decide +kernel)
theorem mq_147 : Jvm.Cond.fieldLink "NodTax$Pad" (15 : Nat) "NodTax$Pad" "length" "I" ∈ lw_tbl := List.mem_of_getElem? (i := 147) (by decide +kernel)
theorem mq_148 : Jvm.Cond.fieldLink "NodTax$Weather" (25 : Nat) "NodTax$Pad" "length" "I" ∈ lw_tbl := List.mem_of_getElem? (i := 148) (by decide +kernel)
theorem mq_149 : Jvm.Cond.fieldLink "NodTax$FittingOrders" (35 : Nat) "NodTax$Pad" "length" "I" ∈ lw_tbl := List.mem_of_getElem? (i := 149) (by decide +kernel)
theorem mq_150 : Jvm.Cond.fieldLink "NodTax$Orders" (25 : Nat) "NodTax$Pad" "length" "I" ∈ lw_tbl := List.mem_of_getElem? (i := 150) (by decide +kernel)
theorem mq_151 : Jvm.Cond.fieldLink "NodTax" (128 : Nat) "NodTax$Pad" "length" "I" ∈ lw_tbl := List.mem_of_getElem? (i := 151) (by decide +kernel)
theorem mq_169 : Jvm.Cond.fieldLink "NodTax$CheapestOrder" (9 : Nat) "NodTax$CheapestOrder" "value" "I" ∈ lw_tbl := List.mem_of_getElem? (i := 169) (by decide +kernel)
theorem mq_170 : Jvm.Cond.fieldLink "NodTax" (176 : Nat) "NodTax$CheapestOrder" "value" "I" ∈ lw_tbl := List.mem_of_getElem? (i := 170) (by decide +kernel)
theorem mq_171 : Jvm.Cond.fieldLink "NodTax$CheapestOrder" (15 : Nat) "NodTax$CheapestOrder" "leastLoss" "I" ∈ lw_tbl := List.mem_of_getElem? (i := 171) (by decide +kernel)
theorem mq_172 : Jvm.Cond.fieldLink "NodTax$CheapestOrder" (18 : Nat) "NodTax$CheapestOrder" "isForGain" "Z" ∈ lw_tbl := List.mem_of_getElem? (i := 172) (by decide +kernel)
theorem mq_173 : Jvm.Cond.fieldLink "NodTax$Orders" (9 : Nat) "NodTax$Orders" "chosen" "[I" ∈ lw_tbl := List.mem_of_getElem? (i := 173) (by decide +kernel)
theorem mq_174 : Jvm.Cond.fieldLink "NodTax$FittingOrders" (59 : Nat) "NodTax$FittingOrders" "chosen" "[I" ∈ lw_tbl := List.mem_of_getElem? (i := 174) (by decide +kernel)
theorem mq_175 : Jvm.Cond.sameField "NodTax$FittingOrders" "NodTax$Orders" "chosen" "[I" ∈ lw_tbl := List.mem_of_getElem? (i := 175) (by decide +kernel)
theorem mq_176 : Jvm.Cond.fieldLink "NodTax$Orders" (15 : Nat) "NodTax$Orders" "first" "[I" ∈ lw_tbl := List.mem_of_getElem? (i := 176) (by decide +kernel)
theorem mq_177 : Jvm.Cond.fieldLink "NodTax$FittingOrders" (62 : Nat) "NodTax$FittingOrders" "first" "[I" ∈ lw_tbl := List.mem_of_getElem? (i := 177) (by decide +kernel)
theorem mq_178 : Jvm.Cond.sameField "NodTax$FittingOrders" "NodTax$Orders" "first" "[I" ∈ lw_tbl := List.mem_of_getElem? (i := 178) (by decide +kernel)
theorem mq_179 : Jvm.Cond.fieldLink "NodTax$CheapestOrder" (45 : Nat) "NodTax$CheapestOrder" "first" "[I" ∈ lw_tbl := List.mem_of_getElem? (i := 179) (by decide +kernel)
theorem mq_180 : Jvm.Cond.sameField "NodTax$CheapestOrder" "NodTax$Orders" "first" "[I" ∈ lw_tbl := List.mem_of_getElem? (i := 180) (by decide +kernel)
theorem mq_181 : Jvm.Cond.fieldLink "NodTax$Orders" (18 : Nat) "NodTax$Orders" "left" "[I" ∈ lw_tbl := List.mem_of_getElem? (i := 181) (by decide +kernel)
theorem mq_182 : Jvm.Cond.fieldLink "NodTax$Orders" (21 : Nat) "NodTax$Orders" "length" "I" ∈ lw_tbl := List.mem_of_getElem? (i := 182) (by decide +kernel)
theorem mq_183 : Jvm.Cond.fieldLink "NodTax$FittingOrders" (58 : Nat) "NodTax$FittingOrders" "length" "I" ∈ lw_tbl := List.mem_of_getElem? (i := 183) (by decide +kernel)
theorem mq_184 : Jvm.Cond.sameField "NodTax$FittingOrders" "NodTax$Orders" "length" "I" ∈ lw_tbl := List.mem_of_getElem? (i := 184) (by decide +kernel)
theorem mq_185 : Jvm.Cond.fieldLink "NodTax$CheapestOrder" (42 : Nat) "NodTax$CheapestOrder" "length" "I" ∈ lw_tbl := List.mem_of_getElem? (i := 185) (by decide +kernel)
theorem mq_186 : Jvm.Cond.sameField "NodTax$CheapestOrder" "NodTax$Orders" "length" "I" ∈ lw_tbl := List.mem_of_getElem? (i := 186) (by decide +kernel)
theorem mq_208 : Jvm.Cond.fieldLink "NodTax$FittingOrders" (9 : Nat) "NodTax$FittingOrders" "found" "I" ∈ lw_tbl := List.mem_of_getElem? (i := 208) (by decide +kernel)
theorem mq_209 : Jvm.Cond.fieldLink "NodTax" (212 : Nat) "NodTax$FittingOrders" "found" "I" ∈ lw_tbl := List.mem_of_getElem? (i := 209) (by decide +kernel)
theorem mq_210 : Jvm.Cond.fieldLink "NodTax$FittingOrders" (15 : Nat) "NodTax$FittingOrders" "same" "I" ∈ lw_tbl := List.mem_of_getElem? (i := 210) (by decide +kernel)
theorem mq_211 : Jvm.Cond.fieldLink "NodTax" (218 : Nat) "NodTax$FittingOrders" "same" "I" ∈ lw_tbl := List.mem_of_getElem? (i := 211) (by decide +kernel)
theorem mq_227 : Jvm.Cond.fieldLink "NodTax$Weather" (9 : Nat) "NodTax$Weather" "awakeWeight" "J" ∈ lw_tbl := List.mem_of_getElem? (i := 227) (by decide +kernel)
theorem mq_228 : Jvm.Cond.fieldLink "NodTax" (254 : Nat) "NodTax$Weather" "awakeWeight" "J" ∈ lw_tbl := List.mem_of_getElem? (i := 228) (by decide +kernel)
theorem mq_229 : Jvm.Cond.fieldLink "NodTax$Weather" (15 : Nat) "NodTax$Weather" "nodWeight" "J" ∈ lw_tbl := List.mem_of_getElem? (i := 229) (by decide +kernel)
theorem mq_230 : Jvm.Cond.fieldLink "NodTax" (258 : Nat) "NodTax$Weather" "nodWeight" "J" ∈ lw_tbl := List.mem_of_getElem? (i := 230) (by decide +kernel)
theorem mq_231 : Jvm.Cond.fieldLink "NodTax$Weather" (18 : Nat) "NodTax$Weather" "allWeight" "J" ∈ lw_tbl := List.mem_of_getElem? (i := 231) (by decide +kernel)
theorem mq_232 : Jvm.Cond.fieldLink "NodTax" (261 : Nat) "NodTax$Weather" "allWeight" "J" ∈ lw_tbl := List.mem_of_getElem? (i := 232) (by decide +kernel)
theorem mq_233 : Jvm.Cond.fieldLink "NodTax$Weather" (21 : Nat) "NodTax$Weather" "coldTenths" "I" ∈ lw_tbl := List.mem_of_getElem? (i := 233) (by decide +kernel)
theorem mq_249 : Jvm.Cond.fieldLink "NodTax$Rivals" (9 : Nat) "NodTax$Rivals" "crowd" "[I" ∈ lw_tbl := List.mem_of_getElem? (i := 249) (by decide +kernel)
theorem mq_250 : Jvm.Cond.fieldLink "NodTax" (241 : Nat) "NodTax$Rivals" "crowd" "[I" ∈ lw_tbl := List.mem_of_getElem? (i := 250) (by decide +kernel)
theorem mq_251 : Jvm.Cond.fieldLink "NodTax$Rivals" (15 : Nat) "NodTax$Rivals" "rounds" "I" ∈ lw_tbl := List.mem_of_getElem? (i := 251) (by decide +kernel)
theorem mq_252 : Jvm.Cond.fieldLink "NodTax" (238 : Nat) "NodTax$Rivals" "rounds" "I" ∈ lw_tbl := List.mem_of_getElem? (i := 252) (by decide +kernel)
theorem mq_253 : Jvm.Cond.fieldLink "NodTax$Rivals" (19 : Nat) "NodTax$Rivals" "at" "[I" ∈ lw_tbl := List.mem_of_getElem? (i := 253) (by decide +kernel)
theorem mq_266 : Jvm.Cond.fieldLink "NodTax$Walk" (9 : Nat) "NodTax$Walk" "level" "[I" ∈ lw_tbl := List.mem_of_getElem? (i := 266) (by decide +kernel)
theorem mq_267 : Jvm.Cond.fieldLink "NodTax" (145 : Nat) "NodTax$Walk" "level" "[I" ∈ lw_tbl := List.mem_of_getElem? (i := 267) (by decide +kernel)
theorem mq_268 : Jvm.Cond.fieldLink "NodTax$Walk" (15 : Nat) "NodTax$Walk" "names" "I" ∈ lw_tbl := List.mem_of_getElem? (i := 268) (by decide +kernel)
theorem mq_269 : Jvm.Cond.fieldLink "NodTax$Walk" (19 : Nat) "NodTax$Walk" "starts" "I" ∈ lw_tbl := List.mem_of_getElem? (i := 269) (by decide +kernel)
theorem mq_270 : Jvm.Cond.fieldLink "NodTax$Walk" (22 : Nat) "NodTax$Walk" "taken" "I" ∈ lw_tbl := List.mem_of_getElem? (i := 270) (by decide +kernel)
theorem mq_271 : Jvm.Cond.fieldLink "NodTax$Walk" (25 : Nat) "NodTax$Walk" "nodding" "I" ∈ lw_tbl := List.mem_of_getElem? (i := 271) (by decide +kernel)
theorem mq_272 : Jvm.Cond.fieldLink "NodTax" (159 : Nat) "NodTax$Walk" "nodding" "I" ∈ lw_tbl := List.mem_of_getElem? (i := 272) (by decide +kernel)
theorem mq_273 : Jvm.Cond.fieldLink "NodTax$Walk" (28 : Nat) "NodTax$Walk" "agreeing" "I" ∈ lw_tbl := List.mem_of_getElem? (i := 273) (by decide +kernel)
theorem mq_274 : Jvm.Cond.fieldLink "NodTax" (324 : Nat) "NodTax$Walk" "agreeing" "I" ∈ lw_tbl := List.mem_of_getElem? (i := 274) (by decide +kernel)
theorem mq_275 : Jvm.Cond.fieldLink "NodTax$Walk" (31 : Nat) "NodTax$Walk" "snoring" "I" ∈ lw_tbl := List.mem_of_getElem? (i := 275) (by decide +kernel)
theorem mq_276 : Jvm.Cond.fieldLink "NodTax" (162 : Nat) "NodTax$Walk" "snoring" "I" ∈ lw_tbl := List.mem_of_getElem? (i := 276) (by decide +kernel)
theorem mq_277 : Jvm.Cond.fieldLink "NodTax$Walk" (34 : Nat) "NodTax$Walk" "nods" "I" ∈ lw_tbl := List.mem_of_getElem? (i := 277) (by decide +kernel)
theorem mq_278 : Jvm.Cond.fieldLink "NodTax$Weather" (42 : Nat) "NodTax$Walk" "nods" "I" ∈ lw_tbl := List.mem_of_getElem? (i := 278) (by decide +kernel)
theorem mq_279 : Jvm.Cond.fieldLink "NodTax" (305 : Nat) "NodTax$Walk" "nods" "I" ∈ lw_tbl := List.mem_of_getElem? (i := 279) (by decide +kernel)
theorem mq_280 : Jvm.Cond.fieldLink "NodTax$Walk" (37 : Nat) "NodTax$Walk" "dipped" "I" ∈ lw_tbl := List.mem_of_getElem? (i := 280) (by decide +kernel)
theorem mq_281 : Jvm.Cond.fieldLink "NodTax$Walk" (40 : Nat) "NodTax$Walk" "tax" "I" ∈ lw_tbl := List.mem_of_getElem? (i := 281) (by decide +kernel)
theorem mq_282 : Jvm.Cond.fieldLink "NodTax$CheapestOrder" (23 : Nat) "NodTax$Walk" "tax" "I" ∈ lw_tbl := List.mem_of_getElem? (i := 282) (by decide +kernel)
theorem mq_283 : Jvm.Cond.fieldLink "NodTax" (318 : Nat) "NodTax$Walk" "tax" "I" ∈ lw_tbl := List.mem_of_getElem? (i := 283) (by decide +kernel)
theorem mq_284 : Jvm.Cond.fieldLink "NodTax$Walk" (43 : Nat) "NodTax$Walk" "offerings" "I" ∈ lw_tbl := List.mem_of_getElem? (i := 284) (by decide +kernel)
theorem mq_285 : Jvm.Cond.fieldLink "NodTax" (321 : Nat) "NodTax$Walk" "offerings" "I" ∈ lw_tbl := List.mem_of_getElem? (i := 285) (by decide +kernel)
theorem mq_286 : Jvm.Cond.fieldLink "NodTax$Walk" (46 : Nat) "NodTax$Walk" "withheld" "I" ∈ lw_tbl := List.mem_of_getElem? (i := 286) (by decide +kernel)
theorem mq_287 : Jvm.Cond.fieldLink "NodTax$CheapestOrder" (28 : Nat) "NodTax$Walk" "withheld" "I" ∈ lw_tbl := List.mem_of_getElem? (i := 287) (by decide +kernel)
theorem mq_288 : Jvm.Cond.fieldLink "NodTax$Walk" (49 : Nat) "NodTax$Walk" "snores" "I" ∈ lw_tbl := List.mem_of_getElem? (i := 288) (by decide +kernel)
theorem mq_317 : Jvm.Cond.fieldLink "NodTax" (10 : Nat) "NodTax" "parish" "LNodTax$Parish;" ∈ lw_tbl := List.mem_of_getElem? (i := 317) (by decide +kernel)
theorem mq_318 : Jvm.Cond.fieldLink "NodTax" (16 : Nat) "NodTax" "trial" "LNodTax$Parish;" ∈ lw_tbl := List.mem_of_getElem? (i := 318) (by decide +kernel)
theorem mq_319 : Jvm.Cond.fieldLink "NodTax" (19 : Nat) "NodTax" "images" "[LNodTax$Parish;" ∈ lw_tbl := List.mem_of_getElem? (i := 319) (by decide +kernel)
theorem mq_320 : Jvm.Cond.fieldLink "NodTax" (23 : Nat) "NodTax" "kept" "[Z" ∈ lw_tbl := List.mem_of_getElem? (i := 320) (by decide +kernel)
theorem mq_321 : Jvm.Cond.fieldLink "NodTax" (30 : Nat) "NodTax" "pad" "LNodTax$Pad;" ∈ lw_tbl := List.mem_of_getElem? (i := 321) (by decide +kernel)
theorem mq_322 : Jvm.Cond.fieldLink "NodTax" (36 : Nat) "NodTax" "steps" "[LNodTax$Walk;" ∈ lw_tbl := List.mem_of_getElem? (i := 322) (by decide +kernel)
theorem mq_323 : Jvm.Cond.fieldLink "NodTax" (43 : Nat) "NodTax" "cheapest" "LNodTax$CheapestOrder;" ∈ lw_tbl := List.mem_of_getElem? (i := 323) (by decide +kernel)
theorem mq_324 : Jvm.Cond.fieldLink "NodTax" (50 : Nat) "NodTax" "fitting" "LNodTax$FittingOrders;" ∈ lw_tbl := List.mem_of_getElem? (i := 324) (by decide +kernel)
theorem mq_325 : Jvm.Cond.fieldLink "NodTax" (57 : Nat) "NodTax" "weather" "LNodTax$Weather;" ∈ lw_tbl := List.mem_of_getElem? (i := 325) (by decide +kernel)
theorem mq_326 : Jvm.Cond.fieldLink "NodTax" (64 : Nat) "NodTax" "rivals" "LNodTax$Rivals;" ∈ lw_tbl := List.mem_of_getElem? (i := 326) (by decide +kernel)
theorem mq_327 : Jvm.Cond.fieldLink "NodTax" (68 : Nat) "NodTax" "dipRows" "[J" ∈ lw_tbl := List.mem_of_getElem? (i := 327) (by decide +kernel)
theorem mq_351 : Jvm.Cond.methodLink "NodTaxLaw" (13 : Nat) ({ cls := "NodTax", name := "church", desc := "(I)I" } : Jvm.MethodName) ∈ lw_tbl := List.mem_of_getElem? (i := 351) (by decide +kernel)
theorem mq_352 : Jvm.Cond.instanceMethod ({ cls := "NodTax", name := "church", desc := "(I)I" } : Jvm.MethodName) ∈ lw_tbl := List.mem_of_getElem? (i := 352) (by decide +kernel)
theorem mq_353 : Jvm.Cond.selects "NodTax" ({ cls := "NodTax", name := "church", desc := "(I)I" } : Jvm.MethodName) ({ cls := "NodTax", name := "church", desc := "(I)I" } : Jvm.MethodName) ∈ lw_tbl := List.mem_of_getElem? (i := 353) (by decide +kernel)
theorem mq_354 : Jvm.Cond.code ({ cls := "NodTax", name := "church", desc := "(I)I" } : Jvm.MethodName) prog_1_method_2_code (3 : Nat) (Option.some Jvm.ClassFile.FieldType.int) ∈ lw_tbl := List.mem_of_getElem? (i := 354) (by decide +kernel)
theorem mq_355 : Jvm.Cond.methodLink "NodTax" (73 : Nat) ({ cls := "NodTax", name := "isOutside", desc := "(III)Z" } : Jvm.MethodName) ∈ lw_tbl := List.mem_of_getElem? (i := 355) (by decide +kernel)
theorem mq_356 : Jvm.Cond.static ({ cls := "NodTax", name := "isOutside", desc := "(III)Z" } : Jvm.MethodName) ∈ lw_tbl := List.mem_of_getElem? (i := 356) (by decide +kernel)
theorem mq_357 : Jvm.Cond.code ({ cls := "NodTax", name := "isOutside", desc := "(III)Z" } : Jvm.MethodName) prog_1_method_30_code (3 : Nat) (Option.some Jvm.ClassFile.FieldType.boolean) ∈ lw_tbl := List.mem_of_getElem? (i := 357) (by decide +kernel)
theorem mq_358 : Jvm.Cond.methodLink "NodTax" (81 : Nat) ({ cls := "NodTax$Parish", name := "rebuild", desc := "(I)V" } : Jvm.MethodName) ∈ lw_tbl := List.mem_of_getElem? (i := 358) (by decide +kernel)
theorem mq_359 : Jvm.Cond.instanceMethod ({ cls := "NodTax$Parish", name := "rebuild", desc := "(I)V" } : Jvm.MethodName) ∈ lw_tbl := List.mem_of_getElem? (i := 359) (by decide +kernel)
theorem mq_360 : Jvm.Cond.selects "NodTax$Parish" ({ cls := "NodTax$Parish", name := "rebuild", desc := "(I)V" } : Jvm.MethodName) ({ cls := "NodTax$Parish", name := "rebuild", desc := "(I)V" } : Jvm.MethodName) ∈ lw_tbl := List.mem_of_getElem? (i := 360) (by decide +kernel)
theorem mq_361 : Jvm.Cond.code ({ cls := "NodTax$Parish", name := "rebuild", desc := "(I)V" } : Jvm.MethodName) prog_6_method_3_code (2 : Nat) (Option.none : Option Jvm.ClassFile.FieldType) ∈ lw_tbl := List.mem_of_getElem? (i := 361) (by decide +kernel)
theorem mq_362 : Jvm.Cond.methodLink "NodTaxLaw" (18 : Nat) ({ cls := "NodTax", name := "hearer", desc := "(IIIIIZ)I" } : Jvm.MethodName) ∈ lw_tbl := List.mem_of_getElem? (i := 362) (by decide +kernel)
theorem mq_363 : Jvm.Cond.instanceMethod ({ cls := "NodTax", name := "hearer", desc := "(IIIIIZ)I" } : Jvm.MethodName) ∈ lw_tbl := List.mem_of_getElem? (i := 363) (by decide +kernel)
theorem mq_364 : Jvm.Cond.selects "NodTax" ({ cls := "NodTax", name := "hearer", desc := "(IIIIIZ)I" } : Jvm.MethodName) ({ cls := "NodTax", name := "hearer", desc := "(IIIIIZ)I" } : Jvm.MethodName) ∈ lw_tbl := List.mem_of_getElem? (i := 364) (by decide +kernel)
theorem mq_365 : Jvm.Cond.code ({ cls := "NodTax", name := "hearer", desc := "(IIIIIZ)I" } : Jvm.MethodName) prog_1_method_3_code (8 : Nat) (Option.some Jvm.ClassFile.FieldType.int) ∈ lw_tbl := List.mem_of_getElem? (i := 365) (by decide +kernel)
theorem mq_366 : Jvm.Cond.methodLink "NodTax" (85 : Nat) ({ cls := "NodTax$Parish", name := "seats", desc := "()I" } : Jvm.MethodName) ∈ lw_tbl := List.mem_of_getElem? (i := 366) (by decide +kernel)
theorem mq_367 : Jvm.Cond.instanceMethod ({ cls := "NodTax$Parish", name := "seats", desc := "()I" } : Jvm.MethodName) ∈ lw_tbl := List.mem_of_getElem? (i := 367) (by decide +kernel)
theorem mq_368 : Jvm.Cond.selects "NodTax$Parish" ({ cls := "NodTax$Parish", name := "seats", desc := "()I" } : Jvm.MethodName) ({ cls := "NodTax$Parish", name := "seats", desc := "()I" } : Jvm.MethodName) ∈ lw_tbl := List.mem_of_getElem? (i := 368) (by decide +kernel)
theorem mq_369 : Jvm.Cond.code ({ cls := "NodTax$Parish", name := "seats", desc := "()I" } : Jvm.MethodName) prog_6_method_8_code (1 : Nat) (Option.some Jvm.ClassFile.FieldType.int) ∈ lw_tbl := List.mem_of_getElem? (i := 369) (by decide +kernel)
theorem mq_370 : Jvm.Cond.methodLink "NodTax" (89 : Nat) ({ cls := "NodTax$Parish", name := "sitterAt", desc := "(I)I" } : Jvm.MethodName) ∈ lw_tbl := List.mem_of_getElem? (i := 370) (by decide +kernel)
theorem mq_371 : Jvm.Cond.instanceMethod ({ cls := "NodTax$Parish", name := "sitterAt", desc := "(I)I" } : Jvm.MethodName) ∈ lw_tbl := List.mem_of_getElem? (i := 371) (by decide +kernel)
theorem mq_372 : Jvm.Cond.selects "NodTax$Parish" ({ cls := "NodTax$Parish", name := "sitterAt", desc := "(I)I" } : Jvm.MethodName) ({ cls := "NodTax$Parish", name := "sitterAt", desc := "(I)I" } : Jvm.MethodName) ∈ lw_tbl := List.mem_of_getElem? (i := 372) (by decide +kernel)
theorem mq_373 : Jvm.Cond.code ({ cls := "NodTax$Parish", name := "sitterAt", desc := "(I)I" } : Jvm.MethodName) prog_6_method_12_code (3 : Nat) (Option.some Jvm.ClassFile.FieldType.int) ∈ lw_tbl := List.mem_of_getElem? (i := 373) (by decide +kernel)
theorem mq_374 : Jvm.Cond.methodLink "NodTax$Parish" (64 : Nat) ({ cls := "NodTax$Parish", name := "isThere", desc := "(I)Z" } : Jvm.MethodName) ∈ lw_tbl := List.mem_of_getElem? (i := 374) (by decide +kernel)
theorem mq_375 : Jvm.Cond.instanceMethod ({ cls := "NodTax$Parish", name := "isThere", desc := "(I)Z" } : Jvm.MethodName) ∈ lw_tbl := List.mem_of_getElem? (i := 375) (by decide +kernel)
theorem mq_376 : Jvm.Cond.selects "NodTax$Parish" ({ cls := "NodTax$Parish", name := "isThere", desc := "(I)Z" } : Jvm.MethodName) ({ cls := "NodTax$Parish", name := "isThere", desc := "(I)Z" } : Jvm.MethodName) ∈ lw_tbl := List.mem_of_getElem? (i := 376) (by decide +kernel)
theorem mq_377 : Jvm.Cond.code ({ cls := "NodTax$Parish", name := "isThere", desc := "(I)Z" } : Jvm.MethodName) prog_6_method_10_code (2 : Nat) (Option.some Jvm.ClassFile.FieldType.boolean) ∈ lw_tbl := List.mem_of_getElem? (i := 377) (by decide +kernel)
theorem mq_378 : Jvm.Cond.methodLink "NodTax" (112 : Nat) ({ cls := "NodTax$Parish", name := "howMany", desc := "()I" } : Jvm.MethodName) ∈ lw_tbl := List.mem_of_getElem? (i := 378) (by decide +kernel)
theorem mq_379 : Jvm.Cond.instanceMethod ({ cls := "NodTax$Parish", name := "howMany", desc := "()I" } : Jvm.MethodName) ∈ lw_tbl := List.mem_of_getElem? (i := 379) (by decide +kernel)
theorem mq_380 : Jvm.Cond.selects "NodTax$Parish" ({ cls := "NodTax$Parish", name := "howMany", desc := "()I" } : Jvm.MethodName) ({ cls := "NodTax$Parish", name := "howMany", desc := "()I" } : Jvm.MethodName) ∈ lw_tbl := List.mem_of_getElem? (i := 380) (by decide +kernel)
theorem mq_381 : Jvm.Cond.code ({ cls := "NodTax$Parish", name := "howMany", desc := "()I" } : Jvm.MethodName) prog_6_method_9_code (1 : Nat) (Option.some Jvm.ClassFile.FieldType.int) ∈ lw_tbl := List.mem_of_getElem? (i := 381) (by decide +kernel)
theorem mq_382 : Jvm.Cond.methodLink "NodTax$Parish" (58 : Nat) ({ cls := "java/lang/Integer", name := "bitCount", desc := "(I)I" } : Jvm.MethodName) ∈ lw_tbl := List.mem_of_getElem? (i := 382) (by decide +kernel)
theorem mq_383 : Jvm.Cond.static ({ cls := "java/lang/Integer", name := "bitCount", desc := "(I)I" } : Jvm.MethodName) ∈ lw_tbl := List.mem_of_getElem? (i := 383) (by decide +kernel)
theorem mq_384 : Jvm.Cond.code ({ cls := "java/lang/Integer", name := "bitCount", desc := "(I)I" } : Jvm.MethodName) prog_12_method_49_code (1 : Nat) (Option.some Jvm.ClassFile.FieldType.int) ∈ lw_tbl := List.mem_of_getElem? (i := 384) (by decide +kernel)
theorem mq_385 : Jvm.Cond.constant "java/lang/Integer" (265 : Nat) (1431655765 : Int32) ∈ lw_tbl := List.mem_of_getElem? (i := 385) (by decide +kernel)
theorem mq_386 : Jvm.Cond.constant "java/lang/Integer" (266 : Nat) (858993459 : Int32) ∈ lw_tbl := List.mem_of_getElem? (i := 386) (by decide +kernel)
theorem mq_387 : Jvm.Cond.constant "java/lang/Integer" (267 : Nat) (252645135 : Int32) ∈ lw_tbl := List.mem_of_getElem? (i := 387) (by decide +kernel)
theorem mq_388 : Jvm.Cond.methodLink "NodTaxLaw" (23 : Nat) ({ cls := "NodTax", name := "leave", desc := "(I)I" } : Jvm.MethodName) ∈ lw_tbl := List.mem_of_getElem? (i := 388) (by decide +kernel)
theorem mq_389 : Jvm.Cond.instanceMethod ({ cls := "NodTax", name := "leave", desc := "(I)I" } : Jvm.MethodName) ∈ lw_tbl := List.mem_of_getElem? (i := 389) (by decide +kernel)
theorem mq_390 : Jvm.Cond.selects "NodTax" ({ cls := "NodTax", name := "leave", desc := "(I)I" } : Jvm.MethodName) ({ cls := "NodTax", name := "leave", desc := "(I)I" } : Jvm.MethodName) ∈ lw_tbl := List.mem_of_getElem? (i := 390) (by decide +kernel)
theorem mq_391 : Jvm.Cond.code ({ cls := "NodTax", name := "leave", desc := "(I)I" } : Jvm.MethodName) prog_1_method_4_code (2 : Nat) (Option.some Jvm.ClassFile.FieldType.int) ∈ lw_tbl := List.mem_of_getElem? (i := 391) (by decide +kernel)
theorem mq_392 : Jvm.Cond.methodLink "NodTax" (115 : Nat) ({ cls := "NodTax$Parish", name := "isThere", desc := "(I)Z" } : Jvm.MethodName) ∈ lw_tbl := List.mem_of_getElem? (i := 392) (by decide +kernel)
theorem mq_393 : Jvm.Cond.methodLink "NodTaxLaw" (27 : Nat) ({ cls := "NodTax", name := "set", desc := "(II)I" } : Jvm.MethodName) ∈ lw_tbl := List.mem_of_getElem? (i := 393) (by decide +kernel)
theorem mq_394 : Jvm.Cond.instanceMethod ({ cls := "NodTax", name := "set", desc := "(II)I" } : Jvm.MethodName) ∈ lw_tbl := List.mem_of_getElem? (i := 394) (by decide +kernel)
theorem mq_395 : Jvm.Cond.selects "NodTax" ({ cls := "NodTax", name := "set", desc := "(II)I" } : Jvm.MethodName) ({ cls := "NodTax", name := "set", desc := "(II)I" } : Jvm.MethodName) ∈ lw_tbl := List.mem_of_getElem? (i := 395) (by decide +kernel)
theorem mq_396 : Jvm.Cond.code ({ cls := "NodTax", name := "set", desc := "(II)I" } : Jvm.MethodName) prog_1_method_5_code (3 : Nat) (Option.some Jvm.ClassFile.FieldType.int) ∈ lw_tbl := List.mem_of_getElem? (i := 396) (by decide +kernel)
theorem mq_397 : Jvm.Cond.methodLink "NodTax" (119 : Nat) ({ cls := "NodTax$Parish", name := "changeReach", desc := "(I)I" } : Jvm.MethodName) ∈ lw_tbl := List.mem_of_getElem? (i := 397) (by decide +kernel)
theorem mq_398 : Jvm.Cond.instanceMethod ({ cls := "NodTax$Parish", name := "changeReach", desc := "(I)I" } : Jvm.MethodName) ∈ lw_tbl := List.mem_of_getElem? (i := 398) (by decide +kernel)
theorem mq_399 : Jvm.Cond.selects "NodTax$Parish" ({ cls := "NodTax$Parish", name := "changeReach", desc := "(I)I" } : Jvm.MethodName) ({ cls := "NodTax$Parish", name := "changeReach", desc := "(I)I" } : Jvm.MethodName) ∈ lw_tbl := List.mem_of_getElem? (i := 399) (by decide +kernel)
theorem mq_400 : Jvm.Cond.code ({ cls := "NodTax$Parish", name := "changeReach", desc := "(I)I" } : Jvm.MethodName) prog_6_method_4_code (3 : Nat) (Option.some Jvm.ClassFile.FieldType.int) ∈ lw_tbl := List.mem_of_getElem? (i := 400) (by decide +kernel)
theorem mq_401 : Jvm.Cond.methodLink "NodTax" (122 : Nat) ({ cls := "NodTax$Parish", name := "changeRate", desc := "(I)I" } : Jvm.MethodName) ∈ lw_tbl := List.mem_of_getElem? (i := 401) (by decide +kernel)
theorem mq_402 : Jvm.Cond.instanceMethod ({ cls := "NodTax$Parish", name := "changeRate", desc := "(I)I" } : Jvm.MethodName) ∈ lw_tbl := List.mem_of_getElem? (i := 402) (by decide +kernel)
theorem mq_403 : Jvm.Cond.selects "NodTax$Parish" ({ cls := "NodTax$Parish", name := "changeRate", desc := "(I)I" } : Jvm.MethodName) ({ cls := "NodTax$Parish", name := "changeRate", desc := "(I)I" } : Jvm.MethodName) ∈ lw_tbl := List.mem_of_getElem? (i := 403) (by decide +kernel)
theorem mq_404 : Jvm.Cond.code ({ cls := "NodTax$Parish", name := "changeRate", desc := "(I)I" } : Jvm.MethodName) prog_6_method_5_code (3 : Nat) (Option.some Jvm.ClassFile.FieldType.int) ∈ lw_tbl := List.mem_of_getElem? (i := 404) (by decide +kernel)
theorem mq_405 : Jvm.Cond.methodLink "NodTax" (125 : Nat) ({ cls := "NodTax$Parish", name := "changeInspector", desc := "(I)I" } : Jvm.MethodName) ∈ lw_tbl := List.mem_of_getElem? (i := 405) (by decide +kernel)
theorem mq_406 : Jvm.Cond.instanceMethod ({ cls := "NodTax$Parish", name := "changeInspector", desc := "(I)I" } : Jvm.MethodName) ∈ lw_tbl := List.mem_of_getElem? (i := 406) (by decide +kernel)
theorem mq_407 : Jvm.Cond.selects "NodTax$Parish" ({ cls := "NodTax$Parish", name := "changeInspector", desc := "(I)I" } : Jvm.MethodName) ({ cls := "NodTax$Parish", name := "changeInspector", desc := "(I)I" } : Jvm.MethodName) ∈ lw_tbl := List.mem_of_getElem? (i := 407) (by decide +kernel)
theorem mq_408 : Jvm.Cond.code ({ cls := "NodTax$Parish", name := "changeInspector", desc := "(I)I" } : Jvm.MethodName) prog_6_method_6_code (3 : Nat) (Option.some Jvm.ClassFile.FieldType.int) ∈ lw_tbl := List.mem_of_getElem? (i := 408) (by decide +kernel)
theorem mq_409 : Jvm.Cond.methodLink "NodTaxLaw" (32 : Nat) ({ cls := "NodTax", name := "say", desc := "(I)I" } : Jvm.MethodName) ∈ lw_tbl := List.mem_of_getElem? (i := 409) (by decide +kernel)
theorem mq_410 : Jvm.Cond.instanceMethod ({ cls := "NodTax", name := "say", desc := "(I)I" } : Jvm.MethodName) ∈ lw_tbl := List.mem_of_getElem? (i := 410) (by decide +kernel)
theorem mq_411 : Jvm.Cond.selects "NodTax" ({ cls := "NodTax", name := "say", desc := "(I)I" } : Jvm.MethodName) ({ cls := "NodTax", name := "say", desc := "(I)I" } : Jvm.MethodName) ∈ lw_tbl := List.mem_of_getElem? (i := 411) (by decide +kernel)
theorem mq_412 : Jvm.Cond.code ({ cls := "NodTax", name := "say", desc := "(I)I" } : Jvm.MethodName) prog_1_method_6_code (2 : Nat) (Option.some Jvm.ClassFile.FieldType.int) ∈ lw_tbl := List.mem_of_getElem? (i := 412) (by decide +kernel)
theorem mq_413 : Jvm.Cond.methodLink "NodTaxLaw" (36 : Nat) ({ cls := "NodTax", name := "wipe", desc := "()I" } : Jvm.MethodName) ∈ lw_tbl := List.mem_of_getElem? (i := 413) (by decide +kernel)
theorem mq_414 : Jvm.Cond.instanceMethod ({ cls := "NodTax", name := "wipe", desc := "()I" } : Jvm.MethodName) ∈ lw_tbl := List.mem_of_getElem? (i := 414) (by decide +kernel)
theorem mq_415 : Jvm.Cond.selects "NodTax" ({ cls := "NodTax", name := "wipe", desc := "()I" } : Jvm.MethodName) ({ cls := "NodTax", name := "wipe", desc := "()I" } : Jvm.MethodName) ∈ lw_tbl := List.mem_of_getElem? (i := 415) (by decide +kernel)
theorem mq_416 : Jvm.Cond.code ({ cls := "NodTax", name := "wipe", desc := "()I" } : Jvm.MethodName) prog_1_method_7_code (2 : Nat) (Option.some Jvm.ClassFile.FieldType.int) ∈ lw_tbl := List.mem_of_getElem? (i := 416) (by decide +kernel)
theorem mq_417 : Jvm.Cond.methodLink "NodTaxLaw" (41 : Nat) ({ cls := "NodTax", name := "fault", desc := "()I" } : Jvm.MethodName) ∈ lw_tbl := List.mem_of_getElem? (i := 417) (by decide +kernel)
theorem mq_418 : Jvm.Cond.instanceMethod ({ cls := "NodTax", name := "fault", desc := "()I" } : Jvm.MethodName) ∈ lw_tbl := List.mem_of_getElem? (i := 418) (by decide +kernel)
theorem mq_419 : Jvm.Cond.selects "NodTax" ({ cls := "NodTax", name := "fault", desc := "()I" } : Jvm.MethodName) ({ cls := "NodTax", name := "fault", desc := "()I" } : Jvm.MethodName) ∈ lw_tbl := List.mem_of_getElem? (i := 419) (by decide +kernel)
theorem mq_420 : Jvm.Cond.code ({ cls := "NodTax", name := "fault", desc := "()I" } : Jvm.MethodName) prog_1_method_8_code (1 : Nat) (Option.some Jvm.ClassFile.FieldType.int) ∈ lw_tbl := List.mem_of_getElem? (i := 420) (by decide +kernel)
theorem mq_421 : Jvm.Cond.methodLink "NodTax" (134 : Nat) ({ cls := "NodTax$Pad", name := "firstFault", desc := "()I" } : Jvm.MethodName) ∈ lw_tbl := List.mem_of_getElem? (i := 421) (by decide +kernel)
theorem mq_422 : Jvm.Cond.instanceMethod ({ cls := "NodTax$Pad", name := "firstFault", desc := "()I" } : Jvm.MethodName) ∈ lw_tbl := List.mem_of_getElem? (i := 422) (by decide +kernel)
theorem mq_423 : Jvm.Cond.selects "NodTax$Pad" ({ cls := "NodTax$Pad", name := "firstFault", desc := "()I" } : Jvm.MethodName) ({ cls := "NodTax$Pad", name := "firstFault", desc := "()I" } : Jvm.MethodName) ∈ lw_tbl := List.mem_of_getElem? (i := 423) (by decide +kernel)
theorem mq_424 : Jvm.Cond.code ({ cls := "NodTax$Pad", name := "firstFault", desc := "()I" } : Jvm.MethodName) prog_5_method_2_code (2 : Nat) (Option.some Jvm.ClassFile.FieldType.int) ∈ lw_tbl := List.mem_of_getElem? (i := 424) (by decide +kernel)
theorem mq_425 : Jvm.Cond.methodLink "NodTax$Pad" (19 : Nat) ({ cls := "NodTax$Pad", name := "kindOf", desc := "(I)I" } : Jvm.MethodName) ∈ lw_tbl := List.mem_of_getElem? (i := 425) (by decide +kernel)
theorem mq_426 : Jvm.Cond.static ({ cls := "NodTax$Pad", name := "kindOf", desc := "(I)I" } : Jvm.MethodName) ∈ lw_tbl := List.mem_of_getElem? (i := 426) (by decide +kernel)
theorem mq_427 : Jvm.Cond.code ({ cls := "NodTax$Pad", name := "kindOf", desc := "(I)I" } : Jvm.MethodName) prog_5_method_4_code (2 : Nat) (Option.some Jvm.ClassFile.FieldType.int) ∈ lw_tbl := List.mem_of_getElem? (i := 427) (by decide +kernel)
theorem mq_428 : Jvm.Cond.fieldLinkNest "NodTax$Pad" (27 : Nat) "NodTax" "BY_CODE" "[C" "NodTax" ∈ lw_tbl := List.mem_of_getElem? (i := 428) (by decide +kernel)
theorem mq_430 : Jvm.Cond.methodLink "NodTaxLaw" (45 : Nat) ({ cls := "NodTax", name := "heard", desc := "(III)I" } : Jvm.MethodName) ∈ lw_tbl := List.mem_of_getElem? (i := 430) (by decide +kernel)
theorem mq_431 : Jvm.Cond.instanceMethod ({ cls := "NodTax", name := "heard", desc := "(III)I" } : Jvm.MethodName) ∈ lw_tbl := List.mem_of_getElem? (i := 431) (by decide +kernel)
theorem mq_432 : Jvm.Cond.selects "NodTax" ({ cls := "NodTax", name := "heard", desc := "(III)I" } : Jvm.MethodName) ({ cls := "NodTax", name := "heard", desc := "(III)I" } : Jvm.MethodName) ∈ lw_tbl := List.mem_of_getElem? (i := 432) (by decide +kernel)
theorem mq_433 : Jvm.Cond.code ({ cls := "NodTax", name := "heard", desc := "(III)I" } : Jvm.MethodName) prog_1_method_9_code (5 : Nat) (Option.some Jvm.ClassFile.FieldType.int) ∈ lw_tbl := List.mem_of_getElem? (i := 433) (by decide +kernel)
theorem mq_434 : Jvm.Cond.methodLink "NodTax" (137 : Nat) ({ cls := "NodTax$Pad", name := "hasFault", desc := "()Z" } : Jvm.MethodName) ∈ lw_tbl := List.mem_of_getElem? (i := 434) (by decide +kernel)
theorem mq_435 : Jvm.Cond.instanceMethod ({ cls := "NodTax$Pad", name := "hasFault", desc := "()Z" } : Jvm.MethodName) ∈ lw_tbl := List.mem_of_getElem? (i := 435) (by decide +kernel)
theorem mq_436 : Jvm.Cond.selects "NodTax$Pad" ({ cls := "NodTax$Pad", name := "hasFault", desc := "()Z" } : Jvm.MethodName) ({ cls := "NodTax$Pad", name := "hasFault", desc := "()Z" } : Jvm.MethodName) ∈ lw_tbl := List.mem_of_getElem? (i := 436) (by decide +kernel)
theorem mq_437 : Jvm.Cond.code ({ cls := "NodTax$Pad", name := "hasFault", desc := "()Z" } : Jvm.MethodName) prog_5_method_3_code (1 : Nat) (Option.some Jvm.ClassFile.FieldType.boolean) ∈ lw_tbl := List.mem_of_getElem? (i := 437) (by decide +kernel)
theorem mq_438 : Jvm.Cond.methodLink "NodTax$Pad" (23 : Nat) ({ cls := "NodTax$Pad", name := "firstFault", desc := "()I" } : Jvm.MethodName) ∈ lw_tbl := List.mem_of_getElem? (i := 438) (by decide +kernel)
theorem mq_439 : Jvm.Cond.methodLink "NodTax" (141 : Nat) ({ cls := "NodTax", name := "goneThrough", desc := "(I)LNodTax$Walk;" } : Jvm.MethodName) ∈ lw_tbl := List.mem_of_getElem? (i := 439) (by decide +kernel)
theorem mq_441 : Jvm.Cond.instanceMethod ({ cls := "NodTax", name := "goneThrough", desc := "(I)LNodTax$Walk;" } : Jvm.MethodName) ∈ lw_tbl := List.mem_of_getElem? (i := 441) (by decide +kernel)
theorem mq_442 : Jvm.Cond.code ({ cls := "NodTax", name := "goneThrough", desc := "(I)LNodTax$Walk;" } : Jvm.MethodName) prog_1_method_31_code (3 : Nat) (Option.some (Jvm.ClassFile.FieldType.object "NodTax$Walk")) ∈ lw_tbl := List.mem_of_getElem? (i := 442) (by decide +kernel)
theorem mq_443 : Jvm.Cond.methodLink "NodTax" (287 : Nat) ({ cls := "NodTax$Walk", name := "begin", desc := "(LNodTax$Parish;)V" } : Jvm.MethodName) ∈ lw_tbl := List.mem_of_getElem? (i := 443) (by decide +kernel)
theorem mq_444 : Jvm.Cond.instanceMethod ({ cls := "NodTax$Walk", name := "begin", desc := "(LNodTax$Parish;)V" } : Jvm.MethodName) ∈ lw_tbl := List.mem_of_getElem? (i := 444) (by decide +kernel)
theorem mq_445 : Jvm.Cond.selects "NodTax$Walk" ({ cls := "NodTax$Walk", name := "begin", desc := "(LNodTax$Parish;)V" } : Jvm.MethodName) ({ cls := "NodTax$Walk", name := "begin", desc := "(LNodTax$Parish;)V" } : Jvm.MethodName) ∈ lw_tbl := List.mem_of_getElem? (i := 445) (by decide +kernel)
theorem mq_446 : Jvm.Cond.code ({ cls := "NodTax$Walk", name := "begin", desc := "(LNodTax$Parish;)V" } : Jvm.MethodName) prog_8_method_2_code (2 : Nat) (Option.none : Option Jvm.ClassFile.FieldType) ∈ lw_tbl := List.mem_of_getElem? (i := 446) (by decide +kernel)
theorem mq_447 : Jvm.Cond.methodLink "NodTax$Walk" (57 : Nat) ({ cls := "java/lang/System", name := "arraycopy", desc := "(Ljava/lang/Object;ILjava/lang/Object;II)V" } : Jvm.MethodName) ∈ lw_tbl := List.mem_of_getElem? (i := 447) (by decide +kernel)
theorem mq_448 : Jvm.Cond.static ({ cls := "java/lang/System", name := "arraycopy", desc := "(Ljava/lang/Object;ILjava/lang/Object;II)V" } : Jvm.MethodName) ∈ lw_tbl := List.mem_of_getElem? (i := 448) (by decide +kernel)
theorem mq_449 : Jvm.Cond.native ({ cls := "java/lang/System", name := "arraycopy", desc := "(Ljava/lang/Object;ILjava/lang/Object;II)V" } : Jvm.MethodName) ∈ lw_tbl := List.mem_of_getElem? (i := 449) (by decide +kernel)
theorem mq_450 : Jvm.Cond.methodLink "NodTax" (290 : Nat) ({ cls := "NodTax$Walk", name := "passAll", desc := "(LNodTax$Parish;LNodTax$Pad;II)V" } : Jvm.MethodName) ∈ lw_tbl := List.mem_of_getElem? (i := 450) (by decide +kernel)
theorem mq_451 : Jvm.Cond.instanceMethod ({ cls := "NodTax$Walk", name := "passAll", desc := "(LNodTax$Parish;LNodTax$Pad;II)V" } : Jvm.MethodName) ∈ lw_tbl := List.mem_of_getElem? (i := 451) (by decide +kernel)
theorem mq_452 : Jvm.Cond.selects "NodTax$Walk" ({ cls := "NodTax$Walk", name := "passAll", desc := "(LNodTax$Parish;LNodTax$Pad;II)V" } : Jvm.MethodName) ({ cls := "NodTax$Walk", name := "passAll", desc := "(LNodTax$Parish;LNodTax$Pad;II)V" } : Jvm.MethodName) ∈ lw_tbl := List.mem_of_getElem? (i := 452) (by decide +kernel)
theorem mq_453 : Jvm.Cond.code ({ cls := "NodTax$Walk", name := "passAll", desc := "(LNodTax$Parish;LNodTax$Pad;II)V" } : Jvm.MethodName) prog_8_method_4_code (6 : Nat) (Option.none : Option Jvm.ClassFile.FieldType) ∈ lw_tbl := List.mem_of_getElem? (i := 453) (by decide +kernel)
theorem mq_454 : Jvm.Cond.methodLink "NodTax$Walk" (68 : Nat) ({ cls := "NodTax$Walk", name := "pass", desc := "(LNodTax$Parish;IZ)V" } : Jvm.MethodName) ∈ lw_tbl := List.mem_of_getElem? (i := 454) (by decide +kernel)
theorem mq_455 : Jvm.Cond.instanceMethod ({ cls := "NodTax$Walk", name := "pass", desc := "(LNodTax$Parish;IZ)V" } : Jvm.MethodName) ∈ lw_tbl := List.mem_of_getElem? (i := 455) (by decide +kernel)
theorem mq_456 : Jvm.Cond.selects "NodTax$Walk" ({ cls := "NodTax$Walk", name := "pass", desc := "(LNodTax$Parish;IZ)V" } : Jvm.MethodName) ({ cls := "NodTax$Walk", name := "pass", desc := "(LNodTax$Parish;IZ)V" } : Jvm.MethodName) ∈ lw_tbl := List.mem_of_getElem? (i := 456) (by decide +kernel)
theorem mq_457 : Jvm.Cond.code ({ cls := "NodTax$Walk", name := "pass", desc := "(LNodTax$Parish;IZ)V" } : Jvm.MethodName) prog_8_method_5_code (5 : Nat) (Option.none : Option Jvm.ClassFile.FieldType) ∈ lw_tbl := List.mem_of_getElem? (i := 457) (by decide +kernel)
theorem mq_458 : Jvm.Cond.methodLink "NodTax$Walk" (72 : Nat) ({ cls := "NodTax$Parish", name := "named", desc := "(I)I" } : Jvm.MethodName) ∈ lw_tbl := List.mem_of_getElem? (i := 458) (by decide +kernel)
theorem mq_459 : Jvm.Cond.instanceMethod ({ cls := "NodTax$Parish", name := "named", desc := "(I)I" } : Jvm.MethodName) ∈ lw_tbl := List.mem_of_getElem? (i := 459) (by decide +kernel)
theorem mq_460 : Jvm.Cond.selects "NodTax$Parish" ({ cls := "NodTax$Parish", name := "named", desc := "(I)I" } : Jvm.MethodName) ({ cls := "NodTax$Parish", name := "named", desc := "(I)I" } : Jvm.MethodName) ∈ lw_tbl := List.mem_of_getElem? (i := 460) (by decide +kernel)
theorem mq_461 : Jvm.Cond.code ({ cls := "NodTax$Parish", name := "named", desc := "(I)I" } : Jvm.MethodName) prog_6_method_13_code (5 : Nat) (Option.some Jvm.ClassFile.FieldType.int) ∈ lw_tbl := List.mem_of_getElem? (i := 461) (by decide +kernel)
theorem mq_462 : Jvm.Cond.methodLink "NodTax$Walk" (76 : Nat) ({ cls := "NodTax$Walk", name := "changeLevels", desc := "(LNodTax$Parish;IIZ)V" } : Jvm.MethodName) ∈ lw_tbl := List.mem_of_getElem? (i := 462) (by decide +kernel)
theorem mq_464 : Jvm.Cond.instanceMethod ({ cls := "NodTax$Walk", name := "changeLevels", desc := "(LNodTax$Parish;IIZ)V" } : Jvm.MethodName) ∈ lw_tbl := List.mem_of_getElem? (i := 464) (by decide +kernel)
theorem mq_465 : Jvm.Cond.code ({ cls := "NodTax$Walk", name := "changeLevels", desc := "(LNodTax$Parish;IIZ)V" } : Jvm.MethodName) prog_8_method_6_code (8 : Nat) (Option.none : Option Jvm.ClassFile.FieldType) ∈ lw_tbl := List.mem_of_getElem? (i := 465) (by decide +kernel)
theorem mq_466 : Jvm.Cond.methodLink "NodTax$Walk" (91 : Nat) ({ cls := "NodTax$Walk", name := "forAll", desc := "(I)I" } : Jvm.MethodName) ∈ lw_tbl := List.mem_of_getElem? (i := 466) (by decide +kernel)
theorem mq_467 : Jvm.Cond.static ({ cls := "NodTax$Walk", name := "forAll", desc := "(I)I" } : Jvm.MethodName) ∈ lw_tbl := List.mem_of_getElem? (i := 467) (by decide +kernel)
theorem mq_468 : Jvm.Cond.code ({ cls := "NodTax$Walk", name := "forAll", desc := "(I)I" } : Jvm.MethodName) prog_8_method_7_code (1 : Nat) (Option.some Jvm.ClassFile.FieldType.int) ∈ lw_tbl := List.mem_of_getElem? (i := 468) (by decide +kernel)
theorem mq_469 : Jvm.Cond.methodLink "NodTax$Walk" (94 : Nat) ({ cls := "NodTax$Parish", name := "isThere", desc := "(I)Z" } : Jvm.MethodName) ∈ lw_tbl := List.mem_of_getElem? (i := 469) (by decide +kernel)
theorem mq_470 : Jvm.Cond.methodLink "NodTax$Walk" (101 : Nat) ({ cls := "NodTax$Walk", name := "startled", desc := "(LNodTax$Parish;I)I" } : Jvm.MethodName) ∈ lw_tbl := List.mem_of_getElem? (i := 470) (by decide +kernel)
theorem mq_472 : Jvm.Cond.instanceMethod ({ cls := "NodTax$Walk", name := "startled", desc := "(LNodTax$Parish;I)I" } : Jvm.MethodName) ∈ lw_tbl := List.mem_of_getElem? (i := 472) (by decide +kernel)
theorem mq_473 : Jvm.Cond.code ({ cls := "NodTax$Walk", name := "startled", desc := "(LNodTax$Parish;I)I" } : Jvm.MethodName) prog_8_method_8_code (4 : Nat) (Option.some Jvm.ClassFile.FieldType.int) ∈ lw_tbl := List.mem_of_getElem? (i := 473) (by decide +kernel)
theorem mq_474 : Jvm.Cond.methodLink "NodTax$Walk" (105 : Nat) ({ cls := "java/lang/Math", name := "max", desc := "(II)I" } : Jvm.MethodName) ∈ lw_tbl := List.mem_of_getElem? (i := 474) (by decide +kernel)
theorem mq_475 : Jvm.Cond.static ({ cls := "java/lang/Math", name := "max", desc := "(II)I" } : Jvm.MethodName) ∈ lw_tbl := List.mem_of_getElem? (i := 475) (by decide +kernel)
theorem mq_476 : Jvm.Cond.code ({ cls := "java/lang/Math", name := "max", desc := "(II)I" } : Jvm.MethodName) prog_13_method_65_code (2 : Nat) (Option.some Jvm.ClassFile.FieldType.int) ∈ lw_tbl := List.mem_of_getElem? (i := 476) (by decide +kernel)
theorem mq_477 : Jvm.Cond.methodLink "NodTax$Walk" (111 : Nat) ({ cls := "java/lang/Math", name := "min", desc := "(II)I" } : Jvm.MethodName) ∈ lw_tbl := List.mem_of_getElem? (i := 477) (by decide +kernel)
theorem mq_478 : Jvm.Cond.static ({ cls := "java/lang/Math", name := "min", desc := "(II)I" } : Jvm.MethodName) ∈ lw_tbl := List.mem_of_getElem? (i := 478) (by decide +kernel)
theorem mq_479 : Jvm.Cond.code ({ cls := "java/lang/Math", name := "min", desc := "(II)I" } : Jvm.MethodName) prog_13_method_69_code (2 : Nat) (Option.some Jvm.ClassFile.FieldType.int) ∈ lw_tbl := List.mem_of_getElem? (i := 479) (by decide +kernel)
theorem mq_480 : Jvm.Cond.methodLink "NodTax$Walk" (80 : Nat) ({ cls := "NodTax$Walk", name := "findHeads", desc := "(LNodTax$Parish;I)V" } : Jvm.MethodName) ∈ lw_tbl := List.mem_of_getElem? (i := 480) (by decide +kernel)
theorem mq_482 : Jvm.Cond.instanceMethod ({ cls := "NodTax$Walk", name := "findHeads", desc := "(LNodTax$Parish;I)V" } : Jvm.MethodName) ∈ lw_tbl := List.mem_of_getElem? (i := 482) (by decide +kernel)
theorem mq_483 : Jvm.Cond.code ({ cls := "NodTax$Walk", name := "findHeads", desc := "(LNodTax$Parish;I)V" } : Jvm.MethodName) prog_8_method_9_code (5 : Nat) (Option.none : Option Jvm.ClassFile.FieldType) ∈ lw_tbl := List.mem_of_getElem? (i := 483) (by decide +kernel)
theorem mq_484 : Jvm.Cond.methodLink "NodTax$Walk" (120 : Nat) ({ cls := "NodTax$Parish", name := "isUpright", desc := "(I)Z" } : Jvm.MethodName) ∈ lw_tbl := List.mem_of_getElem? (i := 484) (by decide +kernel)
theorem mq_485 : Jvm.Cond.instanceMethod ({ cls := "NodTax$Parish", name := "isUpright", desc := "(I)Z" } : Jvm.MethodName) ∈ lw_tbl := List.mem_of_getElem? (i := 485) (by decide +kernel)
theorem mq_486 : Jvm.Cond.selects "NodTax$Parish" ({ cls := "NodTax$Parish", name := "isUpright", desc := "(I)Z" } : Jvm.MethodName) ({ cls := "NodTax$Parish", name := "isUpright", desc := "(I)Z" } : Jvm.MethodName) ∈ lw_tbl := List.mem_of_getElem? (i := 486) (by decide +kernel)
theorem mq_487 : Jvm.Cond.code ({ cls := "NodTax$Parish", name := "isUpright", desc := "(I)Z" } : Jvm.MethodName) prog_6_method_11_code (2 : Nat) (Option.some Jvm.ClassFile.FieldType.boolean) ∈ lw_tbl := List.mem_of_getElem? (i := 487) (by decide +kernel)
theorem mq_488 : Jvm.Cond.methodLink "NodTax$Walk" (126 : Nat) ({ cls := "NodTax$Walk", name := "rightOf", desc := "(I)I" } : Jvm.MethodName) ∈ lw_tbl := List.mem_of_getElem? (i := 488) (by decide +kernel)
theorem mq_489 : Jvm.Cond.static ({ cls := "NodTax$Walk", name := "rightOf", desc := "(I)I" } : Jvm.MethodName) ∈ lw_tbl := List.mem_of_getElem? (i := 489) (by decide +kernel)
theorem mq_490 : Jvm.Cond.code ({ cls := "NodTax$Walk", name := "rightOf", desc := "(I)I" } : Jvm.MethodName) prog_8_method_10_code (1 : Nat) (Option.some Jvm.ClassFile.FieldType.int) ∈ lw_tbl := List.mem_of_getElem? (i := 490) (by decide +kernel)
theorem mq_491 : Jvm.Cond.methodLink "NodTax$Walk" (129 : Nat) ({ cls := "NodTax$Walk", name := "leftOf", desc := "(I)I" } : Jvm.MethodName) ∈ lw_tbl := List.mem_of_getElem? (i := 491) (by decide +kernel)
theorem mq_492 : Jvm.Cond.static ({ cls := "NodTax$Walk", name := "leftOf", desc := "(I)I" } : Jvm.MethodName) ∈ lw_tbl := List.mem_of_getElem? (i := 492) (by decide +kernel)
theorem mq_493 : Jvm.Cond.code ({ cls := "NodTax$Walk", name := "leftOf", desc := "(I)I" } : Jvm.MethodName) prog_8_method_11_code (1 : Nat) (Option.some Jvm.ClassFile.FieldType.int) ∈ lw_tbl := List.mem_of_getElem? (i := 493) (by decide +kernel)
theorem mq_494 : Jvm.Cond.methodLink "NodTax$Walk" (84 : Nat) ({ cls := "NodTax$Walk", name := "elbow", desc := "(LNodTax$Parish;)V" } : Jvm.MethodName) ∈ lw_tbl := List.mem_of_getElem? (i := 494) (by decide +kernel)
theorem mq_496 : Jvm.Cond.instanceMethod ({ cls := "NodTax$Walk", name := "elbow", desc := "(LNodTax$Parish;)V" } : Jvm.MethodName) ∈ lw_tbl := List.mem_of_getElem? (i := 496) (by decide +kernel)
theorem mq_497 : Jvm.Cond.code ({ cls := "NodTax$Walk", name := "elbow", desc := "(LNodTax$Parish;)V" } : Jvm.MethodName) prog_8_method_12_code (5 : Nat) (Option.none : Option Jvm.ClassFile.FieldType) ∈ lw_tbl := List.mem_of_getElem? (i := 497) (by decide +kernel)
theorem mq_498 : Jvm.Cond.methodLink "NodTax$Walk" (88 : Nat) ({ cls := "NodTax$Walk", name := "count", desc := "(LNodTax$Parish;I)V" } : Jvm.MethodName) ∈ lw_tbl := List.mem_of_getElem? (i := 498) (by decide +kernel)
theorem mq_500 : Jvm.Cond.instanceMethod ({ cls := "NodTax$Walk", name := "count", desc := "(LNodTax$Parish;I)V" } : Jvm.MethodName) ∈ lw_tbl := List.mem_of_getElem? (i := 500) (by decide +kernel)
theorem mq_501 : Jvm.Cond.code ({ cls := "NodTax$Walk", name := "count", desc := "(LNodTax$Parish;I)V" } : Jvm.MethodName) prog_8_method_13_code (7 : Nat) (Option.none : Option Jvm.ClassFile.FieldType) ∈ lw_tbl := List.mem_of_getElem? (i := 501) (by decide +kernel)
theorem mq_502 : Jvm.Cond.methodLink "NodTax$Walk" (135 : Nat) ({ cls := "NodTax$Walk", name := "dipping", desc := "()I" } : Jvm.MethodName) ∈ lw_tbl := List.mem_of_getElem? (i := 502) (by decide +kernel)
theorem mq_503 : Jvm.Cond.instanceMethod ({ cls := "NodTax$Walk", name := "dipping", desc := "()I" } : Jvm.MethodName) ∈ lw_tbl := List.mem_of_getElem? (i := 503) (by decide +kernel)
theorem mq_504 : Jvm.Cond.selects "NodTax$Walk" ({ cls := "NodTax$Walk", name := "dipping", desc := "()I" } : Jvm.MethodName) ({ cls := "NodTax$Walk", name := "dipping", desc := "()I" } : Jvm.MethodName) ∈ lw_tbl := List.mem_of_getElem? (i := 504) (by decide +kernel)
theorem mq_505 : Jvm.Cond.code ({ cls := "NodTax$Walk", name := "dipping", desc := "()I" } : Jvm.MethodName) prog_8_method_14_code (1 : Nat) (Option.some Jvm.ClassFile.FieldType.int) ∈ lw_tbl := List.mem_of_getElem? (i := 505) (by decide +kernel)
theorem mq_506 : Jvm.Cond.methodLink "NodTax$Walk" (139 : Nat) ({ cls := "java/lang/Integer", name := "bitCount", desc := "(I)I" } : Jvm.MethodName) ∈ lw_tbl := List.mem_of_getElem? (i := 506) (by decide +kernel)
theorem mq_507 : Jvm.Cond.methodLink "NodTax" (148 : Nat) ({ cls := "NodTax$Walk", name := "didHe", desc := "(II)I" } : Jvm.MethodName) ∈ lw_tbl := List.mem_of_getElem? (i := 507) (by decide +kernel)
theorem mq_508 : Jvm.Cond.instanceMethod ({ cls := "NodTax$Walk", name := "didHe", desc := "(II)I" } : Jvm.MethodName) ∈ lw_tbl := List.mem_of_getElem? (i := 508) (by decide +kernel)
theorem mq_509 : Jvm.Cond.selects "NodTax$Walk" ({ cls := "NodTax$Walk", name := "didHe", desc := "(II)I" } : Jvm.MethodName) ({ cls := "NodTax$Walk", name := "didHe", desc := "(II)I" } : Jvm.MethodName) ∈ lw_tbl := List.mem_of_getElem? (i := 509) (by decide +kernel)
theorem mq_510 : Jvm.Cond.code ({ cls := "NodTax$Walk", name := "didHe", desc := "(II)I" } : Jvm.MethodName) prog_8_method_16_code (4 : Nat) (Option.some Jvm.ClassFile.FieldType.int) ∈ lw_tbl := List.mem_of_getElem? (i := 510) (by decide +kernel)
theorem mq_511 : Jvm.Cond.methodLink "NodTaxLaw" (50 : Nat) ({ cls := "NodTax", name := "sum", desc := "(II)I" } : Jvm.MethodName) ∈ lw_tbl := List.mem_of_getElem? (i := 511) (by decide +kernel)
theorem mq_512 : Jvm.Cond.instanceMethod ({ cls := "NodTax", name := "sum", desc := "(II)I" } : Jvm.MethodName) ∈ lw_tbl := List.mem_of_getElem? (i := 512) (by decide +kernel)
theorem mq_513 : Jvm.Cond.selects "NodTax" ({ cls := "NodTax", name := "sum", desc := "(II)I" } : Jvm.MethodName) ({ cls := "NodTax", name := "sum", desc := "(II)I" } : Jvm.MethodName) ∈ lw_tbl := List.mem_of_getElem? (i := 513) (by decide +kernel)
theorem mq_514 : Jvm.Cond.code ({ cls := "NodTax", name := "sum", desc := "(II)I" } : Jvm.MethodName) prog_1_method_10_code (3 : Nat) (Option.some Jvm.ClassFile.FieldType.int) ∈ lw_tbl := List.mem_of_getElem? (i := 514) (by decide +kernel)
theorem mq_515 : Jvm.Cond.methodLink "NodTax" (152 : Nat) ({ cls := "NodTax$Walk", name := "total", desc := "(I)I" } : Jvm.MethodName) ∈ lw_tbl := List.mem_of_getElem? (i := 515) (by decide +kernel)
theorem mq_516 : Jvm.Cond.instanceMethod ({ cls := "NodTax$Walk", name := "total", desc := "(I)I" } : Jvm.MethodName) ∈ lw_tbl := List.mem_of_getElem? (i := 516) (by decide +kernel)
theorem mq_517 : Jvm.Cond.selects "NodTax$Walk" ({ cls := "NodTax$Walk", name := "total", desc := "(I)I" } : Jvm.MethodName) ({ cls := "NodTax$Walk", name := "total", desc := "(I)I" } : Jvm.MethodName) ∈ lw_tbl := List.mem_of_getElem? (i := 517) (by decide +kernel)
theorem mq_518 : Jvm.Cond.code ({ cls := "NodTax$Walk", name := "total", desc := "(I)I" } : Jvm.MethodName) prog_8_method_17_code (2 : Nat) (Option.some Jvm.ClassFile.FieldType.int) ∈ lw_tbl := List.mem_of_getElem? (i := 518) (by decide +kernel)
theorem mq_519 : Jvm.Cond.methodLink "NodTaxLaw" (54 : Nat) ({ cls := "NodTax", name := "first", desc := "(I)I" } : Jvm.MethodName) ∈ lw_tbl := List.mem_of_getElem? (i := 519) (by decide +kernel)
theorem mq_520 : Jvm.Cond.instanceMethod ({ cls := "NodTax", name := "first", desc := "(I)I" } : Jvm.MethodName) ∈ lw_tbl := List.mem_of_getElem? (i := 520) (by decide +kernel)
theorem mq_521 : Jvm.Cond.selects "NodTax" ({ cls := "NodTax", name := "first", desc := "(I)I" } : Jvm.MethodName) ({ cls := "NodTax", name := "first", desc := "(I)I" } : Jvm.MethodName) ∈ lw_tbl := List.mem_of_getElem? (i := 521) (by decide +kernel)
theorem mq_522 : Jvm.Cond.code ({ cls := "NodTax", name := "first", desc := "(I)I" } : Jvm.MethodName) prog_1_method_11_code (4 : Nat) (Option.some Jvm.ClassFile.FieldType.int) ∈ lw_tbl := List.mem_of_getElem? (i := 522) (by decide +kernel)
theorem mq_523 : Jvm.Cond.methodLink "NodTax" (155 : Nat) ({ cls := "NodTax$Walk", name := "pass", desc := "(LNodTax$Parish;IZ)V" } : Jvm.MethodName) ∈ lw_tbl := List.mem_of_getElem? (i := 523) (by decide +kernel)
theorem mq_524 : Jvm.Cond.methodLink "NodTaxLaw" (58 : Nat) ({ cls := "NodTax", name := "gain", desc := "()I" } : Jvm.MethodName) ∈ lw_tbl := List.mem_of_getElem? (i := 524) (by decide +kernel)
theorem mq_525 : Jvm.Cond.instanceMethod ({ cls := "NodTax", name := "gain", desc := "()I" } : Jvm.MethodName) ∈ lw_tbl := List.mem_of_getElem? (i := 525) (by decide +kernel)
theorem mq_526 : Jvm.Cond.selects "NodTax" ({ cls := "NodTax", name := "gain", desc := "()I" } : Jvm.MethodName) ({ cls := "NodTax", name := "gain", desc := "()I" } : Jvm.MethodName) ∈ lw_tbl := List.mem_of_getElem? (i := 526) (by decide +kernel)
theorem mq_527 : Jvm.Cond.code ({ cls := "NodTax", name := "gain", desc := "()I" } : Jvm.MethodName) prog_1_method_12_code (1 : Nat) (Option.some Jvm.ClassFile.FieldType.int) ∈ lw_tbl := List.mem_of_getElem? (i := 527) (by decide +kernel)
theorem mq_528 : Jvm.Cond.methodLink "NodTax" (165 : Nat) ({ cls := "NodTax$Walk", name := "gained", desc := "()I" } : Jvm.MethodName) ∈ lw_tbl := List.mem_of_getElem? (i := 528) (by decide +kernel)
theorem mq_529 : Jvm.Cond.instanceMethod ({ cls := "NodTax$Walk", name := "gained", desc := "()I" } : Jvm.MethodName) ∈ lw_tbl := List.mem_of_getElem? (i := 529) (by decide +kernel)
theorem mq_530 : Jvm.Cond.selects "NodTax$Walk" ({ cls := "NodTax$Walk", name := "gained", desc := "()I" } : Jvm.MethodName) ({ cls := "NodTax$Walk", name := "gained", desc := "()I" } : Jvm.MethodName) ∈ lw_tbl := List.mem_of_getElem? (i := 530) (by decide +kernel)
theorem mq_531 : Jvm.Cond.code ({ cls := "NodTax$Walk", name := "gained", desc := "()I" } : Jvm.MethodName) prog_8_method_15_code (1 : Nat) (Option.some Jvm.ClassFile.FieldType.int) ∈ lw_tbl := List.mem_of_getElem? (i := 531) (by decide +kernel)
theorem mq_532 : Jvm.Cond.methodLink "NodTaxLaw" (62 : Nat) ({ cls := "NodTax", name := "order", desc := "(II)I" } : Jvm.MethodName) ∈ lw_tbl := List.mem_of_getElem? (i := 532) (by decide +kernel)
theorem mq_533 : Jvm.Cond.instanceMethod ({ cls := "NodTax", name := "order", desc := "(II)I" } : Jvm.MethodName) ∈ lw_tbl := List.mem_of_getElem? (i := 533) (by decide +kernel)
theorem mq_534 : Jvm.Cond.selects "NodTax" ({ cls := "NodTax", name := "order", desc := "(II)I" } : Jvm.MethodName) ({ cls := "NodTax", name := "order", desc := "(II)I" } : Jvm.MethodName) ∈ lw_tbl := List.mem_of_getElem? (i := 534) (by decide +kernel)
theorem mq_535 : Jvm.Cond.code ({ cls := "NodTax", name := "order", desc := "(II)I" } : Jvm.MethodName) prog_1_method_13_code (3 : Nat) (Option.some Jvm.ClassFile.FieldType.int) ∈ lw_tbl := List.mem_of_getElem? (i := 535) (by decide +kernel)
theorem mq_536 : Jvm.Cond.methodLink "NodTax" (168 : Nat) ({ cls := "NodTax$CheapestOrder", name := "aimAt", desc := "(Z)V" } : Jvm.MethodName) ∈ lw_tbl := List.mem_of_getElem? (i := 536) (by decide +kernel)
theorem mq_537 : Jvm.Cond.instanceMethod ({ cls := "NodTax$CheapestOrder", name := "aimAt", desc := "(Z)V" } : Jvm.MethodName) ∈ lw_tbl := List.mem_of_getElem? (i := 537) (by decide +kernel)
theorem mq_538 : Jvm.Cond.selects "NodTax$CheapestOrder" ({ cls := "NodTax$CheapestOrder", name := "aimAt", desc := "(Z)V" } : Jvm.MethodName) ({ cls := "NodTax$CheapestOrder", name := "aimAt", desc := "(Z)V" } : Jvm.MethodName) ∈ lw_tbl := List.mem_of_getElem? (i := 538) (by decide +kernel)
theorem mq_539 : Jvm.Cond.code ({ cls := "NodTax$CheapestOrder", name := "aimAt", desc := "(Z)V" } : Jvm.MethodName) prog_2_method_2_code (2 : Nat) (Option.none : Option Jvm.ClassFile.FieldType) ∈ lw_tbl := List.mem_of_getElem? (i := 539) (by decide +kernel)
theorem mq_540 : Jvm.Cond.constant "NodTax$CheapestOrder" (22 : Nat) (1000000 : Int32) ∈ lw_tbl := List.mem_of_getElem? (i := 540) (by decide +kernel)
theorem mq_541 : Jvm.Cond.methodLink "NodTax" (172 : Nat) ({ cls := "NodTax$CheapestOrder", name := "goThrough", desc := "(LNodTax$Parish;LNodTax$Pad;[LNodTax$Walk;)V" } : Jvm.MethodName) ∈ lw_tbl := List.mem_of_getElem? (i := 541) (by decide +kernel)
theorem mq_542 : Jvm.Cond.sameMethod "NodTax$CheapestOrder" "NodTax$Orders" "goThrough" "(LNodTax$Parish;LNodTax$Pad;[LNodTax$Walk;)V" ∈ lw_tbl := List.mem_of_getElem? (i := 542) (by decide +kernel)
theorem mq_544 : Jvm.Cond.selects "NodTax$CheapestOrder" ({ cls := "NodTax$CheapestOrder", name := "goThrough", desc := "(LNodTax$Parish;LNodTax$Pad;[LNodTax$Walk;)V" } : Jvm.MethodName) ({ cls := "NodTax$Orders", name := "goThrough", desc := "(LNodTax$Parish;LNodTax$Pad;[LNodTax$Walk;)V" } : Jvm.MethodName) ∈ lw_tbl := List.mem_of_getElem? (i := 544) (by decide +kernel)
theorem mq_545 : Jvm.Cond.instanceMethod ({ cls := "NodTax$Orders", name := "goThrough", desc := "(LNodTax$Parish;LNodTax$Pad;[LNodTax$Walk;)V" } : Jvm.MethodName) ∈ lw_tbl := List.mem_of_getElem? (i := 545) (by decide +kernel)
theorem mq_546 : Jvm.Cond.code ({ cls := "NodTax$Orders", name := "goThrough", desc := "(LNodTax$Parish;LNodTax$Pad;[LNodTax$Walk;)V" } : Jvm.MethodName) prog_4_method_4_code (6 : Nat) (Option.none : Option Jvm.ClassFile.FieldType) ∈ lw_tbl := List.mem_of_getElem? (i := 546) (by decide +kernel)
theorem mq_547 : Jvm.Cond.methodLink "NodTax$Orders" (28 : Nat) ({ cls := "java/lang/Math", name := "min", desc := "(II)I" } : Jvm.MethodName) ∈ lw_tbl := List.mem_of_getElem? (i := 547) (by decide +kernel)
theorem mq_548 : Jvm.Cond.methodLink "NodTax$Orders" (37 : Nat) ({ cls := "NodTax$Pad", name := "kindOf", desc := "(I)I" } : Jvm.MethodName) ∈ lw_tbl := List.mem_of_getElem? (i := 548) (by decide +kernel)
theorem mq_549 : Jvm.Cond.methodLink "NodTax$Orders" (41 : Nat) ({ cls := "NodTax$Walk", name := "begin", desc := "(LNodTax$Parish;)V" } : Jvm.MethodName) ∈ lw_tbl := List.mem_of_getElem? (i := 549) (by decide +kernel)
theorem mq_554 : Jvm.Cond.methodLink "NodTax$Orders" (51 : Nat) ({ cls := "NodTax$Orders", name := "arrive", desc := "(LNodTax$Walk;)V" } : Jvm.MethodName) ∈ lw_tbl := List.mem_of_getElem? (i := 554) (by decide +kernel)
theorem mq_555 : Jvm.Cond.declares ({ cls := "NodTax$Orders", name := "arrive", desc := "(LNodTax$Walk;)V" } : Jvm.MethodName) ∈ lw_tbl := List.mem_of_getElem? (i := 555) (by decide +kernel)
theorem mq_556 : Jvm.Cond.sameMethod "NodTax$Orders" "NodTax$Orders" "arrive" "(LNodTax$Walk;)V" ∈ lw_tbl := List.mem_of_getElem? (i := 556) (by decide +kernel)
theorem mq_557 : Jvm.Cond.selects "NodTax$CheapestOrder" ({ cls := "NodTax$Orders", name := "arrive", desc := "(LNodTax$Walk;)V" } : Jvm.MethodName) ({ cls := "NodTax$CheapestOrder", name := "arrive", desc := "(LNodTax$Walk;)V" } : Jvm.MethodName) ∈ lw_tbl := List.mem_of_getElem? (i := 557) (by decide +kernel)
theorem mq_558 : Jvm.Cond.instanceMethod ({ cls := "NodTax$CheapestOrder", name := "arrive", desc := "(LNodTax$Walk;)V" } : Jvm.MethodName) ∈ lw_tbl := List.mem_of_getElem? (i := 558) (by decide +kernel)
theorem mq_559 : Jvm.Cond.code ({ cls := "NodTax$CheapestOrder", name := "arrive", desc := "(LNodTax$Walk;)V" } : Jvm.MethodName) prog_2_method_5_code (2 : Nat) (Option.none : Option Jvm.ClassFile.FieldType) ∈ lw_tbl := List.mem_of_getElem? (i := 559) (by decide +kernel)
theorem mq_560 : Jvm.Cond.methodLink "NodTax$CheapestOrder" (31 : Nat) ({ cls := "NodTax$CheapestOrder", name := "loss", desc := "(LNodTax$Walk;)I" } : Jvm.MethodName) ∈ lw_tbl := List.mem_of_getElem? (i := 560) (by decide +kernel)
theorem mq_562 : Jvm.Cond.instanceMethod ({ cls := "NodTax$CheapestOrder", name := "loss", desc := "(LNodTax$Walk;)I" } : Jvm.MethodName) ∈ lw_tbl := List.mem_of_getElem? (i := 562) (by decide +kernel)
theorem mq_563 : Jvm.Cond.code ({ cls := "NodTax$CheapestOrder", name := "loss", desc := "(LNodTax$Walk;)I" } : Jvm.MethodName) prog_2_method_3_code (2 : Nat) (Option.some Jvm.ClassFile.FieldType.int) ∈ lw_tbl := List.mem_of_getElem? (i := 563) (by decide +kernel)
theorem mq_564 : Jvm.Cond.methodLink "NodTax$CheapestOrder" (35 : Nat) ({ cls := "NodTax$Walk", name := "gained", desc := "()I" } : Jvm.MethodName) ∈ lw_tbl := List.mem_of_getElem? (i := 564) (by decide +kernel)
theorem mq_565 : Jvm.Cond.methodLink "NodTax$CheapestOrder" (39 : Nat) ({ cls := "NodTax$CheapestOrder", name := "keepAsFirst", desc := "()V" } : Jvm.MethodName) ∈ lw_tbl := List.mem_of_getElem? (i := 565) (by decide +kernel)
theorem mq_566 : Jvm.Cond.sameMethod "NodTax$CheapestOrder" "NodTax$Orders" "keepAsFirst" "()V" ∈ lw_tbl := List.mem_of_getElem? (i := 566) (by decide +kernel)
theorem mq_568 : Jvm.Cond.selects "NodTax$CheapestOrder" ({ cls := "NodTax$CheapestOrder", name := "keepAsFirst", desc := "()V" } : Jvm.MethodName) ({ cls := "NodTax$Orders", name := "keepAsFirst", desc := "()V" } : Jvm.MethodName) ∈ lw_tbl := List.mem_of_getElem? (i := 568) (by decide +kernel)
theorem mq_569 : Jvm.Cond.instanceMethod ({ cls := "NodTax$Orders", name := "keepAsFirst", desc := "()V" } : Jvm.MethodName) ∈ lw_tbl := List.mem_of_getElem? (i := 569) (by decide +kernel)
theorem mq_570 : Jvm.Cond.code ({ cls := "NodTax$Orders", name := "keepAsFirst", desc := "()V" } : Jvm.MethodName) prog_4_method_6_code (1 : Nat) (Option.none : Option Jvm.ClassFile.FieldType) ∈ lw_tbl := List.mem_of_getElem? (i := 570) (by decide +kernel)
theorem mq_571 : Jvm.Cond.methodLink "NodTax$Orders" (70 : Nat) ({ cls := "java/lang/System", name := "arraycopy", desc := "(Ljava/lang/Object;ILjava/lang/Object;II)V" } : Jvm.MethodName) ∈ lw_tbl := List.mem_of_getElem? (i := 571) (by decide +kernel)
theorem mq_572 : Jvm.Cond.selects "NodTax$FittingOrders" ({ cls := "NodTax$Orders", name := "arrive", desc := "(LNodTax$Walk;)V" } : Jvm.MethodName) ({ cls := "NodTax$FittingOrders", name := "arrive", desc := "(LNodTax$Walk;)V" } : Jvm.MethodName) ∈ lw_tbl := List.mem_of_getElem? (i := 572) (by decide +kernel)
theorem mq_573 : Jvm.Cond.instanceMethod ({ cls := "NodTax$FittingOrders", name := "arrive", desc := "(LNodTax$Walk;)V" } : Jvm.MethodName) ∈ lw_tbl := List.mem_of_getElem? (i := 573) (by decide +kernel)
theorem mq_574 : Jvm.Cond.code ({ cls := "NodTax$FittingOrders", name := "arrive", desc := "(LNodTax$Walk;)V" } : Jvm.MethodName) prog_3_method_5_code (3 : Nat) (Option.none : Option Jvm.ClassFile.FieldType) ∈ lw_tbl := List.mem_of_getElem? (i := 574) (by decide +kernel)
theorem mq_575 : Jvm.Cond.methodLink "NodTax$FittingOrders" (55 : Nat) ({ cls := "NodTax$FittingOrders", name := "keepAsFirst", desc := "()V" } : Jvm.MethodName) ∈ lw_tbl := List.mem_of_getElem? (i := 575) (by decide +kernel)
theorem mq_576 : Jvm.Cond.sameMethod "NodTax$FittingOrders" "NodTax$Orders" "keepAsFirst" "()V" ∈ lw_tbl := List.mem_of_getElem? (i := 576) (by decide +kernel)
theorem mq_577 : Jvm.Cond.selects "NodTax$FittingOrders" ({ cls := "NodTax$FittingOrders", name := "keepAsFirst", desc := "()V" } : Jvm.MethodName) ({ cls := "NodTax$Orders", name := "keepAsFirst", desc := "()V" } : Jvm.MethodName) ∈ lw_tbl := List.mem_of_getElem? (i := 577) (by decide +kernel)
theorem mq_578 : Jvm.Cond.fieldLinkNest "NodTax$Orders" (55 : Nat) "NodTax" "BY_CODE" "[C" "NodTax" ∈ lw_tbl := List.mem_of_getElem? (i := 578) (by decide +kernel)
theorem mq_579 : Jvm.Cond.methodLink "NodTax$Orders" (59 : Nat) ({ cls := "NodTax$Walk", name := "become", desc := "(LNodTax$Walk;)V" } : Jvm.MethodName) ∈ lw_tbl := List.mem_of_getElem? (i := 579) (by decide +kernel)
theorem mq_580 : Jvm.Cond.instanceMethod ({ cls := "NodTax$Walk", name := "become", desc := "(LNodTax$Walk;)V" } : Jvm.MethodName) ∈ lw_tbl := List.mem_of_getElem? (i := 580) (by decide +kernel)
theorem mq_581 : Jvm.Cond.selects "NodTax$Walk" ({ cls := "NodTax$Walk", name := "become", desc := "(LNodTax$Walk;)V" } : Jvm.MethodName) ({ cls := "NodTax$Walk", name := "become", desc := "(LNodTax$Walk;)V" } : Jvm.MethodName) ∈ lw_tbl := List.mem_of_getElem? (i := 581) (by decide +kernel)
theorem mq_582 : Jvm.Cond.code ({ cls := "NodTax$Walk", name := "become", desc := "(LNodTax$Walk;)V" } : Jvm.MethodName) prog_8_method_3_code (2 : Nat) (Option.none : Option Jvm.ClassFile.FieldType) ∈ lw_tbl := List.mem_of_getElem? (i := 582) (by decide +kernel)
theorem mq_583 : Jvm.Cond.methodLink "NodTax$Orders" (62 : Nat) ({ cls := "NodTax$Walk", name := "pass", desc := "(LNodTax$Parish;IZ)V" } : Jvm.MethodName) ∈ lw_tbl := List.mem_of_getElem? (i := 583) (by decide +kernel)
theorem mq_584 : Jvm.Cond.methodLink "NodTax$Orders" (66 : Nat) ({ cls := "NodTax$Orders", name := "mayGoOn", desc := "(LNodTax$Parish;LNodTax$Walk;I)Z" } : Jvm.MethodName) ∈ lw_tbl := List.mem_of_getElem? (i := 584) (by decide +kernel)
theorem mq_585 : Jvm.Cond.declares ({ cls := "NodTax$Orders", name := "mayGoOn", desc := "(LNodTax$Parish;LNodTax$Walk;I)Z" } : Jvm.MethodName) ∈ lw_tbl := List.mem_of_getElem? (i := 585) (by decide +kernel)
theorem mq_586 : Jvm.Cond.sameMethod "NodTax$Orders" "NodTax$Orders" "mayGoOn" "(LNodTax$Parish;LNodTax$Walk;I)Z" ∈ lw_tbl := List.mem_of_getElem? (i := 586) (by decide +kernel)
theorem mq_587 : Jvm.Cond.selects "NodTax$CheapestOrder" ({ cls := "NodTax$Orders", name := "mayGoOn", desc := "(LNodTax$Parish;LNodTax$Walk;I)Z" } : Jvm.MethodName) ({ cls := "NodTax$CheapestOrder", name := "mayGoOn", desc := "(LNodTax$Parish;LNodTax$Walk;I)Z" } : Jvm.MethodName) ∈ lw_tbl := List.mem_of_getElem? (i := 587) (by decide +kernel)
theorem mq_588 : Jvm.Cond.instanceMethod ({ cls := "NodTax$CheapestOrder", name := "mayGoOn", desc := "(LNodTax$Parish;LNodTax$Walk;I)Z" } : Jvm.MethodName) ∈ lw_tbl := List.mem_of_getElem? (i := 588) (by decide +kernel)
theorem mq_589 : Jvm.Cond.code ({ cls := "NodTax$CheapestOrder", name := "mayGoOn", desc := "(LNodTax$Parish;LNodTax$Walk;I)Z" } : Jvm.MethodName) prog_2_method_4_code (4 : Nat) (Option.some Jvm.ClassFile.FieldType.boolean) ∈ lw_tbl := List.mem_of_getElem? (i := 589) (by decide +kernel)
theorem mq_590 : Jvm.Cond.selects "NodTax$FittingOrders" ({ cls := "NodTax$Orders", name := "mayGoOn", desc := "(LNodTax$Parish;LNodTax$Walk;I)Z" } : Jvm.MethodName) ({ cls := "NodTax$FittingOrders", name := "mayGoOn", desc := "(LNodTax$Parish;LNodTax$Walk;I)Z" } : Jvm.MethodName) ∈ lw_tbl := List.mem_of_getElem? (i := 590) (by decide +kernel)
theorem mq_591 : Jvm.Cond.instanceMethod ({ cls := "NodTax$FittingOrders", name := "mayGoOn", desc := "(LNodTax$Parish;LNodTax$Walk;I)Z" } : Jvm.MethodName) ∈ lw_tbl := List.mem_of_getElem? (i := 591) (by decide +kernel)
theorem mq_592 : Jvm.Cond.code ({ cls := "NodTax$FittingOrders", name := "mayGoOn", desc := "(LNodTax$Parish;LNodTax$Walk;I)Z" } : Jvm.MethodName) prog_3_method_4_code (5 : Nat) (Option.some Jvm.ClassFile.FieldType.boolean) ∈ lw_tbl := List.mem_of_getElem? (i := 592) (by decide +kernel)
theorem mq_593 : Jvm.Cond.methodLink "NodTax$FittingOrders" (43 : Nat) ({ cls := "NodTax$Walk", name := "dipping", desc := "()I" } : Jvm.MethodName) ∈ lw_tbl := List.mem_of_getElem? (i := 593) (by decide +kernel)
theorem mq_594 : Jvm.Cond.methodLink "NodTax$FittingOrders" (49 : Nat) ({ cls := "java/lang/Integer", name := "bitCount", desc := "(I)I" } : Jvm.MethodName) ∈ lw_tbl := List.mem_of_getElem? (i := 594) (by decide +kernel)
theorem mq_595 : Jvm.Cond.methodLink "NodTax" (179 : Nat) ({ cls := "NodTax$CheapestOrder", name := "signOfBest", desc := "(I)I" } : Jvm.MethodName) ∈ lw_tbl := List.mem_of_getElem? (i := 595) (by decide +kernel)
theorem mq_596 : Jvm.Cond.instanceMethod ({ cls := "NodTax$CheapestOrder", name := "signOfBest", desc := "(I)I" } : Jvm.MethodName) ∈ lw_tbl := List.mem_of_getElem? (i := 596) (by decide +kernel)
theorem mq_597 : Jvm.Cond.selects "NodTax$CheapestOrder" ({ cls := "NodTax$CheapestOrder", name := "signOfBest", desc := "(I)I" } : Jvm.MethodName) ({ cls := "NodTax$CheapestOrder", name := "signOfBest", desc := "(I)I" } : Jvm.MethodName) ∈ lw_tbl := List.mem_of_getElem? (i := 597) (by decide +kernel)
theorem mq_598 : Jvm.Cond.code ({ cls := "NodTax$CheapestOrder", name := "signOfBest", desc := "(I)I" } : Jvm.MethodName) prog_2_method_6_code (2 : Nat) (Option.some Jvm.ClassFile.FieldType.int) ∈ lw_tbl := List.mem_of_getElem? (i := 598) (by decide +kernel)
theorem mq_599 : Jvm.Cond.methodLink "NodTaxLaw" (66 : Nat) ({ cls := "NodTax", name := "start", desc := "(I)I" } : Jvm.MethodName) ∈ lw_tbl := List.mem_of_getElem? (i := 599) (by decide +kernel)
theorem mq_600 : Jvm.Cond.instanceMethod ({ cls := "NodTax", name := "start", desc := "(I)I" } : Jvm.MethodName) ∈ lw_tbl := List.mem_of_getElem? (i := 600) (by decide +kernel)
theorem mq_601 : Jvm.Cond.selects "NodTax" ({ cls := "NodTax", name := "start", desc := "(I)I" } : Jvm.MethodName) ({ cls := "NodTax", name := "start", desc := "(I)I" } : Jvm.MethodName) ∈ lw_tbl := List.mem_of_getElem? (i := 601) (by decide +kernel)
theorem mq_602 : Jvm.Cond.code ({ cls := "NodTax", name := "start", desc := "(I)I" } : Jvm.MethodName) prog_1_method_14_code (2 : Nat) (Option.some Jvm.ClassFile.FieldType.int) ∈ lw_tbl := List.mem_of_getElem? (i := 602) (by decide +kernel)
theorem mq_603 : Jvm.Cond.methodLink "NodTax" (182 : Nat) ({ cls := "NodTax", name := "bestStart", desc := "(Z)I" } : Jvm.MethodName) ∈ lw_tbl := List.mem_of_getElem? (i := 603) (by decide +kernel)
theorem mq_605 : Jvm.Cond.instanceMethod ({ cls := "NodTax", name := "bestStart", desc := "(Z)I" } : Jvm.MethodName) ∈ lw_tbl := List.mem_of_getElem? (i := 605) (by decide +kernel)
theorem mq_606 : Jvm.Cond.code ({ cls := "NodTax", name := "bestStart", desc := "(Z)I" } : Jvm.MethodName) prog_1_method_33_code (7 : Nat) (Option.some Jvm.ClassFile.FieldType.int) ∈ lw_tbl := List.mem_of_getElem? (i := 606) (by decide +kernel)
theorem mq_607 : Jvm.Cond.methodLink "NodTax" (297 : Nat) ({ cls := "NodTax$Walk", name := "become", desc := "(LNodTax$Walk;)V" } : Jvm.MethodName) ∈ lw_tbl := List.mem_of_getElem? (i := 607) (by decide +kernel)
theorem mq_608 : Jvm.Cond.methodLink "NodTax" (300 : Nat) ({ cls := "java/lang/Math", name := "min", desc := "(II)I" } : Jvm.MethodName) ∈ lw_tbl := List.mem_of_getElem? (i := 608) (by decide +kernel)
theorem mq_609 : Jvm.Cond.methodLink "NodTaxLaw" (70 : Nat) ({ cls := "NodTax", name := "seated", desc := "(I)I" } : Jvm.MethodName) ∈ lw_tbl := List.mem_of_getElem? (i := 609) (by decide +kernel)
theorem mq_610 : Jvm.Cond.instanceMethod ({ cls := "NodTax", name := "seated", desc := "(I)I" } : Jvm.MethodName) ∈ lw_tbl := List.mem_of_getElem? (i := 610) (by decide +kernel)
theorem mq_611 : Jvm.Cond.selects "NodTax" ({ cls := "NodTax", name := "seated", desc := "(I)I" } : Jvm.MethodName) ({ cls := "NodTax", name := "seated", desc := "(I)I" } : Jvm.MethodName) ∈ lw_tbl := List.mem_of_getElem? (i := 611) (by decide +kernel)
theorem mq_612 : Jvm.Cond.code ({ cls := "NodTax", name := "seated", desc := "(I)I" } : Jvm.MethodName) prog_1_method_15_code (2 : Nat) (Option.some Jvm.ClassFile.FieldType.int) ∈ lw_tbl := List.mem_of_getElem? (i := 612) (by decide +kernel)
theorem mq_613 : Jvm.Cond.methodLink "NodTax" (186 : Nat) ({ cls := "NodTax", name := "bestChange", desc := "(Z)I" } : Jvm.MethodName) ∈ lw_tbl := List.mem_of_getElem? (i := 613) (by decide +kernel)
theorem mq_615 : Jvm.Cond.instanceMethod ({ cls := "NodTax", name := "bestChange", desc := "(Z)I" } : Jvm.MethodName) ∈ lw_tbl := List.mem_of_getElem? (i := 615) (by decide +kernel)
theorem mq_616 : Jvm.Cond.code ({ cls := "NodTax", name := "bestChange", desc := "(Z)I" } : Jvm.MethodName) prog_1_method_34_code (7 : Nat) (Option.some Jvm.ClassFile.FieldType.int) ∈ lw_tbl := List.mem_of_getElem? (i := 616) (by decide +kernel)
theorem mq_617 : Jvm.Cond.methodLink "NodTax" (308 : Nat) ({ cls := "NodTax", name := "isNewChange", desc := "(II)Z" } : Jvm.MethodName) ∈ lw_tbl := List.mem_of_getElem? (i := 617) (by decide +kernel)
theorem mq_619 : Jvm.Cond.instanceMethod ({ cls := "NodTax", name := "isNewChange", desc := "(II)Z" } : Jvm.MethodName) ∈ lw_tbl := List.mem_of_getElem? (i := 619) (by decide +kernel)
theorem mq_620 : Jvm.Cond.code ({ cls := "NodTax", name := "isNewChange", desc := "(II)Z" } : Jvm.MethodName) prog_1_method_35_code (4 : Nat) (Option.some Jvm.ClassFile.FieldType.boolean) ∈ lw_tbl := List.mem_of_getElem? (i := 620) (by decide +kernel)
theorem mq_621 : Jvm.Cond.methodLink "NodTax" (312 : Nat) ({ cls := "NodTax", name := "nodsWhenChanged", desc := "(II)I" } : Jvm.MethodName) ∈ lw_tbl := List.mem_of_getElem? (i := 621) (by decide +kernel)
theorem mq_623 : Jvm.Cond.instanceMethod ({ cls := "NodTax", name := "nodsWhenChanged", desc := "(II)I" } : Jvm.MethodName) ∈ lw_tbl := List.mem_of_getElem? (i := 623) (by decide +kernel)
theorem mq_624 : Jvm.Cond.code ({ cls := "NodTax", name := "nodsWhenChanged", desc := "(II)I" } : Jvm.MethodName) prog_1_method_36_code (5 : Nat) (Option.some Jvm.ClassFile.FieldType.int) ∈ lw_tbl := List.mem_of_getElem? (i := 624) (by decide +kernel)
theorem mq_625 : Jvm.Cond.methodLink "NodTax" (272 : Nat) ({ cls := "NodTax$Parish", name := "become", desc := "(LNodTax$Parish;)V" } : Jvm.MethodName) ∈ lw_tbl := List.mem_of_getElem? (i := 625) (by decide +kernel)
theorem mq_626 : Jvm.Cond.instanceMethod ({ cls := "NodTax$Parish", name := "become", desc := "(LNodTax$Parish;)V" } : Jvm.MethodName) ∈ lw_tbl := List.mem_of_getElem? (i := 626) (by decide +kernel)
theorem mq_627 : Jvm.Cond.selects "NodTax$Parish" ({ cls := "NodTax$Parish", name := "become", desc := "(LNodTax$Parish;)V" } : Jvm.MethodName) ({ cls := "NodTax$Parish", name := "become", desc := "(LNodTax$Parish;)V" } : Jvm.MethodName) ∈ lw_tbl := List.mem_of_getElem? (i := 627) (by decide +kernel)
theorem mq_628 : Jvm.Cond.code ({ cls := "NodTax$Parish", name := "become", desc := "(LNodTax$Parish;)V" } : Jvm.MethodName) prog_6_method_2_code (2 : Nat) (Option.none : Option Jvm.ClassFile.FieldType) ∈ lw_tbl := List.mem_of_getElem? (i := 628) (by decide +kernel)
theorem mq_629 : Jvm.Cond.methodLink "NodTax$Parish" (52 : Nat) ({ cls := "java/lang/System", name := "arraycopy", desc := "(Ljava/lang/Object;ILjava/lang/Object;II)V" } : Jvm.MethodName) ∈ lw_tbl := List.mem_of_getElem? (i := 629) (by decide +kernel)
theorem mq_630 : Jvm.Cond.methodLink "NodTaxLaw" (74 : Nat) ({ cls := "NodTax", name := "hired", desc := "(II)I" } : Jvm.MethodName) ∈ lw_tbl := List.mem_of_getElem? (i := 630) (by decide +kernel)
theorem mq_631 : Jvm.Cond.instanceMethod ({ cls := "NodTax", name := "hired", desc := "(II)I" } : Jvm.MethodName) ∈ lw_tbl := List.mem_of_getElem? (i := 631) (by decide +kernel)
theorem mq_632 : Jvm.Cond.selects "NodTax" ({ cls := "NodTax", name := "hired", desc := "(II)I" } : Jvm.MethodName) ({ cls := "NodTax", name := "hired", desc := "(II)I" } : Jvm.MethodName) ∈ lw_tbl := List.mem_of_getElem? (i := 632) (by decide +kernel)
theorem mq_633 : Jvm.Cond.code ({ cls := "NodTax", name := "hired", desc := "(II)I" } : Jvm.MethodName) prog_1_method_16_code (4 : Nat) (Option.some Jvm.ClassFile.FieldType.int) ∈ lw_tbl := List.mem_of_getElem? (i := 633) (by decide +kernel)
theorem mq_634 : Jvm.Cond.methodLink "NodTax" (189 : Nat) ({ cls := "NodTax", name := "fewestUprights", desc := "(I)I" } : Jvm.MethodName) ∈ lw_tbl := List.mem_of_getElem? (i := 634) (by decide +kernel)
theorem mq_636 : Jvm.Cond.instanceMethod ({ cls := "NodTax", name := "fewestUprights", desc := "(I)I" } : Jvm.MethodName) ∈ lw_tbl := List.mem_of_getElem? (i := 636) (by decide +kernel)
theorem mq_637 : Jvm.Cond.code ({ cls := "NodTax", name := "fewestUprights", desc := "(I)I" } : Jvm.MethodName) prog_1_method_37_code (5 : Nat) (Option.some Jvm.ClassFile.FieldType.int) ∈ lw_tbl := List.mem_of_getElem? (i := 637) (by decide +kernel)
theorem mq_638 : Jvm.Cond.methodLink "NodTax" (192 : Nat) ({ cls := "java/lang/Integer", name := "bitCount", desc := "(I)I" } : Jvm.MethodName) ∈ lw_tbl := List.mem_of_getElem? (i := 638) (by decide +kernel)
theorem mq_639 : Jvm.Cond.methodLink "NodTax" (315 : Nat) ({ cls := "NodTax", name := "isTrialTaxWithin", desc := "(I)Z" } : Jvm.MethodName) ∈ lw_tbl := List.mem_of_getElem? (i := 639) (by decide +kernel)
theorem mq_641 : Jvm.Cond.instanceMethod ({ cls := "NodTax", name := "isTrialTaxWithin", desc := "(I)Z" } : Jvm.MethodName) ∈ lw_tbl := List.mem_of_getElem? (i := 641) (by decide +kernel)
theorem mq_642 : Jvm.Cond.code ({ cls := "NodTax", name := "isTrialTaxWithin", desc := "(I)Z" } : Jvm.MethodName) prog_1_method_38_code (4 : Nat) (Option.some Jvm.ClassFile.FieldType.boolean) ∈ lw_tbl := List.mem_of_getElem? (i := 642) (by decide +kernel)
theorem mq_643 : Jvm.Cond.methodLink "NodTaxLaw" (78 : Nat) ({ cls := "NodTax", name := "least", desc := "()I" } : Jvm.MethodName) ∈ lw_tbl := List.mem_of_getElem? (i := 643) (by decide +kernel)
theorem mq_644 : Jvm.Cond.instanceMethod ({ cls := "NodTax", name := "least", desc := "()I" } : Jvm.MethodName) ∈ lw_tbl := List.mem_of_getElem? (i := 644) (by decide +kernel)
theorem mq_645 : Jvm.Cond.selects "NodTax" ({ cls := "NodTax", name := "least", desc := "()I" } : Jvm.MethodName) ({ cls := "NodTax", name := "least", desc := "()I" } : Jvm.MethodName) ∈ lw_tbl := List.mem_of_getElem? (i := 645) (by decide +kernel)
theorem mq_646 : Jvm.Cond.code ({ cls := "NodTax", name := "least", desc := "()I" } : Jvm.MethodName) prog_1_method_17_code (1 : Nat) (Option.some Jvm.ClassFile.FieldType.int) ∈ lw_tbl := List.mem_of_getElem? (i := 646) (by decide +kernel)
theorem mq_647 : Jvm.Cond.methodLink "NodTax" (197 : Nat) ({ cls := "NodTax", name := "rateAgainstHell", desc := "()I" } : Jvm.MethodName) ∈ lw_tbl := List.mem_of_getElem? (i := 647) (by decide +kernel)
theorem mq_649 : Jvm.Cond.instanceMethod ({ cls := "NodTax", name := "rateAgainstHell", desc := "()I" } : Jvm.MethodName) ∈ lw_tbl := List.mem_of_getElem? (i := 649) (by decide +kernel)
theorem mq_650 : Jvm.Cond.code ({ cls := "NodTax", name := "rateAgainstHell", desc := "()I" } : Jvm.MethodName) prog_1_method_39_code (7 : Nat) (Option.some Jvm.ClassFile.FieldType.int) ∈ lw_tbl := List.mem_of_getElem? (i := 650) (by decide +kernel)
theorem mq_651 : Jvm.Cond.methodLink "NodTaxLaw" (82 : Nat) ({ cls := "NodTax", name := "seen", desc := "(II)I" } : Jvm.MethodName) ∈ lw_tbl := List.mem_of_getElem? (i := 651) (by decide +kernel)
theorem mq_652 : Jvm.Cond.instanceMethod ({ cls := "NodTax", name := "seen", desc := "(II)I" } : Jvm.MethodName) ∈ lw_tbl := List.mem_of_getElem? (i := 652) (by decide +kernel)
theorem mq_653 : Jvm.Cond.selects "NodTax" ({ cls := "NodTax", name := "seen", desc := "(II)I" } : Jvm.MethodName) ({ cls := "NodTax", name := "seen", desc := "(II)I" } : Jvm.MethodName) ∈ lw_tbl := List.mem_of_getElem? (i := 653) (by decide +kernel)
theorem mq_654 : Jvm.Cond.code ({ cls := "NodTax", name := "seen", desc := "(II)I" } : Jvm.MethodName) prog_1_method_18_code (3 : Nat) (Option.some Jvm.ClassFile.FieldType.int) ∈ lw_tbl := List.mem_of_getElem? (i := 654) (by decide +kernel)
theorem mq_655 : Jvm.Cond.methodLink "NodTax" (203 : Nat) ({ cls := "NodTax$Parish", name := "addSight", desc := "(II)I" } : Jvm.MethodName) ∈ lw_tbl := List.mem_of_getElem? (i := 655) (by decide +kernel)
theorem mq_656 : Jvm.Cond.instanceMethod ({ cls := "NodTax$Parish", name := "addSight", desc := "(II)I" } : Jvm.MethodName) ∈ lw_tbl := List.mem_of_getElem? (i := 656) (by decide +kernel)
theorem mq_657 : Jvm.Cond.selects "NodTax$Parish" ({ cls := "NodTax$Parish", name := "addSight", desc := "(II)I" } : Jvm.MethodName) ({ cls := "NodTax$Parish", name := "addSight", desc := "(II)I" } : Jvm.MethodName) ∈ lw_tbl := List.mem_of_getElem? (i := 657) (by decide +kernel)
theorem mq_658 : Jvm.Cond.code ({ cls := "NodTax$Parish", name := "addSight", desc := "(II)I" } : Jvm.MethodName) prog_6_method_7_code (3 : Nat) (Option.some Jvm.ClassFile.FieldType.int) ∈ lw_tbl := List.mem_of_getElem? (i := 658) (by decide +kernel)
theorem mq_659 : Jvm.Cond.methodLink "NodTaxLaw" (86 : Nat) ({ cls := "NodTax", name := "forget", desc := "()I" } : Jvm.MethodName) ∈ lw_tbl := List.mem_of_getElem? (i := 659) (by decide +kernel)
theorem mq_660 : Jvm.Cond.instanceMethod ({ cls := "NodTax", name := "forget", desc := "()I" } : Jvm.MethodName) ∈ lw_tbl := List.mem_of_getElem? (i := 660) (by decide +kernel)
theorem mq_661 : Jvm.Cond.selects "NodTax" ({ cls := "NodTax", name := "forget", desc := "()I" } : Jvm.MethodName) ({ cls := "NodTax", name := "forget", desc := "()I" } : Jvm.MethodName) ∈ lw_tbl := List.mem_of_getElem? (i := 661) (by decide +kernel)
theorem mq_662 : Jvm.Cond.code ({ cls := "NodTax", name := "forget", desc := "()I" } : Jvm.MethodName) prog_1_method_19_code (2 : Nat) (Option.some Jvm.ClassFile.FieldType.int) ∈ lw_tbl := List.mem_of_getElem? (i := 662) (by decide +kernel)
theorem mq_663 : Jvm.Cond.methodLink "NodTaxLaw" (90 : Nat) ({ cls := "NodTax", name := "preached", desc := "(I)I" } : Jvm.MethodName) ∈ lw_tbl := List.mem_of_getElem? (i := 663) (by decide +kernel)
theorem mq_664 : Jvm.Cond.instanceMethod ({ cls := "NodTax", name := "preached", desc := "(I)I" } : Jvm.MethodName) ∈ lw_tbl := List.mem_of_getElem? (i := 664) (by decide +kernel)
theorem mq_665 : Jvm.Cond.selects "NodTax" ({ cls := "NodTax", name := "preached", desc := "(I)I" } : Jvm.MethodName) ({ cls := "NodTax", name := "preached", desc := "(I)I" } : Jvm.MethodName) ∈ lw_tbl := List.mem_of_getElem? (i := 665) (by decide +kernel)
theorem mq_666 : Jvm.Cond.code ({ cls := "NodTax", name := "preached", desc := "(I)I" } : Jvm.MethodName) prog_1_method_20_code (3 : Nat) (Option.some Jvm.ClassFile.FieldType.int) ∈ lw_tbl := List.mem_of_getElem? (i := 666) (by decide +kernel)
theorem mq_667 : Jvm.Cond.methodLink "NodTax" (206 : Nat) ({ cls := "NodTax", name := "preachedRefusal", desc := "()I" } : Jvm.MethodName) ∈ lw_tbl := List.mem_of_getElem? (i := 667) (by decide +kernel)
theorem mq_669 : Jvm.Cond.instanceMethod ({ cls := "NodTax", name := "preachedRefusal", desc := "()I" } : Jvm.MethodName) ∈ lw_tbl := List.mem_of_getElem? (i := 669) (by decide +kernel)
theorem mq_670 : Jvm.Cond.code ({ cls := "NodTax", name := "preachedRefusal", desc := "()I" } : Jvm.MethodName) prog_1_method_40_code (1 : Nat) (Option.some Jvm.ClassFile.FieldType.int) ∈ lw_tbl := List.mem_of_getElem? (i := 670) (by decide +kernel)
theorem mq_671 : Jvm.Cond.methodLink "NodTax" (209 : Nat) ({ cls := "NodTax$FittingOrders", name := "find", desc := "(LNodTax$Parish;LNodTax$Pad;[LNodTax$Walk;)V" } : Jvm.MethodName) ∈ lw_tbl := List.mem_of_getElem? (i := 671) (by decide +kernel)
theorem mq_672 : Jvm.Cond.instanceMethod ({ cls := "NodTax$FittingOrders", name := "find", desc := "(LNodTax$Parish;LNodTax$Pad;[LNodTax$Walk;)V" } : Jvm.MethodName) ∈ lw_tbl := List.mem_of_getElem? (i := 672) (by decide +kernel)
theorem mq_673 : Jvm.Cond.selects "NodTax$FittingOrders" ({ cls := "NodTax$FittingOrders", name := "find", desc := "(LNodTax$Parish;LNodTax$Pad;[LNodTax$Walk;)V" } : Jvm.MethodName) ({ cls := "NodTax$FittingOrders", name := "find", desc := "(LNodTax$Parish;LNodTax$Pad;[LNodTax$Walk;)V" } : Jvm.MethodName) ∈ lw_tbl := List.mem_of_getElem? (i := 673) (by decide +kernel)
theorem mq_674 : Jvm.Cond.code ({ cls := "NodTax$FittingOrders", name := "find", desc := "(LNodTax$Parish;LNodTax$Pad;[LNodTax$Walk;)V" } : Jvm.MethodName) prog_3_method_2_code (4 : Nat) (Option.none : Option Jvm.ClassFile.FieldType) ∈ lw_tbl := List.mem_of_getElem? (i := 674) (by decide +kernel)
theorem mq_675 : Jvm.Cond.methodLink "NodTax$FittingOrders" (18 : Nat) ({ cls := "NodTax$FittingOrders", name := "areMinutesThere", desc := "(LNodTax$Parish;LNodTax$Pad;)Z" } : Jvm.MethodName) ∈ lw_tbl := List.mem_of_getElem? (i := 675) (by decide +kernel)
theorem mq_676 : Jvm.Cond.static ({ cls := "NodTax$FittingOrders", name := "areMinutesThere", desc := "(LNodTax$Parish;LNodTax$Pad;)Z" } : Jvm.MethodName) ∈ lw_tbl := List.mem_of_getElem? (i := 676) (by decide +kernel)
theorem mq_677 : Jvm.Cond.code ({ cls := "NodTax$FittingOrders", name := "areMinutesThere", desc := "(LNodTax$Parish;LNodTax$Pad;)Z" } : Jvm.MethodName) prog_3_method_3_code (3 : Nat) (Option.some Jvm.ClassFile.FieldType.boolean) ∈ lw_tbl := List.mem_of_getElem? (i := 677) (by decide +kernel)
theorem mq_678 : Jvm.Cond.methodLink "NodTax$FittingOrders" (22 : Nat) ({ cls := "NodTax$FittingOrders", name := "goThrough", desc := "(LNodTax$Parish;LNodTax$Pad;[LNodTax$Walk;)V" } : Jvm.MethodName) ∈ lw_tbl := List.mem_of_getElem? (i := 678) (by decide +kernel)
theorem mq_679 : Jvm.Cond.sameMethod "NodTax$FittingOrders" "NodTax$Orders" "goThrough" "(LNodTax$Parish;LNodTax$Pad;[LNodTax$Walk;)V" ∈ lw_tbl := List.mem_of_getElem? (i := 679) (by decide +kernel)
theorem mq_680 : Jvm.Cond.selects "NodTax$FittingOrders" ({ cls := "NodTax$FittingOrders", name := "goThrough", desc := "(LNodTax$Parish;LNodTax$Pad;[LNodTax$Walk;)V" } : Jvm.MethodName) ({ cls := "NodTax$Orders", name := "goThrough", desc := "(LNodTax$Parish;LNodTax$Pad;[LNodTax$Walk;)V" } : Jvm.MethodName) ∈ lw_tbl := List.mem_of_getElem? (i := 680) (by decide +kernel)
theorem mq_681 : Jvm.Cond.methodLink "NodTax" (215 : Nat) ({ cls := "NodTax$FittingOrders", name := "signOfFirst", desc := "(I)I" } : Jvm.MethodName) ∈ lw_tbl := List.mem_of_getElem? (i := 681) (by decide +kernel)
theorem mq_682 : Jvm.Cond.instanceMethod ({ cls := "NodTax$FittingOrders", name := "signOfFirst", desc := "(I)I" } : Jvm.MethodName) ∈ lw_tbl := List.mem_of_getElem? (i := 682) (by decide +kernel)
theorem mq_683 : Jvm.Cond.selects "NodTax$FittingOrders" ({ cls := "NodTax$FittingOrders", name := "signOfFirst", desc := "(I)I" } : Jvm.MethodName) ({ cls := "NodTax$FittingOrders", name := "signOfFirst", desc := "(I)I" } : Jvm.MethodName) ∈ lw_tbl := List.mem_of_getElem? (i := 683) (by decide +kernel)
theorem mq_684 : Jvm.Cond.code ({ cls := "NodTax$FittingOrders", name := "signOfFirst", desc := "(I)I" } : Jvm.MethodName) prog_3_method_6_code (2 : Nat) (Option.some Jvm.ClassFile.FieldType.int) ∈ lw_tbl := List.mem_of_getElem? (i := 684) (by decide +kernel)
theorem mq_685 : Jvm.Cond.methodLink "NodTaxLaw" (94 : Nat) ({ cls := "NodTax", name := "surely", desc := "()I" } : Jvm.MethodName) ∈ lw_tbl := List.mem_of_getElem? (i := 685) (by decide +kernel)
theorem mq_686 : Jvm.Cond.instanceMethod ({ cls := "NodTax", name := "surely", desc := "()I" } : Jvm.MethodName) ∈ lw_tbl := List.mem_of_getElem? (i := 686) (by decide +kernel)
theorem mq_687 : Jvm.Cond.selects "NodTax" ({ cls := "NodTax", name := "surely", desc := "()I" } : Jvm.MethodName) ({ cls := "NodTax", name := "surely", desc := "()I" } : Jvm.MethodName) ∈ lw_tbl := List.mem_of_getElem? (i := 687) (by decide +kernel)
theorem mq_688 : Jvm.Cond.code ({ cls := "NodTax", name := "surely", desc := "()I" } : Jvm.MethodName) prog_1_method_21_code (2 : Nat) (Option.some Jvm.ClassFile.FieldType.int) ∈ lw_tbl := List.mem_of_getElem? (i := 688) (by decide +kernel)
theorem mq_689 : Jvm.Cond.methodLink "NodTaxLaw" (98 : Nat) ({ cls := "NodTax", name := "dips", desc := "(II)I" } : Jvm.MethodName) ∈ lw_tbl := List.mem_of_getElem? (i := 689) (by decide +kernel)
theorem mq_690 : Jvm.Cond.instanceMethod ({ cls := "NodTax", name := "dips", desc := "(II)I" } : Jvm.MethodName) ∈ lw_tbl := List.mem_of_getElem? (i := 690) (by decide +kernel)
theorem mq_691 : Jvm.Cond.selects "NodTax" ({ cls := "NodTax", name := "dips", desc := "(II)I" } : Jvm.MethodName) ({ cls := "NodTax", name := "dips", desc := "(II)I" } : Jvm.MethodName) ∈ lw_tbl := List.mem_of_getElem? (i := 691) (by decide +kernel)
theorem mq_692 : Jvm.Cond.code ({ cls := "NodTax", name := "dips", desc := "(II)I" } : Jvm.MethodName) prog_1_method_22_code (3 : Nat) (Option.some Jvm.ClassFile.FieldType.int) ∈ lw_tbl := List.mem_of_getElem? (i := 692) (by decide +kernel)
theorem mq_693 : Jvm.Cond.methodLink "NodTax" (221 : Nat) ({ cls := "NodTax", name := "dipBits", desc := "(IZ)I" } : Jvm.MethodName) ∈ lw_tbl := List.mem_of_getElem? (i := 693) (by decide +kernel)
theorem mq_695 : Jvm.Cond.instanceMethod ({ cls := "NodTax", name := "dipBits", desc := "(IZ)I" } : Jvm.MethodName) ∈ lw_tbl := List.mem_of_getElem? (i := 695) (by decide +kernel)
theorem mq_696 : Jvm.Cond.code ({ cls := "NodTax", name := "dipBits", desc := "(IZ)I" } : Jvm.MethodName) prog_1_method_41_code (7 : Nat) (Option.some Jvm.ClassFile.FieldType.int) ∈ lw_tbl := List.mem_of_getElem? (i := 696) (by decide +kernel)
theorem mq_697 : Jvm.Cond.methodLink "NodTax" (327 : Nat) ({ cls := "NodTax$Walk", name := "dipping", desc := "()I" } : Jvm.MethodName) ∈ lw_tbl := List.mem_of_getElem? (i := 697) (by decide +kernel)
theorem mq_698 : Jvm.Cond.methodLink "NodTaxLaw" (102 : Nat) ({ cls := "NodTax", name := "alike", desc := "(I)I" } : Jvm.MethodName) ∈ lw_tbl := List.mem_of_getElem? (i := 698) (by decide +kernel)
theorem mq_699 : Jvm.Cond.instanceMethod ({ cls := "NodTax", name := "alike", desc := "(I)I" } : Jvm.MethodName) ∈ lw_tbl := List.mem_of_getElem? (i := 699) (by decide +kernel)
theorem mq_700 : Jvm.Cond.selects "NodTax" ({ cls := "NodTax", name := "alike", desc := "(I)I" } : Jvm.MethodName) ({ cls := "NodTax", name := "alike", desc := "(I)I" } : Jvm.MethodName) ∈ lw_tbl := List.mem_of_getElem? (i := 700) (by decide +kernel)
theorem mq_701 : Jvm.Cond.code ({ cls := "NodTax", name := "alike", desc := "(I)I" } : Jvm.MethodName) prog_1_method_23_code (2 : Nat) (Option.some Jvm.ClassFile.FieldType.int) ∈ lw_tbl := List.mem_of_getElem? (i := 701) (by decide +kernel)
theorem mq_702 : Jvm.Cond.methodLink "NodTax" (225 : Nat) ({ cls := "NodTax", name := "fillDipRows", desc := "()V" } : Jvm.MethodName) ∈ lw_tbl := List.mem_of_getElem? (i := 702) (by decide +kernel)
theorem mq_704 : Jvm.Cond.instanceMethod ({ cls := "NodTax", name := "fillDipRows", desc := "()V" } : Jvm.MethodName) ∈ lw_tbl := List.mem_of_getElem? (i := 704) (by decide +kernel)
theorem mq_705 : Jvm.Cond.code ({ cls := "NodTax", name := "fillDipRows", desc := "()V" } : Jvm.MethodName) prog_1_method_42_code (4 : Nat) (Option.none : Option Jvm.ClassFile.FieldType) ∈ lw_tbl := List.mem_of_getElem? (i := 705) (by decide +kernel)
theorem mq_706 : Jvm.Cond.methodLink "NodTax" (228 : Nat) ({ cls := "NodTax", name := "pairsAlike", desc := "()I" } : Jvm.MethodName) ∈ lw_tbl := List.mem_of_getElem? (i := 706) (by decide +kernel)
theorem mq_708 : Jvm.Cond.instanceMethod ({ cls := "NodTax", name := "pairsAlike", desc := "()I" } : Jvm.MethodName) ∈ lw_tbl := List.mem_of_getElem? (i := 708) (by decide +kernel)
theorem mq_709 : Jvm.Cond.code ({ cls := "NodTax", name := "pairsAlike", desc := "()I" } : Jvm.MethodName) prog_1_method_44_code (4 : Nat) (Option.some Jvm.ClassFile.FieldType.int) ∈ lw_tbl := List.mem_of_getElem? (i := 709) (by decide +kernel)
theorem mq_710 : Jvm.Cond.methodLink "NodTax" (330 : Nat) ({ cls := "NodTax", name := "areAlike", desc := "(II)Z" } : Jvm.MethodName) ∈ lw_tbl := List.mem_of_getElem? (i := 710) (by decide +kernel)
theorem mq_712 : Jvm.Cond.instanceMethod ({ cls := "NodTax", name := "areAlike", desc := "(II)Z" } : Jvm.MethodName) ∈ lw_tbl := List.mem_of_getElem? (i := 712) (by decide +kernel)
theorem mq_713 : Jvm.Cond.code ({ cls := "NodTax", name := "areAlike", desc := "(II)Z" } : Jvm.MethodName) prog_1_method_43_code (3 : Nat) (Option.some Jvm.ClassFile.FieldType.boolean) ∈ lw_tbl := List.mem_of_getElem? (i := 713) (by decide +kernel)
theorem mq_714 : Jvm.Cond.methodLink "NodTax" (231 : Nat) ({ cls := "NodTax", name := "pairAlike", desc := "(I)I" } : Jvm.MethodName) ∈ lw_tbl := List.mem_of_getElem? (i := 714) (by decide +kernel)
theorem mq_716 : Jvm.Cond.instanceMethod ({ cls := "NodTax", name := "pairAlike", desc := "(I)I" } : Jvm.MethodName) ∈ lw_tbl := List.mem_of_getElem? (i := 716) (by decide +kernel)
theorem mq_717 : Jvm.Cond.code ({ cls := "NodTax", name := "pairAlike", desc := "(I)I" } : Jvm.MethodName) prog_1_method_45_code (5 : Nat) (Option.some Jvm.ClassFile.FieldType.int) ∈ lw_tbl := List.mem_of_getElem? (i := 717) (by decide +kernel)
theorem mq_718 : Jvm.Cond.methodLink "NodTaxLaw" (106 : Nat) ({ cls := "NodTax", name := "parishes", desc := "(I)I" } : Jvm.MethodName) ∈ lw_tbl := List.mem_of_getElem? (i := 718) (by decide +kernel)
theorem mq_719 : Jvm.Cond.instanceMethod ({ cls := "NodTax", name := "parishes", desc := "(I)I" } : Jvm.MethodName) ∈ lw_tbl := List.mem_of_getElem? (i := 719) (by decide +kernel)
theorem mq_720 : Jvm.Cond.selects "NodTax" ({ cls := "NodTax", name := "parishes", desc := "(I)I" } : Jvm.MethodName) ({ cls := "NodTax", name := "parishes", desc := "(I)I" } : Jvm.MethodName) ∈ lw_tbl := List.mem_of_getElem? (i := 720) (by decide +kernel)
theorem mq_721 : Jvm.Cond.code ({ cls := "NodTax", name := "parishes", desc := "(I)I" } : Jvm.MethodName) prog_1_method_24_code (2 : Nat) (Option.some Jvm.ClassFile.FieldType.int) ∈ lw_tbl := List.mem_of_getElem? (i := 721) (by decide +kernel)
theorem mq_722 : Jvm.Cond.methodLink "NodTax" (234 : Nat) ({ cls := "NodTax$Rivals", name := "settle", desc := "(LNodTax$Parish;)V" } : Jvm.MethodName) ∈ lw_tbl := List.mem_of_getElem? (i := 722) (by decide +kernel)
theorem mq_723 : Jvm.Cond.instanceMethod ({ cls := "NodTax$Rivals", name := "settle", desc := "(LNodTax$Parish;)V" } : Jvm.MethodName) ∈ lw_tbl := List.mem_of_getElem? (i := 723) (by decide +kernel)
theorem mq_724 : Jvm.Cond.selects "NodTax$Rivals" ({ cls := "NodTax$Rivals", name := "settle", desc := "(LNodTax$Parish;)V" } : Jvm.MethodName) ({ cls := "NodTax$Rivals", name := "settle", desc := "(LNodTax$Parish;)V" } : Jvm.MethodName) ∈ lw_tbl := List.mem_of_getElem? (i := 724) (by decide +kernel)
theorem mq_725 : Jvm.Cond.code ({ cls := "NodTax$Rivals", name := "settle", desc := "(LNodTax$Parish;)V" } : Jvm.MethodName) prog_7_method_2_code (3 : Nat) (Option.none : Option Jvm.ClassFile.FieldType) ∈ lw_tbl := List.mem_of_getElem? (i := 725) (by decide +kernel)
theorem mq_726 : Jvm.Cond.methodLink "NodTax$Rivals" (22 : Nat) ({ cls := "NodTax$Parish", name := "howMany", desc := "()I" } : Jvm.MethodName) ∈ lw_tbl := List.mem_of_getElem? (i := 726) (by decide +kernel)
theorem mq_727 : Jvm.Cond.methodLink "NodTax$Rivals" (28 : Nat) ({ cls := "NodTax$Rivals", name := "doesAnybodyGo", desc := "(LNodTax$Parish;)Z" } : Jvm.MethodName) ∈ lw_tbl := List.mem_of_getElem? (i := 727) (by decide +kernel)
theorem mq_729 : Jvm.Cond.instanceMethod ({ cls := "NodTax$Rivals", name := "doesAnybodyGo", desc := "(LNodTax$Parish;)Z" } : Jvm.MethodName) ∈ lw_tbl := List.mem_of_getElem? (i := 729) (by decide +kernel)
theorem mq_730 : Jvm.Cond.code ({ cls := "NodTax$Rivals", name := "doesAnybodyGo", desc := "(LNodTax$Parish;)Z" } : Jvm.MethodName) prog_7_method_3_code (5 : Nat) (Option.some Jvm.ClassFile.FieldType.boolean) ∈ lw_tbl := List.mem_of_getElem? (i := 730) (by decide +kernel)
theorem mq_731 : Jvm.Cond.methodLink "NodTax$Rivals" (32 : Nat) ({ cls := "NodTax$Parish", name := "isThere", desc := "(I)Z" } : Jvm.MethodName) ∈ lw_tbl := List.mem_of_getElem? (i := 731) (by decide +kernel)
theorem mq_732 : Jvm.Cond.methodLink "NodTax$Rivals" (39 : Nat) ({ cls := "NodTax$Rivals", name := "bestChurch", desc := "(II)I" } : Jvm.MethodName) ∈ lw_tbl := List.mem_of_getElem? (i := 732) (by decide +kernel)
theorem mq_734 : Jvm.Cond.instanceMethod ({ cls := "NodTax$Rivals", name := "bestChurch", desc := "(II)I" } : Jvm.MethodName) ∈ lw_tbl := List.mem_of_getElem? (i := 734) (by decide +kernel)
theorem mq_735 : Jvm.Cond.code ({ cls := "NodTax$Rivals", name := "bestChurch", desc := "(II)I" } : Jvm.MethodName) prog_7_method_4_code (5 : Nat) (Option.some Jvm.ClassFile.FieldType.int) ∈ lw_tbl := List.mem_of_getElem? (i := 735) (by decide +kernel)
theorem mq_736 : Jvm.Cond.methodLink "NodTax$Rivals" (43 : Nat) ({ cls := "NodTax$Rivals", name := "liking", desc := "(III)I" } : Jvm.MethodName) ∈ lw_tbl := List.mem_of_getElem? (i := 736) (by decide +kernel)
theorem mq_738 : Jvm.Cond.instanceMethod ({ cls := "NodTax$Rivals", name := "liking", desc := "(III)I" } : Jvm.MethodName) ∈ lw_tbl := List.mem_of_getElem? (i := 738) (by decide +kernel)
theorem mq_739 : Jvm.Cond.code ({ cls := "NodTax$Rivals", name := "liking", desc := "(III)I" } : Jvm.MethodName) prog_7_method_5_code (6 : Nat) (Option.some Jvm.ClassFile.FieldType.int) ∈ lw_tbl := List.mem_of_getElem? (i := 739) (by decide +kernel)
theorem mq_740 : Jvm.Cond.methodLink "NodTaxLaw" (110 : Nat) ({ cls := "NodTax", name := "cold", desc := "(III)J" } : Jvm.MethodName) ∈ lw_tbl := List.mem_of_getElem? (i := 740) (by decide +kernel)
theorem mq_741 : Jvm.Cond.instanceMethod ({ cls := "NodTax", name := "cold", desc := "(III)J" } : Jvm.MethodName) ∈ lw_tbl := List.mem_of_getElem? (i := 741) (by decide +kernel)
theorem mq_742 : Jvm.Cond.selects "NodTax" ({ cls := "NodTax", name := "cold", desc := "(III)J" } : Jvm.MethodName) ({ cls := "NodTax", name := "cold", desc := "(III)J" } : Jvm.MethodName) ∈ lw_tbl := List.mem_of_getElem? (i := 742) (by decide +kernel)
theorem mq_743 : Jvm.Cond.code ({ cls := "NodTax", name := "cold", desc := "(III)J" } : Jvm.MethodName) prog_1_method_25_code (4 : Nat) (Option.some Jvm.ClassFile.FieldType.long) ∈ lw_tbl := List.mem_of_getElem? (i := 743) (by decide +kernel)
theorem mq_744 : Jvm.Cond.constantLong "NodTax" (244 : Nat) (-1000000000000000002 : Int64) ∈ lw_tbl := List.mem_of_getElem? (i := 744) (by decide +kernel)
theorem mq_745 : Jvm.Cond.constantLong "NodTax" (246 : Nat) (-1000000000000000005 : Int64) ∈ lw_tbl := List.mem_of_getElem? (i := 745) (by decide +kernel)
theorem mq_746 : Jvm.Cond.constantLong "NodTax" (248 : Nat) (-1000000000000000004 : Int64) ∈ lw_tbl := List.mem_of_getElem? (i := 746) (by decide +kernel)
theorem mq_747 : Jvm.Cond.methodLink "NodTax" (250 : Nat) ({ cls := "NodTax$Weather", name := "weigh", desc := "(LNodTax$Parish;LNodTax$Pad;[LNodTax$Walk;I)V" } : Jvm.MethodName) ∈ lw_tbl := List.mem_of_getElem? (i := 747) (by decide +kernel)
theorem mq_748 : Jvm.Cond.instanceMethod ({ cls := "NodTax$Weather", name := "weigh", desc := "(LNodTax$Parish;LNodTax$Pad;[LNodTax$Walk;I)V" } : Jvm.MethodName) ∈ lw_tbl := List.mem_of_getElem? (i := 748) (by decide +kernel)
theorem mq_749 : Jvm.Cond.selects "NodTax$Weather" ({ cls := "NodTax$Weather", name := "weigh", desc := "(LNodTax$Parish;LNodTax$Pad;[LNodTax$Walk;I)V" } : Jvm.MethodName) ({ cls := "NodTax$Weather", name := "weigh", desc := "(LNodTax$Parish;LNodTax$Pad;[LNodTax$Walk;I)V" } : Jvm.MethodName) ∈ lw_tbl := List.mem_of_getElem? (i := 749) (by decide +kernel)
theorem mq_750 : Jvm.Cond.code ({ cls := "NodTax$Weather", name := "weigh", desc := "(LNodTax$Parish;LNodTax$Pad;[LNodTax$Walk;I)V" } : Jvm.MethodName) prog_9_method_2_code (6 : Nat) (Option.none : Option Jvm.ClassFile.FieldType) ∈ lw_tbl := List.mem_of_getElem? (i := 750) (by decide +kernel)
theorem mq_751 : Jvm.Cond.constantLong "NodTax$Weather" (30 : Nat) (10 : Int64) ∈ lw_tbl := List.mem_of_getElem? (i := 751) (by decide +kernel)
theorem mq_752 : Jvm.Cond.methodLink "NodTax$Weather" (32 : Nat) ({ cls := "NodTax$Walk", name := "begin", desc := "(LNodTax$Parish;)V" } : Jvm.MethodName) ∈ lw_tbl := List.mem_of_getElem? (i := 752) (by decide +kernel)
theorem mq_753 : Jvm.Cond.methodLink "NodTax$Weather" (38 : Nat) ({ cls := "NodTax$Weather", name := "goOn", desc := "(LNodTax$Parish;LNodTax$Pad;[LNodTax$Walk;IJ)V" } : Jvm.MethodName) ∈ lw_tbl := List.mem_of_getElem? (i := 753) (by decide +kernel)
theorem mq_755 : Jvm.Cond.instanceMethod ({ cls := "NodTax$Weather", name := "goOn", desc := "(LNodTax$Parish;LNodTax$Pad;[LNodTax$Walk;IJ)V" } : Jvm.MethodName) ∈ lw_tbl := List.mem_of_getElem? (i := 755) (by decide +kernel)
theorem mq_756 : Jvm.Cond.code ({ cls := "NodTax$Weather", name := "goOn", desc := "(LNodTax$Parish;LNodTax$Pad;[LNodTax$Walk;IJ)V" } : Jvm.MethodName) prog_9_method_3_code (9 : Nat) (Option.none : Option Jvm.ClassFile.FieldType) ∈ lw_tbl := List.mem_of_getElem? (i := 756) (by decide +kernel)
theorem mq_757 : Jvm.Cond.methodLink "NodTax$Weather" (45 : Nat) ({ cls := "NodTax$Walk", name := "become", desc := "(LNodTax$Walk;)V" } : Jvm.MethodName) ∈ lw_tbl := List.mem_of_getElem? (i := 757) (by decide +kernel)
theorem mq_758 : Jvm.Cond.methodLink "NodTax$Weather" (53 : Nat) ({ cls := "NodTax$Walk", name := "pass", desc := "(LNodTax$Parish;IZ)V" } : Jvm.MethodName) ∈ lw_tbl := List.mem_of_getElem? (i := 758) (by decide +kernel)
theorem mq_759 : Jvm.Cond.methodLink "NodTax" (264 : Nat) ({ cls := "NodTax", name := "lowestTerms", desc := "(JJI)J" } : Jvm.MethodName) ∈ lw_tbl := List.mem_of_getElem? (i := 759) (by decide +kernel)
theorem mq_760 : Jvm.Cond.static ({ cls := "NodTax", name := "lowestTerms", desc := "(JJI)J" } : Jvm.MethodName) ∈ lw_tbl := List.mem_of_getElem? (i := 760) (by decide +kernel)
theorem mq_761 : Jvm.Cond.code ({ cls := "NodTax", name := "lowestTerms", desc := "(JJI)J" } : Jvm.MethodName) prog_1_method_46_code (9 : Nat) (Option.some Jvm.ClassFile.FieldType.long) ∈ lw_tbl := List.mem_of_getElem? (i := 761) (by decide +kernel)
theorem mq_762 : Jvm.Cond.methodLink "NodTax" (333 : Nat) ({ cls := "NodTax", name := "commonDivisor", desc := "(JJ)J" } : Jvm.MethodName) ∈ lw_tbl := List.mem_of_getElem? (i := 762) (by decide +kernel)
theorem mq_763 : Jvm.Cond.static ({ cls := "NodTax", name := "commonDivisor", desc := "(JJ)J" } : Jvm.MethodName) ∈ lw_tbl := List.mem_of_getElem? (i := 763) (by decide +kernel)
theorem mq_764 : Jvm.Cond.code ({ cls := "NodTax", name := "commonDivisor", desc := "(JJ)J" } : Jvm.MethodName) prog_1_method_47_code (7 : Nat) (Option.some Jvm.ClassFile.FieldType.long) ∈ lw_tbl := List.mem_of_getElem? (i := 764) (by decide +kernel)
theorem mq_765 : Jvm.Cond.methodLink "NodTaxLaw" (115 : Nat) ({ cls := "NodTax", name := "year", desc := "(III)I" } : Jvm.MethodName) ∈ lw_tbl := List.mem_of_getElem? (i := 765) (by decide +kernel)
theorem mq_766 : Jvm.Cond.instanceMethod ({ cls := "NodTax", name := "year", desc := "(III)I" } : Jvm.MethodName) ∈ lw_tbl := List.mem_of_getElem? (i := 766) (by decide +kernel)
theorem mq_767 : Jvm.Cond.selects "NodTax" ({ cls := "NodTax", name := "year", desc := "(III)I" } : Jvm.MethodName) ({ cls := "NodTax", name := "year", desc := "(III)I" } : Jvm.MethodName) ∈ lw_tbl := List.mem_of_getElem? (i := 767) (by decide +kernel)
theorem mq_768 : Jvm.Cond.code ({ cls := "NodTax", name := "year", desc := "(III)I" } : Jvm.MethodName) prog_1_method_26_code (4 : Nat) (Option.some Jvm.ClassFile.FieldType.int) ∈ lw_tbl := List.mem_of_getElem? (i := 768) (by decide +kernel)
theorem mq_769 : Jvm.Cond.methodLink "NodTax" (268 : Nat) ({ cls := "NodTax", name := "yearTotal", desc := "(III)I" } : Jvm.MethodName) ∈ lw_tbl := List.mem_of_getElem? (i := 769) (by decide +kernel)
theorem mq_771 : Jvm.Cond.instanceMethod ({ cls := "NodTax", name := "yearTotal", desc := "(III)I" } : Jvm.MethodName) ∈ lw_tbl := List.mem_of_getElem? (i := 771) (by decide +kernel)
theorem mq_772 : Jvm.Cond.code ({ cls := "NodTax", name := "yearTotal", desc := "(III)I" } : Jvm.MethodName) prog_1_method_48_code (9 : Nat) (Option.some Jvm.ClassFile.FieldType.int) ∈ lw_tbl := List.mem_of_getElem? (i := 772) (by decide +kernel)
theorem mq_773 : Jvm.Cond.constant "NodTax" (337 : Nat) (65537 : Int32) ∈ lw_tbl := List.mem_of_getElem? (i := 773) (by decide +kernel)
theorem mq_774 : Jvm.Cond.fieldLink "NodTax" (338 : Nat) "NodTax" "BY_DRAW" "[C" ∈ lw_tbl := List.mem_of_getElem? (i := 774) (by decide +kernel)
theorem mq_776 : Jvm.Cond.methodLink "NodTaxLaw" (119 : Nat) ({ cls := "NodTax", name := "image", desc := "(I)I" } : Jvm.MethodName) ∈ lw_tbl := List.mem_of_getElem? (i := 776) (by decide +kernel)
theorem mq_777 : Jvm.Cond.instanceMethod ({ cls := "NodTax", name := "image", desc := "(I)I" } : Jvm.MethodName) ∈ lw_tbl := List.mem_of_getElem? (i := 777) (by decide +kernel)
theorem mq_778 : Jvm.Cond.selects "NodTax" ({ cls := "NodTax", name := "image", desc := "(I)I" } : Jvm.MethodName) ({ cls := "NodTax", name := "image", desc := "(I)I" } : Jvm.MethodName) ∈ lw_tbl := List.mem_of_getElem? (i := 778) (by decide +kernel)
theorem mq_779 : Jvm.Cond.code ({ cls := "NodTax", name := "image", desc := "(I)I" } : Jvm.MethodName) prog_1_method_27_code (2 : Nat) (Option.some Jvm.ClassFile.FieldType.int) ∈ lw_tbl := List.mem_of_getElem? (i := 779) (by decide +kernel)
theorem mq_780 : Jvm.Cond.methodLink "NodTaxLaw" (123 : Nat) ({ cls := "NodTax", name := "restore", desc := "(I)I" } : Jvm.MethodName) ∈ lw_tbl := List.mem_of_getElem? (i := 780) (by decide +kernel)
theorem mq_781 : Jvm.Cond.instanceMethod ({ cls := "NodTax", name := "restore", desc := "(I)I" } : Jvm.MethodName) ∈ lw_tbl := List.mem_of_getElem? (i := 781) (by decide +kernel)
theorem mq_782 : Jvm.Cond.selects "NodTax" ({ cls := "NodTax", name := "restore", desc := "(I)I" } : Jvm.MethodName) ({ cls := "NodTax", name := "restore", desc := "(I)I" } : Jvm.MethodName) ∈ lw_tbl := List.mem_of_getElem? (i := 782) (by decide +kernel)
theorem mq_783 : Jvm.Cond.code ({ cls := "NodTax", name := "restore", desc := "(I)I" } : Jvm.MethodName) prog_1_method_28_code (2 : Nat) (Option.some Jvm.ClassFile.FieldType.int) ∈ lw_tbl := List.mem_of_getElem? (i := 783) (by decide +kernel)
theorem mq_784 : Jvm.Cond.methodLink "NodTaxLaw" (127 : Nat) ({ cls := "NodTax", name := "told", desc := "(I)I" } : Jvm.MethodName) ∈ lw_tbl := List.mem_of_getElem? (i := 784) (by decide +kernel)
theorem mq_785 : Jvm.Cond.instanceMethod ({ cls := "NodTax", name := "told", desc := "(I)I" } : Jvm.MethodName) ∈ lw_tbl := List.mem_of_getElem? (i := 785) (by decide +kernel)
theorem mq_786 : Jvm.Cond.selects "NodTax" ({ cls := "NodTax", name := "told", desc := "(I)I" } : Jvm.MethodName) ({ cls := "NodTax", name := "told", desc := "(I)I" } : Jvm.MethodName) ∈ lw_tbl := List.mem_of_getElem? (i := 786) (by decide +kernel)
theorem mq_787 : Jvm.Cond.code ({ cls := "NodTax", name := "told", desc := "(I)I" } : Jvm.MethodName) prog_1_method_29_code (2 : Nat) (Option.some Jvm.ClassFile.FieldType.int) ∈ lw_tbl := List.mem_of_getElem? (i := 787) (by decide +kernel)
theorem mq_788 : Jvm.Cond.methodLink "NodTax" (284 : Nat) ({ cls := "NodTax", name := "toldOf", desc := "(II)I" } : Jvm.MethodName) ∈ lw_tbl := List.mem_of_getElem? (i := 788) (by decide +kernel)
theorem mq_790 : Jvm.Cond.instanceMethod ({ cls := "NodTax", name := "toldOf", desc := "(II)I" } : Jvm.MethodName) ∈ lw_tbl := List.mem_of_getElem? (i := 790) (by decide +kernel)
theorem mq_791 : Jvm.Cond.code ({ cls := "NodTax", name := "toldOf", desc := "(II)I" } : Jvm.MethodName) prog_1_method_32_code (3 : Nat) (Option.some Jvm.ClassFile.FieldType.int) ∈ lw_tbl := List.mem_of_getElem? (i := 791) (by decide +kernel)
theorem mq_792 : Jvm.Cond.methodLink "NodTax" (294 : Nat) ({ cls := "NodTax$Parish", name := "isUpright", desc := "(I)Z" } : Jvm.MethodName) ∈ lw_tbl := List.mem_of_getElem? (i := 792) (by decide +kernel)
theorem mq_799 : Jvm.Cond.fieldLink "NodTaxModel" (7 : Nat) "NodTaxModel" "rows" "I" ∈ lw_tbl := List.mem_of_getElem? (i := 799) (by decide +kernel)
theorem mq_800 : Jvm.Cond.fieldLink "NodTaxModel" (72 : Nat) "NodTaxModel" "there" "I" ∈ lw_tbl := List.mem_of_getElem? (i := 800) (by decide +kernel)
theorem mq_801 : Jvm.Cond.fieldLink "NodTaxModel" (13 : Nat) "NodTaxModel" "seat" "[I" ∈ lw_tbl := List.mem_of_getElem? (i := 801) (by decide +kernel)
theorem mq_802 : Jvm.Cond.fieldLink "NodTaxModel" (17 : Nat) "NodTaxModel" "most" "[I" ∈ lw_tbl := List.mem_of_getElem? (i := 802) (by decide +kernel)
theorem mq_803 : Jvm.Cond.fieldLink "NodTaxModel" (20 : Nat) "NodTaxModel" "dull" "[I" ∈ lw_tbl := List.mem_of_getElem? (i := 803) (by decide +kernel)
theorem mq_804 : Jvm.Cond.fieldLink "NodTaxModel" (23 : Nat) "NodTaxModel" "creed" "[I" ∈ lw_tbl := List.mem_of_getElem? (i := 804) (by decide +kernel)
theorem mq_805 : Jvm.Cond.fieldLink "NodTaxModel" (83 : Nat) "NodTaxModel" "upright" "I" ∈ lw_tbl := List.mem_of_getElem? (i := 805) (by decide +kernel)
theorem mq_806 : Jvm.Cond.fieldLink "NodTaxModel" (26 : Nat) "NodTaxModel" "reach" "I" ∈ lw_tbl := List.mem_of_getElem? (i := 806) (by decide +kernel)
theorem mq_807 : Jvm.Cond.fieldLink "NodTaxModel" (29 : Nat) "NodTaxModel" "tax" "I" ∈ lw_tbl := List.mem_of_getElem? (i := 807) (by decide +kernel)
theorem mq_808 : Jvm.Cond.fieldLink "NodTaxModel" (89 : Nat) "NodTaxModel" "inspector" "I" ∈ lw_tbl := List.mem_of_getElem? (i := 808) (by decide +kernel)
theorem mq_809 : Jvm.Cond.fieldLink "NodTaxModel" (86 : Nat) "NodTaxModel" "sights" "I" ∈ lw_tbl := List.mem_of_getElem? (i := 809) (by decide +kernel)
theorem mq_810 : Jvm.Cond.fieldLink "NodTaxModel" (32 : Nat) "NodTaxModel" "sight" "[I" ∈ lw_tbl := List.mem_of_getElem? (i := 810) (by decide +kernel)
theorem mq_811 : Jvm.Cond.fieldLink "NodTaxModel" (103 : Nat) "NodTaxModel" "signs" "I" ∈ lw_tbl := List.mem_of_getElem? (i := 811) (by decide +kernel)
theorem mq_812 : Jvm.Cond.fieldLink "NodTaxModel" (35 : Nat) "NodTaxModel" "pad" "[I" ∈ lw_tbl := List.mem_of_getElem? (i := 812) (by decide +kernel)
theorem mq_813 : Jvm.Cond.fieldLink "NodTaxModel" (38 : Nat) "NodTaxModel" "sermon" "[I" ∈ lw_tbl := List.mem_of_getElem? (i := 813) (by decide +kernel)
theorem mq_814 : Jvm.Cond.fieldLink "NodTaxModel" (113 : Nat) "NodTaxModel" "length" "I" ∈ lw_tbl := List.mem_of_getElem? (i := 814) (by decide +kernel)
theorem mq_815 : Jvm.Cond.fieldLink "NodTaxModel" (41 : Nat) "NodTaxModel" "seats" "[I" ∈ lw_tbl := List.mem_of_getElem? (i := 815) (by decide +kernel)
theorem mq_816 : Jvm.Cond.fieldLink "NodTaxModel" (116 : Nat) "NodTaxModel" "held" "I" ∈ lw_tbl := List.mem_of_getElem? (i := 816) (by decide +kernel)
theorem mq_817 : Jvm.Cond.fieldLink "NodTaxModel" (119 : Nat) "NodTaxModel" "rate" "I" ∈ lw_tbl := List.mem_of_getElem? (i := 817) (by decide +kernel)
theorem mq_818 : Jvm.Cond.fieldLink "NodTaxModel" (122 : Nat) "NodTaxModel" "cold" "I" ∈ lw_tbl := List.mem_of_getElem? (i := 818) (by decide +kernel)
theorem mq_819 : Jvm.Cond.fieldLink "NodTaxModel" (44 : Nat) "NodTaxModel" "awake" "[I" ∈ lw_tbl := List.mem_of_getElem? (i := 819) (by decide +kernel)
theorem mq_820 : Jvm.Cond.fieldLink "NodTaxModel" (47 : Nat) "NodTaxModel" "nods" "[I" ∈ lw_tbl := List.mem_of_getElem? (i := 820) (by decide +kernel)
theorem mq_821 : Jvm.Cond.fieldLink "NodTaxModel" (50 : Nat) "NodTaxModel" "agrees" "[I" ∈ lw_tbl := List.mem_of_getElem? (i := 821) (by decide +kernel)
theorem mq_822 : Jvm.Cond.fieldLink "NodTaxModel" (53 : Nat) "NodTaxModel" "snores" "[I" ∈ lw_tbl := List.mem_of_getElem? (i := 822) (by decide +kernel)
theorem mq_823 : Jvm.Cond.fieldLink "NodTaxModel" (56 : Nat) "NodTaxModel" "behind" "[I" ∈ lw_tbl := List.mem_of_getElem? (i := 823) (by decide +kernel)
theorem mq_824 : Jvm.Cond.fieldLink "NodTaxModel" (125 : Nat) "NodTaxModel" "starts" "I" ∈ lw_tbl := List.mem_of_getElem? (i := 824) (by decide +kernel)
theorem mq_825 : Jvm.Cond.fieldLink "NodTaxModel" (128 : Nat) "NodTaxModel" "turns" "I" ∈ lw_tbl := List.mem_of_getElem? (i := 825) (by decide +kernel)
theorem mq_826 : Jvm.Cond.fieldLink "NodTaxModel" (141 : Nat) "NodTaxModel" "sumNods" "I" ∈ lw_tbl := List.mem_of_getElem? (i := 826) (by decide +kernel)
theorem mq_827 : Jvm.Cond.fieldLink "NodTaxModel" (144 : Nat) "NodTaxModel" "sumDips" "I" ∈ lw_tbl := List.mem_of_getElem? (i := 827) (by decide +kernel)
theorem mq_828 : Jvm.Cond.fieldLink "NodTaxModel" (147 : Nat) "NodTaxModel" "sumTax" "I" ∈ lw_tbl := List.mem_of_getElem? (i := 828) (by decide +kernel)
theorem mq_829 : Jvm.Cond.fieldLink "NodTaxModel" (150 : Nat) "NodTaxModel" "sumGiven" "I" ∈ lw_tbl := List.mem_of_getElem? (i := 829) (by decide +kernel)
theorem mq_830 : Jvm.Cond.fieldLink "NodTaxModel" (153 : Nat) "NodTaxModel" "sumSnores" "I" ∈ lw_tbl := List.mem_of_getElem? (i := 830) (by decide +kernel)
theorem mq_831 : Jvm.Cond.fieldLink "NodTaxModel" (59 : Nat) "NodTaxModel" "best" "[I" ∈ lw_tbl := List.mem_of_getElem? (i := 831) (by decide +kernel)
theorem mq_832 : Jvm.Cond.fieldLink "NodTaxModel" (185 : Nat) "NodTaxModel" "same" "I" ∈ lw_tbl := List.mem_of_getElem? (i := 832) (by decide +kernel)
theorem mq_833 : Jvm.Cond.fieldLink "NodTaxModel" (62 : Nat) "NodTaxModel" "goes" "[I" ∈ lw_tbl := List.mem_of_getElem? (i := 833) (by decide +kernel)
theorem mq_834 : Jvm.Cond.fieldLink "NodTaxModel" (65 : Nat) "NodTaxModel" "image" "[I" ∈ lw_tbl := List.mem_of_getElem? (i := 834) (by decide +kernel)
theorem mq_835 : Jvm.Cond.fieldLink "NodTaxModel" (68 : Nat) "NodTaxModel" "isKept" "[Z" ∈ lw_tbl := List.mem_of_getElem? (i := 835) (by decide +kernel)
theorem mq_911 : Jvm.Cond.methodLink "NodTaxLaw" (17 : Nat) ({ cls := "NodTaxModel", name := "church", desc := "(I)I" } : Jvm.MethodName) ∈ lw_tbl := List.mem_of_getElem? (i := 911) (by decide +kernel)
theorem mq_912 : Jvm.Cond.instanceMethod ({ cls := "NodTaxModel", name := "church", desc := "(I)I" } : Jvm.MethodName) ∈ lw_tbl := List.mem_of_getElem? (i := 912) (by decide +kernel)
theorem mq_913 : Jvm.Cond.selects "NodTaxModel" ({ cls := "NodTaxModel", name := "church", desc := "(I)I" } : Jvm.MethodName) ({ cls := "NodTaxModel", name := "church", desc := "(I)I" } : Jvm.MethodName) ∈ lw_tbl := List.mem_of_getElem? (i := 913) (by decide +kernel)
theorem mq_914 : Jvm.Cond.code ({ cls := "NodTaxModel", name := "church", desc := "(I)I" } : Jvm.MethodName) prog_11_method_6_code (3 : Nat) (Option.some Jvm.ClassFile.FieldType.int) ∈ lw_tbl := List.mem_of_getElem? (i := 914) (by decide +kernel)
theorem mq_915 : Jvm.Cond.methodLink "NodTaxModel" (75 : Nat) ({ cls := "NodTaxModel", name := "in", desc := "(III)Z" } : Jvm.MethodName) ∈ lw_tbl := List.mem_of_getElem? (i := 915) (by decide +kernel)
theorem mq_916 : Jvm.Cond.static ({ cls := "NodTaxModel", name := "in", desc := "(III)Z" } : Jvm.MethodName) ∈ lw_tbl := List.mem_of_getElem? (i := 916) (by decide +kernel)
theorem mq_917 : Jvm.Cond.code ({ cls := "NodTaxModel", name := "in", desc := "(III)Z" } : Jvm.MethodName) prog_11_method_2_code (3 : Nat) (Option.some Jvm.ClassFile.FieldType.boolean) ∈ lw_tbl := List.mem_of_getElem? (i := 917) (by decide +kernel)
theorem mq_918 : Jvm.Cond.methodLink "NodTaxLaw" (22 : Nat) ({ cls := "NodTaxModel", name := "hearer", desc := "(IIIIIZ)I" } : Jvm.MethodName) ∈ lw_tbl := List.mem_of_getElem? (i := 918) (by decide +kernel)
theorem mq_919 : Jvm.Cond.instanceMethod ({ cls := "NodTaxModel", name := "hearer", desc := "(IIIIIZ)I" } : Jvm.MethodName) ∈ lw_tbl := List.mem_of_getElem? (i := 919) (by decide +kernel)
theorem mq_920 : Jvm.Cond.selects "NodTaxModel" ({ cls := "NodTaxModel", name := "hearer", desc := "(IIIIIZ)I" } : Jvm.MethodName) ({ cls := "NodTaxModel", name := "hearer", desc := "(IIIIIZ)I" } : Jvm.MethodName) ∈ lw_tbl := List.mem_of_getElem? (i := 920) (by decide +kernel)
theorem mq_921 : Jvm.Cond.code ({ cls := "NodTaxModel", name := "hearer", desc := "(IIIIIZ)I" } : Jvm.MethodName) prog_11_method_8_code (7 : Nat) (Option.some Jvm.ClassFile.FieldType.int) ∈ lw_tbl := List.mem_of_getElem? (i := 921) (by decide +kernel)
theorem mq_922 : Jvm.Cond.methodLink "NodTaxModel" (92 : Nat) ({ cls := "NodTaxModel", name := "whoSits", desc := "(I)I" } : Jvm.MethodName) ∈ lw_tbl := List.mem_of_getElem? (i := 922) (by decide +kernel)
theorem mq_924 : Jvm.Cond.instanceMethod ({ cls := "NodTaxModel", name := "whoSits", desc := "(I)I" } : Jvm.MethodName) ∈ lw_tbl := List.mem_of_getElem? (i := 924) (by decide +kernel)
theorem mq_925 : Jvm.Cond.code ({ cls := "NodTaxModel", name := "whoSits", desc := "(I)I" } : Jvm.MethodName) prog_11_method_7_code (4 : Nat) (Option.some Jvm.ClassFile.FieldType.int) ∈ lw_tbl := List.mem_of_getElem? (i := 925) (by decide +kernel)
theorem mq_926 : Jvm.Cond.methodLink "NodTaxModel" (79 : Nat) ({ cls := "NodTaxModel", name := "has", desc := "(II)Z" } : Jvm.MethodName) ∈ lw_tbl := List.mem_of_getElem? (i := 926) (by decide +kernel)
theorem mq_927 : Jvm.Cond.static ({ cls := "NodTaxModel", name := "has", desc := "(II)Z" } : Jvm.MethodName) ∈ lw_tbl := List.mem_of_getElem? (i := 927) (by decide +kernel)
theorem mq_928 : Jvm.Cond.code ({ cls := "NodTaxModel", name := "has", desc := "(II)Z" } : Jvm.MethodName) prog_11_method_3_code (2 : Nat) (Option.some Jvm.ClassFile.FieldType.boolean) ∈ lw_tbl := List.mem_of_getElem? (i := 928) (by decide +kernel)
theorem mq_929 : Jvm.Cond.methodLink "NodTaxModel" (96 : Nat) ({ cls := "NodTaxModel", name := "bits", desc := "(I)I" } : Jvm.MethodName) ∈ lw_tbl := List.mem_of_getElem? (i := 929) (by decide +kernel)
theorem mq_930 : Jvm.Cond.static ({ cls := "NodTaxModel", name := "bits", desc := "(I)I" } : Jvm.MethodName) ∈ lw_tbl := List.mem_of_getElem? (i := 930) (by decide +kernel)
theorem mq_931 : Jvm.Cond.code ({ cls := "NodTaxModel", name := "bits", desc := "(I)I" } : Jvm.MethodName) prog_11_method_4_code (3 : Nat) (Option.some Jvm.ClassFile.FieldType.int) ∈ lw_tbl := List.mem_of_getElem? (i := 931) (by decide +kernel)
theorem mq_932 : Jvm.Cond.methodLink "NodTaxLaw" (26 : Nat) ({ cls := "NodTaxModel", name := "leave", desc := "(I)I" } : Jvm.MethodName) ∈ lw_tbl := List.mem_of_getElem? (i := 932) (by decide +kernel)
theorem mq_933 : Jvm.Cond.instanceMethod ({ cls := "NodTaxModel", name := "leave", desc := "(I)I" } : Jvm.MethodName) ∈ lw_tbl := List.mem_of_getElem? (i := 933) (by decide +kernel)
theorem mq_934 : Jvm.Cond.selects "NodTaxModel" ({ cls := "NodTaxModel", name := "leave", desc := "(I)I" } : Jvm.MethodName) ({ cls := "NodTaxModel", name := "leave", desc := "(I)I" } : Jvm.MethodName) ∈ lw_tbl := List.mem_of_getElem? (i := 934) (by decide +kernel)
theorem mq_935 : Jvm.Cond.code ({ cls := "NodTaxModel", name := "leave", desc := "(I)I" } : Jvm.MethodName) prog_11_method_9_code (2 : Nat) (Option.some Jvm.ClassFile.FieldType.int) ∈ lw_tbl := List.mem_of_getElem? (i := 935) (by decide +kernel)
theorem mq_936 : Jvm.Cond.methodLink "NodTaxModel" (99 : Nat) ({ cls := "NodTaxModel", name := "isThere", desc := "(I)Z" } : Jvm.MethodName) ∈ lw_tbl := List.mem_of_getElem? (i := 936) (by decide +kernel)
theorem mq_938 : Jvm.Cond.instanceMethod ({ cls := "NodTaxModel", name := "isThere", desc := "(I)Z" } : Jvm.MethodName) ∈ lw_tbl := List.mem_of_getElem? (i := 938) (by decide +kernel)
theorem mq_939 : Jvm.Cond.code ({ cls := "NodTaxModel", name := "isThere", desc := "(I)Z" } : Jvm.MethodName) prog_11_method_5_code (2 : Nat) (Option.some Jvm.ClassFile.FieldType.boolean) ∈ lw_tbl := List.mem_of_getElem? (i := 939) (by decide +kernel)
theorem mq_940 : Jvm.Cond.methodLink "NodTaxLaw" (31 : Nat) ({ cls := "NodTaxModel", name := "set", desc := "(II)I" } : Jvm.MethodName) ∈ lw_tbl := List.mem_of_getElem? (i := 940) (by decide +kernel)
theorem mq_941 : Jvm.Cond.instanceMethod ({ cls := "NodTaxModel", name := "set", desc := "(II)I" } : Jvm.MethodName) ∈ lw_tbl := List.mem_of_getElem? (i := 941) (by decide +kernel)
theorem mq_942 : Jvm.Cond.selects "NodTaxModel" ({ cls := "NodTaxModel", name := "set", desc := "(II)I" } : Jvm.MethodName) ({ cls := "NodTaxModel", name := "set", desc := "(II)I" } : Jvm.MethodName) ∈ lw_tbl := List.mem_of_getElem? (i := 942) (by decide +kernel)
theorem mq_943 : Jvm.Cond.code ({ cls := "NodTaxModel", name := "set", desc := "(II)I" } : Jvm.MethodName) prog_11_method_10_code (5 : Nat) (Option.some Jvm.ClassFile.FieldType.int) ∈ lw_tbl := List.mem_of_getElem? (i := 943) (by decide +kernel)
theorem mq_944 : Jvm.Cond.methodLink "NodTaxLaw" (35 : Nat) ({ cls := "NodTaxModel", name := "say", desc := "(I)I" } : Jvm.MethodName) ∈ lw_tbl := List.mem_of_getElem? (i := 944) (by decide +kernel)
theorem mq_945 : Jvm.Cond.instanceMethod ({ cls := "NodTaxModel", name := "say", desc := "(I)I" } : Jvm.MethodName) ∈ lw_tbl := List.mem_of_getElem? (i := 945) (by decide +kernel)
theorem mq_946 : Jvm.Cond.selects "NodTaxModel" ({ cls := "NodTaxModel", name := "say", desc := "(I)I" } : Jvm.MethodName) ({ cls := "NodTaxModel", name := "say", desc := "(I)I" } : Jvm.MethodName) ∈ lw_tbl := List.mem_of_getElem? (i := 946) (by decide +kernel)
theorem mq_947 : Jvm.Cond.code ({ cls := "NodTaxModel", name := "say", desc := "(I)I" } : Jvm.MethodName) prog_11_method_11_code (2 : Nat) (Option.some Jvm.ClassFile.FieldType.int) ∈ lw_tbl := List.mem_of_getElem? (i := 947) (by decide +kernel)
theorem mq_948 : Jvm.Cond.methodLink "NodTaxLaw" (40 : Nat) ({ cls := "NodTaxModel", name := "wipe", desc := "()I" } : Jvm.MethodName) ∈ lw_tbl := List.mem_of_getElem? (i := 948) (by decide +kernel)
theorem mq_949 : Jvm.Cond.instanceMethod ({ cls := "NodTaxModel", name := "wipe", desc := "()I" } : Jvm.MethodName) ∈ lw_tbl := List.mem_of_getElem? (i := 949) (by decide +kernel)
theorem mq_950 : Jvm.Cond.selects "NodTaxModel" ({ cls := "NodTaxModel", name := "wipe", desc := "()I" } : Jvm.MethodName) ({ cls := "NodTaxModel", name := "wipe", desc := "()I" } : Jvm.MethodName) ∈ lw_tbl := List.mem_of_getElem? (i := 950) (by decide +kernel)
theorem mq_951 : Jvm.Cond.code ({ cls := "NodTaxModel", name := "wipe", desc := "()I" } : Jvm.MethodName) prog_11_method_12_code (2 : Nat) (Option.some Jvm.ClassFile.FieldType.int) ∈ lw_tbl := List.mem_of_getElem? (i := 951) (by decide +kernel)
theorem mq_952 : Jvm.Cond.methodLink "NodTaxLaw" (44 : Nat) ({ cls := "NodTaxModel", name := "fault", desc := "()I" } : Jvm.MethodName) ∈ lw_tbl := List.mem_of_getElem? (i := 952) (by decide +kernel)
theorem mq_953 : Jvm.Cond.instanceMethod ({ cls := "NodTaxModel", name := "fault", desc := "()I" } : Jvm.MethodName) ∈ lw_tbl := List.mem_of_getElem? (i := 953) (by decide +kernel)
theorem mq_954 : Jvm.Cond.selects "NodTaxModel" ({ cls := "NodTaxModel", name := "fault", desc := "()I" } : Jvm.MethodName) ({ cls := "NodTaxModel", name := "fault", desc := "()I" } : Jvm.MethodName) ∈ lw_tbl := List.mem_of_getElem? (i := 954) (by decide +kernel)
theorem mq_955 : Jvm.Cond.code ({ cls := "NodTaxModel", name := "fault", desc := "()I" } : Jvm.MethodName) prog_11_method_15_code (1 : Nat) (Option.some Jvm.ClassFile.FieldType.int) ∈ lw_tbl := List.mem_of_getElem? (i := 955) (by decide +kernel)
theorem mq_956 : Jvm.Cond.methodLink "NodTaxModel" (109 : Nat) ({ cls := "NodTaxModel", name := "faultOf", desc := "()I" } : Jvm.MethodName) ∈ lw_tbl := List.mem_of_getElem? (i := 956) (by decide +kernel)
theorem mq_958 : Jvm.Cond.instanceMethod ({ cls := "NodTaxModel", name := "faultOf", desc := "()I" } : Jvm.MethodName) ∈ lw_tbl := List.mem_of_getElem? (i := 958) (by decide +kernel)
theorem mq_959 : Jvm.Cond.code ({ cls := "NodTaxModel", name := "faultOf", desc := "()I" } : Jvm.MethodName) prog_11_method_14_code (2 : Nat) (Option.some Jvm.ClassFile.FieldType.int) ∈ lw_tbl := List.mem_of_getElem? (i := 959) (by decide +kernel)
theorem mq_960 : Jvm.Cond.methodLink "NodTaxModel" (106 : Nat) ({ cls := "NodTaxModel", name := "isSign", desc := "(I)Z" } : Jvm.MethodName) ∈ lw_tbl := List.mem_of_getElem? (i := 960) (by decide +kernel)
theorem mq_961 : Jvm.Cond.static ({ cls := "NodTaxModel", name := "isSign", desc := "(I)Z" } : Jvm.MethodName) ∈ lw_tbl := List.mem_of_getElem? (i := 961) (by decide +kernel)
theorem mq_962 : Jvm.Cond.code ({ cls := "NodTaxModel", name := "isSign", desc := "(I)Z" } : Jvm.MethodName) prog_11_method_13_code (1 : Nat) (Option.some Jvm.ClassFile.FieldType.boolean) ∈ lw_tbl := List.mem_of_getElem? (i := 962) (by decide +kernel)
theorem mq_963 : Jvm.Cond.methodLink "NodTaxLaw" (49 : Nat) ({ cls := "NodTaxModel", name := "heard", desc := "(III)I" } : Jvm.MethodName) ∈ lw_tbl := List.mem_of_getElem? (i := 963) (by decide +kernel)
theorem mq_964 : Jvm.Cond.instanceMethod ({ cls := "NodTaxModel", name := "heard", desc := "(III)I" } : Jvm.MethodName) ∈ lw_tbl := List.mem_of_getElem? (i := 964) (by decide +kernel)
theorem mq_965 : Jvm.Cond.selects "NodTaxModel" ({ cls := "NodTaxModel", name := "heard", desc := "(III)I" } : Jvm.MethodName) ({ cls := "NodTaxModel", name := "heard", desc := "(III)I" } : Jvm.MethodName) ∈ lw_tbl := List.mem_of_getElem? (i := 965) (by decide +kernel)
theorem mq_966 : Jvm.Cond.code ({ cls := "NodTaxModel", name := "heard", desc := "(III)I" } : Jvm.MethodName) prog_11_method_23_code (4 : Nat) (Option.some Jvm.ClassFile.FieldType.int) ∈ lw_tbl := List.mem_of_getElem? (i := 966) (by decide +kernel)
theorem mq_967 : Jvm.Cond.methodLink "NodTaxModel" (160 : Nat) ({ cls := "NodTaxModel", name := "lay", desc := "()V" } : Jvm.MethodName) ∈ lw_tbl := List.mem_of_getElem? (i := 967) (by decide +kernel)
theorem mq_969 : Jvm.Cond.instanceMethod ({ cls := "NodTaxModel", name := "lay", desc := "()V" } : Jvm.MethodName) ∈ lw_tbl := List.mem_of_getElem? (i := 969) (by decide +kernel)
theorem mq_970 : Jvm.Cond.code ({ cls := "NodTaxModel", name := "lay", desc := "()V" } : Jvm.MethodName) prog_11_method_16_code (2 : Nat) (Option.none : Option Jvm.ClassFile.FieldType) ∈ lw_tbl := List.mem_of_getElem? (i := 970) (by decide +kernel)
theorem mq_971 : Jvm.Cond.methodLink "NodTaxModel" (163 : Nat) ({ cls := "NodTaxModel", name := "preach", desc := "(I)V" } : Jvm.MethodName) ∈ lw_tbl := List.mem_of_getElem? (i := 971) (by decide +kernel)
theorem mq_973 : Jvm.Cond.instanceMethod ({ cls := "NodTaxModel", name := "preach", desc := "(I)V" } : Jvm.MethodName) ∈ lw_tbl := List.mem_of_getElem? (i := 973) (by decide +kernel)
theorem mq_974 : Jvm.Cond.code ({ cls := "NodTaxModel", name := "preach", desc := "(I)V" } : Jvm.MethodName) prog_11_method_21_code (6 : Nat) (Option.none : Option Jvm.ClassFile.FieldType) ∈ lw_tbl := List.mem_of_getElem? (i := 974) (by decide +kernel)
theorem mq_975 : Jvm.Cond.methodLink "NodTaxModel" (156 : Nat) ({ cls := "NodTaxModel", name := "minute", desc := "(I)V" } : Jvm.MethodName) ∈ lw_tbl := List.mem_of_getElem? (i := 975) (by decide +kernel)
theorem mq_977 : Jvm.Cond.instanceMethod ({ cls := "NodTaxModel", name := "minute", desc := "(I)V" } : Jvm.MethodName) ∈ lw_tbl := List.mem_of_getElem? (i := 977) (by decide +kernel)
theorem mq_978 : Jvm.Cond.code ({ cls := "NodTaxModel", name := "minute", desc := "(I)V" } : Jvm.MethodName) prog_11_method_20_code (11 : Nat) (Option.none : Option Jvm.ClassFile.FieldType) ∈ lw_tbl := List.mem_of_getElem? (i := 978) (by decide +kernel)
theorem mq_979 : Jvm.Cond.methodLink "NodTaxModel" (134 : Nat) ({ cls := "NodTaxModel", name := "change", desc := "(II)I" } : Jvm.MethodName) ∈ lw_tbl := List.mem_of_getElem? (i := 979) (by decide +kernel)
theorem mq_981 : Jvm.Cond.instanceMethod ({ cls := "NodTaxModel", name := "change", desc := "(II)I" } : Jvm.MethodName) ∈ lw_tbl := List.mem_of_getElem? (i := 981) (by decide +kernel)
theorem mq_982 : Jvm.Cond.code ({ cls := "NodTaxModel", name := "change", desc := "(II)I" } : Jvm.MethodName) prog_11_method_19_code (4 : Nat) (Option.some Jvm.ClassFile.FieldType.int) ∈ lw_tbl := List.mem_of_getElem? (i := 982) (by decide +kernel)
theorem mq_983 : Jvm.Cond.methodLink "NodTaxModel" (131 : Nat) ({ cls := "NodTaxModel", name := "turn", desc := "(I)I" } : Jvm.MethodName) ∈ lw_tbl := List.mem_of_getElem? (i := 983) (by decide +kernel)
theorem mq_985 : Jvm.Cond.instanceMethod ({ cls := "NodTaxModel", name := "turn", desc := "(I)I" } : Jvm.MethodName) ∈ lw_tbl := List.mem_of_getElem? (i := 985) (by decide +kernel)
theorem mq_986 : Jvm.Cond.code ({ cls := "NodTaxModel", name := "turn", desc := "(I)I" } : Jvm.MethodName) prog_11_method_18_code (5 : Nat) (Option.some Jvm.ClassFile.FieldType.int) ∈ lw_tbl := List.mem_of_getElem? (i := 986) (by decide +kernel)
theorem mq_987 : Jvm.Cond.methodLink "NodTaxModel" (138 : Nat) ({ cls := "NodTaxModel", name := "beside", desc := "(II)I" } : Jvm.MethodName) ∈ lw_tbl := List.mem_of_getElem? (i := 987) (by decide +kernel)
theorem mq_989 : Jvm.Cond.instanceMethod ({ cls := "NodTaxModel", name := "beside", desc := "(II)I" } : Jvm.MethodName) ∈ lw_tbl := List.mem_of_getElem? (i := 989) (by decide +kernel)
theorem mq_990 : Jvm.Cond.code ({ cls := "NodTaxModel", name := "beside", desc := "(II)I" } : Jvm.MethodName) prog_11_method_17_code (6 : Nat) (Option.some Jvm.ClassFile.FieldType.int) ∈ lw_tbl := List.mem_of_getElem? (i := 990) (by decide +kernel)
theorem mq_991 : Jvm.Cond.methodLink "NodTaxLaw" (53 : Nat) ({ cls := "NodTaxModel", name := "sum", desc := "(II)I" } : Jvm.MethodName) ∈ lw_tbl := List.mem_of_getElem? (i := 991) (by decide +kernel)
theorem mq_992 : Jvm.Cond.instanceMethod ({ cls := "NodTaxModel", name := "sum", desc := "(II)I" } : Jvm.MethodName) ∈ lw_tbl := List.mem_of_getElem? (i := 992) (by decide +kernel)
theorem mq_993 : Jvm.Cond.selects "NodTaxModel" ({ cls := "NodTaxModel", name := "sum", desc := "(II)I" } : Jvm.MethodName) ({ cls := "NodTaxModel", name := "sum", desc := "(II)I" } : Jvm.MethodName) ∈ lw_tbl := List.mem_of_getElem? (i := 993) (by decide +kernel)
theorem mq_994 : Jvm.Cond.code ({ cls := "NodTaxModel", name := "sum", desc := "(II)I" } : Jvm.MethodName) prog_11_method_24_code (3 : Nat) (Option.some Jvm.ClassFile.FieldType.int) ∈ lw_tbl := List.mem_of_getElem? (i := 994) (by decide +kernel)
theorem mq_995 : Jvm.Cond.methodLink "NodTaxModel" (166 : Nat) ({ cls := "NodTaxModel", name := "isMinute", desc := "(I)Z" } : Jvm.MethodName) ∈ lw_tbl := List.mem_of_getElem? (i := 995) (by decide +kernel)
theorem mq_997 : Jvm.Cond.instanceMethod ({ cls := "NodTaxModel", name := "isMinute", desc := "(I)Z" } : Jvm.MethodName) ∈ lw_tbl := List.mem_of_getElem? (i := 997) (by decide +kernel)
theorem mq_998 : Jvm.Cond.code ({ cls := "NodTaxModel", name := "isMinute", desc := "(I)Z" } : Jvm.MethodName) prog_11_method_22_code (2 : Nat) (Option.some Jvm.ClassFile.FieldType.boolean) ∈ lw_tbl := List.mem_of_getElem? (i := 998) (by decide +kernel)
theorem mq_999 : Jvm.Cond.methodLink "NodTaxLaw" (57 : Nat) ({ cls := "NodTaxModel", name := "first", desc := "(I)I" } : Jvm.MethodName) ∈ lw_tbl := List.mem_of_getElem? (i := 999) (by decide +kernel)
theorem mq_1000 : Jvm.Cond.instanceMethod ({ cls := "NodTaxModel", name := "first", desc := "(I)I" } : Jvm.MethodName) ∈ lw_tbl := List.mem_of_getElem? (i := 1000) (by decide +kernel)
theorem mq_1001 : Jvm.Cond.selects "NodTaxModel" ({ cls := "NodTaxModel", name := "first", desc := "(I)I" } : Jvm.MethodName) ({ cls := "NodTaxModel", name := "first", desc := "(I)I" } : Jvm.MethodName) ∈ lw_tbl := List.mem_of_getElem? (i := 1001) (by decide +kernel)
theorem mq_1002 : Jvm.Cond.code ({ cls := "NodTaxModel", name := "first", desc := "(I)I" } : Jvm.MethodName) prog_11_method_25_code (4 : Nat) (Option.some Jvm.ClassFile.FieldType.int) ∈ lw_tbl := List.mem_of_getElem? (i := 1002) (by decide +kernel)
theorem mq_1003 : Jvm.Cond.methodLink "NodTaxLaw" (61 : Nat) ({ cls := "NodTaxModel", name := "gain", desc := "()I" } : Jvm.MethodName) ∈ lw_tbl := List.mem_of_getElem? (i := 1003) (by decide +kernel)
theorem mq_1004 : Jvm.Cond.instanceMethod ({ cls := "NodTaxModel", name := "gain", desc := "()I" } : Jvm.MethodName) ∈ lw_tbl := List.mem_of_getElem? (i := 1004) (by decide +kernel)
theorem mq_1005 : Jvm.Cond.selects "NodTaxModel" ({ cls := "NodTaxModel", name := "gain", desc := "()I" } : Jvm.MethodName) ({ cls := "NodTaxModel", name := "gain", desc := "()I" } : Jvm.MethodName) ∈ lw_tbl := List.mem_of_getElem? (i := 1005) (by decide +kernel)
theorem mq_1006 : Jvm.Cond.code ({ cls := "NodTaxModel", name := "gain", desc := "()I" } : Jvm.MethodName) prog_11_method_27_code (1 : Nat) (Option.some Jvm.ClassFile.FieldType.int) ∈ lw_tbl := List.mem_of_getElem? (i := 1006) (by decide +kernel)
theorem mq_1007 : Jvm.Cond.methodLink "NodTaxModel" (169 : Nat) ({ cls := "NodTaxModel", name := "gainOf", desc := "()I" } : Jvm.MethodName) ∈ lw_tbl := List.mem_of_getElem? (i := 1007) (by decide +kernel)
theorem mq_1009 : Jvm.Cond.instanceMethod ({ cls := "NodTaxModel", name := "gainOf", desc := "()I" } : Jvm.MethodName) ∈ lw_tbl := List.mem_of_getElem? (i := 1009) (by decide +kernel)
theorem mq_1010 : Jvm.Cond.code ({ cls := "NodTaxModel", name := "gainOf", desc := "()I" } : Jvm.MethodName) prog_11_method_26_code (1 : Nat) (Option.some Jvm.ClassFile.FieldType.int) ∈ lw_tbl := List.mem_of_getElem? (i := 1010) (by decide +kernel)
theorem mq_1011 : Jvm.Cond.methodLink "NodTaxLaw" (65 : Nat) ({ cls := "NodTaxModel", name := "order", desc := "(II)I" } : Jvm.MethodName) ∈ lw_tbl := List.mem_of_getElem? (i := 1011) (by decide +kernel)
theorem mq_1012 : Jvm.Cond.instanceMethod ({ cls := "NodTaxModel", name := "order", desc := "(II)I" } : Jvm.MethodName) ∈ lw_tbl := List.mem_of_getElem? (i := 1012) (by decide +kernel)
theorem mq_1013 : Jvm.Cond.selects "NodTaxModel" ({ cls := "NodTaxModel", name := "order", desc := "(II)I" } : Jvm.MethodName) ({ cls := "NodTaxModel", name := "order", desc := "(II)I" } : Jvm.MethodName) ∈ lw_tbl := List.mem_of_getElem? (i := 1013) (by decide +kernel)
theorem mq_1014 : Jvm.Cond.code ({ cls := "NodTaxModel", name := "order", desc := "(II)I" } : Jvm.MethodName) prog_11_method_31_code (8 : Nat) (Option.some Jvm.ClassFile.FieldType.int) ∈ lw_tbl := List.mem_of_getElem? (i := 1014) (by decide +kernel)
theorem mq_1015 : Jvm.Cond.methodLink "NodTaxModel" (176 : Nat) ({ cls := "NodTaxModel", name := "sort", desc := "()V" } : Jvm.MethodName) ∈ lw_tbl := List.mem_of_getElem? (i := 1015) (by decide +kernel)
theorem mq_1017 : Jvm.Cond.instanceMethod ({ cls := "NodTaxModel", name := "sort", desc := "()V" } : Jvm.MethodName) ∈ lw_tbl := List.mem_of_getElem? (i := 1017) (by decide +kernel)
theorem mq_1018 : Jvm.Cond.code ({ cls := "NodTaxModel", name := "sort", desc := "()V" } : Jvm.MethodName) prog_11_method_28_code (3 : Nat) (Option.none : Option Jvm.ClassFile.FieldType) ∈ lw_tbl := List.mem_of_getElem? (i := 1018) (by decide +kernel)
theorem mq_1019 : Jvm.Cond.methodLink "NodTaxModel" (172 : Nat) ({ cls := "NodTaxModel", name := "swap", desc := "(II)V" } : Jvm.MethodName) ∈ lw_tbl := List.mem_of_getElem? (i := 1019) (by decide +kernel)
theorem mq_1021 : Jvm.Cond.instanceMethod ({ cls := "NodTaxModel", name := "swap", desc := "(II)V" } : Jvm.MethodName) ∈ lw_tbl := List.mem_of_getElem? (i := 1021) (by decide +kernel)
theorem mq_1022 : Jvm.Cond.code ({ cls := "NodTaxModel", name := "swap", desc := "(II)V" } : Jvm.MethodName) prog_11_method_29_code (4 : Nat) (Option.none : Option Jvm.ClassFile.FieldType) ∈ lw_tbl := List.mem_of_getElem? (i := 1022) (by decide +kernel)
theorem mq_1023 : Jvm.Cond.constant "NodTaxModel" (179 : Nat) (1000000 : Int32) ∈ lw_tbl := List.mem_of_getElem? (i := 1023) (by decide +kernel)
theorem mq_1024 : Jvm.Cond.methodLink "NodTaxModel" (180 : Nat) ({ cls := "NodTaxModel", name := "goOn", desc := "()Z" } : Jvm.MethodName) ∈ lw_tbl := List.mem_of_getElem? (i := 1024) (by decide +kernel)
theorem mq_1026 : Jvm.Cond.instanceMethod ({ cls := "NodTaxModel", name := "goOn", desc := "()Z" } : Jvm.MethodName) ∈ lw_tbl := List.mem_of_getElem? (i := 1026) (by decide +kernel)
theorem mq_1027 : Jvm.Cond.code ({ cls := "NodTaxModel", name := "goOn", desc := "()Z" } : Jvm.MethodName) prog_11_method_30_code (5 : Nat) (Option.some Jvm.ClassFile.FieldType.boolean) ∈ lw_tbl := List.mem_of_getElem? (i := 1027) (by decide +kernel)
theorem mq_1028 : Jvm.Cond.methodLink "NodTaxLaw" (69 : Nat) ({ cls := "NodTaxModel", name := "start", desc := "(I)I" } : Jvm.MethodName) ∈ lw_tbl := List.mem_of_getElem? (i := 1028) (by decide +kernel)
theorem mq_1029 : Jvm.Cond.instanceMethod ({ cls := "NodTaxModel", name := "start", desc := "(I)I" } : Jvm.MethodName) ∈ lw_tbl := List.mem_of_getElem? (i := 1029) (by decide +kernel)
theorem mq_1030 : Jvm.Cond.selects "NodTaxModel" ({ cls := "NodTaxModel", name := "start", desc := "(I)I" } : Jvm.MethodName) ({ cls := "NodTaxModel", name := "start", desc := "(I)I" } : Jvm.MethodName) ∈ lw_tbl := List.mem_of_getElem? (i := 1030) (by decide +kernel)
theorem mq_1031 : Jvm.Cond.code ({ cls := "NodTaxModel", name := "start", desc := "(I)I" } : Jvm.MethodName) prog_11_method_32_code (6 : Nat) (Option.some Jvm.ClassFile.FieldType.int) ∈ lw_tbl := List.mem_of_getElem? (i := 1031) (by decide +kernel)
theorem mq_1032 : Jvm.Cond.constant "NodTaxModel" (184 : Nat) (-1000000 : Int32) ∈ lw_tbl := List.mem_of_getElem? (i := 1032) (by decide +kernel)
theorem mq_1033 : Jvm.Cond.methodLink "NodTaxLaw" (73 : Nat) ({ cls := "NodTaxModel", name := "seated", desc := "(I)I" } : Jvm.MethodName) ∈ lw_tbl := List.mem_of_getElem? (i := 1033) (by decide +kernel)
theorem mq_1034 : Jvm.Cond.instanceMethod ({ cls := "NodTaxModel", name := "seated", desc := "(I)I" } : Jvm.MethodName) ∈ lw_tbl := List.mem_of_getElem? (i := 1034) (by decide +kernel)
theorem mq_1035 : Jvm.Cond.selects "NodTaxModel" ({ cls := "NodTaxModel", name := "seated", desc := "(I)I" } : Jvm.MethodName) ({ cls := "NodTaxModel", name := "seated", desc := "(I)I" } : Jvm.MethodName) ∈ lw_tbl := List.mem_of_getElem? (i := 1035) (by decide +kernel)
theorem mq_1036 : Jvm.Cond.code ({ cls := "NodTaxModel", name := "seated", desc := "(I)I" } : Jvm.MethodName) prog_11_method_33_code (7 : Nat) (Option.some Jvm.ClassFile.FieldType.int) ∈ lw_tbl := List.mem_of_getElem? (i := 1036) (by decide +kernel)
theorem mq_1037 : Jvm.Cond.methodLink "NodTaxLaw" (77 : Nat) ({ cls := "NodTaxModel", name := "hired", desc := "(II)I" } : Jvm.MethodName) ∈ lw_tbl := List.mem_of_getElem? (i := 1037) (by decide +kernel)
theorem mq_1038 : Jvm.Cond.instanceMethod ({ cls := "NodTaxModel", name := "hired", desc := "(II)I" } : Jvm.MethodName) ∈ lw_tbl := List.mem_of_getElem? (i := 1038) (by decide +kernel)
theorem mq_1039 : Jvm.Cond.selects "NodTaxModel" ({ cls := "NodTaxModel", name := "hired", desc := "(II)I" } : Jvm.MethodName) ({ cls := "NodTaxModel", name := "hired", desc := "(II)I" } : Jvm.MethodName) ∈ lw_tbl := List.mem_of_getElem? (i := 1039) (by decide +kernel)
theorem mq_1040 : Jvm.Cond.code ({ cls := "NodTaxModel", name := "hired", desc := "(II)I" } : Jvm.MethodName) prog_11_method_34_code (5 : Nat) (Option.some Jvm.ClassFile.FieldType.int) ∈ lw_tbl := List.mem_of_getElem? (i := 1040) (by decide +kernel)
theorem mq_1041 : Jvm.Cond.methodLink "NodTaxLaw" (81 : Nat) ({ cls := "NodTaxModel", name := "least", desc := "()I" } : Jvm.MethodName) ∈ lw_tbl := List.mem_of_getElem? (i := 1041) (by decide +kernel)
theorem mq_1042 : Jvm.Cond.instanceMethod ({ cls := "NodTaxModel", name := "least", desc := "()I" } : Jvm.MethodName) ∈ lw_tbl := List.mem_of_getElem? (i := 1042) (by decide +kernel)
theorem mq_1043 : Jvm.Cond.selects "NodTaxModel" ({ cls := "NodTaxModel", name := "least", desc := "()I" } : Jvm.MethodName) ({ cls := "NodTaxModel", name := "least", desc := "()I" } : Jvm.MethodName) ∈ lw_tbl := List.mem_of_getElem? (i := 1043) (by decide +kernel)
theorem mq_1044 : Jvm.Cond.code ({ cls := "NodTaxModel", name := "least", desc := "()I" } : Jvm.MethodName) prog_11_method_35_code (3 : Nat) (Option.some Jvm.ClassFile.FieldType.int) ∈ lw_tbl := List.mem_of_getElem? (i := 1044) (by decide +kernel)
theorem mq_1045 : Jvm.Cond.methodLink "NodTaxLaw" (85 : Nat) ({ cls := "NodTaxModel", name := "seen", desc := "(II)I" } : Jvm.MethodName) ∈ lw_tbl := List.mem_of_getElem? (i := 1045) (by decide +kernel)
theorem mq_1046 : Jvm.Cond.instanceMethod ({ cls := "NodTaxModel", name := "seen", desc := "(II)I" } : Jvm.MethodName) ∈ lw_tbl := List.mem_of_getElem? (i := 1046) (by decide +kernel)
theorem mq_1047 : Jvm.Cond.selects "NodTaxModel" ({ cls := "NodTaxModel", name := "seen", desc := "(II)I" } : Jvm.MethodName) ({ cls := "NodTaxModel", name := "seen", desc := "(II)I" } : Jvm.MethodName) ∈ lw_tbl := List.mem_of_getElem? (i := 1047) (by decide +kernel)
theorem mq_1048 : Jvm.Cond.code ({ cls := "NodTaxModel", name := "seen", desc := "(II)I" } : Jvm.MethodName) prog_11_method_36_code (3 : Nat) (Option.some Jvm.ClassFile.FieldType.int) ∈ lw_tbl := List.mem_of_getElem? (i := 1048) (by decide +kernel)
theorem mq_1049 : Jvm.Cond.methodLink "NodTaxLaw" (89 : Nat) ({ cls := "NodTaxModel", name := "forget", desc := "()I" } : Jvm.MethodName) ∈ lw_tbl := List.mem_of_getElem? (i := 1049) (by decide +kernel)
theorem mq_1050 : Jvm.Cond.instanceMethod ({ cls := "NodTaxModel", name := "forget", desc := "()I" } : Jvm.MethodName) ∈ lw_tbl := List.mem_of_getElem? (i := 1050) (by decide +kernel)
theorem mq_1051 : Jvm.Cond.selects "NodTaxModel" ({ cls := "NodTaxModel", name := "forget", desc := "()I" } : Jvm.MethodName) ({ cls := "NodTaxModel", name := "forget", desc := "()I" } : Jvm.MethodName) ∈ lw_tbl := List.mem_of_getElem? (i := 1051) (by decide +kernel)
theorem mq_1052 : Jvm.Cond.code ({ cls := "NodTaxModel", name := "forget", desc := "()I" } : Jvm.MethodName) prog_11_method_37_code (2 : Nat) (Option.some Jvm.ClassFile.FieldType.int) ∈ lw_tbl := List.mem_of_getElem? (i := 1052) (by decide +kernel)
theorem mq_1053 : Jvm.Cond.methodLink "NodTaxLaw" (93 : Nat) ({ cls := "NodTaxModel", name := "preached", desc := "(I)I" } : Jvm.MethodName) ∈ lw_tbl := List.mem_of_getElem? (i := 1053) (by decide +kernel)
theorem mq_1054 : Jvm.Cond.instanceMethod ({ cls := "NodTaxModel", name := "preached", desc := "(I)I" } : Jvm.MethodName) ∈ lw_tbl := List.mem_of_getElem? (i := 1054) (by decide +kernel)
theorem mq_1055 : Jvm.Cond.selects "NodTaxModel" ({ cls := "NodTaxModel", name := "preached", desc := "(I)I" } : Jvm.MethodName) ({ cls := "NodTaxModel", name := "preached", desc := "(I)I" } : Jvm.MethodName) ∈ lw_tbl := List.mem_of_getElem? (i := 1055) (by decide +kernel)
theorem mq_1056 : Jvm.Cond.code ({ cls := "NodTaxModel", name := "preached", desc := "(I)I" } : Jvm.MethodName) prog_11_method_40_code (3 : Nat) (Option.some Jvm.ClassFile.FieldType.int) ∈ lw_tbl := List.mem_of_getElem? (i := 1056) (by decide +kernel)
theorem mq_1057 : Jvm.Cond.methodLink "NodTaxModel" (191 : Nat) ({ cls := "NodTaxModel", name := "layPreached", desc := "()I" } : Jvm.MethodName) ∈ lw_tbl := List.mem_of_getElem? (i := 1057) (by decide +kernel)
theorem mq_1059 : Jvm.Cond.instanceMethod ({ cls := "NodTaxModel", name := "layPreached", desc := "()I" } : Jvm.MethodName) ∈ lw_tbl := List.mem_of_getElem? (i := 1059) (by decide +kernel)
theorem mq_1060 : Jvm.Cond.code ({ cls := "NodTaxModel", name := "layPreached", desc := "()I" } : Jvm.MethodName) prog_11_method_39_code (4 : Nat) (Option.some Jvm.ClassFile.FieldType.int) ∈ lw_tbl := List.mem_of_getElem? (i := 1060) (by decide +kernel)
theorem mq_1061 : Jvm.Cond.methodLink "NodTaxModel" (188 : Nat) ({ cls := "NodTaxModel", name := "isCounted", desc := "()Z" } : Jvm.MethodName) ∈ lw_tbl := List.mem_of_getElem? (i := 1061) (by decide +kernel)
theorem mq_1063 : Jvm.Cond.instanceMethod ({ cls := "NodTaxModel", name := "isCounted", desc := "()Z" } : Jvm.MethodName) ∈ lw_tbl := List.mem_of_getElem? (i := 1063) (by decide +kernel)
theorem mq_1064 : Jvm.Cond.code ({ cls := "NodTaxModel", name := "isCounted", desc := "()Z" } : Jvm.MethodName) prog_11_method_38_code (4 : Nat) (Option.some Jvm.ClassFile.FieldType.boolean) ∈ lw_tbl := List.mem_of_getElem? (i := 1064) (by decide +kernel)
theorem mq_1065 : Jvm.Cond.methodLink "NodTaxLaw" (97 : Nat) ({ cls := "NodTaxModel", name := "surely", desc := "()I" } : Jvm.MethodName) ∈ lw_tbl := List.mem_of_getElem? (i := 1065) (by decide +kernel)
theorem mq_1066 : Jvm.Cond.instanceMethod ({ cls := "NodTaxModel", name := "surely", desc := "()I" } : Jvm.MethodName) ∈ lw_tbl := List.mem_of_getElem? (i := 1066) (by decide +kernel)
theorem mq_1067 : Jvm.Cond.selects "NodTaxModel" ({ cls := "NodTaxModel", name := "surely", desc := "()I" } : Jvm.MethodName) ({ cls := "NodTaxModel", name := "surely", desc := "()I" } : Jvm.MethodName) ∈ lw_tbl := List.mem_of_getElem? (i := 1067) (by decide +kernel)
theorem mq_1068 : Jvm.Cond.code ({ cls := "NodTaxModel", name := "surely", desc := "()I" } : Jvm.MethodName) prog_11_method_41_code (1 : Nat) (Option.some Jvm.ClassFile.FieldType.int) ∈ lw_tbl := List.mem_of_getElem? (i := 1068) (by decide +kernel)
theorem mq_1069 : Jvm.Cond.methodLink "NodTaxLaw" (101 : Nat) ({ cls := "NodTaxModel", name := "dips", desc := "(II)I" } : Jvm.MethodName) ∈ lw_tbl := List.mem_of_getElem? (i := 1069) (by decide +kernel)
theorem mq_1070 : Jvm.Cond.instanceMethod ({ cls := "NodTaxModel", name := "dips", desc := "(II)I" } : Jvm.MethodName) ∈ lw_tbl := List.mem_of_getElem? (i := 1070) (by decide +kernel)
theorem mq_1071 : Jvm.Cond.selects "NodTaxModel" ({ cls := "NodTaxModel", name := "dips", desc := "(II)I" } : Jvm.MethodName) ({ cls := "NodTaxModel", name := "dips", desc := "(II)I" } : Jvm.MethodName) ∈ lw_tbl := List.mem_of_getElem? (i := 1071) (by decide +kernel)
theorem mq_1072 : Jvm.Cond.code ({ cls := "NodTaxModel", name := "dips", desc := "(II)I" } : Jvm.MethodName) prog_11_method_42_code (6 : Nat) (Option.some Jvm.ClassFile.FieldType.int) ∈ lw_tbl := List.mem_of_getElem? (i := 1072) (by decide +kernel)
theorem mq_1073 : Jvm.Cond.methodLink "NodTaxLaw" (105 : Nat) ({ cls := "NodTaxModel", name := "alike", desc := "(I)I" } : Jvm.MethodName) ∈ lw_tbl := List.mem_of_getElem? (i := 1073) (by decide +kernel)
theorem mq_1074 : Jvm.Cond.instanceMethod ({ cls := "NodTaxModel", name := "alike", desc := "(I)I" } : Jvm.MethodName) ∈ lw_tbl := List.mem_of_getElem? (i := 1074) (by decide +kernel)
theorem mq_1075 : Jvm.Cond.selects "NodTaxModel" ({ cls := "NodTaxModel", name := "alike", desc := "(I)I" } : Jvm.MethodName) ({ cls := "NodTaxModel", name := "alike", desc := "(I)I" } : Jvm.MethodName) ∈ lw_tbl := List.mem_of_getElem? (i := 1075) (by decide +kernel)
theorem mq_1076 : Jvm.Cond.code ({ cls := "NodTaxModel", name := "alike", desc := "(I)I" } : Jvm.MethodName) prog_11_method_44_code (5 : Nat) (Option.some Jvm.ClassFile.FieldType.int) ∈ lw_tbl := List.mem_of_getElem? (i := 1076) (by decide +kernel)
theorem mq_1077 : Jvm.Cond.methodLink "NodTaxModel" (194 : Nat) ({ cls := "NodTaxModel", name := "areAlike", desc := "(II)Z" } : Jvm.MethodName) ∈ lw_tbl := List.mem_of_getElem? (i := 1077) (by decide +kernel)
theorem mq_1079 : Jvm.Cond.instanceMethod ({ cls := "NodTaxModel", name := "areAlike", desc := "(II)Z" } : Jvm.MethodName) ∈ lw_tbl := List.mem_of_getElem? (i := 1079) (by decide +kernel)
theorem mq_1080 : Jvm.Cond.code ({ cls := "NodTaxModel", name := "areAlike", desc := "(II)Z" } : Jvm.MethodName) prog_11_method_43_code (6 : Nat) (Option.some Jvm.ClassFile.FieldType.boolean) ∈ lw_tbl := List.mem_of_getElem? (i := 1080) (by decide +kernel)
theorem mq_1081 : Jvm.Cond.methodLink "NodTaxLaw" (109 : Nat) ({ cls := "NodTaxModel", name := "parishes", desc := "(I)I" } : Jvm.MethodName) ∈ lw_tbl := List.mem_of_getElem? (i := 1081) (by decide +kernel)
theorem mq_1082 : Jvm.Cond.instanceMethod ({ cls := "NodTaxModel", name := "parishes", desc := "(I)I" } : Jvm.MethodName) ∈ lw_tbl := List.mem_of_getElem? (i := 1082) (by decide +kernel)
theorem mq_1083 : Jvm.Cond.selects "NodTaxModel" ({ cls := "NodTaxModel", name := "parishes", desc := "(I)I" } : Jvm.MethodName) ({ cls := "NodTaxModel", name := "parishes", desc := "(I)I" } : Jvm.MethodName) ∈ lw_tbl := List.mem_of_getElem? (i := 1083) (by decide +kernel)
theorem mq_1084 : Jvm.Cond.code ({ cls := "NodTaxModel", name := "parishes", desc := "(I)I" } : Jvm.MethodName) prog_11_method_46_code (9 : Nat) (Option.some Jvm.ClassFile.FieldType.int) ∈ lw_tbl := List.mem_of_getElem? (i := 1084) (by decide +kernel)
theorem mq_1085 : Jvm.Cond.methodLink "NodTaxModel" (197 : Nat) ({ cls := "NodTaxModel", name := "likes", desc := "(II)I" } : Jvm.MethodName) ∈ lw_tbl := List.mem_of_getElem? (i := 1085) (by decide +kernel)
theorem mq_1087 : Jvm.Cond.instanceMethod ({ cls := "NodTaxModel", name := "likes", desc := "(II)I" } : Jvm.MethodName) ∈ lw_tbl := List.mem_of_getElem? (i := 1087) (by decide +kernel)
theorem mq_1088 : Jvm.Cond.code ({ cls := "NodTaxModel", name := "likes", desc := "(II)I" } : Jvm.MethodName) prog_11_method_45_code (5 : Nat) (Option.some Jvm.ClassFile.FieldType.int) ∈ lw_tbl := List.mem_of_getElem? (i := 1088) (by decide +kernel)
theorem mq_1089 : Jvm.Cond.methodLink "NodTaxLaw" (114 : Nat) ({ cls := "NodTaxModel", name := "cold", desc := "(III)J" } : Jvm.MethodName) ∈ lw_tbl := List.mem_of_getElem? (i := 1089) (by decide +kernel)
theorem mq_1090 : Jvm.Cond.instanceMethod ({ cls := "NodTaxModel", name := "cold", desc := "(III)J" } : Jvm.MethodName) ∈ lw_tbl := List.mem_of_getElem? (i := 1090) (by decide +kernel)
theorem mq_1091 : Jvm.Cond.selects "NodTaxModel" ({ cls := "NodTaxModel", name := "cold", desc := "(III)J" } : Jvm.MethodName) ({ cls := "NodTaxModel", name := "cold", desc := "(III)J" } : Jvm.MethodName) ∈ lw_tbl := List.mem_of_getElem? (i := 1091) (by decide +kernel)
theorem mq_1092 : Jvm.Cond.code ({ cls := "NodTaxModel", name := "cold", desc := "(III)J" } : Jvm.MethodName) prog_11_method_47_code (14 : Nat) (Option.some Jvm.ClassFile.FieldType.long) ∈ lw_tbl := List.mem_of_getElem? (i := 1092) (by decide +kernel)
theorem mq_1093 : Jvm.Cond.constantLong "NodTaxModel" (200 : Nat) (-1000000000000000002 : Int64) ∈ lw_tbl := List.mem_of_getElem? (i := 1093) (by decide +kernel)
theorem mq_1094 : Jvm.Cond.constantLong "NodTaxModel" (202 : Nat) (-1000000000000000005 : Int64) ∈ lw_tbl := List.mem_of_getElem? (i := 1094) (by decide +kernel)
theorem mq_1095 : Jvm.Cond.constantLong "NodTaxModel" (204 : Nat) (-1000000000000000004 : Int64) ∈ lw_tbl := List.mem_of_getElem? (i := 1095) (by decide +kernel)
theorem mq_1096 : Jvm.Cond.constantLong "NodTaxModel" (206 : Nat) (10 : Int64) ∈ lw_tbl := List.mem_of_getElem? (i := 1096) (by decide +kernel)
theorem mq_1097 : Jvm.Cond.methodLink "NodTaxLaw" (118 : Nat) ({ cls := "NodTaxModel", name := "year", desc := "(III)I" } : Jvm.MethodName) ∈ lw_tbl := List.mem_of_getElem? (i := 1097) (by decide +kernel)
theorem mq_1098 : Jvm.Cond.instanceMethod ({ cls := "NodTaxModel", name := "year", desc := "(III)I" } : Jvm.MethodName) ∈ lw_tbl := List.mem_of_getElem? (i := 1098) (by decide +kernel)
theorem mq_1099 : Jvm.Cond.selects "NodTaxModel" ({ cls := "NodTaxModel", name := "year", desc := "(III)I" } : Jvm.MethodName) ({ cls := "NodTaxModel", name := "year", desc := "(III)I" } : Jvm.MethodName) ∈ lw_tbl := List.mem_of_getElem? (i := 1099) (by decide +kernel)
theorem mq_1100 : Jvm.Cond.code ({ cls := "NodTaxModel", name := "year", desc := "(III)I" } : Jvm.MethodName) prog_11_method_49_code (10 : Nat) (Option.some Jvm.ClassFile.FieldType.int) ∈ lw_tbl := List.mem_of_getElem? (i := 1100) (by decide +kernel)
theorem mq_1101 : Jvm.Cond.constant "NodTaxModel" (208 : Nat) (65537 : Int32) ∈ lw_tbl := List.mem_of_getElem? (i := 1101) (by decide +kernel)
theorem mq_1102 : Jvm.Cond.methodLink "NodTaxModel" (209 : Nat) ({ cls := "NodTaxModel", name := "signAt", desc := "(I)I" } : Jvm.MethodName) ∈ lw_tbl := List.mem_of_getElem? (i := 1102) (by decide +kernel)
theorem mq_1103 : Jvm.Cond.static ({ cls := "NodTaxModel", name := "signAt", desc := "(I)I" } : Jvm.MethodName) ∈ lw_tbl := List.mem_of_getElem? (i := 1103) (by decide +kernel)
theorem mq_1104 : Jvm.Cond.code ({ cls := "NodTaxModel", name := "signAt", desc := "(I)I" } : Jvm.MethodName) prog_11_method_48_code (1 : Nat) (Option.some Jvm.ClassFile.FieldType.int) ∈ lw_tbl := List.mem_of_getElem? (i := 1104) (by decide +kernel)
theorem mq_1105 : Jvm.Cond.methodLink "NodTaxLaw" (122 : Nat) ({ cls := "NodTaxModel", name := "image", desc := "(I)I" } : Jvm.MethodName) ∈ lw_tbl := List.mem_of_getElem? (i := 1105) (by decide +kernel)
theorem mq_1106 : Jvm.Cond.instanceMethod ({ cls := "NodTaxModel", name := "image", desc := "(I)I" } : Jvm.MethodName) ∈ lw_tbl := List.mem_of_getElem? (i := 1106) (by decide +kernel)
theorem mq_1107 : Jvm.Cond.selects "NodTaxModel" ({ cls := "NodTaxModel", name := "image", desc := "(I)I" } : Jvm.MethodName) ({ cls := "NodTaxModel", name := "image", desc := "(I)I" } : Jvm.MethodName) ∈ lw_tbl := List.mem_of_getElem? (i := 1107) (by decide +kernel)
theorem mq_1108 : Jvm.Cond.code ({ cls := "NodTaxModel", name := "image", desc := "(I)I" } : Jvm.MethodName) prog_11_method_50_code (4 : Nat) (Option.some Jvm.ClassFile.FieldType.int) ∈ lw_tbl := List.mem_of_getElem? (i := 1108) (by decide +kernel)
theorem mq_1109 : Jvm.Cond.methodLink "NodTaxLaw" (126 : Nat) ({ cls := "NodTaxModel", name := "restore", desc := "(I)I" } : Jvm.MethodName) ∈ lw_tbl := List.mem_of_getElem? (i := 1109) (by decide +kernel)
theorem mq_1110 : Jvm.Cond.instanceMethod ({ cls := "NodTaxModel", name := "restore", desc := "(I)I" } : Jvm.MethodName) ∈ lw_tbl := List.mem_of_getElem? (i := 1110) (by decide +kernel)
theorem mq_1111 : Jvm.Cond.selects "NodTaxModel" ({ cls := "NodTaxModel", name := "restore", desc := "(I)I" } : Jvm.MethodName) ({ cls := "NodTaxModel", name := "restore", desc := "(I)I" } : Jvm.MethodName) ∈ lw_tbl := List.mem_of_getElem? (i := 1111) (by decide +kernel)
theorem mq_1112 : Jvm.Cond.code ({ cls := "NodTaxModel", name := "restore", desc := "(I)I" } : Jvm.MethodName) prog_11_method_51_code (4 : Nat) (Option.some Jvm.ClassFile.FieldType.int) ∈ lw_tbl := List.mem_of_getElem? (i := 1112) (by decide +kernel)
theorem mq_1113 : Jvm.Cond.methodLink "NodTaxLaw" (130 : Nat) ({ cls := "NodTaxModel", name := "told", desc := "(I)I" } : Jvm.MethodName) ∈ lw_tbl := List.mem_of_getElem? (i := 1113) (by decide +kernel)
theorem mq_1114 : Jvm.Cond.instanceMethod ({ cls := "NodTaxModel", name := "told", desc := "(I)I" } : Jvm.MethodName) ∈ lw_tbl := List.mem_of_getElem? (i := 1114) (by decide +kernel)
theorem mq_1115 : Jvm.Cond.selects "NodTaxModel" ({ cls := "NodTaxModel", name := "told", desc := "(I)I" } : Jvm.MethodName) ({ cls := "NodTaxModel", name := "told", desc := "(I)I" } : Jvm.MethodName) ∈ lw_tbl := List.mem_of_getElem? (i := 1115) (by decide +kernel)
theorem mq_1116 : Jvm.Cond.code ({ cls := "NodTaxModel", name := "told", desc := "(I)I" } : Jvm.MethodName) prog_11_method_52_code (3 : Nat) (Option.some Jvm.ClassFile.FieldType.int) ∈ lw_tbl := List.mem_of_getElem? (i := 1116) (by decide +kernel)
end
section
/-! the pure layer: cells by number, a state of numbers alone -/
abbrev VS : Type := (Nat → Nat → Int32) × (Nat → Nat → Int64)
abbrev VG : Type := va_G × (Nat → Nat) × (Nat → ClassId)
abbrev VL : Type := List (Nat × Value)
abbrev VX : Type := Program × Launch × Env × Room × State × MethodId × Array Value × List Frame × Method × Code × (Nat → Prop) × Nat × Nat × (State → Prop)
def vre (ad : Nat → Nat) (v : Value) : Value := match v with
  | .ref a => .ref (ad a)
  | v => v
def vrl (ad : Nat → Nat) (ls : VL) : VL := ls.map (fun q => (q.1, vre ad q.2))
def vKinds : List (Nat × Nat) :=
  [(7, 0), (3, 0), (9, 8), (9, 8), (9, 8), (9, 8), (9, 8), (9, 8), (3, 0), (9, 8), (9, 8), (9, 8), (9, 8), (9, 8), (9, 8),
   (12, 2), (3, 0), (9, 8), (9, 8), (9, 8), (9, 8), (9, 8), (9, 8), (3, 0), (9, 8), (9, 8), (9, 8), (9, 8), (9, 8), (9, 8),
   (11, 2), (2, 0), (9, 60), (13, 11),
   (5, 0), (9, 8), (5, 0), (9, 8), (5, 0), (9, 8), (5, 0), (9, 8), (5, 0), (9, 8), (5, 0), (9, 8), (5, 0), (9, 8), (5, 0), (9, 8), (5, 0), (9, 8), (5, 0), (9, 8), (5, 0), (9, 8),
   (0, 0), (9, 7), (9, 7), (9, 7), (1, 0), (9, 7), (9, 7), (9, 7), (6, 0), (4, 0), (9, 3), (9, 8), (10, 8),
   (8, 0), (9, 8), (9, 8), (9, 8), (9, 8), (9, 16), (9, 61), (9, 61), (9, 8), (9, 8), (9, 61), (9, 61), (9, 61), (9, 488), (9, 61), (9, 8), (9, 140), (11, 2)]
def vk (i : Nat) : Nat × Nat := (vKinds[i]?).getD (99, 0)
def vF (ci : Nat) : List (Nat × Nat) := match ci with
  | 0 => [(2, 1), (2, 2), (2, 3), (0, 0), (0, 0), (0, 0), (0, 0)]
  | 1 => [(2, 1), (2, 2), (2, 3), (0, 0), (0, 0), (0, 0)]
  | 2 => [(2, 1), (0, 0)]
  | 3 => [(0, 0), (0, 0), (0, 0), (0, 0), (0, 0), (0, 0), (0, 0), (2, 1), (2, 2), (2, 3), (2, 4), (2, 5), (2, 6)]
  | 4 => [(2, 1), (0, 0), (2, 2)]
  | 5 => [(2, 1), (0, 0), (0, 0), (0, 0), (0, 0), (0, 0), (0, 0), (0, 0), (0, 0), (0, 0), (0, 0), (0, 0), (0, 0)]
  | 6 => [(1, 0), (1, 0), (1, 0), (0, 0)]
  | 7 => [(2, 1), (2, 8), (2, 15), (2, 30), (2, 31), (2, 33), (2, 56), (2, 60), (2, 64), (2, 65), (2, 68)]
  | 8 => [(0, 0), (0, 0), (2, 1), (2, 2), (2, 3), (2, 4), (0, 0), (0, 0), (0, 0), (0, 0), (0, 0), (2, 5), (0, 0), (2, 6), (2, 7), (0, 0), (2, 8), (0, 0), (0, 0), (0, 0), (2, 9), (2, 10), (2, 11), (2, 12), (2, 13), (0, 0), (0, 0), (0, 0), (0, 0), (0, 0), (0, 0), (0, 0), (2, 14), (0, 0), (2, 15), (2, 16), (2, 17)]
  | _ => []
def vfv (μ : VS) (i k : Nat) (t : Nat × Nat) : Value := match t.1 with
  | 0 => .int (μ.1 i k)
  | 1 => .long (μ.2 i k)
  | _ => .ref (i + t.2)
def vfs (G : VG) (μ : VS) (i ci : Nat) : List Value := (vF ci).mapIdx (fun k t => vre G.2.1 (vfv μ i k t))
def vE (G : VG) (μ : VS) (i : Nat) : va_E := match (vk i).1 with
  | 9 => .inl (G.2.2 9, (vk i).2, .inl (μ.1 i))
  | 10 => .inl (G.2.2 10, (vk i).2, .inr (.inl (μ.2 i)))
  | 11 => .inl (G.2.2 11, (vk i).2, .inl (μ.1 i))
  | 12 => .inl (G.2.2 12, (vk i).2, .inr (.inr (.inr (.inr (fun j => some (G.2.1 (i + 1 + 7 * j)))))))
  | 13 => .inl (G.2.2 13, (vk i).2, .inr (.inr (.inr (.inr (fun j => some (G.2.1 (i + 1 + 2 * j)))))))
  | ci => .inr (ci, vfs G μ i ci)
def vW (G : VG) (μ : VS) : va_W := (List.range 87).map (fun i => (G.2.1 i, vE G μ i))
def vTys (G : VG) : List (ClassId × FieldType) := [(G.2.2 9, .int), (G.2.2 10, .long), (G.2.2 11, .boolean), (G.2.2 12, .object RX4), (G.2.2 13, .object RX6)]
def vBC (j : Nat) : Int32 := match j with
  | 0 => 99
  | 1 => 104
  | 2 => 110
  | 3 => 111
  | 4 => 115
  | 5 => 119
  | _ => 126
def vBD (j : Nat) : Int32 := match j with
  | 0 => 119
  | 1 => 104
  | 2 => 111
  | 3 => 110
  | 4 => 99
  | 5 => 115
  | _ => 126
def vSt (G : VG) (A : Nat → Prop) (U : State) (H : Heap) : Prop :=
  (va_Z "NodTax" "BY_CODE" "[C" (.ref (G.2.1 1000)) A U H ∧ va_T .char (G.2.1 1000) 7 (fun j => .int (vBC j)) A U H) ∧ (va_Z "NodTax" "BY_DRAW" "[C" (.ref (G.2.1 1001)) A U H ∧ va_T .char (G.2.1 1001) 7 (fun j => .int (vBD j)) A U H)
/-- the words that every callee may be handed, and those few that go another way -/
def lw_good : List Cond := lw_tbl.filter goodWord
theorem lw_gd {w : Cond} (h : w ∈ lw_tbl) (hg : goodWord w = true) : w ∈ lw_good := List.mem_filter.mpr ⟨h, hg⟩
def vnest (w : Cond) : Bool := match w with
  | .fieldLinkNest .. => true
  | .declares _ => true
  | _ => false
def vNs (U : State) : Prop := ∀ w ∈ lw_tbl, vnest w = true → va_Nw w U
theorem vNs.warm {s U : State} (hW : s.WarmedH U.vm) (h : vNs s) : vNs U := by
  intro w hw hn
  have h1 := h w hw hn
  cases w <;> first | (exact absurd hn (by decide)) | (exact absurd hn Bool.false_ne_true) | exact va_Nw.warmF hW h1 | exact va_Nw.warmD hW h1
theorem vNs.same {s U : State} (hW : s.vm = U.vm) (h : vNs s) : vNs U := by
  intro w hw hn
  have h1 := h w hw hn
  refine va_Nw.same ?_ hW h1
  cases w <;> first | rfl | (exact absurd hn Bool.false_ne_true)
def vQc (G : VG) (A : Nat → Prop) (Q : Option Value → VS → Prop) : Array Value → State → Outcome → State → Prop := fun _ st oc t => (∃ (r : Option Value) (μ : VS), oc = .returned (r.map (vre G.2.1)) ∧ Q r μ ∧ va_P G.1 vwCl (vW G μ) t.heap) ∧ va_F A st t
def Cx (G : VG) (d : Nat) (y : MethodName) (cc : ByteArray) (nL : Nat) (rt : Option FieldType) (X : VX) : Prop := match X with
  | (p, _, _, R, s, m, args, _, meth, c, A, cells, slots, _) => p.tables.exec = Jvm.exec ∧ c.code = cc ∧ meth.sig.returnType = rt ∧ meth.locks = false ∧ c.maxLocals = nL ∧ s.vm.findClass y.cls = some m.cls ∧ (∀ w ∈ lw_good, w.before args s = true) ∧ vNs s ∧ va_K G.1 vwCl (vTys G) s ∧ vSt G A s s.heap ∧ (∀ q, s.heap.size ≤ q → A q) ∧ d ≤ R.frames ∧ 60 * d ≤ R.locals ∧ cells ≤ R.cells ∧ slots ≤ R.slots
def V (G : VG) (nL : Nat) (X : VX) (pc : Nat) (ls : VL) (st : List Value) (μ : VS) : Prop := match X with
  | (p, l, e, R, s, m, args, below, meth, c, A, cells, slots, Qf) => ∀ (H : Heap) (locs : List Loc) (la : Array Slot), va_P G.1 vwCl (vW G μ) H → va_D A (vW G μ) → va_S A s.heap H locs → lv_has la nL (vrl G.2.1 ls) → W p l e R s m args below meth c H locs cells slots Qf (F0 m pc la (st.map (vre G.2.1)))
def Ret (G : VG) (X : VX) (r : Option Value) (μ : VS) : Prop := match X with
  | (_, _, _, _, s, _, args, below, _, _, A, cells, slots, Qf) => ∃ Q : Option Value → VS → Prop, Qf = MQ below (vQc G A Q) args s cells slots A ∧ Q r μ
def Call (G : VG) (d : Nat) (y : MethodName) (cc : ByteArray) (nL : Nat) (rt : Option FieldType) (av : List Value) (μ : VS) (Q : Option Value → VS → Prop) : Prop := ∀ X : VX, Cx G d y cc nL rt X → (∀ r μ', Q r μ' → Ret G X r μ') → V G nL X 0 (lv_args 0 av) [] μ
def vroom (d : Nat) : Room := { frames := d, cells := 0, slots := 0, locals := 60 * d }
def vup {α : Type} (f : Nat → Nat → α) (i k : Nat) (x : α) : Nat → Nat → α := fun a b => if a = i then if b = k then x else f a b else f a b
/-! facts -/
theorem vre_cat (ad : Nat → Nat) (v : Value) : (vre ad v).category = v.category := by cases v <;> rfl
theorem vk_lt {i a n : Nat} (h : vk i = (a, n)) (ha : a ≠ 99) : i < 87 := by
  rcases Nat.lt_or_ge i 87 with q | q
  · exact q
  · have : vKinds[i]? = none := List.getElem?_eq_none (by show 87 ≤ i; exact q)
    unfold vk at h
    rw [this] at h
    cases h
    exact absurd rfl ha
theorem vW_at (G : VG) (μ : VS) {i : Nat} (h : i < 87) : (vW G μ)[i]? = some (G.2.1 i, vE G μ i) := by
  simp [vW, h]
theorem vW_len (G : VG) (μ : VS) : (vW G μ).length = 87 := by simp [vW]
theorem vE_int (G : VG) (μ : VS) {i n : Nat} (h : vk i = (9, n)) : vE G μ i = .inl (G.2.2 9, n, .inl (μ.1 i)) := by simp [vE, h]
theorem vE_long (G : VG) (μ : VS) {i n : Nat} (h : vk i = (10, n)) : vE G μ i = .inl (G.2.2 10, n, .inr (.inl (μ.2 i))) := by simp [vE, h]
theorem vE_bool (G : VG) (μ : VS) {i n : Nat} (h : vk i = (11, n)) : vE G μ i = .inl (G.2.2 11, n, .inl (μ.1 i)) := by simp [vE, h]
theorem vE_par (G : VG) (μ : VS) {i n : Nat} (h : vk i = (12, n)) : vE G μ i = .inl (G.2.2 12, n, .inr (.inr (.inr (.inr (fun j => some (G.2.1 (i + 1 + 7 * j))))))) := by simp [vE, h]
theorem vE_walk (G : VG) (μ : VS) {i n : Nat} (h : vk i = (13, n)) : vE G μ i = .inl (G.2.2 13, n, .inr (.inr (.inr (.inr (fun j => some (G.2.1 (i + 1 + 2 * j))))))) := by simp [vE, h]
theorem vE_obj (G : VG) (μ : VS) {i ci : Nat} (h : vk i = (ci, 0)) (hc : ci < 9) : vE G μ i = .inr (ci, vfs G μ i ci) := by
  have h1 : (vk i).1 = ci := by rw [h]
  unfold vE
  rw [h1]
  match ci, hc with
  | 0, _ => rfl
  | 1, _ => rfl
  | 2, _ => rfl
  | 3, _ => rfl
  | 4, _ => rfl
  | 5, _ => rfl
  | 6, _ => rfl
  | 7, _ => rfl
  | 8, _ => rfl
theorem vfs_at (G : VG) (μ : VS) {i ci k : Nat} {t : Nat × Nat} (h : (vF ci)[k]? = some t) : (vfs G μ i ci)[k]? = some (vre G.2.1 (vfv μ i k t)) := by
  simp [vfs, h]
theorem vup_same {α : Type} (f : Nat → Nat → α) (i k : Nat) (x : α) : vup f i k x i k = x := by simp [vup]
theorem vup_row {α : Type} (f : Nat → Nat → α) {i a : Nat} (k : Nat) (x : α) (h : a ≠ i) : vup f i k x a = f a := by
  funext b
  simp [vup, h]
theorem vW_ext {G : VG} {μ μ' : VS} {i : Nat} (h : i < 87) (hne : ∀ a, a ≠ i → vE G μ' a = vE G μ a) : (vW G μ).set i (G.2.1 i, vE G μ' i) = vW G μ' := by
  apply List.ext_getElem?
  intro j
  rw [List.getElem?_set]
  by_cases hj : i = j
  · subst hj
    rw [if_pos rfl, vW_len, if_pos h, vW_at G μ' h]
  · rw [if_neg hj]
    rcases Nat.lt_or_ge j 87 with q | q
    · rw [vW_at G μ q, vW_at G μ' q, hne j (fun e => hj e.symm)]
    · rw [List.getElem?_eq_none (by rw [vW_len]; exact q), List.getElem?_eq_none (by rw [vW_len]; exact q)]
theorem vE_rows {G : VG} {μ μ' : VS} {a : Nat} (h1 : μ'.1 a = μ.1 a) (h2 : μ'.2 a = μ.2 a) : vE G μ' a = vE G μ a := by
  have h3 : ∀ ci, vfs G μ' a ci = vfs G μ a ci := by
    intro ci
    unfold vfs vfv
    rw [h1, h2]
  unfold vE
  rw [h1, h2]
  simp only [h3]
theorem vW_seti {G : VG} {μ : VS} {i ci k : Nat} {x : Int32} (h : vk i = (ci, 0)) (hc : ci < 9) (hf : (vF ci)[k]? = some (0, 0)) : (vW G μ).set i (G.2.1 i, .inr (ci, (vfs G μ i ci).set k (.int x))) = vW G (vup μ.1 i k x, μ.2) := by
  have hi : i < 87 := vk_lt h (by omega)
  have h0 : (.inr (ci, (vfs G μ i ci).set k (.int x)) : va_E) = vE G (vup μ.1 i k x, μ.2) i := by
    rw [vE_obj G _ h hc]
    congr 2
    apply List.ext_getElem?
    intro j
    rw [List.getElem?_set]
    unfold vfs
    rw [List.getElem?_mapIdx, List.getElem?_mapIdx, List.length_mapIdx]
    by_cases hj : k = j
    · subst hj
      rw [if_pos rfl, if_pos (List.getElem?_eq_some_iff.mp hf).1, hf]
      simp [vfv, vre, vup]
    · rw [if_neg hj]
      cases hq : (vF ci)[j]? with
      | none => rfl
      | some t =>
        have : ¬ j = k := fun e => hj e.symm
        simp [vfv, vup, this]
  rw [h0]
  exact vW_ext hi (fun a ha => vE_rows (vup_row _ _ _ ha) rfl)
theorem vW_setl {G : VG} {μ : VS} {i ci k : Nat} {x : Int64} (h : vk i = (ci, 0)) (hc : ci < 9) (hf : (vF ci)[k]? = some (1, 0)) : (vW G μ).set i (G.2.1 i, .inr (ci, (vfs G μ i ci).set k (.long x))) = vW G (μ.1, vup μ.2 i k x) := by
  have hi : i < 87 := vk_lt h (by omega)
  have h0 : (.inr (ci, (vfs G μ i ci).set k (.long x)) : va_E) = vE G (μ.1, vup μ.2 i k x) i := by
    rw [vE_obj G _ h hc]
    congr 2
    apply List.ext_getElem?
    intro j
    rw [List.getElem?_set]
    unfold vfs
    rw [List.getElem?_mapIdx, List.getElem?_mapIdx, List.length_mapIdx]
    by_cases hj : k = j
    · subst hj
      rw [if_pos rfl, if_pos (List.getElem?_eq_some_iff.mp hf).1, hf]
      simp [vfv, vre, vup]
    · rw [if_neg hj]
      cases hq : (vF ci)[j]? with
      | none => rfl
      | some t =>
        have : ¬ j = k := fun e => hj e.symm
        simp [vfv, vup, this]
  rw [h0]
  exact vW_ext hi (fun a ha => vE_rows rfl (vup_row _ _ _ ha))
theorem vup_upd (f : Nat → Nat → Int32) (i k : Nat) (x : Int32) : vup f i k x i = upd (f i) k x := by
  funext b
  simp [vup, upd]
theorem vup_updL (f : Nat → Nat → Int64) (i k : Nat) (x : Int64) : vup f i k x i = vp_updL (f i) k x := by
  funext b
  simp [vup, vp_updL]
theorem vW_arri {G : VG} {μ : VS} {i n k : Nat} {x : Int32} (h : vk i = (9, n)) : (vW G μ).set i (G.2.1 i, .inl (G.2.2 9, n, .inl (upd (μ.1 i) k x))) = vW G (vup μ.1 i k x, μ.2) := by
  rw [← vup_upd, ← vE_int G (vup μ.1 i k x, μ.2) h]
  exact vW_ext (vk_lt h (by omega)) (fun a ha => vE_rows (vup_row _ _ _ ha) rfl)
theorem vW_arrz {G : VG} {μ : VS} {i n k : Nat} {x : Int32} (h : vk i = (11, n)) : (vW G μ).set i (G.2.1 i, .inl (G.2.2 11, n, .inl (upd (μ.1 i) k x))) = vW G (vup μ.1 i k x, μ.2) := by
  rw [← vup_upd, ← vE_bool G (vup μ.1 i k x, μ.2) h]
  exact vW_ext (vk_lt h (by omega)) (fun a ha => vE_rows (vup_row _ _ _ ha) rfl)
theorem vW_arrl {G : VG} {μ : VS} {i n k : Nat} {x : Int64} (h : vk i = (10, n)) : (vW G μ).set i (G.2.1 i, .inl (G.2.2 10, n, .inr (.inl (vp_updL (μ.2 i) k x)))) = vW G (μ.1, vup μ.2 i k x) := by
  rw [← vup_updL, ← vE_long G (μ.1, vup μ.2 i k x) h]
  exact vW_ext (vk_lt h (by omega)) (fun a ha => vE_rows rfl (vup_row _ _ _ ha))
/-- a whole row of ints is put in the place of another -/
def vrow {α : Type} (f : Nat → Nat → α) (i : Nat) (g : Nat → α) : Nat → Nat → α := fun a => if a = i then g else f a
theorem vW_row {G : VG} {μ : VS} {i n : Nat} {g : Nat → Int32} (h : vk i = (9, n)) : (vW G μ).set i (G.2.1 i, .inl (G.2.2 9, n, .inl g)) = vW G (vrow μ.1 i g, μ.2) := by
  have e : g = (vrow μ.1 i g, μ.2).1 i := by simp [vrow]
  have e2 : (.inl (G.2.2 9, n, .inl g) : va_E) = vE G (vrow μ.1 i g, μ.2) i := by rw [vE_int G _ h, ← e]
  rw [e2]
  exact vW_ext (vk_lt h (by omega)) (fun a ha => vE_rows (by simp [vrow, ha]) rfl)
/-! locals: kept in the order of their numbers -/
def vins (q : Nat × Value) : VL → VL
  | [] => [q]
  | r :: l => bif Nat.ble q.1 r.1 then q :: r :: l else r :: vins q l
theorem mem_vins (q x : Nat × Value) (l : VL) : x ∈ vins q l ↔ x = q ∨ x ∈ l := by
  induction l with
  | nil => simp [vins]
  | cons r l ih =>
    unfold vins
    cases Nat.ble q.1 r.1 with
    | true => simp
    | false =>
      simp only [cond_false, List.mem_cons, ih]
      constructor
      · rintro (h | h | h)
        · exact Or.inr (Or.inl h)
        · exact Or.inl h
        · exact Or.inr (Or.inr h)
      · rintro (h | h | h)
        · exact Or.inr (Or.inl h)
        · exact Or.inl h
        · exact Or.inr (Or.inr h)
def vset1 (ls : VL) (i : Nat) (v : Value) : VL := vins (i, v) (ls.filter (fun q => !(q.1 == i) && !(q.1 + 1 == i && q.2.category == 2)))
def vset2 (ls : VL) (i : Nat) (v : Value) : VL := vins (i, v) (ls.filter (fun q => !(q.1 == i) && (!(q.1 == i + 1) && !(q.1 + 1 == i && q.2.category == 2))))
theorem vrl_filter1 (ad : Nat → Nat) (ls : VL) (i : Nat) : (vrl ad ls).filter (fun q => !(q.1 == i) && !(q.1 + 1 == i && q.2.category == 2)) = vrl ad (ls.filter (fun q => !(q.1 == i) && !(q.1 + 1 == i && q.2.category == 2))) := by
  unfold vrl
  rw [List.filter_map]
  congr 1
  apply List.filter_congr
  intro q _
  simp [vre_cat]
theorem vrl_filter2 (ad : Nat → Nat) (ls : VL) (i : Nat) : (vrl ad ls).filter (fun q => !(q.1 == i) && (!(q.1 == i + 1) && !(q.1 + 1 == i && q.2.category == 2))) = vrl ad (ls.filter (fun q => !(q.1 == i) && (!(q.1 == i + 1) && !(q.1 + 1 == i && q.2.category == 2)))) := by
  unfold vrl
  rw [List.filter_map]
  congr 1
  apply List.filter_congr
  intro q _
  simp [vre_cat]
theorem vhas_ins {ad : Nat → Nat} {la : Array Slot} {n i : Nat} {v : Value} {ls : VL} (h : lv_has la n ((i, vre ad v) :: vrl ad ls)) : lv_has la n (vrl ad (vins (i, v) ls)) := by
  refine ⟨h.1, h.2.1, fun q hq => h.2.2 q ?_⟩
  unfold vrl at hq
  obtain ⟨x, hx, rfl⟩ := List.mem_map.mp hq
  rcases (mem_vins _ _ _).mp hx with e | e
  · subst e; exact List.mem_cons_self
  · exact List.mem_cons_of_mem _ (List.mem_map.mpr ⟨x, e, rfl⟩)
theorem vhas_at {ad : Nat → Nat} {la : Array Slot} {n i k : Nat} {v : Value} {ls : VL} (h : lv_has la n (vrl ad ls)) (hk : ls[k]? = some (i, v)) : la[i]? = some (.val (vre ad v)) :=
  h.2.2 (i, vre ad v) (List.mem_map.mpr ⟨(i, v), List.mem_of_getElem? hk, rfl⟩)
theorem vrl_args (ad : Nat → Nat) (vs : List Value) : ∀ i, lv_args i (vs.map (vre ad)) = vrl ad (lv_args i vs) := by
  induction vs with
  | nil => intro i; rfl
  | cons v vs ih =>
    intro i
    show (i, vre ad v) :: lv_args _ (vs.map (vre ad)) = (i, vre ad v) :: vrl ad (lv_args _ vs)
    rw [vre_cat, ih]
end
section
section VR
variable {G : VG} {d nL pc : Nat} {y : MethodName} {cc : ByteArray} {rt : Option FieldType} {X : VX} {ls : VL} {st : List Value} {μ : VS}
theorem V_iconst {n : Int} {v : Int32} (hX : Cx G d y cc nL rt X) (hd : decode cc pc = .ok (.iconst n, 1)) (hv : Int32.ofInt n = v) (k : V G nL X (pc + 1) ls (.int v :: st) μ) : V G nL X pc ls st μ := by
  obtain ⟨p, l, e, R, s, m, args, below, meth, c, A, cells, slots, Qf⟩ := X
  obtain ⟨hx, hb, hr, hlk, hml, hown, hts, hNs, hK, hSt, hA, hfr, hlo, hce, hsl⟩ := hX
  intro H locs la hP hD hS hl
  exact lv_iconst hx hb hd hv (k H locs la hP hD hS hl)
theorem V_bipush {n : Int} {v : Int32} (hX : Cx G d y cc nL rt X) (hd : decode cc pc = .ok (.bipush n, 2)) (hv : (Int8.ofInt n).toInt32 = v) (k : V G nL X (pc + 2) ls (.int v :: st) μ) : V G nL X pc ls st μ := by
  obtain ⟨p, l, e, R, s, m, args, below, meth, c, A, cells, slots, Qf⟩ := X
  obtain ⟨hx, hb, hr, hlk, hml, hown, hts, hNs, hK, hSt, hA, hfr, hlo, hce, hsl⟩ := hX
  intro H locs la hP hD hS hl
  exact lv_bipush hx hb hd hv (k H locs la hP hD hS hl)
theorem V_sipush {n : Int} {v : Int32} (hX : Cx G d y cc nL rt X) (hd : decode cc pc = .ok (.sipush n, 3)) (hv : (Int16.ofInt n).toInt32 = v) (k : V G nL X (pc + 3) ls (.int v :: st) μ) : V G nL X pc ls st μ := by
  obtain ⟨p, l, e, R, s, m, args, below, meth, c, A, cells, slots, Qf⟩ := X
  obtain ⟨hx, hb, hr, hlk, hml, hown, hts, hNs, hK, hSt, hA, hfr, hlo, hce, hsl⟩ := hX
  intro H locs la hP hD hS hl
  exact lv_sipush hx hb hd hv (k H locs la hP hD hS hl)
theorem V_lconst {n : Fin 2} {v : Int64} (hX : Cx G d y cc nL rt X) (hd : decode cc pc = .ok (.lconst n, 1)) (hv : Int64.ofNat n.val = v) (k : V G nL X (pc + 1) ls (.long v :: st) μ) : V G nL X pc ls st μ := by
  obtain ⟨p, l, e, R, s, m, args, below, meth, c, A, cells, slots, Qf⟩ := X
  obtain ⟨hx, hb, hr, hlk, hml, hown, hts, hNs, hK, hSt, hA, hfr, hlo, hce, hsl⟩ := hX
  intro H locs la hP hD hS hl
  exact lv_lconst hx hb hd hv (k H locs la hP hD hS hl)
theorem V_iadd {a b : Int32} (hX : Cx G d y cc nL rt X) (hd : decode cc pc = .ok (.iadd, 1))  (k : V G nL X (pc + 1) ls (.int (a + b) :: st) μ) : V G nL X pc ls (.int b :: .int a :: st) μ := by
  obtain ⟨p, l, e, R, s, m, args, below, meth, c, A, cells, slots, Qf⟩ := X
  obtain ⟨hx, hb, hr, hlk, hml, hown, hts, hNs, hK, hSt, hA, hfr, hlo, hce, hsl⟩ := hX
  intro H locs la hP hD hS hl
  exact lv_iadd hx hb hd  (k H locs la hP hD hS hl)
theorem V_isub {a b : Int32} (hX : Cx G d y cc nL rt X) (hd : decode cc pc = .ok (.isub, 1))  (k : V G nL X (pc + 1) ls (.int (a - b) :: st) μ) : V G nL X pc ls (.int b :: .int a :: st) μ := by
  obtain ⟨p, l, e, R, s, m, args, below, meth, c, A, cells, slots, Qf⟩ := X
  obtain ⟨hx, hb, hr, hlk, hml, hown, hts, hNs, hK, hSt, hA, hfr, hlo, hce, hsl⟩ := hX
  intro H locs la hP hD hS hl
  exact lv_isub hx hb hd  (k H locs la hP hD hS hl)
theorem V_imul {a b : Int32} (hX : Cx G d y cc nL rt X) (hd : decode cc pc = .ok (.imul, 1))  (k : V G nL X (pc + 1) ls (.int (a * b) :: st) μ) : V G nL X pc ls (.int b :: .int a :: st) μ := by
  obtain ⟨p, l, e, R, s, m, args, below, meth, c, A, cells, slots, Qf⟩ := X
  obtain ⟨hx, hb, hr, hlk, hml, hown, hts, hNs, hK, hSt, hA, hfr, hlo, hce, hsl⟩ := hX
  intro H locs la hP hD hS hl
  exact lv_imul hx hb hd  (k H locs la hP hD hS hl)
theorem V_iand {a b : Int32} (hX : Cx G d y cc nL rt X) (hd : decode cc pc = .ok (.iand, 1))  (k : V G nL X (pc + 1) ls (.int (a &&& b) :: st) μ) : V G nL X pc ls (.int b :: .int a :: st) μ := by
  obtain ⟨p, l, e, R, s, m, args, below, meth, c, A, cells, slots, Qf⟩ := X
  obtain ⟨hx, hb, hr, hlk, hml, hown, hts, hNs, hK, hSt, hA, hfr, hlo, hce, hsl⟩ := hX
  intro H locs la hP hD hS hl
  exact lv_iand hx hb hd  (k H locs la hP hD hS hl)
theorem V_ior {a b : Int32} (hX : Cx G d y cc nL rt X) (hd : decode cc pc = .ok (.ior, 1))  (k : V G nL X (pc + 1) ls (.int (a ||| b) :: st) μ) : V G nL X pc ls (.int b :: .int a :: st) μ := by
  obtain ⟨p, l, e, R, s, m, args, below, meth, c, A, cells, slots, Qf⟩ := X
  obtain ⟨hx, hb, hr, hlk, hml, hown, hts, hNs, hK, hSt, hA, hfr, hlo, hce, hsl⟩ := hX
  intro H locs la hP hD hS hl
  exact lv_ior hx hb hd  (k H locs la hP hD hS hl)
theorem V_ixor {a b : Int32} (hX : Cx G d y cc nL rt X) (hd : decode cc pc = .ok (.ixor, 1))  (k : V G nL X (pc + 1) ls (.int (a ^^^ b) :: st) μ) : V G nL X pc ls (.int b :: .int a :: st) μ := by
  obtain ⟨p, l, e, R, s, m, args, below, meth, c, A, cells, slots, Qf⟩ := X
  obtain ⟨hx, hb, hr, hlk, hml, hown, hts, hNs, hK, hSt, hA, hfr, hlo, hce, hsl⟩ := hX
  intro H locs la hP hD hS hl
  exact lv_ixor hx hb hd  (k H locs la hP hD hS hl)
theorem V_ishl {a b : Int32} (hX : Cx G d y cc nL rt X) (hd : decode cc pc = .ok (.ishl, 1))  (k : V G nL X (pc + 1) ls (.int (a <<< (b &&& 31)) :: st) μ) : V G nL X pc ls (.int b :: .int a :: st) μ := by
  obtain ⟨p, l, e, R, s, m, args, below, meth, c, A, cells, slots, Qf⟩ := X
  obtain ⟨hx, hb, hr, hlk, hml, hown, hts, hNs, hK, hSt, hA, hfr, hlo, hce, hsl⟩ := hX
  intro H locs la hP hD hS hl
  exact lv_ishl hx hb hd  (k H locs la hP hD hS hl)
theorem V_ishr {a b : Int32} (hX : Cx G d y cc nL rt X) (hd : decode cc pc = .ok (.ishr, 1))  (k : V G nL X (pc + 1) ls (.int (a >>> (b &&& 31)) :: st) μ) : V G nL X pc ls (.int b :: .int a :: st) μ := by
  obtain ⟨p, l, e, R, s, m, args, below, meth, c, A, cells, slots, Qf⟩ := X
  obtain ⟨hx, hb, hr, hlk, hml, hown, hts, hNs, hK, hSt, hA, hfr, hlo, hce, hsl⟩ := hX
  intro H locs la hP hD hS hl
  exact lv_ishr hx hb hd  (k H locs la hP hD hS hl)
theorem V_idiv {a b : Int32} (hX : Cx G d y cc nL rt X) (hd : decode cc pc = .ok (.idiv, 1)) (hne : ¬ b = 0) (k : V G nL X (pc + 1) ls (.int (a / b) :: st) μ) : V G nL X pc ls (.int b :: .int a :: st) μ := by
  obtain ⟨p, l, e, R, s, m, args, below, meth, c, A, cells, slots, Qf⟩ := X
  obtain ⟨hx, hb, hr, hlk, hml, hown, hts, hNs, hK, hSt, hA, hfr, hlo, hce, hsl⟩ := hX
  intro H locs la hP hD hS hl
  exact lv_idiv hx hb hd hne (k H locs la hP hD hS hl)
theorem V_irem {a b : Int32} (hX : Cx G d y cc nL rt X) (hd : decode cc pc = .ok (.irem, 1)) (hne : ¬ b = 0) (k : V G nL X (pc + 1) ls (.int (a - a / b * b) :: st) μ) : V G nL X pc ls (.int b :: .int a :: st) μ := by
  obtain ⟨p, l, e, R, s, m, args, below, meth, c, A, cells, slots, Qf⟩ := X
  obtain ⟨hx, hb, hr, hlk, hml, hown, hts, hNs, hK, hSt, hA, hfr, hlo, hce, hsl⟩ := hX
  intro H locs la hP hD hS hl
  exact lv_irem hx hb hd hne (k H locs la hP hD hS hl)
theorem V_ineg {a : Int32} (hX : Cx G d y cc nL rt X) (hd : decode cc pc = .ok (.ineg, 1))  (k : V G nL X (pc + 1) ls (.int (-a) :: st) μ) : V G nL X pc ls (.int a :: st) μ := by
  obtain ⟨p, l, e, R, s, m, args, below, meth, c, A, cells, slots, Qf⟩ := X
  obtain ⟨hx, hb, hr, hlk, hml, hown, hts, hNs, hK, hSt, hA, hfr, hlo, hce, hsl⟩ := hX
  intro H locs la hP hD hS hl
  exact lv_ineg hx hb hd  (k H locs la hP hD hS hl)
theorem V_iushr {a b : Int32} (hX : Cx G d y cc nL rt X) (hd : decode cc pc = .ok (.iushr, 1))  (k : V G nL X (pc + 1) ls (.int ((a.toUInt32 >>> (b.toUInt32 &&& Int32.toUInt32 31)).toInt32) :: st) μ) : V G nL X pc ls (.int b :: .int a :: st) μ := by
  obtain ⟨p, l, e, R, s, m, args, below, meth, c, A, cells, slots, Qf⟩ := X
  obtain ⟨hx, hb, hr, hlk, hml, hown, hts, hNs, hK, hSt, hA, hfr, hlo, hce, hsl⟩ := hX
  intro H locs la hP hD hS hl
  exact lv_iushr hx hb hd rfl (k H locs la hP hD hS hl)
theorem V_ladd {a b : Int64} (hX : Cx G d y cc nL rt X) (hd : decode cc pc = .ok (.ladd, 1))  (k : V G nL X (pc + 1) ls (.long (a + b) :: st) μ) : V G nL X pc ls (.long b :: .long a :: st) μ := by
  obtain ⟨p, l, e, R, s, m, args, below, meth, c, A, cells, slots, Qf⟩ := X
  obtain ⟨hx, hb, hr, hlk, hml, hown, hts, hNs, hK, hSt, hA, hfr, hlo, hce, hsl⟩ := hX
  intro H locs la hP hD hS hl
  exact lv_ladd hx hb hd  (k H locs la hP hD hS hl)
theorem V_lmul {a b : Int64} (hX : Cx G d y cc nL rt X) (hd : decode cc pc = .ok (.lmul, 1))  (k : V G nL X (pc + 1) ls (.long (a * b) :: st) μ) : V G nL X pc ls (.long b :: .long a :: st) μ := by
  obtain ⟨p, l, e, R, s, m, args, below, meth, c, A, cells, slots, Qf⟩ := X
  obtain ⟨hx, hb, hr, hlk, hml, hown, hts, hNs, hK, hSt, hA, hfr, hlo, hce, hsl⟩ := hX
  intro H locs la hP hD hS hl
  exact lv_lmul hx hb hd  (k H locs la hP hD hS hl)
theorem V_lor {a b : Int64} (hX : Cx G d y cc nL rt X) (hd : decode cc pc = .ok (.lor, 1))  (k : V G nL X (pc + 1) ls (.long (a ||| b) :: st) μ) : V G nL X pc ls (.long b :: .long a :: st) μ := by
  obtain ⟨p, l, e, R, s, m, args, below, meth, c, A, cells, slots, Qf⟩ := X
  obtain ⟨hx, hb, hr, hlk, hml, hown, hts, hNs, hK, hSt, hA, hfr, hlo, hce, hsl⟩ := hX
  intro H locs la hP hD hS hl
  exact lv_lor hx hb hd  (k H locs la hP hD hS hl)
theorem V_ldiv {a b : Int64} (hX : Cx G d y cc nL rt X) (hd : decode cc pc = .ok (.ldiv, 1)) (hne : ¬ b = 0) (k : V G nL X (pc + 1) ls (.long (a / b) :: st) μ) : V G nL X pc ls (.long b :: .long a :: st) μ := by
  obtain ⟨p, l, e, R, s, m, args, below, meth, c, A, cells, slots, Qf⟩ := X
  obtain ⟨hx, hb, hr, hlk, hml, hown, hts, hNs, hK, hSt, hA, hfr, hlo, hce, hsl⟩ := hX
  intro H locs la hP hD hS hl
  exact lv_ldiv hx hb hd hne (k H locs la hP hD hS hl)
theorem V_lrem {a b : Int64} (hX : Cx G d y cc nL rt X) (hd : decode cc pc = .ok (.lrem, 1)) (hne : ¬ b = 0) (k : V G nL X (pc + 1) ls (.long (a - a / b * b) :: st) μ) : V G nL X pc ls (.long b :: .long a :: st) μ := by
  obtain ⟨p, l, e, R, s, m, args, below, meth, c, A, cells, slots, Qf⟩ := X
  obtain ⟨hx, hb, hr, hlk, hml, hown, hts, hNs, hK, hSt, hA, hfr, hlo, hce, hsl⟩ := hX
  intro H locs la hP hD hS hl
  exact lv_lrem hx hb hd hne (k H locs la hP hD hS hl)
theorem V_lshl {a : Int64} {b : Int32} (hX : Cx G d y cc nL rt X) (hd : decode cc pc = .ok (.lshl, 1))  (k : V G nL X (pc + 1) ls (.long (a <<< (b.toInt64 &&& 63)) :: st) μ) : V G nL X pc ls (.int b :: .long a :: st) μ := by
  obtain ⟨p, l, e, R, s, m, args, below, meth, c, A, cells, slots, Qf⟩ := X
  obtain ⟨hx, hb, hr, hlk, hml, hown, hts, hNs, hK, hSt, hA, hfr, hlo, hce, hsl⟩ := hX
  intro H locs la hP hD hS hl
  exact lv_lshl hx hb hd rfl (k H locs la hP hD hS hl)
theorem V_i2l {a : Int32} (hX : Cx G d y cc nL rt X) (hd : decode cc pc = .ok (.i2l, 1))  (k : V G nL X (pc + 1) ls (.long a.toInt64 :: st) μ) : V G nL X pc ls (.int a :: st) μ := by
  obtain ⟨p, l, e, R, s, m, args, below, meth, c, A, cells, slots, Qf⟩ := X
  obtain ⟨hx, hb, hr, hlk, hml, hown, hts, hNs, hK, hSt, hA, hfr, hlo, hce, hsl⟩ := hX
  intro H locs la hP hD hS hl
  exact lv_i2l hx hb hd rfl (k H locs la hP hD hS hl)
theorem V_lcmp {a b : Int64} (hX : Cx G d y cc nL rt X) (hd : decode cc pc = .ok (.lcmp, 1))  (k : V G nL X (pc + 1) ls (.int (lg_cmp a b) :: st) μ) : V G nL X pc ls (.long b :: .long a :: st) μ := by
  obtain ⟨p, l, e, R, s, m, args, below, meth, c, A, cells, slots, Qf⟩ := X
  obtain ⟨hx, hb, hr, hlk, hml, hown, hts, hNs, hK, hSt, hA, hfr, hlo, hce, hsl⟩ := hX
  intro H locs la hP hD hS hl
  exact W.lcmp hx hb hd  (k H locs la hP hD hS hl)
theorem V_dup {v : Value} (hX : Cx G d y cc nL rt X) (hd : decode cc pc = .ok (.dup, 1)) (hv : v.category = 1) (k : V G nL X (pc + 1) ls (v :: v :: st) μ) : V G nL X pc ls (v :: st) μ := by
  obtain ⟨p, l, e, R, s, m, args, below, meth, c, A, cells, slots, Qf⟩ := X
  obtain ⟨hx, hb, hr, hlk, hml, hown, hts, hNs, hK, hSt, hA, hfr, hlo, hce, hsl⟩ := hX
  intro H locs la hP hD hS hl
  exact lv_dup hx hb hd ((vre_cat _ _).trans hv) (k H locs la hP hD hS hl)
theorem V_pop {v : Value} (hX : Cx G d y cc nL rt X) (hd : decode cc pc = .ok (.pop, 1)) (hv : v.category = 1) (k : V G nL X (pc + 1) ls st μ) : V G nL X pc ls (v :: st) μ := by
  obtain ⟨p, l, e, R, s, m, args, below, meth, c, A, cells, slots, Qf⟩ := X
  obtain ⟨hx, hb, hr, hlk, hml, hown, hts, hNs, hK, hSt, hA, hfr, hlo, hce, hsl⟩ := hX
  intro H locs la hP hD hS hl
  exact lv_pop hx hb hd ((vre_cat _ _).trans hv) (k H locs la hP hD hS hl)
theorem V_dup2 {v u : Value} (hX : Cx G d y cc nL rt X) (hd : decode cc pc = .ok (.dup2, 1)) (hv : v.category = 1) (hu : u.category = 1) (k : V G nL X (pc + 1) ls (v :: u :: v :: u :: st) μ) : V G nL X pc ls (v :: u :: st) μ := by
  obtain ⟨p, l, e, R, s, m, args, below, meth, c, A, cells, slots, Qf⟩ := X
  obtain ⟨hx, hb, hr, hlk, hml, hown, hts, hNs, hK, hSt, hA, hfr, hlo, hce, hsl⟩ := hX
  intro H locs la hP hD hS hl
  exact lv_dup2_11 hx hb hd ((vre_cat _ _).trans hv) ((vre_cat _ _).trans hu) (k H locs la hP hD hS hl)
theorem V_dup2l {v : Value} (hX : Cx G d y cc nL rt X) (hd : decode cc pc = .ok (.dup2, 1)) (hv : v.category = 2) (k : V G nL X (pc + 1) ls (v :: v :: st) μ) : V G nL X pc ls (v :: st) μ := by
  obtain ⟨p, l, e, R, s, m, args, below, meth, c, A, cells, slots, Qf⟩ := X
  obtain ⟨hx, hb, hr, hlk, hml, hown, hts, hNs, hK, hSt, hA, hfr, hlo, hce, hsl⟩ := hX
  intro H locs la hP hD hS hl
  exact lv_dup2_2 hx hb hd ((vre_cat _ _).trans hv) (k H locs la hP hD hS hl)
theorem V_iload_n {n : Fin 4} {x : Int32} (hX : Cx G d y cc nL rt X) (hd : decode cc pc = .ok (.iload_n n, 1)) (j : Nat) (hj : ls[j]? = some (n.val, .int x)) (k : V G nL X (pc + 1) ls (.int x :: st) μ) : V G nL X pc ls st μ := by
  obtain ⟨p, l, e, R, s, m, args, below, meth, c, A, cells, slots, Qf⟩ := X
  obtain ⟨hx, hb, hr, hlk, hml, hown, hts, hNs, hK, hSt, hA, hfr, hlo, hce, hsl⟩ := hX
  intro H locs la hP hD hS hl
  exact lv_iload_n hx hb hd rfl (vhas_at hl hj) (k H locs la hP hD hS hl)
theorem V_iload {i : Nat} {x : Int32} (hX : Cx G d y cc nL rt X) (hd : decode cc pc = .ok (.iload i, 2)) (j : Nat) (hj : ls[j]? = some (i, .int x)) (k : V G nL X (pc + 2) ls (.int x :: st) μ) : V G nL X pc ls st μ := by
  obtain ⟨p, l, e, R, s, m, args, below, meth, c, A, cells, slots, Qf⟩ := X
  obtain ⟨hx, hb, hr, hlk, hml, hown, hts, hNs, hK, hSt, hA, hfr, hlo, hce, hsl⟩ := hX
  intro H locs la hP hD hS hl
  exact lv_iload hx hb hd (vhas_at hl hj) (k H locs la hP hD hS hl)
theorem V_lload_n {n : Fin 4} {x : Int64} (hX : Cx G d y cc nL rt X) (hd : decode cc pc = .ok (.lload_n n, 1)) (j : Nat) (hj : ls[j]? = some (n.val, .long x)) (k : V G nL X (pc + 1) ls (.long x :: st) μ) : V G nL X pc ls st μ := by
  obtain ⟨p, l, e, R, s, m, args, below, meth, c, A, cells, slots, Qf⟩ := X
  obtain ⟨hx, hb, hr, hlk, hml, hown, hts, hNs, hK, hSt, hA, hfr, hlo, hce, hsl⟩ := hX
  intro H locs la hP hD hS hl
  exact lv_lload_n hx hb hd rfl (vhas_at hl hj) (k H locs la hP hD hS hl)
theorem V_lload {i : Nat} {x : Int64} (hX : Cx G d y cc nL rt X) (hd : decode cc pc = .ok (.lload i, 2)) (j : Nat) (hj : ls[j]? = some (i, .long x)) (k : V G nL X (pc + 2) ls (.long x :: st) μ) : V G nL X pc ls st μ := by
  obtain ⟨p, l, e, R, s, m, args, below, meth, c, A, cells, slots, Qf⟩ := X
  obtain ⟨hx, hb, hr, hlk, hml, hown, hts, hNs, hK, hSt, hA, hfr, hlo, hce, hsl⟩ := hX
  intro H locs la hP hD hS hl
  exact lv_lload hx hb hd (vhas_at hl hj) (k H locs la hP hD hS hl)
theorem V_aload_n {n : Fin 4} {x : Nat} (hX : Cx G d y cc nL rt X) (hd : decode cc pc = .ok (.aload_n n, 1)) (j : Nat) (hj : ls[j]? = some (n.val, .ref x)) (k : V G nL X (pc + 1) ls (.ref x :: st) μ) : V G nL X pc ls st μ := by
  obtain ⟨p, l, e, R, s, m, args, below, meth, c, A, cells, slots, Qf⟩ := X
  obtain ⟨hx, hb, hr, hlk, hml, hown, hts, hNs, hK, hSt, hA, hfr, hlo, hce, hsl⟩ := hX
  intro H locs la hP hD hS hl
  exact lv_aload_n hx hb hd rfl (vhas_at hl hj) (k H locs la hP hD hS hl)
theorem V_aload {i : Nat} {x : Nat} (hX : Cx G d y cc nL rt X) (hd : decode cc pc = .ok (.aload i, 2)) (j : Nat) (hj : ls[j]? = some (i, .ref x)) (k : V G nL X (pc + 2) ls (.ref x :: st) μ) : V G nL X pc ls st μ := by
  obtain ⟨p, l, e, R, s, m, args, below, meth, c, A, cells, slots, Qf⟩ := X
  obtain ⟨hx, hb, hr, hlk, hml, hown, hts, hNs, hK, hSt, hA, hfr, hlo, hce, hsl⟩ := hX
  intro H locs la hP hD hS hl
  exact lv_aload hx hb hd (vhas_at hl hj) (k H locs la hP hD hS hl)
theorem V_istore_n {n : Fin 4} {x : Int32} {ls' : VL} (hX : Cx G d y cc nL rt X) (hd : decode cc pc = .ok (.istore_n n, 1)) (hn : n.val < nL) (hl' : vset1 ls n.val (.int x) = ls') (k : V G nL X (pc + 1) ls' st μ) : V G nL X pc ls (.int x :: st) μ := by
  obtain ⟨p, l, e, R, s, m, args, below, meth, c, A, cells, slots, Qf⟩ := X
  obtain ⟨hx, hb, hr, hlk, hml, hown, hts, hNs, hK, hSt, hA, hfr, hlo, hce, hsl⟩ := hX
  intro H locs la hP hD hS hl
  subst hl'
  exact lv_istore_n hx hb hd rfl hl hn rfl (fun la' h => k H locs la' hP hD hS (by rw [vrl_filter1] at h; exact vhas_ins h))
theorem V_istore {i : Nat} {x : Int32} {ls' : VL} (hX : Cx G d y cc nL rt X) (hd : decode cc pc = .ok (.istore i, 2)) (hn : i < nL) (hl' : vset1 ls i (.int x) = ls') (k : V G nL X (pc + 2) ls' st μ) : V G nL X pc ls (.int x :: st) μ := by
  obtain ⟨p, l, e, R, s, m, args, below, meth, c, A, cells, slots, Qf⟩ := X
  obtain ⟨hx, hb, hr, hlk, hml, hown, hts, hNs, hK, hSt, hA, hfr, hlo, hce, hsl⟩ := hX
  intro H locs la hP hD hS hl
  subst hl'
  exact lv_istore hx hb hd hl hn rfl (fun la' h => k H locs la' hP hD hS (by rw [vrl_filter1] at h; exact vhas_ins h))
theorem V_lstore_n {n : Fin 4} {x : Int64} {ls' : VL} (hX : Cx G d y cc nL rt X) (hd : decode cc pc = .ok (.lstore_n n, 1)) (hn : n.val + 1 < nL) (hl' : vset2 ls n.val (.long x) = ls') (k : V G nL X (pc + 1) ls' st μ) : V G nL X pc ls (.long x :: st) μ := by
  obtain ⟨p, l, e, R, s, m, args, below, meth, c, A, cells, slots, Qf⟩ := X
  obtain ⟨hx, hb, hr, hlk, hml, hown, hts, hNs, hK, hSt, hA, hfr, hlo, hce, hsl⟩ := hX
  intro H locs la hP hD hS hl
  subst hl'
  exact lv_lstore_n hx hb hd rfl hl hn rfl (fun la' h => k H locs la' hP hD hS (by rw [vrl_filter2] at h; exact vhas_ins h))
theorem V_lstore {i : Nat} {x : Int64} {ls' : VL} (hX : Cx G d y cc nL rt X) (hd : decode cc pc = .ok (.lstore i, 2)) (hn : i + 1 < nL) (hl' : vset2 ls i (.long x) = ls') (k : V G nL X (pc + 2) ls' st μ) : V G nL X pc ls (.long x :: st) μ := by
  obtain ⟨p, l, e, R, s, m, args, below, meth, c, A, cells, slots, Qf⟩ := X
  obtain ⟨hx, hb, hr, hlk, hml, hown, hts, hNs, hK, hSt, hA, hfr, hlo, hce, hsl⟩ := hX
  intro H locs la hP hD hS hl
  subst hl'
  exact lv_lstore hx hb hd hl hn rfl (fun la' h => k H locs la' hP hD hS (by rw [vrl_filter2] at h; exact vhas_ins h))
theorem V_astore_n {n : Fin 4} {x : Nat} {ls' : VL} (hX : Cx G d y cc nL rt X) (hd : decode cc pc = .ok (.astore_n n, 1)) (hn : n.val < nL) (hl' : vset1 ls n.val (.ref x) = ls') (k : V G nL X (pc + 1) ls' st μ) : V G nL X pc ls (.ref x :: st) μ := by
  obtain ⟨p, l, e, R, s, m, args, below, meth, c, A, cells, slots, Qf⟩ := X
  obtain ⟨hx, hb, hr, hlk, hml, hown, hts, hNs, hK, hSt, hA, hfr, hlo, hce, hsl⟩ := hX
  intro H locs la hP hD hS hl
  subst hl'
  exact lv_astore_n hx hb hd rfl hl hn rfl (fun la' h => k H locs la' hP hD hS (by rw [vrl_filter1] at h; exact vhas_ins h))
theorem V_astore {i : Nat} {x : Nat} {ls' : VL} (hX : Cx G d y cc nL rt X) (hd : decode cc pc = .ok (.astore i, 2)) (hn : i < nL) (hl' : vset1 ls i (.ref x) = ls') (k : V G nL X (pc + 2) ls' st μ) : V G nL X pc ls (.ref x :: st) μ := by
  obtain ⟨p, l, e, R, s, m, args, below, meth, c, A, cells, slots, Qf⟩ := X
  obtain ⟨hx, hb, hr, hlk, hml, hown, hts, hNs, hK, hSt, hA, hfr, hlo, hce, hsl⟩ := hX
  intro H locs la hP hD hS hl
  subst hl'
  exact lv_astore hx hb hd hl hn rfl (fun la' h => k H locs la' hP hD hS (by rw [vrl_filter1] at h; exact vhas_ins h))
theorem V_iinc {i : Nat} {n : Int} {x v : Int32} {ls' : VL} (hX : Cx G d y cc nL rt X) (hd : decode cc pc = .ok (.iinc i n, 3)) (j : Nat) (hj : ls[j]? = some (i, .int x)) (hv : Int32.ofInt n = v) (hn : i < nL) (hl' : vset1 ls i (.int (x + v)) = ls') (k : V G nL X (pc + 3) ls' st μ) : V G nL X pc ls st μ := by
  obtain ⟨p, l, e, R, s, m, args, below, meth, c, A, cells, slots, Qf⟩ := X
  obtain ⟨hx, hb, hr, hlk, hml, hown, hts, hNs, hK, hSt, hA, hfr, hlo, hce, hsl⟩ := hX
  intro H locs la hP hD hS hl
  subst hl'; subst hv
  exact lv_iinc (k := j) hx hb hd hl (by show (ls.map _)[j]? = _; rw [List.getElem?_map, hj]; rfl) rfl hn rfl (fun la' h => k H locs la' hP hD hS (by rw [vrl_filter1] at h; exact vhas_ins h))
theorem V_if_eq {a : Int32} {off : Int} {tgt : Nat} (hX : Cx G d y cc nL rt X) (hd : decode cc pc = .ok (.ifCond .eq off, 3)) (ht : (pc : Int) + off = (tgt : Int)) (kt : a = 0 → V G nL X tgt ls st μ) (kf : ¬ a = 0 → V G nL X (pc + 3) ls st μ) : V G nL X pc ls (.int a :: st) μ := by
  obtain ⟨p, l, e, R, s, m, args, below, meth, c, A, cells, slots, Qf⟩ := X
  obtain ⟨hx, hb, hr, hlk, hml, hown, hts, hNs, hK, hSt, hA, hfr, hlo, hce, hsl⟩ := hX
  intro H locs la hP hD hS hl
  exact lv_if_eq hx hb hd ht (fun h => kt h H locs la hP hD hS hl) (fun h => kf h H locs la hP hD hS hl)
theorem V_if_ne {a : Int32} {off : Int} {tgt : Nat} (hX : Cx G d y cc nL rt X) (hd : decode cc pc = .ok (.ifCond .ne off, 3)) (ht : (pc : Int) + off = (tgt : Int)) (kt : ¬ a = 0 → V G nL X tgt ls st μ) (kf : a = 0 → V G nL X (pc + 3) ls st μ) : V G nL X pc ls (.int a :: st) μ := by
  obtain ⟨p, l, e, R, s, m, args, below, meth, c, A, cells, slots, Qf⟩ := X
  obtain ⟨hx, hb, hr, hlk, hml, hown, hts, hNs, hK, hSt, hA, hfr, hlo, hce, hsl⟩ := hX
  intro H locs la hP hD hS hl
  exact lv_if_ne hx hb hd ht (fun h => kt h H locs la hP hD hS hl) (fun h => kf h H locs la hP hD hS hl)
theorem V_if_lt {a : Int32} {off : Int} {tgt : Nat} (hX : Cx G d y cc nL rt X) (hd : decode cc pc = .ok (.ifCond .lt off, 3)) (ht : (pc : Int) + off = (tgt : Int)) (kt : a < 0 → V G nL X tgt ls st μ) (kf : ¬ a < 0 → V G nL X (pc + 3) ls st μ) : V G nL X pc ls (.int a :: st) μ := by
  obtain ⟨p, l, e, R, s, m, args, below, meth, c, A, cells, slots, Qf⟩ := X
  obtain ⟨hx, hb, hr, hlk, hml, hown, hts, hNs, hK, hSt, hA, hfr, hlo, hce, hsl⟩ := hX
  intro H locs la hP hD hS hl
  exact lv_if_lt hx hb hd ht (fun h => kt h H locs la hP hD hS hl) (fun h => kf h H locs la hP hD hS hl)
theorem V_if_ge {a : Int32} {off : Int} {tgt : Nat} (hX : Cx G d y cc nL rt X) (hd : decode cc pc = .ok (.ifCond .ge off, 3)) (ht : (pc : Int) + off = (tgt : Int)) (kt : 0 ≤ a → V G nL X tgt ls st μ) (kf : ¬ 0 ≤ a → V G nL X (pc + 3) ls st μ) : V G nL X pc ls (.int a :: st) μ := by
  obtain ⟨p, l, e, R, s, m, args, below, meth, c, A, cells, slots, Qf⟩ := X
  obtain ⟨hx, hb, hr, hlk, hml, hown, hts, hNs, hK, hSt, hA, hfr, hlo, hce, hsl⟩ := hX
  intro H locs la hP hD hS hl
  exact lv_if_ge hx hb hd ht (fun h => kt h H locs la hP hD hS hl) (fun h => kf h H locs la hP hD hS hl)
theorem V_if_gt {a : Int32} {off : Int} {tgt : Nat} (hX : Cx G d y cc nL rt X) (hd : decode cc pc = .ok (.ifCond .gt off, 3)) (ht : (pc : Int) + off = (tgt : Int)) (kt : 0 < a → V G nL X tgt ls st μ) (kf : ¬ 0 < a → V G nL X (pc + 3) ls st μ) : V G nL X pc ls (.int a :: st) μ := by
  obtain ⟨p, l, e, R, s, m, args, below, meth, c, A, cells, slots, Qf⟩ := X
  obtain ⟨hx, hb, hr, hlk, hml, hown, hts, hNs, hK, hSt, hA, hfr, hlo, hce, hsl⟩ := hX
  intro H locs la hP hD hS hl
  exact lv_if_gt hx hb hd ht (fun h => kt h H locs la hP hD hS hl) (fun h => kf h H locs la hP hD hS hl)
theorem V_if_le {a : Int32} {off : Int} {tgt : Nat} (hX : Cx G d y cc nL rt X) (hd : decode cc pc = .ok (.ifCond .le off, 3)) (ht : (pc : Int) + off = (tgt : Int)) (kt : a ≤ 0 → V G nL X tgt ls st μ) (kf : ¬ a ≤ 0 → V G nL X (pc + 3) ls st μ) : V G nL X pc ls (.int a :: st) μ := by
  obtain ⟨p, l, e, R, s, m, args, below, meth, c, A, cells, slots, Qf⟩ := X
  obtain ⟨hx, hb, hr, hlk, hml, hown, hts, hNs, hK, hSt, hA, hfr, hlo, hce, hsl⟩ := hX
  intro H locs la hP hD hS hl
  exact lv_if_le hx hb hd ht (fun h => kt h H locs la hP hD hS hl) (fun h => kf h H locs la hP hD hS hl)
theorem V_icmp_eq {a b : Int32} {off : Int} {tgt : Nat} (hX : Cx G d y cc nL rt X) (hd : decode cc pc = .ok (.if_icmp .eq off, 3)) (ht : (pc : Int) + off = (tgt : Int)) (kt : a = b → V G nL X tgt ls st μ) (kf : ¬ a = b → V G nL X (pc + 3) ls st μ) : V G nL X pc ls (.int b :: .int a :: st) μ := by
  obtain ⟨p, l, e, R, s, m, args, below, meth, c, A, cells, slots, Qf⟩ := X
  obtain ⟨hx, hb, hr, hlk, hml, hown, hts, hNs, hK, hSt, hA, hfr, hlo, hce, hsl⟩ := hX
  intro H locs la hP hD hS hl
  exact lv_icmp_eq hx hb hd ht (fun h => kt h H locs la hP hD hS hl) (fun h => kf h H locs la hP hD hS hl)
theorem V_icmp_ne {a b : Int32} {off : Int} {tgt : Nat} (hX : Cx G d y cc nL rt X) (hd : decode cc pc = .ok (.if_icmp .ne off, 3)) (ht : (pc : Int) + off = (tgt : Int)) (kt : ¬ a = b → V G nL X tgt ls st μ) (kf : a = b → V G nL X (pc + 3) ls st μ) : V G nL X pc ls (.int b :: .int a :: st) μ := by
  obtain ⟨p, l, e, R, s, m, args, below, meth, c, A, cells, slots, Qf⟩ := X
  obtain ⟨hx, hb, hr, hlk, hml, hown, hts, hNs, hK, hSt, hA, hfr, hlo, hce, hsl⟩ := hX
  intro H locs la hP hD hS hl
  exact lv_icmp_ne hx hb hd ht (fun h => kt h H locs la hP hD hS hl) (fun h => kf h H locs la hP hD hS hl)
theorem V_icmp_lt {a b : Int32} {off : Int} {tgt : Nat} (hX : Cx G d y cc nL rt X) (hd : decode cc pc = .ok (.if_icmp .lt off, 3)) (ht : (pc : Int) + off = (tgt : Int)) (kt : a < b → V G nL X tgt ls st μ) (kf : ¬ a < b → V G nL X (pc + 3) ls st μ) : V G nL X pc ls (.int b :: .int a :: st) μ := by
  obtain ⟨p, l, e, R, s, m, args, below, meth, c, A, cells, slots, Qf⟩ := X
  obtain ⟨hx, hb, hr, hlk, hml, hown, hts, hNs, hK, hSt, hA, hfr, hlo, hce, hsl⟩ := hX
  intro H locs la hP hD hS hl
  exact lv_icmp_lt hx hb hd ht (fun h => kt h H locs la hP hD hS hl) (fun h => kf h H locs la hP hD hS hl)
theorem V_icmp_ge {a b : Int32} {off : Int} {tgt : Nat} (hX : Cx G d y cc nL rt X) (hd : decode cc pc = .ok (.if_icmp .ge off, 3)) (ht : (pc : Int) + off = (tgt : Int)) (kt : b ≤ a → V G nL X tgt ls st μ) (kf : ¬ b ≤ a → V G nL X (pc + 3) ls st μ) : V G nL X pc ls (.int b :: .int a :: st) μ := by
  obtain ⟨p, l, e, R, s, m, args, below, meth, c, A, cells, slots, Qf⟩ := X
  obtain ⟨hx, hb, hr, hlk, hml, hown, hts, hNs, hK, hSt, hA, hfr, hlo, hce, hsl⟩ := hX
  intro H locs la hP hD hS hl
  exact lv_icmp_ge hx hb hd ht (fun h => kt h H locs la hP hD hS hl) (fun h => kf h H locs la hP hD hS hl)
theorem V_icmp_gt {a b : Int32} {off : Int} {tgt : Nat} (hX : Cx G d y cc nL rt X) (hd : decode cc pc = .ok (.if_icmp .gt off, 3)) (ht : (pc : Int) + off = (tgt : Int)) (kt : b < a → V G nL X tgt ls st μ) (kf : ¬ b < a → V G nL X (pc + 3) ls st μ) : V G nL X pc ls (.int b :: .int a :: st) μ := by
  obtain ⟨p, l, e, R, s, m, args, below, meth, c, A, cells, slots, Qf⟩ := X
  obtain ⟨hx, hb, hr, hlk, hml, hown, hts, hNs, hK, hSt, hA, hfr, hlo, hce, hsl⟩ := hX
  intro H locs la hP hD hS hl
  exact lv_icmp_gt hx hb hd ht (fun h => kt h H locs la hP hD hS hl) (fun h => kf h H locs la hP hD hS hl)
theorem V_icmp_le {a b : Int32} {off : Int} {tgt : Nat} (hX : Cx G d y cc nL rt X) (hd : decode cc pc = .ok (.if_icmp .le off, 3)) (ht : (pc : Int) + off = (tgt : Int)) (kt : a ≤ b → V G nL X tgt ls st μ) (kf : ¬ a ≤ b → V G nL X (pc + 3) ls st μ) : V G nL X pc ls (.int b :: .int a :: st) μ := by
  obtain ⟨p, l, e, R, s, m, args, below, meth, c, A, cells, slots, Qf⟩ := X
  obtain ⟨hx, hb, hr, hlk, hml, hown, hts, hNs, hK, hSt, hA, hfr, hlo, hce, hsl⟩ := hX
  intro H locs la hP hD hS hl
  exact lv_icmp_le hx hb hd ht (fun h => kt h H locs la hP hD hS hl) (fun h => kf h H locs la hP hD hS hl)
theorem V_goto {off : Int} {tgt : Nat} (hX : Cx G d y cc nL rt X) (hd : decode cc pc = .ok (.goto off, 3)) (ht : (pc : Int) + off = (tgt : Int)) (k : V G nL X tgt ls st μ) : V G nL X pc ls st μ := by
  obtain ⟨p, l, e, R, s, m, args, below, meth, c, A, cells, slots, Qf⟩ := X
  obtain ⟨hx, hb, hr, hlk, hml, hown, hts, hNs, hK, hSt, hA, hfr, hlo, hce, hsl⟩ := hX
  intro H locs la hP hD hS hl
  exact lv_goto hx hb hd ht (k H locs la hP hD hS hl)
theorem V_tableIn {dflt lo hi : Int} {offs : Array Int} {len : Nat} {x : Int32} {off : Int} {tgt : Nat} (hX : Cx G d y cc nL rt X) (hd : decode cc pc = .ok (.tableswitch dflt lo hi offs, len)) (h1 : ¬ x.toInt < lo) (h2 : ¬ hi < x.toInt) (ho : offs[(x.toInt - lo).toNat]? = some off) (ht : (pc : Int) + off = (tgt : Int)) (k : V G nL X tgt ls st μ) : V G nL X pc ls (.int x :: st) μ := by
  obtain ⟨p, l, e, R, s, m, args, below, meth, c, A, cells, slots, Qf⟩ := X
  obtain ⟨hx, hb, hr, hlk, hml, hown, hts, hNs, hK, hSt, hA, hfr, hlo, hce, hsl⟩ := hX
  intro H locs la hP hD hS hl
  exact lv_tableIn hx hb hd h1 h2 ho ht (k H locs la hP hD hS hl)
theorem V_tableOut {dflt lo hi : Int} {offs : Array Int} {len : Nat} {x : Int32} {tgt : Nat} (hX : Cx G d y cc nL rt X) (hd : decode cc pc = .ok (.tableswitch dflt lo hi offs, len)) (h : x.toInt < lo ∨ hi < x.toInt) (ht : (pc : Int) + dflt = (tgt : Int)) (k : V G nL X tgt ls st μ) : V G nL X pc ls (.int x :: st) μ := by
  obtain ⟨p, l, e, R, s, m, args, below, meth, c, A, cells, slots, Qf⟩ := X
  obtain ⟨hx, hb, hr, hlk, hml, hown, hts, hNs, hK, hSt, hA, hfr, hlo, hce, hsl⟩ := hX
  intro H locs la hP hD hS hl
  exact lv_tableOut hx hb hd h ht (k H locs la hP hD hS hl)
theorem V_lookup {dflt : Int} {ps : Array (Int × Int)} {len : Nat} {x : Int32} {off : Int} {tgt : Nat} (hX : Cx G d y cc nL rt X) (hd : decode cc pc = .ok (.lookupswitch dflt ps, len)) (hp : (ps.toList.zip (ps.toList.drop 1)).all (fun (a, next) => a.1 < next.1) = true) (ho : Op.lookupswitch.offset ps.toList dflt x.toInt = off) (ht : (pc : Int) + off = (tgt : Int)) (k : V G nL X tgt ls st μ) : V G nL X pc ls (.int x :: st) μ := by
  obtain ⟨p, l, e, R, s, m, args, below, meth, c, A, cells, slots, Qf⟩ := X
  obtain ⟨hx, hb, hr, hlk, hml, hown, hts, hNs, hK, hSt, hA, hfr, hlo, hce, hsl⟩ := hX
  intro H locs la hP hD hS hl
  exact lv_lookup hx hb hd hp ho ht (k H locs la hP hD hS hl)
theorem V_ldc {n : Nat} {v : Int32} (hX : Cx G d y cc nL rt X) (hc : Cond.constant y.cls n v ∈ lw_tbl) (hd : decode cc pc = .ok (.ldc n, 2)) (k : V G nL X (pc + 2) ls (.int v :: st) μ) : V G nL X pc ls st μ := by
  obtain ⟨p, l, e, R, s, m, args, below, meth, c, A, cells, slots, Qf⟩ := X
  obtain ⟨hx, hb, hr, hlk, hml, hown, hts, hNs, hK, hSt, hA, hfr, hlo, hce, hsl⟩ := hX
  intro H locs la hP hD hS hl
  exact lv_ldc hx hb hown (hts _ (lw_gd hc rfl)) hd (k H locs la hP hD hS hl)
theorem V_ldcw {n : Nat} {v : Int32} (hX : Cx G d y cc nL rt X) (hc : Cond.constant y.cls n v ∈ lw_tbl) (hd : decode cc pc = .ok (.ldc_w n, 3)) (k : V G nL X (pc + 3) ls (.int v :: st) μ) : V G nL X pc ls st μ := by
  obtain ⟨p, l, e, R, s, m, args, below, meth, c, A, cells, slots, Qf⟩ := X
  obtain ⟨hx, hb, hr, hlk, hml, hown, hts, hNs, hK, hSt, hA, hfr, hlo, hce, hsl⟩ := hX
  intro H locs la hP hD hS hl
  exact lv_ldcw hx hb hown (hts _ (lw_gd hc rfl)) hd (k H locs la hP hD hS hl)
theorem V_ldc2 {n : Nat} {v : Int64} (hX : Cx G d y cc nL rt X) (hc : Cond.constantLong y.cls n v ∈ lw_tbl) (hd : decode cc pc = .ok (.ldc2_w n, 3)) (k : V G nL X (pc + 3) ls (.long v :: st) μ) : V G nL X pc ls st μ := by
  obtain ⟨p, l, e, R, s, m, args, below, meth, c, A, cells, slots, Qf⟩ := X
  obtain ⟨hx, hb, hr, hlk, hml, hown, hts, hNs, hK, hSt, hA, hfr, hlo, hce, hsl⟩ := hX
  intro H locs la hP hD hS hl
  exact lv_ldc2 hx hb hown (hts _ (lw_gd hc rfl)) hd (k H locs la hP hD hS hl)
theorem V_iald {i n : Nat} {a : Int32} (hX : Cx G d y cc nL rt X) (hk : vk i = (9, n)) (hin : vp_in a n) (hd : decode cc pc = .ok (.iaload, 1)) (k : V G nL X (pc + 1) ls (.int (μ.1 i a.toNatClampNeg) :: st) μ) : V G nL X pc ls (.int a :: .ref i :: st) μ := by
  obtain ⟨p, l, e, R, s, m, args, below, meth, c, A, cells, slots, Qf⟩ := X
  obtain ⟨hx, hb, hr, hlk, hml, hown, hts, hNs, hK, hSt, hA, hfr, hlo, hce, hsl⟩ := hX
  intro H locs la hP hD hS hl
  exact va_iald hx hb hK hP i 0 (by rw [vW_at G μ (vk_lt hk (by omega)), vE_int G μ hk]) rfl hin hd (k H locs la hP hD hS hl)
theorem V_lald {i n : Nat} {a : Int32} (hX : Cx G d y cc nL rt X) (hk : vk i = (10, n)) (hin : vp_in a n) (hd : decode cc pc = .ok (.laload, 1)) (k : V G nL X (pc + 1) ls (.long (μ.2 i a.toNatClampNeg) :: st) μ) : V G nL X pc ls (.int a :: .ref i :: st) μ := by
  obtain ⟨p, l, e, R, s, m, args, below, meth, c, A, cells, slots, Qf⟩ := X
  obtain ⟨hx, hb, hr, hlk, hml, hown, hts, hNs, hK, hSt, hA, hfr, hlo, hce, hsl⟩ := hX
  intro H locs la hP hD hS hl
  exact va_lald hx hb hK hP i 1 (by rw [vW_at G μ (vk_lt hk (by omega)), vE_long G μ hk]) rfl hin hd (k H locs la hP hD hS hl)
theorem V_zald {i n : Nat} {a : Int32} (hX : Cx G d y cc nL rt X) (hk : vk i = (11, n)) (hin : vp_in a n) (hd : decode cc pc = .ok (.baload, 1)) (k : V G nL X (pc + 1) ls (.int (μ.1 i a.toNatClampNeg) :: st) μ) : V G nL X pc ls (.int a :: .ref i :: st) μ := by
  obtain ⟨p, l, e, R, s, m, args, below, meth, c, A, cells, slots, Qf⟩ := X
  obtain ⟨hx, hb, hr, hlk, hml, hown, hts, hNs, hK, hSt, hA, hfr, hlo, hce, hsl⟩ := hX
  intro H locs la hP hD hS hl
  exact va_zald hx hb hK hP i 2 (by rw [vW_at G μ (vk_lt hk (by omega)), vE_bool G μ hk]) rfl hin hd (k H locs la hP hD hS hl)
theorem V_pald {i n j : Nat} {a : Int32} (hX : Cx G d y cc nL rt X) (hk : vk i = (12, n)) (hin : vp_in a n) (hj : i + 1 + 7 * a.toNatClampNeg = j) (hd : decode cc pc = .ok (.aaload, 1)) (k : V G nL X (pc + 1) ls (.ref j :: st) μ) : V G nL X pc ls (.int a :: .ref i :: st) μ := by
  obtain ⟨p, l, e, R, s, m, args, below, meth, c, A, cells, slots, Qf⟩ := X
  obtain ⟨hx, hb, hr, hlk, hml, hown, hts, hNs, hK, hSt, hA, hfr, hlo, hce, hsl⟩ := hX
  intro H locs la hP hD hS hl
  subst hj
  exact va_aldq (f := fun j => some (G.2.1 (i + 1 + 7 * j))) hx hb hK hP i 3 (by rw [vW_at G μ (vk_lt hk (by omega)), vE_par G μ hk]) rfl hin hd (k H locs la hP hD hS hl)
theorem V_wald {i n j : Nat} {a : Int32} (hX : Cx G d y cc nL rt X) (hk : vk i = (13, n)) (hin : vp_in a n) (hj : i + 1 + 2 * a.toNatClampNeg = j) (hd : decode cc pc = .ok (.aaload, 1)) (k : V G nL X (pc + 1) ls (.ref j :: st) μ) : V G nL X pc ls (.int a :: .ref i :: st) μ := by
  obtain ⟨p, l, e, R, s, m, args, below, meth, c, A, cells, slots, Qf⟩ := X
  obtain ⟨hx, hb, hr, hlk, hml, hown, hts, hNs, hK, hSt, hA, hfr, hlo, hce, hsl⟩ := hX
  intro H locs la hP hD hS hl
  subst hj
  exact va_aldq (f := fun j => some (G.2.1 (i + 1 + 2 * j))) hx hb hK hP i 4 (by rw [vW_at G μ (vk_lt hk (by omega)), vE_walk G μ hk]) rfl hin hd (k H locs la hP hD hS hl)
theorem V_iast {i n : Nat} {a x : Int32} (hX : Cx G d y cc nL rt X) (hk : vk i = (9, n)) (hin : vp_in a n) (hd : decode cc pc = .ok (.iastore, 1)) (k : V G nL X (pc + 1) ls st (vup μ.1 i a.toNatClampNeg x, μ.2)) : V G nL X pc ls (.int x :: .int a :: .ref i :: st) μ := by
  obtain ⟨p, l, e, R, s, m, args, below, meth, c, A, cells, slots, Qf⟩ := X
  obtain ⟨hx, hb, hr, hlk, hml, hown, hts, hNs, hK, hSt, hA, hfr, hlo, hce, hsl⟩ := hX
  intro H locs la hP hD hS hl
  refine va_iast hx hb hK hP hD hS i 0 (by rw [vW_at G μ (vk_lt hk (by omega)), vE_int G μ hk]) rfl hin hd (fun H1 locs1 hP1 hD1 hS1 => ?_)
  rw [vW_arri hk] at hP1 hD1
  exact k H1 locs1 la hP1 hD1 hS1 hl
theorem V_last {i n : Nat} {a : Int32} {x : Int64} (hX : Cx G d y cc nL rt X) (hk : vk i = (10, n)) (hin : vp_in a n) (hd : decode cc pc = .ok (.lastore, 1)) (k : V G nL X (pc + 1) ls st (μ.1, vup μ.2 i a.toNatClampNeg x)) : V G nL X pc ls (.long x :: .int a :: .ref i :: st) μ := by
  obtain ⟨p, l, e, R, s, m, args, below, meth, c, A, cells, slots, Qf⟩ := X
  obtain ⟨hx, hb, hr, hlk, hml, hown, hts, hNs, hK, hSt, hA, hfr, hlo, hce, hsl⟩ := hX
  intro H locs la hP hD hS hl
  refine va_last hx hb hK hP hD hS i 1 (by rw [vW_at G μ (vk_lt hk (by omega)), vE_long G μ hk]) rfl hin hd (fun H1 locs1 hP1 hD1 hS1 => ?_)
  rw [vW_arrl hk] at hP1 hD1
  exact k H1 locs1 la hP1 hD1 hS1 hl
theorem V_zast {i n : Nat} {a x : Int32} (hX : Cx G d y cc nL rt X) (hk : vk i = (11, n)) (hin : vp_in a n) (hz : vp_nar .boolean x = x) (hd : decode cc pc = .ok (.bastore, 1)) (k : V G nL X (pc + 1) ls st (vup μ.1 i a.toNatClampNeg x, μ.2)) : V G nL X pc ls (.int x :: .int a :: .ref i :: st) μ := by
  obtain ⟨p, l, e, R, s, m, args, below, meth, c, A, cells, slots, Qf⟩ := X
  obtain ⟨hx, hb, hr, hlk, hml, hown, hts, hNs, hK, hSt, hA, hfr, hlo, hce, hsl⟩ := hX
  intro H locs la hP hD hS hl
  refine va_zast hx hb hK hP hD hS i 2 (by rw [vW_at G μ (vk_lt hk (by omega)), vE_bool G μ hk]) rfl hin hd (fun H1 locs1 hP1 hD1 hS1 => ?_)
  rw [hz, vW_arrz hk] at hP1 hD1
  exact k H1 locs1 la hP1 hD1 hS1 hl
theorem V_cald0 {a : Int32} (hX : Cx G d y cc nL rt X) (hin : vp_in a 7) (hd : decode cc pc = .ok (.caload, 1)) (k : V G nL X (pc + 1) ls (.int (vBC a.toNatClampNeg) :: st) μ) : V G nL X pc ls (.int a :: .ref 1000 :: st) μ := by
  obtain ⟨p, l, e, R, s, m, args, below, meth, c, A, cells, slots, Qf⟩ := X
  obtain ⟨hx, hb, hr, hlk, hml, hown, hts, hNs, hK, hSt, hA, hfr, hlo, hce, hsl⟩ := hX
  intro H locs la hP hD hS hl
  exact va_tc hx hb hSt.1.2 hS hin rfl hd (k H locs la hP hD hS hl)
theorem V_cald1 {a : Int32} (hX : Cx G d y cc nL rt X) (hin : vp_in a 7) (hd : decode cc pc = .ok (.caload, 1)) (k : V G nL X (pc + 1) ls (.int (vBD a.toNatClampNeg) :: st) μ) : V G nL X pc ls (.int a :: .ref 1001 :: st) μ := by
  obtain ⟨p, l, e, R, s, m, args, below, meth, c, A, cells, slots, Qf⟩ := X
  obtain ⟨hx, hb, hr, hlk, hml, hown, hts, hNs, hK, hSt, hA, hfr, hlo, hce, hsl⟩ := hX
  intro H locs la hP hD hS hl
  exact va_tc hx hb hSt.2.2 hS hin rfl hd (k H locs la hP hD hS hl)
theorem V_gets0 {n : Nat} (hX : Cx G d y cc nL rt X) (hc : Cond.fieldLink y.cls n "NodTax" "BY_CODE" "[C" ∈ lw_tbl) (hd : decode cc pc = .ok (.getstatic n, 3)) (k : V G nL X (pc + 3) ls (.ref 1000 :: st) μ) : V G nL X pc ls st μ := by
  obtain ⟨p, l, e, R, s, m, args, below, meth, c, A, cells, slots, Qf⟩ := X
  obtain ⟨hx, hb, hr, hlk, hml, hown, hts, hNs, hK, hSt, hA, hfr, hlo, hce, hsl⟩ := hX
  intro H locs la hP hD hS hl
  exact va_gets hx hb hSt.1.1 hS hown (hts _ (lw_gd hc rfl)) (fun _ h => h) hd (k H locs la hP hD hS hl)
theorem V_gets0N {n : Nat} (hX : Cx G d y cc nL rt X) (hc : Cond.fieldLinkNest y.cls n "NodTax" "BY_CODE" "[C" "NodTax" ∈ lw_tbl) (hd : decode cc pc = .ok (.getstatic n, 3)) (k : V G nL X (pc + 3) ls (.ref 1000 :: st) μ) : V G nL X pc ls st μ := by
  obtain ⟨p, l, e, R, s, m, args, below, meth, c, A, cells, slots, Qf⟩ := X
  obtain ⟨hx, hb, hr, hlk, hml, hown, hts, hNs, hK, hSt, hA, hfr, hlo, hce, hsl⟩ := hX
  intro H locs la hP hD hS hl
  exact va_getsN hx hb hSt.1.1 hS hown (va_Nw.use rfl (hNs _ hc rfl)) (fun _ h => h) hd (k H locs la hP hD hS hl)
theorem V_gets1 {n : Nat} (hX : Cx G d y cc nL rt X) (hc : Cond.fieldLink y.cls n "NodTax" "BY_DRAW" "[C" ∈ lw_tbl) (hd : decode cc pc = .ok (.getstatic n, 3)) (k : V G nL X (pc + 3) ls (.ref 1001 :: st) μ) : V G nL X pc ls st μ := by
  obtain ⟨p, l, e, R, s, m, args, below, meth, c, A, cells, slots, Qf⟩ := X
  obtain ⟨hx, hb, hr, hlk, hml, hown, hts, hNs, hK, hSt, hA, hfr, hlo, hce, hsl⟩ := hX
  intro H locs la hP hD hS hl
  exact va_gets hx hb hSt.2.1 hS hown (hts _ (lw_gd hc rfl)) (fun _ h => h) hd (k H locs la hP hD hS hl)
/-- a field of cells of kind ci, as the instruction that names pool entry n of cls has it -/
def vFL (cls : String) (n ci k : Nat) (t : Nat × Nat) : Prop := ∃ (C : String) (T : u_T) (N : Nat) (ref : String), ci < 9 ∧ vwCl[ci]? = some (C, T, N) ∧ k < N ∧ (vF ci)[k]? = some t ∧ (∀ w ∈ u_ws C T N, w ∈ lw_good) ∧ Cond.fieldLink cls n ref (T k).2.1 (T k).2.2.1 ∈ lw_tbl ∧ (ref = (T k).1 ∨ Cond.sameField ref (T k).1 (T k).2.1 (T k).2.2.1 ∈ lw_tbl)
/-- what a write asks besides -/
def vFW (ci k : Nat) (ty : FieldType) : Prop := ∃ (C : String) (T : u_T) (N : Nat) (t0 : Nat → FieldType), vwCl[ci]? = some (C, T, N) ∧ (∀ k, k < N → parseFieldDescriptor (T k).2.2.1 = some (t0 k)) ∧ (∀ a, a < N → ∀ b, b < N → a ≠ b → (T a).2.1 ≠ (T b).2.1) ∧ (T k).2.2.2 = false ∧ parseFieldDescriptor (T k).2.2.1 = some ty
theorem vF_len {ci k : Nat} {t : Nat × Nat} (G : VG) (μ : VS) (i : Nat) (h : (vF ci)[k]? = some t) : k < (vfs G μ i ci).length := by
  unfold vfs
  rw [List.length_mapIdx]
  exact (List.getElem?_eq_some_iff.mp h).1
theorem vsame {args : Array Value} {s : State} {ref o n dd : String} (hts : ∀ w ∈ lw_good, w.before args s = true) (h : ref = o ∨ Cond.sameField ref o n dd ∈ lw_tbl) : ∀ x, s.fieldFound? o n dd = some x → s.fieldFound? ref n dd = some x := by
  rcases h with h | h
  · subst h; exact fun _ h => h
  · exact u_same (hts _ (lw_gd h rfl))
theorem V_geti {i ci q n : Nat} (hX : Cx G d y cc nL rt X) (hf : vFL y.cls n ci q (0, 0)) (hk : vk i = (ci, 0)) (hd : decode cc pc = .ok (.getfield n, 3)) (k : V G nL X (pc + 3) ls (.int (μ.1 i q) :: st) μ) : V G nL X pc ls (.ref i :: st) μ := by
  obtain ⟨p, l, e, R, s, m, args, below, meth, c, A, cells, slots, Qf⟩ := X
  obtain ⟨hx, hb, hr, hlk, hml, hown, hts, hNs, hK, hSt, hA, hfr, hlo, hce, hsl⟩ := hX
  intro H locs la hP hD hS hl
  obtain ⟨C, T, N, ref, h9, hc, hq, hv, hin, hlink, hsm⟩ := hf
  exact va_get hx hb hts hin hown hK hP i (by rw [vW_at G μ (vk_lt hk (by omega)), vE_obj G μ hk h9]) hc q hq (hts _ (lw_gd hlink rfl)) (vsame hts hsm) (vfs_at G μ hv) hd (k H locs la hP hD hS hl)
theorem V_getl {i ci q n : Nat} (hX : Cx G d y cc nL rt X) (hf : vFL y.cls n ci q (1, 0)) (hk : vk i = (ci, 0)) (hd : decode cc pc = .ok (.getfield n, 3)) (k : V G nL X (pc + 3) ls (.long (μ.2 i q) :: st) μ) : V G nL X pc ls (.ref i :: st) μ := by
  obtain ⟨p, l, e, R, s, m, args, below, meth, c, A, cells, slots, Qf⟩ := X
  obtain ⟨hx, hb, hr, hlk, hml, hown, hts, hNs, hK, hSt, hA, hfr, hlo, hce, hsl⟩ := hX
  intro H locs la hP hD hS hl
  obtain ⟨C, T, N, ref, h9, hc, hq, hv, hin, hlink, hsm⟩ := hf
  exact va_get hx hb hts hin hown hK hP i (by rw [vW_at G μ (vk_lt hk (by omega)), vE_obj G μ hk h9]) hc q hq (hts _ (lw_gd hlink rfl)) (vsame hts hsm) (vfs_at G μ hv) hd (k H locs la hP hD hS hl)
theorem V_getr {i ci q n : Nat} {o j : Nat} (hX : Cx G d y cc nL rt X) (hf : vFL y.cls n ci q (2, o)) (hk : vk i = (ci, 0)) (hj : i + o = j) (hd : decode cc pc = .ok (.getfield n, 3)) (k : V G nL X (pc + 3) ls (.ref j :: st) μ) : V G nL X pc ls (.ref i :: st) μ := by
  obtain ⟨p, l, e, R, s, m, args, below, meth, c, A, cells, slots, Qf⟩ := X
  obtain ⟨hx, hb, hr, hlk, hml, hown, hts, hNs, hK, hSt, hA, hfr, hlo, hce, hsl⟩ := hX
  intro H locs la hP hD hS hl
  subst hj
  obtain ⟨C, T, N, ref, h9, hc, hq, hv, hin, hlink, hsm⟩ := hf
  exact va_get hx hb hts hin hown hK hP i (by rw [vW_at G μ (vk_lt hk (by omega)), vE_obj G μ hk h9]) hc q hq (hts _ (lw_gd hlink rfl)) (vsame hts hsm) (vfs_at G μ hv) hd (k H locs la hP hD hS hl)
theorem V_puti {i ci q n : Nat} {x : Int32} (hX : Cx G d y cc nL rt X) (hf : vFL y.cls n ci q (0, 0)) (hw : vFW ci q .int) (hk : vk i = (ci, 0)) (hd : decode cc pc = .ok (.putfield n, 3)) (k : V G nL X (pc + 3) ls st (vup μ.1 i q x, μ.2)) : V G nL X pc ls (.int x :: .ref i :: st) μ := by
  obtain ⟨p, l, e, R, s, m, args, below, meth, c, A, cells, slots, Qf⟩ := X
  obtain ⟨hx, hb, hr, hlk, hml, hown, hts, hNs, hK, hSt, hA, hfr, hlo, hce, hsl⟩ := hX
  intro H locs la hP hD hS hl
  obtain ⟨C, T, N, ref, h9, hc, hq, hv, hin, hlink, hsm⟩ := hf
  obtain ⟨C', T', N', t0, hc', ht0, hnm, hfin, hpd⟩ := hw
  cases hc.symm.trans hc'
  refine va_put (v := .int x) hx hb hts hin t0 ht0 hnm hown hK hP hD hS i (by rw [vW_at G μ (vk_lt hk (by omega)), vE_obj G μ hk h9]) hc q hq (hts _ (lw_gd hlink rfl)) (vsame hts hsm) hfin hpd rfl rfl (vF_len G μ i hv) hd (fun H1 locs1 hP1 hD1 hS1 => ?_)
  rw [vW_seti hk h9 hv] at hP1 hD1
  exact k H1 locs1 la hP1 hD1 hS1 hl
theorem V_putz {i ci q n : Nat} {x : Int32} (hX : Cx G d y cc nL rt X) (hf : vFL y.cls n ci q (0, 0)) (hw : vFW ci q .boolean) (hk : vk i = (ci, 0)) (hz : narrow .boolean (.int x) = .int x) (hz2 : fits .boolean (.int x) = true) (hd : decode cc pc = .ok (.putfield n, 3)) (k : V G nL X (pc + 3) ls st (vup μ.1 i q x, μ.2)) : V G nL X pc ls (.int x :: .ref i :: st) μ := by
  obtain ⟨p, l, e, R, s, m, args, below, meth, c, A, cells, slots, Qf⟩ := X
  obtain ⟨hx, hb, hr, hlk, hml, hown, hts, hNs, hK, hSt, hA, hfr, hlo, hce, hsl⟩ := hX
  intro H locs la hP hD hS hl
  obtain ⟨C, T, N, ref, h9, hc, hq, hv, hin, hlink, hsm⟩ := hf
  obtain ⟨C', T', N', t0, hc', ht0, hnm, hfin, hpd⟩ := hw
  cases hc.symm.trans hc'
  refine va_put (v := .int x) hx hb hts hin t0 ht0 hnm hown hK hP hD hS i (by rw [vW_at G μ (vk_lt hk (by omega)), vE_obj G μ hk h9]) hc q hq (hts _ (lw_gd hlink rfl)) (vsame hts hsm) hfin hpd hz hz2 (vF_len G μ i hv) hd (fun H1 locs1 hP1 hD1 hS1 => ?_)
  rw [vW_seti hk h9 hv] at hP1 hD1
  exact k H1 locs1 la hP1 hD1 hS1 hl
theorem V_putl {i ci q n : Nat} {x : Int64} (hX : Cx G d y cc nL rt X) (hf : vFL y.cls n ci q (1, 0)) (hw : vFW ci q .long) (hk : vk i = (ci, 0)) (hd : decode cc pc = .ok (.putfield n, 3)) (k : V G nL X (pc + 3) ls st (μ.1, vup μ.2 i q x)) : V G nL X pc ls (.long x :: .ref i :: st) μ := by
  obtain ⟨p, l, e, R, s, m, args, below, meth, c, A, cells, slots, Qf⟩ := X
  obtain ⟨hx, hb, hr, hlk, hml, hown, hts, hNs, hK, hSt, hA, hfr, hlo, hce, hsl⟩ := hX
  intro H locs la hP hD hS hl
  obtain ⟨C, T, N, ref, h9, hc, hq, hv, hin, hlink, hsm⟩ := hf
  obtain ⟨C', T', N', t0, hc', ht0, hnm, hfin, hpd⟩ := hw
  cases hc.symm.trans hc'
  refine va_put (v := .long x) hx hb hts hin t0 ht0 hnm hown hK hP hD hS i (by rw [vW_at G μ (vk_lt hk (by omega)), vE_obj G μ hk h9]) hc q hq (hts _ (lw_gd hlink rfl)) (vsame hts hsm) hfin hpd rfl rfl (vF_len G μ i hv) hd (fun H1 locs1 hP1 hD1 hS1 => ?_)
  rw [vW_setl hk h9 hv] at hP1 hD1
  exact k H1 locs1 la hP1 hD1 hS1 hl
theorem V_iret {x : Int32} (hX : Cx G d y cc nL rt X) (hrt : rt = some .int) (hd : decode cc pc = .ok (.ireturn, 1)) (k : Ret G X (some (.int x)) μ) : V G nL X pc ls [.int x] μ := by
  obtain ⟨p, l, e, R, s, m, args, below, meth, c, A, cells, slots, Qf⟩ := X
  obtain ⟨hx, hb, hr, hlk, hml, hown, hts, hNs, hK, hSt, hA, hfr, hlo, hce, hsl⟩ := hX
  intro H locs la hP hD hS hl
  obtain ⟨Q, hQ, hq⟩ := k
  subst hQ; subst hrt
  exact W.iret hx hb hr (fun t ht hW => ⟨⟨some (.int x), μ, rfl, hq, by rw [ht]; exact hP⟩, hS.F ht⟩) hS.2.2 hd hlk
theorem V_lret {x : Int64} (hX : Cx G d y cc nL rt X) (hrt : rt = some .long) (hd : decode cc pc = .ok (.lreturn, 1)) (k : Ret G X (some (.long x)) μ) : V G nL X pc ls [.long x] μ := by
  obtain ⟨p, l, e, R, s, m, args, below, meth, c, A, cells, slots, Qf⟩ := X
  obtain ⟨hx, hb, hr, hlk, hml, hown, hts, hNs, hK, hSt, hA, hfr, hlo, hce, hsl⟩ := hX
  intro H locs la hP hD hS hl
  obtain ⟨Q, hQ, hq⟩ := k
  subst hQ; subst hrt
  exact W.lret hx hb hr (fun t ht hW => ⟨⟨some (.long x), μ, rfl, hq, by rw [ht]; exact hP⟩, hS.F ht⟩) hS.2.2 hd hlk
theorem V_zret {x : Int32} (hX : Cx G d y cc nL rt X) (hrt : rt = some .boolean) (hz : narrow .boolean (.int x) = .int x) (hd : decode cc pc = .ok (.ireturn, 1)) (k : Ret G X (some (.int x)) μ) : V G nL X pc ls [.int x] μ := by
  obtain ⟨p, l, e, R, s, m, args, below, meth, c, A, cells, slots, Qf⟩ := X
  obtain ⟨hx, hb, hr, hlk, hml, hown, hts, hNs, hK, hSt, hA, hfr, hlo, hce, hsl⟩ := hX
  intro H locs la hP hD hS hl
  obtain ⟨Q, hQ, hq⟩ := k
  subst hQ; subst hrt
  exact W.zret hx hb hr hz (fun t ht hW => ⟨⟨some (.int x), μ, rfl, hq, by rw [ht]; exact hP⟩, hS.F ht⟩) hS.2.2 hd hlk
theorem V_vret  (hX : Cx G d y cc nL rt X) (hrt : rt = none) (hd : decode cc pc = .ok (.return_, 1)) (k : Ret G X none μ) : V G nL X pc ls [] μ := by
  obtain ⟨p, l, e, R, s, m, args, below, meth, c, A, cells, slots, Qf⟩ := X
  obtain ⟨hx, hb, hr, hlk, hml, hown, hts, hNs, hK, hSt, hA, hfr, hlo, hce, hsl⟩ := hX
  intro H locs la hP hD hS hl
  obtain ⟨Q, hQ, hq⟩ := k
  subst hQ; subst hrt
  exact W.vret hx hb hr (fun t ht hW => ⟨⟨none, μ, rfl, hq, by rw [ht]; exact hP⟩, hS.F ht⟩) hS.2.2 hd hlk
theorem V_aret {x : Nat} {C : String} (hX : Cx G d y cc nL rt X) (hrt : rt = some (.object C)) (hd : decode cc pc = .ok (.areturn, 1)) (k : Ret G X (some (.ref x)) μ) : V G nL X pc ls [.ref x] μ := by
  obtain ⟨p, l, e, R, s, m, args, below, meth, c, A, cells, slots, Qf⟩ := X
  obtain ⟨hx, hb, hr, hlk, hml, hown, hts, hNs, hK, hSt, hA, hfr, hlo, hce, hsl⟩ := hX
  intro H locs la hP hD hS hl
  obtain ⟨Q, hQ, hq⟩ := k
  subst hQ; subst hrt
  exact W.aret hx hb hr (Or.inl ⟨C, rfl⟩) (Or.inr ⟨_, rfl⟩) (fun t ht hW => ⟨⟨some (.ref x), μ, rfl, hq, by rw [ht]; exact hP⟩, hS.F ht⟩) hS.2.2 hd hlk
end VR
end
section
theorem vroom_frames (d : Nat) : (vroom d).frames = d := rfl
theorem vlen_sl (vs : List Value) : (lg_sl vs).length = (vs.map fun v => v.category).sum := by
  induction vs with
  | nil => rfl
  | cons v vs ih =>
    have h : lg_sl (v :: vs) = lg_sl [v] ++ lg_sl vs := by simp [lg_sl]
    rw [h, List.length_append, ih]
    cases v <;> rfl
theorem vsum_re (ad : Nat → Nat) (vs : List Value) : ((vs.map (vre ad)).map fun v => v.category).sum = (vs.map fun v => v.category).sum := by
  rw [List.map_map]
  congr 1
  apply List.map_congr_left
  intro v _
  exact vre_cat ad v
/-- a method's contract out of its walk -/
theorem call_met {G : VG} {d : Nat} {y : MethodName} {cc : ByteArray} {nL : Nat} {rt : Option FieldType} {av : List Value} {μ : VS} {Q : Option Value → VS → Prop} (l : Launch) (sz : Nat) (hC : Call G d y cc nL rt av μ Q) (hy : plainName y.cls = true) (hn : (av.map fun v => v.category).sum ≤ nL) :
    Met l y (.code y cc nL rt :: lw_good) (vroom d) (va_Pc (av.map (vre G.2.1)) (fun U => U.heap.size = sz ∧ va_P G.1 vwCl (vW G μ) U.heap ∧ va_K G.1 vwCl (vTys G) U ∧ va_D (fun _ => True) (vW G μ) ∧ vNs U ∧ vSt G (va_A (vW G μ) sz) U U.heap)) (vQc G (va_A (vW G μ) sz) Q) 0 0 (va_A (vW G μ) sz) := by
  refine Met.ofW (cc := cc) (maxL := nL) (ret := rt) hy rfl ?_
  intro p e s m args below meth c s₁ B hml hv
  obtain ⟨rfl, hsz, hP, hK, hD0, hNs, hSt⟩ := hv
  have hts := atoms_spec (ws := .code y cc nL rt :: lw_good) B.pre
  have hown : s.vm.findClass y.cls = some m.cls := findClass_of_methodNamed B.named
  subst hsz
  have h1 := hC (p, l, e, (headSpec (.code y cc nL rt :: lw_good) (vroom d)).room, s, m, (av.map (vre G.2.1)).toArray, below, meth, c, va_A (vW G μ) s.heap.size, 0, 0, MQ below (vQc G (va_A (vW G μ) s.heap.size) Q) (av.map (vre G.2.1)).toArray s 0 0 (va_A (vW G μ) s.heap.size))
    ⟨B.exec, B.bytes, B.returns, B.notSynchronized, hml, hown, fun w h => hts w (List.mem_cons_of_mem _ h), hNs, hK, hSt, fun q h => Or.inr h, Nat.le_refl _, Nat.le_refl _, Nat.zero_le _, Nat.zero_le _⟩
    (fun r μ' h => ⟨Q, rfl, h⟩)
  rw [lg_entry_eq]
  refine h1 s.heap [] _ hP hD0.self va_S.rf ?_
  rw [← vrl_args]
  exact lv_entry (av.map (vre G.2.1)) (by rw [vlen_sl, vsum_re]; exact hn)
/-- what a call leaves on the stack -/
def vpush (r : Option Value) (st : List Value) : List Value := match r with
  | some v => v :: st
  | none => st
section VC
variable {G : VG} {d nL pc : Nat} {y : MethodName} {cc : ByteArray} {rt : Option FieldType} {X : VX} {ls : VL} {st : List Value} {μ : VS}
theorem vSt.down {A B : Nat → Prop} {s U : State} {H0 H : Heap} (hvm : s.vm.Alike U.vm) (h : vSt G A s H0) (hk : ∀ q : Nat, q < H0.size → ¬ A q → H[q]? = H0[q]?) (hAB : ∀ q, B q → A q) : vSt G B U H :=
  ⟨⟨((h.1.1.moved hvm).kept hk).narrow hAB, ((h.1.2.moved hvm).kept hk).narrow hAB⟩, ⟨((h.2.1.moved hvm).kept hk).narrow hAB, ((h.2.2.moved hvm).kept hk).narrow hAB⟩⟩
theorem vblind (av : List Value) (sz : Nat) : FrameBlind (va_Pc av (fun U => U.heap.size = sz ∧ va_P G.1 vwCl (vW G μ) U.heap ∧ va_K G.1 vwCl (vTys G) U ∧ va_D (fun _ => True) (vW G μ) ∧ vNs U ∧ vSt G (va_A (vW G μ) sz) U U.heap)) := by
  intro a U g mk q
  obtain ⟨q0, q1, qP, qK, qD, qN, qS⟩ := q
  exact ⟨q0, q1, qP, va_K.moved (u := U) (U := U.calling g mk a) (Vm.Alike.refl U.vm) qK, qD, vNs.same (s := U) (U := U.calling g mk a) rfl qN, vSt.down (s := U) (U := U.calling g mk a) (H0 := U.heap) (H := U.heap) (Vm.Alike.refl U.vm) qS (fun _ _ _ => rfl) (fun _ h => h)⟩
theorem vself {A : Nat → Prop} {H0 H : Heap} {locs : List Loc} (hD : va_D A (vW G μ)) (hS : va_S A H0 H locs) (hA : ∀ q, H0.size ≤ q → A q) : ∀ q, va_A (vW G μ) H.size q → A q := by
  intro q h
  rcases h with ⟨k, e, h⟩ | h
  · exact hD.2 k (q, e) h
  · exact hA q (Nat.le_trans hS.1 h)
/-- behind any call: the world as the callee left it -/
theorem vafter {p : Program} {l : Launch} {e : Env} {R : Room} {s : State} {m : MethodId} {args : Array Value} {below : List Frame} {meth : Method} {c : Code} {H : Heap} {locs : List Loc} {cells slots : Nat} {Qf : State → Prop} {la : Array Slot} {A : Nat → Prop} {st0 : List Value} {a : Array Value} {Q : Option Value → VS → Prop}
    (hr : va_Run p l e R s m args below meth c H locs cells slots 0 0 (F0 m pc la st0) (st.map (vre G.2.1)) (vQc G (va_A (vW G μ) H.size) Q a) (va_A (vW G μ) H.size))
    (hD : va_D A (vW G μ)) (hS : va_S A s.heap H locs) (hA : ∀ q, s.heap.size ≤ q → A q)
    (kk : ∀ (r : Option Value) (μ' : VS) (H1 : Heap) (locs1 : List Loc), Q r μ' → va_P G.1 vwCl (vW G μ') H1 → va_S A s.heap H1 locs1 → W p l e R s m args below meth c H1 locs1 cells slots Qf (F0 m (pc + 3) la ((vpush r st).map (vre G.2.1)))) :
    W p l e R s m args below meth c H locs cells slots Qf (F0 m pc la st0) := by
  have hF := vself hD hS hA
  intro T hT Z
  obtain ⟨v, st₀, t, T', L, h0, X', hL, e1, e2, ⟨⟨r, μ', hv, hq, hp⟩, hz, hk⟩, go⟩ := hr T hT Z
  cases hv
  rw [h0] at hz hk
  obtain ⟨t2, a1, b1⟩ := kk r μ' T'.heap (locs ++ L) hq (by rw [e1]; exact hp)
    ⟨Nat.le_trans hS.1 (by rw [e1]; exact hz), fun q h1 h2 => by rw [e1, hk q (Nat.lt_of_lt_of_le h1 hS.1) (fun z => h2 (hF q z))]; exact hS.2.1 q h1 h2, fun q hq => by
      rcases List.mem_append.mp hq with h | h
      · exact hS.2.2 q h
      · exact hF _ (hL q h)⟩ T' rfl X'
  refine ⟨t2, go t2 ?_, b1⟩
  have e3 : (r.map (vre G.2.1)).toList ++ st.map (vre G.2.1) = (vpush r st).map (vre G.2.1) := by cases r <;> rfl
  rw [e3]
  exact a1
theorem vD_any {A : Nat → Prop} {μ' : VS} (h : va_D A (vW G μ)) : va_D A (vW G μ') := by
  have key : ∀ (i : Nat) (q : Nat × va_E), (vW G μ')[i]? = some q → ∃ q', (vW G μ)[i]? = some q' ∧ q'.1 = q.1 := by
    intro i q hq
    have hi : i < 87 := by
      have := (List.getElem?_eq_some_iff.mp hq).1
      rw [vW_len] at this
      exact this
    rw [vW_at G μ' hi] at hq
    cases hq
    exact ⟨_, vW_at G μ hi, rfl⟩
  refine ⟨fun i j p q hp hq hpq => ?_, fun k q hq => ?_⟩
  · obtain ⟨p', hp', ep⟩ := key i p hp
    obtain ⟨q', hq', eq⟩ := key j q hq
    exact h.1 i j p' q' hp' hq' (by rw [ep, eq]; exact hpq)
  · obtain ⟨q', hq', eq⟩ := key k q hq
    rw [← eq]
    exact h.2 k q' hq'
/-- what a call by pool entry n of cls asks: of the callee y2 with its code -/
def vMS (cls : String) (n : Nat) (y2 : MethodName) (c2 : ByteArray) (n2 : Nat) (r2 : Option FieldType) (na : Nat) : Prop :=
  Cond.methodLink cls n y2 ∈ lw_tbl ∧ Cond.static y2 ∈ lw_tbl ∧ Cond.initialized y2.cls ∈ lw_tbl ∧ Cond.code y2 c2 n2 r2 ∈ lw_tbl ∧ (y2.cls ≠ "java/lang/invoke/MethodHandle" ∧ y2.cls ≠ "java/lang/invoke/VarHandle" ∧ (parseMethodDescriptor y2.desc).map (fun d => d.parameters.length) = some na) ∧ plainName y2.cls = true ∧ n2 ≤ 40
def vMV (cls : String) (n ci : Nat) (y2 : MethodName) (c2 : ByteArray) (n2 : Nat) (r2 : Option FieldType) (na : Nat) : Prop :=
  Cond.methodLink cls n y2 ∈ lw_tbl ∧ Cond.instanceMethod y2 ∈ lw_tbl ∧ Cond.selects y2.cls y2 y2 ∈ lw_tbl ∧ Cond.initialized y2.cls ∈ lw_tbl ∧ Cond.code y2 c2 n2 r2 ∈ lw_tbl ∧ (y2.cls ≠ "java/lang/invoke/MethodHandle" ∧ y2.cls ≠ "java/lang/invoke/VarHandle" ∧ (parseMethodDescriptor y2.desc).map (fun d => d.parameters.length) = some na) ∧ plainName y2.cls = true ∧ n2 ≤ 40 ∧ ci < 9 ∧ (vwCl[ci]?).map (fun q => q.1) = some y2.cls
def vMU (cls : String) (n ci : Nat) (C owner : String) (x2 y2 : MethodName) (c2 : ByteArray) (n2 : Nat) (r2 : Option FieldType) (na : Nat) : Prop :=
  Cond.methodLink cls n x2 ∈ lw_tbl ∧ Cond.sameMethod x2.cls owner x2.name x2.desc ∈ lw_tbl ∧ Cond.selects C x2 y2 ∈ lw_tbl ∧ Cond.instanceMethod y2 ∈ lw_tbl ∧ Cond.initialized y2.cls ∈ lw_tbl ∧ Cond.code y2 c2 n2 r2 ∈ lw_tbl ∧ (owner ≠ "java/lang/invoke/MethodHandle" ∧ owner ≠ "java/lang/invoke/VarHandle" ∧ (parseMethodDescriptor x2.desc).map (fun d => d.parameters.length) = some na) ∧ plainName y2.cls = true ∧ n2 ≤ 40 ∧ ci < 9 ∧ (vwCl[ci]?).map (fun q => q.1) = some C ∧ (y2 = ⟨owner, x2.name, x2.desc⟩ ∨ Cond.declares ⟨owner, x2.name, x2.desc⟩ ∈ lw_tbl)
theorem vgood {ws : List Cond} {y2 : MethodName} {c2 : ByteArray} {n2 : Nat} {r2 : Option FieldType} (h : ∀ w ∈ ws, w ∈ lw_tbl ∧ goodWord w = true) (hc : Cond.code y2 c2 n2 r2 ∈ lw_tbl) : GoodIn lw_good (ws ++ (.code y2 c2 n2 r2 :: lw_good)) := by
  intro w hw
  rcases List.mem_append.mp hw with q | q
  · exact ⟨lw_gd (h w q).1 (h w q).2, good_of_word (h w q).2⟩
  · rcases List.mem_cons.mp q with e | e
    · subst e; exact ⟨lw_gd hc rfl, good_of_word rfl⟩
    · exact ⟨e, good_of_word (List.mem_filter.mp e).2⟩
theorem V_callS {n na n2 : Nat} {y2 : MethodName} {c2 : ByteArray} {r2 : Option FieldType} {As : List Value} (hX : Cx G (d + 1) y cc nL rt X) (hm : vMS y.cls n y2 c2 n2 r2 na) (hC : Call G d y2 c2 n2 r2 As μ (fun r μ' => V G nL X (pc + 3) ls (vpush r st) μ')) (hn : As.length = na) (hw : (As.map fun v => v.category).sum ≤ n2) (hst : (st.map fun v => v.category).sum ≤ 8) (hd : decode cc pc = .ok (.invokestatic n, 3)) : V G nL X pc ls (As.reverse ++ st) μ := by
  obtain ⟨p, l, e, R, s, m, args, below, meth, c, A, cells, slots, Qf⟩ := X
  obtain ⟨hx, hb, hr, hlk, hml, hown, hts, hNs, hK, hSt, hA, hfr, hlo, hce, hsl⟩ := hX
  intro H locs la hP hD hS hl
  obtain ⟨m1, m2, m3, m4, m5, m6, m7⟩ := hm
  have hF := vself hD hS hA
  have hMet := call_met l H.size hC m6 hw
  have hG : GoodIn lw_good (va_wsS y.cls n y2 (.code y2 c2 n2 r2 :: lw_good)) := vgood (ws := [.methodLink y.cls n y2, .static y2, .initialized y2.cls]) (by
    intro w hw
    simp only [List.mem_cons, List.not_mem_nil, or_false] at hw
    rcases hw with rfl | rfl | rfl
    · exact ⟨m1, rfl⟩
    · exact ⟨m2, rfl⟩
    · exact ⟨m3, rfl⟩) m4
  have hrun := va_runS (g := F0 m pc la ((As.reverse ++ st).map (vre G.2.1))) (As := As.map (vre G.2.1)) (rest := st.map (vre G.2.1)) (H := H) (locs := locs) (cells := cells) (slots := slots) (e := e) (below := below) (meth := meth) ⟨hx, hb, hml, hown, hts⟩ hMet (va_cwS (R := R) na hts hG rfl rfl rfl m5 ⟨hfr, by show 8 + (n2 + 11) + 60 * d ≤ R.locals; omega⟩)
    ⟨vblind _ _, fun U hU hW => ⟨rfl, by rw [hU], by rw [hU]; exact hP, va_K.moved hW.alike hK, hD.weaken (fun _ _ _ _ => trivial), vNs.warm hW hNs, by rw [hU]; exact vSt.down hW.alike hSt hS.2.1 hF⟩⟩ rfl (by rw [List.length_map]; exact hn) hl.1 (by show (As.reverse ++ st).map _ = _; rw [List.map_append, List.map_reverse]) (lv_room (by rw [vsum_re]; exact hst)) hd ⟨hce, hsl⟩
  exact vafter hrun hD hS hA (fun r μ' H1 locs1 hq hp1 hS1 => hq H1 locs1 la hp1 (vD_any hD) hS1 hl)
theorem V_callV {n na n2 i ci : Nat} {y2 : MethodName} {c2 : ByteArray} {r2 : Option FieldType} {As : List Value} (hX : Cx G (d + 1) y cc nL rt X) (hm : vMV y.cls n ci y2 c2 n2 r2 na) (hk : vk i = (ci, 0)) (hC : Call G d y2 c2 n2 r2 (.ref i :: As) μ (fun r μ' => V G nL X (pc + 3) ls (vpush r st) μ')) (hn : As.length = na) (hw : ((.ref i :: As).map fun v => v.category).sum ≤ n2) (hst : (st.map fun v => v.category).sum ≤ 8) (hd : decode cc pc = .ok (.invokevirtual n, 3)) : V G nL X pc ls (As.reverse ++ .ref i :: st) μ := by
  obtain ⟨p, l, e, R, s, m, args, below, meth, c, A, cells, slots, Qf⟩ := X
  obtain ⟨hx, hb, hr, hlk, hml, hown, hts, hNs, hK, hSt, hA, hfr, hlo, hce, hsl⟩ := hX
  intro H locs la hP hD hS hl
  obtain ⟨m1, m2, m3, m4, m5, m6, m7, m8, m9, m10⟩ := hm
  have hF := vself hD hS hA
  have hMet := call_met l H.size hC m7 hw
  obtain ⟨q, hq1, hq2⟩ := Option.map_eq_some_iff.mp m10
  have hG : GoodIn lw_good (wsV y.cls n y2.cls y2 (.code y2 c2 n2 r2 :: lw_good)) := vgood (ws := [.methodLink y.cls n y2, .instanceMethod y2, .selects y2.cls y2 y2, .initialized y2.cls]) (by
    intro w hw
    simp only [List.mem_cons, List.not_mem_nil, or_false] at hw
    rcases hw with rfl | rfl | rfl | rfl
    · exact ⟨m1, rfl⟩
    · exact ⟨m2, rfl⟩
    · exact ⟨m3, rfl⟩
    · exact ⟨m4, rfl⟩) m5
  have hrecv := va_recv hK hP (ci := ci) (q0 := i) hq1 (by rw [vW_at G μ (vk_lt hk (by omega)), vE_obj G μ hk m9])
  rw [hq2] at hrecv
  have hrun := va_runV (g := F0 m pc la ((As.reverse ++ .ref i :: st).map (vre G.2.1))) (b := G.2.1 i) (As := As.map (vre G.2.1)) (rest := st.map (vre G.2.1)) (H := H) (locs := locs) (cells := cells) (slots := slots) (e := e) (below := below) (meth := meth) ⟨hx, hb, hml, hown, hts⟩ hMet (cwV (R := R) na hts hG rfl rfl rfl ⟨rfl, m6⟩ ⟨hfr, by show 8 + (n2 + 11) + 60 * d ≤ R.locals; omega⟩)
    ⟨vblind _ _, hrecv, fun U hU hW => ⟨rfl, by rw [hU], by rw [hU]; exact hP, va_K.moved hW.alike hK, hD.weaken (fun _ _ _ _ => trivial), vNs.warm hW hNs, by rw [hU]; exact vSt.down hW.alike hSt hS.2.1 hF⟩⟩ rfl (by rw [List.length_map]; exact hn) hl.1 (by show (As.reverse ++ .ref i :: st).map _ = _; rw [List.map_append, List.map_reverse]; rfl) (lv_room (by rw [vsum_re]; exact hst)) hd ⟨hce, hsl⟩
  exact vafter hrun hD hS hA (fun r μ' H1 locs1 hq hp1 hS1 => hq H1 locs1 la hp1 (vD_any hD) hS1 hl)
theorem V_callU {n na n2 i ci : Nat} {C owner : String} {x2 y2 : MethodName} {c2 : ByteArray} {r2 : Option FieldType} {As : List Value} (hX : Cx G (d + 1) y cc nL rt X) (hm : vMU y.cls n ci C owner x2 y2 c2 n2 r2 na) (hk : vk i = (ci, 0)) (hC : Call G d y2 c2 n2 r2 (.ref i :: As) μ (fun r μ' => V G nL X (pc + 3) ls (vpush r st) μ')) (hn : As.length = na) (hw : ((.ref i :: As).map fun v => v.category).sum ≤ n2) (hst : (st.map fun v => v.category).sum ≤ 8) (hd : decode cc pc = .ok (.invokevirtual n, 3)) : V G nL X pc ls (As.reverse ++ .ref i :: st) μ := by
  obtain ⟨p, l, e, R, s, m, args, below, meth, c, A, cells, slots, Qf⟩ := X
  obtain ⟨hx, hb, hr, hlk, hml, hown, hts, hNs, hK, hSt, hA, hfr, hlo, hce, hsl⟩ := hX
  intro H locs la hP hD hS hl
  obtain ⟨m1, m1b, m3, m2, m4, m5, m6, m7, m8, m9, m10, m11⟩ := hm
  have hF := vself hD hS hA
  have hMet := call_met l H.size hC m7 hw
  obtain ⟨q, hq1, hq2⟩ := Option.map_eq_some_iff.mp m10
  have hG : GoodIn lw_good (va_wsU y.cls n C owner x2 y2 (.code y2 c2 n2 r2 :: lw_good)) := vgood (ws := [.methodLink y.cls n x2, .sameMethod x2.cls owner x2.name x2.desc, .selects C x2 y2, .instanceMethod y2, .initialized y2.cls]) (by
    intro w hw
    simp only [List.mem_cons, List.not_mem_nil, or_false] at hw
    rcases hw with rfl | rfl | rfl | rfl | rfl
    · exact ⟨m1, rfl⟩
    · exact ⟨m1b, rfl⟩
    · exact ⟨m3, rfl⟩
    · exact ⟨m2, rfl⟩
    · exact ⟨m4, rfl⟩) m5
  have hrecv := va_recv hK hP (ci := ci) (q0 := i) hq1 (by rw [vW_at G μ (vk_lt hk (by omega)), vE_obj G μ hk m9])
  rw [hq2] at hrecv
  have hR : (vroom d).frames + 1 ≤ R.frames ∧ 8 + (n2 + 11) + (vroom d).locals ≤ R.locals := ⟨hfr, by show 8 + (n2 + 11) + 60 * d ≤ R.locals; omega⟩
  have cw : va_CU R s args y.cls C owner n x2 y2 c2 n2 r2 (.code y2 c2 n2 r2 :: lw_good) (vroom d) 0 0 na := by
    rcases m11 with h | h
    · exact va_cwU na hts hG rfl rfl rfl h m6 hR
    · exact va_cwA na hts hG rfl rfl rfl (hNs _ h rfl) m6 hR
  have hrun := va_runU (g := F0 m pc la ((As.reverse ++ .ref i :: st).map (vre G.2.1))) (b := G.2.1 i) (As := As.map (vre G.2.1)) (rest := st.map (vre G.2.1)) (H := H) (locs := locs) (cells := cells) (slots := slots) (e := e) (below := below) (meth := meth) ⟨hx, hb, hml, hown, hts⟩ hMet cw
    ⟨vblind _ _, hrecv, fun U hU hW => ⟨rfl, by rw [hU], by rw [hU]; exact hP, va_K.moved hW.alike hK, hD.weaken (fun _ _ _ _ => trivial), vNs.warm hW hNs, by rw [hU]; exact vSt.down hW.alike hSt hS.2.1 hF⟩⟩ rfl (by rw [List.length_map]; exact hn) hl.1 (by show (As.reverse ++ .ref i :: st).map _ = _; rw [List.map_append, List.map_reverse]; rfl) (lv_room (by rw [vsum_re]; exact hst)) hd ⟨hce, hsl⟩
  exact vafter hrun hD hS hA (fun r μ' H1 locs1 hq hp1 hS1 => hq H1 locs1 la hp1 (vD_any hD) hS1 hl)
theorem V_copy {n i1 i2 n1 n2 : Nat} {a b z : Int32} (hX : Cx G (d + 1) y cc nL rt X) (hm : Cond.methodLink y.cls n arraycopyName ∈ lw_tbl) (h1 : Cond.native arraycopyName ∈ lw_tbl) (h2 : Cond.static arraycopyName ∈ lw_tbl) (h3 : Cond.initialized "java/lang/System" ∈ lw_tbl) (hk1 : vk i1 = (9, n1)) (hk2 : vk i2 = (9, n2)) (ha : ¬ a < 0) (hb0 : ¬ b < 0) (hz : ¬ z < 0) (h4 : a.toNatClampNeg + z.toNatClampNeg ≤ n1) (h5 : b.toNatClampNeg + z.toNatClampNeg ≤ n2) (hst : (st.map fun v => v.category).sum ≤ 8) (hd : decode cc pc = .ok (.invokestatic n, 3)) (k : V G nL X (pc + 3) ls st (vrow μ.1 i2 (va_cpy (μ.1 i1) (μ.1 i2) a.toNatClampNeg b.toNatClampNeg z.toNatClampNeg), μ.2)) : V G nL X pc ls (.int z :: .int b :: .ref i2 :: .int a :: .ref i1 :: st) μ := by
  obtain ⟨p, l, e, R, s, m, args, below, meth, c, A, cells, slots, Qf⟩ := X
  obtain ⟨hx, hb, hr, hlk, hml, hown, hts, hNs, hK, hSt, hA, hfr, hlo, hce, hsl⟩ := hX
  intro H locs la hP hD hS hl
  have e1 : nativeFrameWords "java/lang/System" "arraycopy" 5 = 7 := by decide
  have e2 : ((st.map (vre G.2.1)).map fun v => v.category).sum + (nativeFrameWords "java/lang/System" "arraycopy" 5 + 11) ≤ R.locals := by rw [e1, vsum_re]; omega
  refine va_copyi (rest := st.map (vre G.2.1)) hx hb (hml.trans hl.1.symm) hown (hts _ (lw_gd hm rfl)) (hts _ (lw_gd h1 rfl)) (hts _ (lw_gd h2 rfl)) (hts _ (lw_gd h3 rfl)) hK hP hD hS i1 i2 0 0 (by rw [vW_at G μ (vk_lt hk1 (by omega)), vE_int G μ hk1]) (by rw [vW_at G μ (vk_lt hk2 (by omega)), vE_int G μ hk2]) rfl rfl rfl ha hb0 hz h4 h5 (fun _ _ => rfl) (by omega) e2 hd (fun H1 locs1 hP1 hD1 hS1 => ?_)
  rw [vW_row hk2] at hP1 hD1
  exact k H1 locs1 la hP1 hD1 hS1 hl
theorem V_mmax {n : Nat} {a b : Int32} (hX : Cx G (d + 1) y cc nL rt X) (hm : Cond.methodLink y.cls n Lib.Math.max.name ∈ lw_tbl) (h1 : Cond.static Lib.Math.max.name ∈ lw_tbl) (h2 : Cond.initialized "java/lang/Math" ∈ lw_tbl) (h3 : Cond.code Lib.Math.max.name Lib.Math.max.code 2 (some .int) ∈ lw_tbl) (hst : (st.map fun v => v.category).sum ≤ 8) (hd : decode cc pc = .ok (.invokestatic n, 3)) (k : V G nL X (pc + 3) ls (.int (if a < b then b else a) :: st) μ) : V G nL X pc ls (.int b :: .int a :: st) μ := by
  obtain ⟨p, l, e, R, s, m, args, below, meth, c, A, cells, slots, Qf⟩ := X
  obtain ⟨hx, hb, hr, hlk, hml, hown, hts, hNs, hK, hSt, hA, hfr, hlo, hce, hsl⟩ := hX
  intro H locs la hP hD hS hl
  have e2 : ((st.map (vre G.2.1)).map fun v => v.category).sum + 13 ≤ R.locals := by rw [vsum_re]; omega
  exact va_mmax (rest := st.map (vre G.2.1)) hx hb (hml.trans hl.1.symm) hown (hts _ (lw_gd hm rfl)) (hts _ (lw_gd h1 rfl)) (hts _ (lw_gd h2 rfl)) (hts _ (lw_gd h3 rfl)) (by omega) e2 hce hsl hd (k H locs la hP hD hS hl)
theorem V_mmin {n : Nat} {a b : Int32} (hX : Cx G (d + 1) y cc nL rt X) (hm : Cond.methodLink y.cls n Lib.Math.min.name ∈ lw_tbl) (h1 : Cond.static Lib.Math.min.name ∈ lw_tbl) (h2 : Cond.initialized "java/lang/Math" ∈ lw_tbl) (h3 : Cond.code Lib.Math.min.name Lib.Math.min.code 2 (some .int) ∈ lw_tbl) (hst : (st.map fun v => v.category).sum ≤ 8) (hd : decode cc pc = .ok (.invokestatic n, 3)) (k : V G nL X (pc + 3) ls (.int (if b < a then b else a) :: st) μ) : V G nL X pc ls (.int b :: .int a :: st) μ := by
  obtain ⟨p, l, e, R, s, m, args, below, meth, c, A, cells, slots, Qf⟩ := X
  obtain ⟨hx, hb, hr, hlk, hml, hown, hts, hNs, hK, hSt, hA, hfr, hlo, hce, hsl⟩ := hX
  intro H locs la hP hD hS hl
  have e2 : ((st.map (vre G.2.1)).map fun v => v.category).sum + 13 ≤ R.locals := by rw [vsum_re]; omega
  exact va_mmin (rest := st.map (vre G.2.1)) hx hb (hml.trans hl.1.symm) hown (hts _ (lw_gd hm rfl)) (hts _ (lw_gd h1 rfl)) (hts _ (lw_gd h2 rfl)) (hts _ (lw_gd h3 rfl)) (by omega) e2 hce hsl hd (k H locs la hP hD hS hl)
/-- a walk with more room than is asked -/
theorem Cx.less {d2 : Nat} (h : d2 ≤ d) (hX : Cx G d y cc nL rt X) : Cx G d2 y cc nL rt X := by
  obtain ⟨p, l, e, R, s, m, args, below, meth, c, A, cells, slots, Qf⟩ := X
  obtain ⟨hx, hb, hr, hlk, hml, hown, hts, hNs, hK, hSt, hA, hfr, hlo, hce, hsl⟩ := hX
  exact ⟨hx, hb, hr, hlk, hml, hown, hts, hNs, hK, hSt, hA, Nat.le_trans h hfr, Nat.le_trans (Nat.mul_le_mul_left 60 h) hlo, hce, hsl⟩
theorem Call.more {d2 : Nat} {av : List Value} {Q : Option Value → VS → Prop} (h : d ≤ d2) (hC : Call G d y cc nL rt av μ Q) : Call G d2 y cc nL rt av μ Q := fun X hX hR => hC X (hX.less h) hR
theorem Call.post {av : List Value} {Q Q2 : Option Value → VS → Prop} (hC : Call G d y cc nL rt av μ Q) (h : ∀ r μ', Q r μ' → Q2 r μ') : Call G d y cc nL rt av μ Q2 := fun X hX hR => hC X hX (fun r μ' hq => hR r μ' (h r μ' hq))
end VC
end
section
theorem ginX0 : ∀ w ∈ u_ws RX0 TX0 7, w ∈ lw_good := fun w h => lw_gd (minX0 w h) ((by decide +kernel : ∀ w ∈ u_ws RX0 TX0 7, goodWord w = true) w h)
theorem ginX1 : ∀ w ∈ u_ws RX1 TX1 6, w ∈ lw_good := fun w h => lw_gd (minX1 w h) ((by decide +kernel : ∀ w ∈ u_ws RX1 TX1 6, goodWord w = true) w h)
theorem ginX3 : ∀ w ∈ u_ws RX3 TX3 2, w ∈ lw_good := fun w h => lw_gd (minX3 w h) ((by decide +kernel : ∀ w ∈ u_ws RX3 TX3 2, goodWord w = true) w h)
theorem ginX4 : ∀ w ∈ u_ws RX4 TX4 13, w ∈ lw_good := fun w h => lw_gd (minX4 w h) ((by decide +kernel : ∀ w ∈ u_ws RX4 TX4 13, goodWord w = true) w h)
theorem ginX5 : ∀ w ∈ u_ws RX5 TX5 3, w ∈ lw_good := fun w h => lw_gd (minX5 w h) ((by decide +kernel : ∀ w ∈ u_ws RX5 TX5 3, goodWord w = true) w h)
theorem ginX6 : ∀ w ∈ u_ws RX6 TX6 13, w ∈ lw_good := fun w h => lw_gd (minX6 w h) ((by decide +kernel : ∀ w ∈ u_ws RX6 TX6 13, goodWord w = true) w h)
theorem ginX7 : ∀ w ∈ u_ws RX7 TX7 4, w ∈ lw_good := fun w h => lw_gd (minX7 w h) ((by decide +kernel : ∀ w ∈ u_ws RX7 TX7 4, goodWord w = true) w h)
theorem ginX8 : ∀ w ∈ u_ws RX8 TX8 11, w ∈ lw_good := fun w h => lw_gd (minX8 w h) ((by decide +kernel : ∀ w ∈ u_ws RX8 TX8 11, goodWord w = true) w h)
theorem ginX9 : ∀ w ∈ u_ws RX9 TX9 37, w ∈ lw_good := fun w h => lw_gd (minX9 w h) ((by decide +kernel : ∀ w ∈ u_ws RX9 TX9 37, goodWord w = true) w h)
theorem fX4_9 : vFL RX4 9 3 0 ((vF 3).getD 0 (9, 9)) := ⟨RX4, TX4, 13, "NodTax$Parish", by decide, rfl, by decide, rfl, ginX4, mq_72, Or.inl rfl⟩
theorem fX8_77 : vFL RX8 77 3 0 ((vF 3).getD 0 (9, 9)) := ⟨RX4, TX4, 13, "NodTax$Parish", by decide, rfl, by decide, rfl, ginX4, mq_73, Or.inl rfl⟩
theorem fX4_15 : vFL RX4 15 3 1 ((vF 3).getD 1 (9, 9)) := ⟨RX4, TX4, 13, "NodTax$Parish", by decide, rfl, by decide, rfl, ginX4, mq_74, Or.inl rfl⟩
theorem fX6_117 : vFL RX6 117 3 1 ((vF 3).getD 1 (9, 9)) := ⟨RX4, TX4, 13, "NodTax$Parish", by decide, rfl, by decide, rfl, ginX4, mq_75, Or.inl rfl⟩
theorem fX8_275 : vFL RX8 275 3 1 ((vF 3).getD 1 (9, 9)) := ⟨RX4, TX4, 13, "NodTax$Parish", by decide, rfl, by decide, rfl, ginX4, mq_76, Or.inl rfl⟩
theorem fX4_18 : vFL RX4 18 3 2 ((vF 3).getD 2 (9, 9)) := ⟨RX4, TX4, 13, "NodTax$Parish", by decide, rfl, by decide, rfl, ginX4, mq_77, Or.inl rfl⟩
theorem fX6_144 : vFL RX6 144 3 2 ((vF 3).getD 2 (9, 9)) := ⟨RX4, TX4, 13, "NodTax$Parish", by decide, rfl, by decide, rfl, ginX4, mq_78, Or.inl rfl⟩
theorem fX8_278 : vFL RX8 278 3 2 ((vF 3).getD 2 (9, 9)) := ⟨RX4, TX4, 13, "NodTax$Parish", by decide, rfl, by decide, rfl, ginX4, mq_79, Or.inl rfl⟩
theorem fX4_21 : vFL RX4 21 3 3 ((vF 3).getD 3 (9, 9)) := ⟨RX4, TX4, 13, "NodTax$Parish", by decide, rfl, by decide, rfl, ginX4, mq_80, Or.inl rfl⟩
theorem fX6_132 : vFL RX6 132 3 3 ((vF 3).getD 3 (9, 9)) := ⟨RX4, TX4, 13, "NodTax$Parish", by decide, rfl, by decide, rfl, ginX4, mq_81, Or.inl rfl⟩
theorem fX8_281 : vFL RX8 281 3 3 ((vF 3).getD 3 (9, 9)) := ⟨RX4, TX4, 13, "NodTax$Parish", by decide, rfl, by decide, rfl, ginX4, mq_82, Or.inl rfl⟩
theorem fX4_24 : vFL RX4 24 3 4 ((vF 3).getD 4 (9, 9)) := ⟨RX4, TX4, 13, "NodTax$Parish", by decide, rfl, by decide, rfl, ginX4, mq_83, Or.inl rfl⟩
theorem fX8_106 : vFL RX8 106 3 4 ((vF 3).getD 4 (9, 9)) := ⟨RX4, TX4, 13, "NodTax$Parish", by decide, rfl, by decide, rfl, ginX4, mq_84, Or.inl rfl⟩
theorem fX4_27 : vFL RX4 27 3 5 ((vF 3).getD 5 (9, 9)) := ⟨RX4, TX4, 13, "NodTax$Parish", by decide, rfl, by decide, rfl, ginX4, mq_85, Or.inl rfl⟩
theorem fX8_109 : vFL RX8 109 3 5 ((vF 3).getD 5 (9, 9)) := ⟨RX4, TX4, 13, "NodTax$Parish", by decide, rfl, by decide, rfl, ginX4, mq_86, Or.inl rfl⟩
theorem fX4_30 : vFL RX4 30 3 6 ((vF 3).getD 6 (9, 9)) := ⟨RX4, TX4, 13, "NodTax$Parish", by decide, rfl, by decide, rfl, ginX4, mq_87, Or.inl rfl⟩
theorem fX1_26 : vFL RX1 26 3 6 ((vF 3).getD 6 (9, 9)) := ⟨RX4, TX4, 13, "NodTax$Parish", by decide, rfl, by decide, rfl, ginX4, mq_88, Or.inl rfl⟩
theorem fX8_200 : vFL RX8 200 3 6 ((vF 3).getD 6 (9, 9)) := ⟨RX4, TX4, 13, "NodTax$Parish", by decide, rfl, by decide, rfl, ginX4, mq_89, Or.inl rfl⟩
theorem fX4_33 : vFL RX4 33 3 7 ((vF 3).getD 7 (9, 9)) := ⟨RX4, TX4, 13, "NodTax$Parish", by decide, rfl, by decide, rfl, ginX4, mq_90, Or.inl rfl⟩
theorem fX8_93 : vFL RX8 93 3 7 ((vF 3).getD 7 (9, 9)) := ⟨RX4, TX4, 13, "NodTax$Parish", by decide, rfl, by decide, rfl, ginX4, mq_91, Or.inl rfl⟩
theorem fX6_114 : vFL RX6 114 3 7 ((vF 3).getD 7 (9, 9)) := ⟨RX4, TX4, 13, "NodTax$Parish", by decide, rfl, by decide, rfl, ginX4, mq_92, Or.inl rfl⟩
theorem fX4_37 : vFL RX4 37 3 8 ((vF 3).getD 8 (9, 9)) := ⟨RX4, TX4, 13, "NodTax$Parish", by decide, rfl, by decide, rfl, ginX4, mq_93, Or.inl rfl⟩
theorem fX6_52 : vFL RX6 52 3 8 ((vF 3).getD 8 (9, 9)) := ⟨RX4, TX4, 13, "NodTax$Parish", by decide, rfl, by decide, rfl, ginX4, mq_94, Or.inl rfl⟩
theorem fX8_97 : vFL RX8 97 3 8 ((vF 3).getD 8 (9, 9)) := ⟨RX4, TX4, 13, "NodTax$Parish", by decide, rfl, by decide, rfl, ginX4, mq_95, Or.inl rfl⟩
theorem fX4_40 : vFL RX4 40 3 9 ((vF 3).getD 9 (9, 9)) := ⟨RX4, TX4, 13, "NodTax$Parish", by decide, rfl, by decide, rfl, ginX4, mq_96, Or.inl rfl⟩
theorem fX8_100 : vFL RX8 100 3 9 ((vF 3).getD 9 (9, 9)) := ⟨RX4, TX4, 13, "NodTax$Parish", by decide, rfl, by decide, rfl, ginX4, mq_97, Or.inl rfl⟩
theorem fX6_98 : vFL RX6 98 3 9 ((vF 3).getD 9 (9, 9)) := ⟨RX4, TX4, 13, "NodTax$Parish", by decide, rfl, by decide, rfl, ginX4, mq_98, Or.inl rfl⟩
theorem fX4_43 : vFL RX4 43 3 10 ((vF 3).getD 10 (9, 9)) := ⟨RX4, TX4, 13, "NodTax$Parish", by decide, rfl, by decide, rfl, ginX4, mq_99, Or.inl rfl⟩
theorem fX5_36 : vFL RX5 36 3 10 ((vF 3).getD 10 (9, 9)) := ⟨RX4, TX4, 13, "NodTax$Parish", by decide, rfl, by decide, rfl, ginX4, mq_100, Or.inl rfl⟩
theorem fX8_103 : vFL RX8 103 3 10 ((vF 3).getD 10 (9, 9)) := ⟨RX4, TX4, 13, "NodTax$Parish", by decide, rfl, by decide, rfl, ginX4, mq_101, Or.inl rfl⟩
theorem fX6_123 : vFL RX6 123 3 10 ((vF 3).getD 10 (9, 9)) := ⟨RX4, TX4, 13, "NodTax$Parish", by decide, rfl, by decide, rfl, ginX4, mq_102, Or.inl rfl⟩
theorem fX4_46 : vFL RX4 46 3 11 ((vF 3).getD 11 (9, 9)) := ⟨RX4, TX4, 13, "NodTax$Parish", by decide, rfl, by decide, rfl, ginX4, mq_103, Or.inl rfl⟩
theorem fX1_31 : vFL RX1 31 3 11 ((vF 3).getD 11 (9, 9)) := ⟨RX4, TX4, 13, "NodTax$Parish", by decide, rfl, by decide, rfl, ginX4, mq_104, Or.inl rfl⟩
theorem fX4_49 : vFL RX4 49 3 12 ((vF 3).getD 12 (9, 9)) := ⟨RX4, TX4, 13, "NodTax$Parish", by decide, rfl, by decide, rfl, ginX4, mq_105, Or.inl rfl⟩
theorem fX1_40 : vFL RX1 40 3 12 ((vF 3).getD 12 (9, 9)) := ⟨RX4, TX4, 13, "NodTax$Parish", by decide, rfl, by decide, rfl, ginX4, mq_106, Or.inl rfl⟩
theorem fX3_9 : vFL RX3 9 2 0 ((vF 2).getD 0 (9, 9)) := ⟨RX3, TX3, 2, "NodTax$Pad", by decide, rfl, by decide, rfl, ginX3, mq_142, Or.inl rfl⟩
theorem fX7_49 : vFL RX7 49 2 0 ((vF 2).getD 0 (9, 9)) := ⟨RX3, TX3, 2, "NodTax$Pad", by decide, rfl, by decide, rfl, ginX3, mq_143, Or.inl rfl⟩
theorem fX6_63 : vFL RX6 63 2 0 ((vF 2).getD 0 (9, 9)) := ⟨RX3, TX3, 2, "NodTax$Pad", by decide, rfl, by decide, rfl, ginX3, mq_144, Or.inl rfl⟩
theorem fX2_34 : vFL RX2 34 2 0 ((vF 2).getD 0 (9, 9)) := ⟨RX3, TX3, 2, "NodTax$Pad", by decide, rfl, by decide, rfl, ginX3, mq_145, Or.inl rfl⟩
theorem fX8_131 : vFL RX8 131 2 0 ((vF 2).getD 0 (9, 9)) := ⟨RX3, TX3, 2, "NodTax$Pad", by decide, rfl, by decide, rfl, ginX3, mq_146, Or.inl rfl⟩
theorem fX3_15 : vFL RX3 15 2 1 ((vF 2).getD 1 (9, 9)) := ⟨RX3, TX3, 2, "NodTax$Pad", by decide, rfl, by decide, rfl, ginX3, mq_147, Or.inl rfl⟩
theorem fX7_25 : vFL RX7 25 2 1 ((vF 2).getD 1 (9, 9)) := ⟨RX3, TX3, 2, "NodTax$Pad", by decide, rfl, by decide, rfl, ginX3, mq_148, Or.inl rfl⟩
theorem fX1_35 : vFL RX1 35 2 1 ((vF 2).getD 1 (9, 9)) := ⟨RX3, TX3, 2, "NodTax$Pad", by decide, rfl, by decide, rfl, ginX3, mq_149, Or.inl rfl⟩
theorem fX2_25 : vFL RX2 25 2 1 ((vF 2).getD 1 (9, 9)) := ⟨RX3, TX3, 2, "NodTax$Pad", by decide, rfl, by decide, rfl, ginX3, mq_150, Or.inl rfl⟩
theorem fX8_128 : vFL RX8 128 2 1 ((vF 2).getD 1 (9, 9)) := ⟨RX3, TX3, 2, "NodTax$Pad", by decide, rfl, by decide, rfl, ginX3, mq_151, Or.inl rfl⟩
theorem fX0_9 : vFL RX0 9 0 4 ((vF 0).getD 4 (9, 9)) := ⟨RX0, TX0, 7, "NodTax$CheapestOrder", by decide, rfl, by decide, rfl, ginX0, mq_169, Or.inl rfl⟩
theorem fX8_176 : vFL RX8 176 0 4 ((vF 0).getD 4 (9, 9)) := ⟨RX0, TX0, 7, "NodTax$CheapestOrder", by decide, rfl, by decide, rfl, ginX0, mq_170, Or.inl rfl⟩
theorem fX0_15 : vFL RX0 15 0 5 ((vF 0).getD 5 (9, 9)) := ⟨RX0, TX0, 7, "NodTax$CheapestOrder", by decide, rfl, by decide, rfl, ginX0, mq_171, Or.inl rfl⟩
theorem fX0_18 : vFL RX0 18 0 6 ((vF 0).getD 6 (9, 9)) := ⟨RX0, TX0, 7, "NodTax$CheapestOrder", by decide, rfl, by decide, rfl, ginX0, mq_172, Or.inl rfl⟩
theorem fX2_9_0 : vFL RX2 9 0 0 ((vF 0).getD 0 (9, 9)) := ⟨RX0, TX0, 7, "NodTax$Orders", by decide, rfl, by decide, rfl, ginX0, mq_173, Or.inl rfl⟩
theorem fX2_9_1 : vFL RX2 9 1 0 ((vF 1).getD 0 (9, 9)) := ⟨RX1, TX1, 6, "NodTax$Orders", by decide, rfl, by decide, rfl, ginX1, mq_173, Or.inl rfl⟩
theorem fX1_59 : vFL RX1 59 1 0 ((vF 1).getD 0 (9, 9)) := ⟨RX1, TX1, 6, "NodTax$FittingOrders", by decide, rfl, by decide, rfl, ginX1, mq_174, Or.inr mq_175⟩
theorem fX2_15_0 : vFL RX2 15 0 1 ((vF 0).getD 1 (9, 9)) := ⟨RX0, TX0, 7, "NodTax$Orders", by decide, rfl, by decide, rfl, ginX0, mq_176, Or.inl rfl⟩
theorem fX2_15_1 : vFL RX2 15 1 1 ((vF 1).getD 1 (9, 9)) := ⟨RX1, TX1, 6, "NodTax$Orders", by decide, rfl, by decide, rfl, ginX1, mq_176, Or.inl rfl⟩
theorem fX1_62 : vFL RX1 62 1 1 ((vF 1).getD 1 (9, 9)) := ⟨RX1, TX1, 6, "NodTax$FittingOrders", by decide, rfl, by decide, rfl, ginX1, mq_177, Or.inr mq_178⟩
theorem fX0_45 : vFL RX0 45 0 1 ((vF 0).getD 1 (9, 9)) := ⟨RX0, TX0, 7, "NodTax$CheapestOrder", by decide, rfl, by decide, rfl, ginX0, mq_179, Or.inr mq_180⟩
theorem fX2_18_0 : vFL RX2 18 0 2 ((vF 0).getD 2 (9, 9)) := ⟨RX0, TX0, 7, "NodTax$Orders", by decide, rfl, by decide, rfl, ginX0, mq_181, Or.inl rfl⟩
theorem fX2_18_1 : vFL RX2 18 1 2 ((vF 1).getD 2 (9, 9)) := ⟨RX1, TX1, 6, "NodTax$Orders", by decide, rfl, by decide, rfl, ginX1, mq_181, Or.inl rfl⟩
theorem fX2_21_0 : vFL RX2 21 0 3 ((vF 0).getD 3 (9, 9)) := ⟨RX0, TX0, 7, "NodTax$Orders", by decide, rfl, by decide, rfl, ginX0, mq_182, Or.inl rfl⟩
theorem fX2_21_1 : vFL RX2 21 1 3 ((vF 1).getD 3 (9, 9)) := ⟨RX1, TX1, 6, "NodTax$Orders", by decide, rfl, by decide, rfl, ginX1, mq_182, Or.inl rfl⟩
theorem fX1_58 : vFL RX1 58 1 3 ((vF 1).getD 3 (9, 9)) := ⟨RX1, TX1, 6, "NodTax$FittingOrders", by decide, rfl, by decide, rfl, ginX1, mq_183, Or.inr mq_184⟩
theorem fX0_42 : vFL RX0 42 0 3 ((vF 0).getD 3 (9, 9)) := ⟨RX0, TX0, 7, "NodTax$CheapestOrder", by decide, rfl, by decide, rfl, ginX0, mq_185, Or.inr mq_186⟩
theorem fX1_9 : vFL RX1 9 1 4 ((vF 1).getD 4 (9, 9)) := ⟨RX1, TX1, 6, "NodTax$FittingOrders", by decide, rfl, by decide, rfl, ginX1, mq_208, Or.inl rfl⟩
theorem fX8_212 : vFL RX8 212 1 4 ((vF 1).getD 4 (9, 9)) := ⟨RX1, TX1, 6, "NodTax$FittingOrders", by decide, rfl, by decide, rfl, ginX1, mq_209, Or.inl rfl⟩
theorem fX1_15 : vFL RX1 15 1 5 ((vF 1).getD 5 (9, 9)) := ⟨RX1, TX1, 6, "NodTax$FittingOrders", by decide, rfl, by decide, rfl, ginX1, mq_210, Or.inl rfl⟩
theorem fX8_218 : vFL RX8 218 1 5 ((vF 1).getD 5 (9, 9)) := ⟨RX1, TX1, 6, "NodTax$FittingOrders", by decide, rfl, by decide, rfl, ginX1, mq_211, Or.inl rfl⟩
theorem fX7_9 : vFL RX7 9 6 0 ((vF 6).getD 0 (9, 9)) := ⟨RX7, TX7, 4, "NodTax$Weather", by decide, rfl, by decide, rfl, ginX7, mq_227, Or.inl rfl⟩
theorem fX8_254 : vFL RX8 254 6 0 ((vF 6).getD 0 (9, 9)) := ⟨RX7, TX7, 4, "NodTax$Weather", by decide, rfl, by decide, rfl, ginX7, mq_228, Or.inl rfl⟩
theorem fX7_15 : vFL RX7 15 6 1 ((vF 6).getD 1 (9, 9)) := ⟨RX7, TX7, 4, "NodTax$Weather", by decide, rfl, by decide, rfl, ginX7, mq_229, Or.inl rfl⟩
theorem fX8_258 : vFL RX8 258 6 1 ((vF 6).getD 1 (9, 9)) := ⟨RX7, TX7, 4, "NodTax$Weather", by decide, rfl, by decide, rfl, ginX7, mq_230, Or.inl rfl⟩
theorem fX7_18 : vFL RX7 18 6 2 ((vF 6).getD 2 (9, 9)) := ⟨RX7, TX7, 4, "NodTax$Weather", by decide, rfl, by decide, rfl, ginX7, mq_231, Or.inl rfl⟩
theorem fX8_261 : vFL RX8 261 6 2 ((vF 6).getD 2 (9, 9)) := ⟨RX7, TX7, 4, "NodTax$Weather", by decide, rfl, by decide, rfl, ginX7, mq_232, Or.inl rfl⟩
theorem fX7_21 : vFL RX7 21 6 3 ((vF 6).getD 3 (9, 9)) := ⟨RX7, TX7, 4, "NodTax$Weather", by decide, rfl, by decide, rfl, ginX7, mq_233, Or.inl rfl⟩
theorem fX5_9 : vFL RX5 9 4 0 ((vF 4).getD 0 (9, 9)) := ⟨RX5, TX5, 3, "NodTax$Rivals", by decide, rfl, by decide, rfl, ginX5, mq_249, Or.inl rfl⟩
theorem fX8_241 : vFL RX8 241 4 0 ((vF 4).getD 0 (9, 9)) := ⟨RX5, TX5, 3, "NodTax$Rivals", by decide, rfl, by decide, rfl, ginX5, mq_250, Or.inl rfl⟩
theorem fX5_15 : vFL RX5 15 4 1 ((vF 4).getD 1 (9, 9)) := ⟨RX5, TX5, 3, "NodTax$Rivals", by decide, rfl, by decide, rfl, ginX5, mq_251, Or.inl rfl⟩
theorem fX8_238 : vFL RX8 238 4 1 ((vF 4).getD 1 (9, 9)) := ⟨RX5, TX5, 3, "NodTax$Rivals", by decide, rfl, by decide, rfl, ginX5, mq_252, Or.inl rfl⟩
theorem fX5_19 : vFL RX5 19 4 2 ((vF 4).getD 2 (9, 9)) := ⟨RX5, TX5, 3, "NodTax$Rivals", by decide, rfl, by decide, rfl, ginX5, mq_253, Or.inl rfl⟩
theorem fX6_9 : vFL RX6 9 5 0 ((vF 5).getD 0 (9, 9)) := ⟨RX6, TX6, 13, "NodTax$Walk", by decide, rfl, by decide, rfl, ginX6, mq_266, Or.inl rfl⟩
theorem fX8_145 : vFL RX8 145 5 0 ((vF 5).getD 0 (9, 9)) := ⟨RX6, TX6, 13, "NodTax$Walk", by decide, rfl, by decide, rfl, ginX6, mq_267, Or.inl rfl⟩
theorem fX6_15 : vFL RX6 15 5 1 ((vF 5).getD 1 (9, 9)) := ⟨RX6, TX6, 13, "NodTax$Walk", by decide, rfl, by decide, rfl, ginX6, mq_268, Or.inl rfl⟩
theorem fX6_19 : vFL RX6 19 5 2 ((vF 5).getD 2 (9, 9)) := ⟨RX6, TX6, 13, "NodTax$Walk", by decide, rfl, by decide, rfl, ginX6, mq_269, Or.inl rfl⟩
theorem fX6_22 : vFL RX6 22 5 3 ((vF 5).getD 3 (9, 9)) := ⟨RX6, TX6, 13, "NodTax$Walk", by decide, rfl, by decide, rfl, ginX6, mq_270, Or.inl rfl⟩
theorem fX6_25 : vFL RX6 25 5 4 ((vF 5).getD 4 (9, 9)) := ⟨RX6, TX6, 13, "NodTax$Walk", by decide, rfl, by decide, rfl, ginX6, mq_271, Or.inl rfl⟩
theorem fX8_159 : vFL RX8 159 5 4 ((vF 5).getD 4 (9, 9)) := ⟨RX6, TX6, 13, "NodTax$Walk", by decide, rfl, by decide, rfl, ginX6, mq_272, Or.inl rfl⟩
theorem fX6_28 : vFL RX6 28 5 5 ((vF 5).getD 5 (9, 9)) := ⟨RX6, TX6, 13, "NodTax$Walk", by decide, rfl, by decide, rfl, ginX6, mq_273, Or.inl rfl⟩
theorem fX8_324 : vFL RX8 324 5 5 ((vF 5).getD 5 (9, 9)) := ⟨RX6, TX6, 13, "NodTax$Walk", by decide, rfl, by decide, rfl, ginX6, mq_274, Or.inl rfl⟩
theorem fX6_31 : vFL RX6 31 5 6 ((vF 5).getD 6 (9, 9)) := ⟨RX6, TX6, 13, "NodTax$Walk", by decide, rfl, by decide, rfl, ginX6, mq_275, Or.inl rfl⟩
theorem fX8_162 : vFL RX8 162 5 6 ((vF 5).getD 6 (9, 9)) := ⟨RX6, TX6, 13, "NodTax$Walk", by decide, rfl, by decide, rfl, ginX6, mq_276, Or.inl rfl⟩
theorem fX6_34 : vFL RX6 34 5 7 ((vF 5).getD 7 (9, 9)) := ⟨RX6, TX6, 13, "NodTax$Walk", by decide, rfl, by decide, rfl, ginX6, mq_277, Or.inl rfl⟩
theorem fX7_42 : vFL RX7 42 5 7 ((vF 5).getD 7 (9, 9)) := ⟨RX6, TX6, 13, "NodTax$Walk", by decide, rfl, by decide, rfl, ginX6, mq_278, Or.inl rfl⟩
theorem fX8_305 : vFL RX8 305 5 7 ((vF 5).getD 7 (9, 9)) := ⟨RX6, TX6, 13, "NodTax$Walk", by decide, rfl, by decide, rfl, ginX6, mq_279, Or.inl rfl⟩
theorem fX6_37 : vFL RX6 37 5 8 ((vF 5).getD 8 (9, 9)) := ⟨RX6, TX6, 13, "NodTax$Walk", by decide, rfl, by decide, rfl, ginX6, mq_280, Or.inl rfl⟩
theorem fX6_40 : vFL RX6 40 5 9 ((vF 5).getD 9 (9, 9)) := ⟨RX6, TX6, 13, "NodTax$Walk", by decide, rfl, by decide, rfl, ginX6, mq_281, Or.inl rfl⟩
theorem fX0_23 : vFL RX0 23 5 9 ((vF 5).getD 9 (9, 9)) := ⟨RX6, TX6, 13, "NodTax$Walk", by decide, rfl, by decide, rfl, ginX6, mq_282, Or.inl rfl⟩
theorem fX8_318 : vFL RX8 318 5 9 ((vF 5).getD 9 (9, 9)) := ⟨RX6, TX6, 13, "NodTax$Walk", by decide, rfl, by decide, rfl, ginX6, mq_283, Or.inl rfl⟩
theorem fX6_43 : vFL RX6 43 5 10 ((vF 5).getD 10 (9, 9)) := ⟨RX6, TX6, 13, "NodTax$Walk", by decide, rfl, by decide, rfl, ginX6, mq_284, Or.inl rfl⟩
theorem fX8_321 : vFL RX8 321 5 10 ((vF 5).getD 10 (9, 9)) := ⟨RX6, TX6, 13, "NodTax$Walk", by decide, rfl, by decide, rfl, ginX6, mq_285, Or.inl rfl⟩
theorem fX6_46 : vFL RX6 46 5 11 ((vF 5).getD 11 (9, 9)) := ⟨RX6, TX6, 13, "NodTax$Walk", by decide, rfl, by decide, rfl, ginX6, mq_286, Or.inl rfl⟩
theorem fX0_28 : vFL RX0 28 5 11 ((vF 5).getD 11 (9, 9)) := ⟨RX6, TX6, 13, "NodTax$Walk", by decide, rfl, by decide, rfl, ginX6, mq_287, Or.inl rfl⟩
theorem fX6_49 : vFL RX6 49 5 12 ((vF 5).getD 12 (9, 9)) := ⟨RX6, TX6, 13, "NodTax$Walk", by decide, rfl, by decide, rfl, ginX6, mq_288, Or.inl rfl⟩
theorem fX8_10 : vFL RX8 10 7 0 ((vF 7).getD 0 (9, 9)) := ⟨RX8, TX8, 11, "NodTax", by decide, rfl, by decide, rfl, ginX8, mq_317, Or.inl rfl⟩
theorem fX8_16 : vFL RX8 16 7 1 ((vF 7).getD 1 (9, 9)) := ⟨RX8, TX8, 11, "NodTax", by decide, rfl, by decide, rfl, ginX8, mq_318, Or.inl rfl⟩
theorem fX8_19 : vFL RX8 19 7 2 ((vF 7).getD 2 (9, 9)) := ⟨RX8, TX8, 11, "NodTax", by decide, rfl, by decide, rfl, ginX8, mq_319, Or.inl rfl⟩
theorem fX8_23 : vFL RX8 23 7 3 ((vF 7).getD 3 (9, 9)) := ⟨RX8, TX8, 11, "NodTax", by decide, rfl, by decide, rfl, ginX8, mq_320, Or.inl rfl⟩
theorem fX8_30 : vFL RX8 30 7 4 ((vF 7).getD 4 (9, 9)) := ⟨RX8, TX8, 11, "NodTax", by decide, rfl, by decide, rfl, ginX8, mq_321, Or.inl rfl⟩
theorem fX8_36 : vFL RX8 36 7 5 ((vF 7).getD 5 (9, 9)) := ⟨RX8, TX8, 11, "NodTax", by decide, rfl, by decide, rfl, ginX8, mq_322, Or.inl rfl⟩
theorem fX8_43 : vFL RX8 43 7 6 ((vF 7).getD 6 (9, 9)) := ⟨RX8, TX8, 11, "NodTax", by decide, rfl, by decide, rfl, ginX8, mq_323, Or.inl rfl⟩
theorem fX8_50 : vFL RX8 50 7 7 ((vF 7).getD 7 (9, 9)) := ⟨RX8, TX8, 11, "NodTax", by decide, rfl, by decide, rfl, ginX8, mq_324, Or.inl rfl⟩
theorem fX8_57 : vFL RX8 57 7 8 ((vF 7).getD 8 (9, 9)) := ⟨RX8, TX8, 11, "NodTax", by decide, rfl, by decide, rfl, ginX8, mq_325, Or.inl rfl⟩
theorem fX8_64 : vFL RX8 64 7 9 ((vF 7).getD 9 (9, 9)) := ⟨RX8, TX8, 11, "NodTax", by decide, rfl, by decide, rfl, ginX8, mq_326, Or.inl rfl⟩
theorem fX8_68 : vFL RX8 68 7 10 ((vF 7).getD 10 (9, 9)) := ⟨RX8, TX8, 11, "NodTax", by decide, rfl, by decide, rfl, ginX8, mq_327, Or.inl rfl⟩
theorem fX9_7 : vFL RX9 7 8 0 ((vF 8).getD 0 (9, 9)) := ⟨RX9, TX9, 37, "NodTaxModel", by decide, rfl, by decide, rfl, ginX9, mq_799, Or.inl rfl⟩
theorem fX9_72 : vFL RX9 72 8 1 ((vF 8).getD 1 (9, 9)) := ⟨RX9, TX9, 37, "NodTaxModel", by decide, rfl, by decide, rfl, ginX9, mq_800, Or.inl rfl⟩
theorem fX9_13 : vFL RX9 13 8 2 ((vF 8).getD 2 (9, 9)) := ⟨RX9, TX9, 37, "NodTaxModel", by decide, rfl, by decide, rfl, ginX9, mq_801, Or.inl rfl⟩
theorem fX9_17 : vFL RX9 17 8 3 ((vF 8).getD 3 (9, 9)) := ⟨RX9, TX9, 37, "NodTaxModel", by decide, rfl, by decide, rfl, ginX9, mq_802, Or.inl rfl⟩
theorem fX9_20 : vFL RX9 20 8 4 ((vF 8).getD 4 (9, 9)) := ⟨RX9, TX9, 37, "NodTaxModel", by decide, rfl, by decide, rfl, ginX9, mq_803, Or.inl rfl⟩
theorem fX9_23 : vFL RX9 23 8 5 ((vF 8).getD 5 (9, 9)) := ⟨RX9, TX9, 37, "NodTaxModel", by decide, rfl, by decide, rfl, ginX9, mq_804, Or.inl rfl⟩
theorem fX9_83 : vFL RX9 83 8 6 ((vF 8).getD 6 (9, 9)) := ⟨RX9, TX9, 37, "NodTaxModel", by decide, rfl, by decide, rfl, ginX9, mq_805, Or.inl rfl⟩
theorem fX9_26 : vFL RX9 26 8 7 ((vF 8).getD 7 (9, 9)) := ⟨RX9, TX9, 37, "NodTaxModel", by decide, rfl, by decide, rfl, ginX9, mq_806, Or.inl rfl⟩
theorem fX9_29 : vFL RX9 29 8 8 ((vF 8).getD 8 (9, 9)) := ⟨RX9, TX9, 37, "NodTaxModel", by decide, rfl, by decide, rfl, ginX9, mq_807, Or.inl rfl⟩
theorem fX9_89 : vFL RX9 89 8 9 ((vF 8).getD 9 (9, 9)) := ⟨RX9, TX9, 37, "NodTaxModel", by decide, rfl, by decide, rfl, ginX9, mq_808, Or.inl rfl⟩
theorem fX9_86 : vFL RX9 86 8 10 ((vF 8).getD 10 (9, 9)) := ⟨RX9, TX9, 37, "NodTaxModel", by decide, rfl, by decide, rfl, ginX9, mq_809, Or.inl rfl⟩
theorem fX9_32 : vFL RX9 32 8 11 ((vF 8).getD 11 (9, 9)) := ⟨RX9, TX9, 37, "NodTaxModel", by decide, rfl, by decide, rfl, ginX9, mq_810, Or.inl rfl⟩
theorem fX9_103 : vFL RX9 103 8 12 ((vF 8).getD 12 (9, 9)) := ⟨RX9, TX9, 37, "NodTaxModel", by decide, rfl, by decide, rfl, ginX9, mq_811, Or.inl rfl⟩
theorem fX9_35 : vFL RX9 35 8 13 ((vF 8).getD 13 (9, 9)) := ⟨RX9, TX9, 37, "NodTaxModel", by decide, rfl, by decide, rfl, ginX9, mq_812, Or.inl rfl⟩
theorem fX9_38 : vFL RX9 38 8 14 ((vF 8).getD 14 (9, 9)) := ⟨RX9, TX9, 37, "NodTaxModel", by decide, rfl, by decide, rfl, ginX9, mq_813, Or.inl rfl⟩
theorem fX9_113 : vFL RX9 113 8 15 ((vF 8).getD 15 (9, 9)) := ⟨RX9, TX9, 37, "NodTaxModel", by decide, rfl, by decide, rfl, ginX9, mq_814, Or.inl rfl⟩
theorem fX9_41 : vFL RX9 41 8 16 ((vF 8).getD 16 (9, 9)) := ⟨RX9, TX9, 37, "NodTaxModel", by decide, rfl, by decide, rfl, ginX9, mq_815, Or.inl rfl⟩
theorem fX9_116 : vFL RX9 116 8 17 ((vF 8).getD 17 (9, 9)) := ⟨RX9, TX9, 37, "NodTaxModel", by decide, rfl, by decide, rfl, ginX9, mq_816, Or.inl rfl⟩
theorem fX9_119 : vFL RX9 119 8 18 ((vF 8).getD 18 (9, 9)) := ⟨RX9, TX9, 37, "NodTaxModel", by decide, rfl, by decide, rfl, ginX9, mq_817, Or.inl rfl⟩
theorem fX9_122 : vFL RX9 122 8 19 ((vF 8).getD 19 (9, 9)) := ⟨RX9, TX9, 37, "NodTaxModel", by decide, rfl, by decide, rfl, ginX9, mq_818, Or.inl rfl⟩
theorem fX9_44 : vFL RX9 44 8 20 ((vF 8).getD 20 (9, 9)) := ⟨RX9, TX9, 37, "NodTaxModel", by decide, rfl, by decide, rfl, ginX9, mq_819, Or.inl rfl⟩
theorem fX9_47 : vFL RX9 47 8 21 ((vF 8).getD 21 (9, 9)) := ⟨RX9, TX9, 37, "NodTaxModel", by decide, rfl, by decide, rfl, ginX9, mq_820, Or.inl rfl⟩
theorem fX9_50 : vFL RX9 50 8 22 ((vF 8).getD 22 (9, 9)) := ⟨RX9, TX9, 37, "NodTaxModel", by decide, rfl, by decide, rfl, ginX9, mq_821, Or.inl rfl⟩
theorem fX9_53 : vFL RX9 53 8 23 ((vF 8).getD 23 (9, 9)) := ⟨RX9, TX9, 37, "NodTaxModel", by decide, rfl, by decide, rfl, ginX9, mq_822, Or.inl rfl⟩
theorem fX9_56 : vFL RX9 56 8 24 ((vF 8).getD 24 (9, 9)) := ⟨RX9, TX9, 37, "NodTaxModel", by decide, rfl, by decide, rfl, ginX9, mq_823, Or.inl rfl⟩
theorem fX9_125 : vFL RX9 125 8 25 ((vF 8).getD 25 (9, 9)) := ⟨RX9, TX9, 37, "NodTaxModel", by decide, rfl, by decide, rfl, ginX9, mq_824, Or.inl rfl⟩
theorem fX9_128 : vFL RX9 128 8 26 ((vF 8).getD 26 (9, 9)) := ⟨RX9, TX9, 37, "NodTaxModel", by decide, rfl, by decide, rfl, ginX9, mq_825, Or.inl rfl⟩
theorem fX9_141 : vFL RX9 141 8 27 ((vF 8).getD 27 (9, 9)) := ⟨RX9, TX9, 37, "NodTaxModel", by decide, rfl, by decide, rfl, ginX9, mq_826, Or.inl rfl⟩
theorem fX9_144 : vFL RX9 144 8 28 ((vF 8).getD 28 (9, 9)) := ⟨RX9, TX9, 37, "NodTaxModel", by decide, rfl, by decide, rfl, ginX9, mq_827, Or.inl rfl⟩
theorem fX9_147 : vFL RX9 147 8 29 ((vF 8).getD 29 (9, 9)) := ⟨RX9, TX9, 37, "NodTaxModel", by decide, rfl, by decide, rfl, ginX9, mq_828, Or.inl rfl⟩
theorem fX9_150 : vFL RX9 150 8 30 ((vF 8).getD 30 (9, 9)) := ⟨RX9, TX9, 37, "NodTaxModel", by decide, rfl, by decide, rfl, ginX9, mq_829, Or.inl rfl⟩
theorem fX9_153 : vFL RX9 153 8 31 ((vF 8).getD 31 (9, 9)) := ⟨RX9, TX9, 37, "NodTaxModel", by decide, rfl, by decide, rfl, ginX9, mq_830, Or.inl rfl⟩
theorem fX9_59 : vFL RX9 59 8 32 ((vF 8).getD 32 (9, 9)) := ⟨RX9, TX9, 37, "NodTaxModel", by decide, rfl, by decide, rfl, ginX9, mq_831, Or.inl rfl⟩
theorem fX9_185 : vFL RX9 185 8 33 ((vF 8).getD 33 (9, 9)) := ⟨RX9, TX9, 37, "NodTaxModel", by decide, rfl, by decide, rfl, ginX9, mq_832, Or.inl rfl⟩
theorem fX9_62 : vFL RX9 62 8 34 ((vF 8).getD 34 (9, 9)) := ⟨RX9, TX9, 37, "NodTaxModel", by decide, rfl, by decide, rfl, ginX9, mq_833, Or.inl rfl⟩
theorem fX9_65 : vFL RX9 65 8 35 ((vF 8).getD 35 (9, 9)) := ⟨RX9, TX9, 37, "NodTaxModel", by decide, rfl, by decide, rfl, ginX9, mq_834, Or.inl rfl⟩
theorem fX9_68 : vFL RX9 68 8 36 ((vF 8).getD 36 (9, 9)) := ⟨RX9, TX9, 37, "NodTaxModel", by decide, rfl, by decide, rfl, ginX9, mq_835, Or.inl rfl⟩
theorem fw_0_3 : vFW 0 3 .int := ⟨RX0, TX0, 7, tyX0, rfl, tyX0_ok, nmX0, rfl, by decide +kernel⟩
theorem fw_0_4 : vFW 0 4 .int := ⟨RX0, TX0, 7, tyX0, rfl, tyX0_ok, nmX0, rfl, by decide +kernel⟩
theorem fw_0_5 : vFW 0 5 .int := ⟨RX0, TX0, 7, tyX0, rfl, tyX0_ok, nmX0, rfl, by decide +kernel⟩
theorem fw_0_6 : vFW 0 6 .boolean := ⟨RX0, TX0, 7, tyX0, rfl, tyX0_ok, nmX0, rfl, by decide +kernel⟩
theorem fw_1_3 : vFW 1 3 .int := ⟨RX1, TX1, 6, tyX1, rfl, tyX1_ok, nmX1, rfl, by decide +kernel⟩
theorem fw_1_4 : vFW 1 4 .int := ⟨RX1, TX1, 6, tyX1, rfl, tyX1_ok, nmX1, rfl, by decide +kernel⟩
theorem fw_1_5 : vFW 1 5 .int := ⟨RX1, TX1, 6, tyX1, rfl, tyX1_ok, nmX1, rfl, by decide +kernel⟩
theorem fw_2_1 : vFW 2 1 .int := ⟨RX3, TX3, 2, tyX3, rfl, tyX3_ok, nmX3, rfl, by decide +kernel⟩
theorem fw_3_0 : vFW 3 0 .int := ⟨RX4, TX4, 13, tyX4, rfl, tyX4_ok, nmX4, rfl, by decide +kernel⟩
theorem fw_3_1 : vFW 3 1 .int := ⟨RX4, TX4, 13, tyX4, rfl, tyX4_ok, nmX4, rfl, by decide +kernel⟩
theorem fw_3_2 : vFW 3 2 .int := ⟨RX4, TX4, 13, tyX4, rfl, tyX4_ok, nmX4, rfl, by decide +kernel⟩
theorem fw_3_3 : vFW 3 3 .int := ⟨RX4, TX4, 13, tyX4, rfl, tyX4_ok, nmX4, rfl, by decide +kernel⟩
theorem fw_3_4 : vFW 3 4 .int := ⟨RX4, TX4, 13, tyX4, rfl, tyX4_ok, nmX4, rfl, by decide +kernel⟩
theorem fw_3_5 : vFW 3 5 .int := ⟨RX4, TX4, 13, tyX4, rfl, tyX4_ok, nmX4, rfl, by decide +kernel⟩
theorem fw_3_6 : vFW 3 6 .int := ⟨RX4, TX4, 13, tyX4, rfl, tyX4_ok, nmX4, rfl, by decide +kernel⟩
theorem fw_4_1 : vFW 4 1 .int := ⟨RX5, TX5, 3, tyX5, rfl, tyX5_ok, nmX5, rfl, by decide +kernel⟩
theorem fw_5_1 : vFW 5 1 .int := ⟨RX6, TX6, 13, tyX6, rfl, tyX6_ok, nmX6, rfl, by decide +kernel⟩
theorem fw_5_2 : vFW 5 2 .int := ⟨RX6, TX6, 13, tyX6, rfl, tyX6_ok, nmX6, rfl, by decide +kernel⟩
theorem fw_5_3 : vFW 5 3 .int := ⟨RX6, TX6, 13, tyX6, rfl, tyX6_ok, nmX6, rfl, by decide +kernel⟩
theorem fw_5_4 : vFW 5 4 .int := ⟨RX6, TX6, 13, tyX6, rfl, tyX6_ok, nmX6, rfl, by decide +kernel⟩
theorem fw_5_5 : vFW 5 5 .int := ⟨RX6, TX6, 13, tyX6, rfl, tyX6_ok, nmX6, rfl, by decide +kernel⟩
theorem fw_5_6 : vFW 5 6 .int := ⟨RX6, TX6, 13, tyX6, rfl, tyX6_ok, nmX6, rfl, by decide +kernel⟩
theorem fw_5_7 : vFW 5 7 .int := ⟨RX6, TX6, 13, tyX6, rfl, tyX6_ok, nmX6, rfl, by decide +kernel⟩
theorem fw_5_8 : vFW 5 8 .int := ⟨RX6, TX6, 13, tyX6, rfl, tyX6_ok, nmX6, rfl, by decide +kernel⟩
theorem fw_5_9 : vFW 5 9 .int := ⟨RX6, TX6, 13, tyX6, rfl, tyX6_ok, nmX6, rfl, by decide +kernel⟩
theorem fw_5_10 : vFW 5 10 .int := ⟨RX6, TX6, 13, tyX6, rfl, tyX6_ok, nmX6, rfl, by decide +kernel⟩
theorem fw_5_11 : vFW 5 11 .int := ⟨RX6, TX6, 13, tyX6, rfl, tyX6_ok, nmX6, rfl, by decide +kernel⟩
theorem fw_5_12 : vFW 5 12 .int := ⟨RX6, TX6, 13, tyX6, rfl, tyX6_ok, nmX6, rfl, by decide +kernel⟩
theorem fw_6_0 : vFW 6 0 .long := ⟨RX7, TX7, 4, tyX7, rfl, tyX7_ok, nmX7, rfl, by decide +kernel⟩
theorem fw_6_1 : vFW 6 1 .long := ⟨RX7, TX7, 4, tyX7, rfl, tyX7_ok, nmX7, rfl, by decide +kernel⟩
theorem fw_6_2 : vFW 6 2 .long := ⟨RX7, TX7, 4, tyX7, rfl, tyX7_ok, nmX7, rfl, by decide +kernel⟩
theorem fw_6_3 : vFW 6 3 .int := ⟨RX7, TX7, 4, tyX7, rfl, tyX7_ok, nmX7, rfl, by decide +kernel⟩
theorem fw_8_0 : vFW 8 0 .int := ⟨RX9, TX9, 37, tyX9, rfl, tyX9_ok, nmX9, rfl, by decide +kernel⟩
theorem fw_8_1 : vFW 8 1 .int := ⟨RX9, TX9, 37, tyX9, rfl, tyX9_ok, nmX9, rfl, by decide +kernel⟩
theorem fw_8_6 : vFW 8 6 .int := ⟨RX9, TX9, 37, tyX9, rfl, tyX9_ok, nmX9, rfl, by decide +kernel⟩
theorem fw_8_7 : vFW 8 7 .int := ⟨RX9, TX9, 37, tyX9, rfl, tyX9_ok, nmX9, rfl, by decide +kernel⟩
theorem fw_8_8 : vFW 8 8 .int := ⟨RX9, TX9, 37, tyX9, rfl, tyX9_ok, nmX9, rfl, by decide +kernel⟩
theorem fw_8_9 : vFW 8 9 .int := ⟨RX9, TX9, 37, tyX9, rfl, tyX9_ok, nmX9, rfl, by decide +kernel⟩
theorem fw_8_10 : vFW 8 10 .int := ⟨RX9, TX9, 37, tyX9, rfl, tyX9_ok, nmX9, rfl, by decide +kernel⟩
theorem fw_8_12 : vFW 8 12 .int := ⟨RX9, TX9, 37, tyX9, rfl, tyX9_ok, nmX9, rfl, by decide +kernel⟩
theorem fw_8_15 : vFW 8 15 .int := ⟨RX9, TX9, 37, tyX9, rfl, tyX9_ok, nmX9, rfl, by decide +kernel⟩
theorem fw_8_17 : vFW 8 17 .int := ⟨RX9, TX9, 37, tyX9, rfl, tyX9_ok, nmX9, rfl, by decide +kernel⟩
theorem fw_8_18 : vFW 8 18 .int := ⟨RX9, TX9, 37, tyX9, rfl, tyX9_ok, nmX9, rfl, by decide +kernel⟩
theorem fw_8_19 : vFW 8 19 .int := ⟨RX9, TX9, 37, tyX9, rfl, tyX9_ok, nmX9, rfl, by decide +kernel⟩
theorem fw_8_25 : vFW 8 25 .int := ⟨RX9, TX9, 37, tyX9, rfl, tyX9_ok, nmX9, rfl, by decide +kernel⟩
theorem fw_8_26 : vFW 8 26 .int := ⟨RX9, TX9, 37, tyX9, rfl, tyX9_ok, nmX9, rfl, by decide +kernel⟩
theorem fw_8_27 : vFW 8 27 .int := ⟨RX9, TX9, 37, tyX9, rfl, tyX9_ok, nmX9, rfl, by decide +kernel⟩
theorem fw_8_28 : vFW 8 28 .int := ⟨RX9, TX9, 37, tyX9, rfl, tyX9_ok, nmX9, rfl, by decide +kernel⟩
theorem fw_8_29 : vFW 8 29 .int := ⟨RX9, TX9, 37, tyX9, rfl, tyX9_ok, nmX9, rfl, by decide +kernel⟩
theorem fw_8_30 : vFW 8 30 .int := ⟨RX9, TX9, 37, tyX9, rfl, tyX9_ok, nmX9, rfl, by decide +kernel⟩
theorem fw_8_31 : vFW 8 31 .int := ⟨RX9, TX9, 37, tyX9, rfl, tyX9_ok, nmX9, rfl, by decide +kernel⟩
theorem fw_8_33 : vFW 8 33 .int := ⟨RX9, TX9, 37, tyX9, rfl, tyX9_ok, nmX9, rfl, by decide +kernel⟩
theorem mL_13 : vMV RL 13 7 yX8_church cX8_church 3 (some .int) 1 := ⟨mq_351, mq_352, mq_353, mq_45, mq_354, ⟨by decide +kernel, by decide +kernel, by decide +kernel⟩, by decide +kernel, by decide, by decide, rfl⟩
theorem mX8_73 : vMS RX8 73 yX8_isOutside cX8_isOutside 3 (some .boolean) 3 := ⟨mq_355, mq_356, mq_45, mq_357, ⟨by decide +kernel, by decide +kernel, by decide +kernel⟩, by decide +kernel, by decide⟩
theorem mX8_81 : vMV RX8 81 3 yX4_rebuild cX4_rebuild 2 none 1 := ⟨mq_358, mq_359, mq_360, mq_46, mq_361, ⟨by decide +kernel, by decide +kernel, by decide +kernel⟩, by decide +kernel, by decide, by decide, rfl⟩
theorem mL_18 : vMV RL 18 7 yX8_hearer cX8_hearer 8 (some .int) 6 := ⟨mq_362, mq_363, mq_364, mq_45, mq_365, ⟨by decide +kernel, by decide +kernel, by decide +kernel⟩, by decide +kernel, by decide, by decide, rfl⟩
theorem mX8_85 : vMV RX8 85 3 yX4_seats cX4_seats 1 (some .int) 0 := ⟨mq_366, mq_367, mq_368, mq_46, mq_369, ⟨by decide +kernel, by decide +kernel, by decide +kernel⟩, by decide +kernel, by decide, by decide, rfl⟩
theorem mX8_89 : vMV RX8 89 3 yX4_sitterAt cX4_sitterAt 3 (some .int) 1 := ⟨mq_370, mq_371, mq_372, mq_46, mq_373, ⟨by decide +kernel, by decide +kernel, by decide +kernel⟩, by decide +kernel, by decide, by decide, rfl⟩
theorem mX4_64 : vMV RX4 64 3 yX4_isThere cX4_isThere 2 (some .boolean) 1 := ⟨mq_374, mq_375, mq_376, mq_46, mq_377, ⟨by decide +kernel, by decide +kernel, by decide +kernel⟩, by decide +kernel, by decide, by decide, rfl⟩
theorem mX8_112 : vMV RX8 112 3 yX4_howMany cX4_howMany 1 (some .int) 0 := ⟨mq_378, mq_379, mq_380, mq_46, mq_381, ⟨by decide +kernel, by decide +kernel, by decide +kernel⟩, by decide +kernel, by decide, by decide, rfl⟩
theorem mX4_58 : vMS RX4 58 yJ6_bitCount_0f7a4 cJ6_bitCount_0f7a4 1 (some .int) 1 := ⟨mq_382, mq_383, mq_55, mq_384, ⟨by decide +kernel, by decide +kernel, by decide +kernel⟩, by decide +kernel, by decide⟩
theorem mL_23 : vMV RL 23 7 yX8_leave cX8_leave 2 (some .int) 1 := ⟨mq_388, mq_389, mq_390, mq_45, mq_391, ⟨by decide +kernel, by decide +kernel, by decide +kernel⟩, by decide +kernel, by decide, by decide, rfl⟩
theorem mX8_115 : vMV RX8 115 3 yX4_isThere cX4_isThere 2 (some .boolean) 1 := ⟨mq_392, mq_375, mq_376, mq_46, mq_377, ⟨by decide +kernel, by decide +kernel, by decide +kernel⟩, by decide +kernel, by decide, by decide, rfl⟩
theorem mL_27 : vMV RL 27 7 yX8_set cX8_set 3 (some .int) 2 := ⟨mq_393, mq_394, mq_395, mq_45, mq_396, ⟨by decide +kernel, by decide +kernel, by decide +kernel⟩, by decide +kernel, by decide, by decide, rfl⟩
theorem mX8_119 : vMV RX8 119 3 yX4_changeReach cX4_changeReach 3 (some .int) 1 := ⟨mq_397, mq_398, mq_399, mq_46, mq_400, ⟨by decide +kernel, by decide +kernel, by decide +kernel⟩, by decide +kernel, by decide, by decide, rfl⟩
theorem mX8_122 : vMV RX8 122 3 yX4_changeRate cX4_changeRate 3 (some .int) 1 := ⟨mq_401, mq_402, mq_403, mq_46, mq_404, ⟨by decide +kernel, by decide +kernel, by decide +kernel⟩, by decide +kernel, by decide, by decide, rfl⟩
theorem mX8_125 : vMV RX8 125 3 yX4_changeInspector cX4_changeInspector 3 (some .int) 1 := ⟨mq_405, mq_406, mq_407, mq_46, mq_408, ⟨by decide +kernel, by decide +kernel, by decide +kernel⟩, by decide +kernel, by decide, by decide, rfl⟩
theorem mL_32 : vMV RL 32 7 yX8_say cX8_say 2 (some .int) 1 := ⟨mq_409, mq_410, mq_411, mq_45, mq_412, ⟨by decide +kernel, by decide +kernel, by decide +kernel⟩, by decide +kernel, by decide, by decide, rfl⟩
theorem mL_36 : vMV RL 36 7 yX8_wipe cX8_wipe 2 (some .int) 0 := ⟨mq_413, mq_414, mq_415, mq_45, mq_416, ⟨by decide +kernel, by decide +kernel, by decide +kernel⟩, by decide +kernel, by decide, by decide, rfl⟩
theorem mL_41 : vMV RL 41 7 yX8_fault cX8_fault 1 (some .int) 0 := ⟨mq_417, mq_418, mq_419, mq_45, mq_420, ⟨by decide +kernel, by decide +kernel, by decide +kernel⟩, by decide +kernel, by decide, by decide, rfl⟩
theorem mX8_134 : vMV RX8 134 2 yX3_firstFault cX3_firstFault 2 (some .int) 0 := ⟨mq_421, mq_422, mq_423, mq_47, mq_424, ⟨by decide +kernel, by decide +kernel, by decide +kernel⟩, by decide +kernel, by decide, by decide, rfl⟩
theorem mX3_19 : vMS RX3 19 yX3_kindOf cX3_kindOf 2 (some .int) 1 := ⟨mq_425, mq_426, mq_47, mq_427, ⟨by decide +kernel, by decide +kernel, by decide +kernel⟩, by decide +kernel, by decide⟩
theorem mL_45 : vMV RL 45 7 yX8_heard cX8_heard 5 (some .int) 3 := ⟨mq_430, mq_431, mq_432, mq_45, mq_433, ⟨by decide +kernel, by decide +kernel, by decide +kernel⟩, by decide +kernel, by decide, by decide, rfl⟩
theorem mX8_137 : vMV RX8 137 2 yX3_hasFault cX3_hasFault 1 (some .boolean) 0 := ⟨mq_434, mq_435, mq_436, mq_47, mq_437, ⟨by decide +kernel, by decide +kernel, by decide +kernel⟩, by decide +kernel, by decide, by decide, rfl⟩
theorem mX3_23 : vMV RX3 23 2 yX3_firstFault cX3_firstFault 2 (some .int) 0 := ⟨mq_438, mq_422, mq_423, mq_47, mq_424, ⟨by decide +kernel, by decide +kernel, by decide +kernel⟩, by decide +kernel, by decide, by decide, rfl⟩
theorem mX8_141 : vMV RX8 141 7 yX8_goneThrough cX8_goneThrough 3 (some (.object "NodTax$Walk")) 1 := ⟨mq_439, mq_441, mq_0, mq_45, mq_442, ⟨by decide +kernel, by decide +kernel, by decide +kernel⟩, by decide +kernel, by decide, by decide, rfl⟩
theorem mX8_287 : vMV RX8 287 5 yX6_begin cX6_begin 2 none 1 := ⟨mq_443, mq_444, mq_445, mq_53, mq_446, ⟨by decide +kernel, by decide +kernel, by decide +kernel⟩, by decide +kernel, by decide, by decide, rfl⟩
theorem mX6_57 : Cond.methodLink RX6 57 arraycopyName ∈ lw_tbl := mq_447
theorem mX8_290 : vMV RX8 290 5 yX6_passAll cX6_passAll 6 none 4 := ⟨mq_450, mq_451, mq_452, mq_53, mq_453, ⟨by decide +kernel, by decide +kernel, by decide +kernel⟩, by decide +kernel, by decide, by decide, rfl⟩
theorem mX6_68 : vMV RX6 68 5 yX6_pass cX6_pass 5 none 3 := ⟨mq_454, mq_455, mq_456, mq_53, mq_457, ⟨by decide +kernel, by decide +kernel, by decide +kernel⟩, by decide +kernel, by decide, by decide, rfl⟩
theorem mX6_72 : vMV RX6 72 3 yX4_named cX4_named 5 (some .int) 1 := ⟨mq_458, mq_459, mq_460, mq_46, mq_461, ⟨by decide +kernel, by decide +kernel, by decide +kernel⟩, by decide +kernel, by decide, by decide, rfl⟩
theorem mX6_76 : vMV RX6 76 5 yX6_changeLevels cX6_changeLevels 8 none 4 := ⟨mq_462, mq_464, mq_1, mq_53, mq_465, ⟨by decide +kernel, by decide +kernel, by decide +kernel⟩, by decide +kernel, by decide, by decide, rfl⟩
theorem mX6_91 : vMS RX6 91 yX6_forAll cX6_forAll 1 (some .int) 1 := ⟨mq_466, mq_467, mq_53, mq_468, ⟨by decide +kernel, by decide +kernel, by decide +kernel⟩, by decide +kernel, by decide⟩
theorem mX6_94 : vMV RX6 94 3 yX4_isThere cX4_isThere 2 (some .boolean) 1 := ⟨mq_469, mq_375, mq_376, mq_46, mq_377, ⟨by decide +kernel, by decide +kernel, by decide +kernel⟩, by decide +kernel, by decide, by decide, rfl⟩
theorem mX6_101 : vMV RX6 101 5 yX6_startled cX6_startled 4 (some .int) 2 := ⟨mq_470, mq_472, mq_2, mq_53, mq_473, ⟨by decide +kernel, by decide +kernel, by decide +kernel⟩, by decide +kernel, by decide, by decide, rfl⟩
theorem mX6_105 : Cond.methodLink RX6 105 Lib.Math.max.name ∈ lw_tbl := mq_474
theorem mX6_111 : Cond.methodLink RX6 111 Lib.Math.min.name ∈ lw_tbl := mq_477
theorem mX6_80 : vMV RX6 80 5 yX6_findHeads cX6_findHeads 5 none 2 := ⟨mq_480, mq_482, mq_3, mq_53, mq_483, ⟨by decide +kernel, by decide +kernel, by decide +kernel⟩, by decide +kernel, by decide, by decide, rfl⟩
theorem mX6_120 : vMV RX6 120 3 yX4_isUpright cX4_isUpright 2 (some .boolean) 1 := ⟨mq_484, mq_485, mq_486, mq_46, mq_487, ⟨by decide +kernel, by decide +kernel, by decide +kernel⟩, by decide +kernel, by decide, by decide, rfl⟩
theorem mX6_126 : vMS RX6 126 yX6_rightOf cX6_rightOf 1 (some .int) 1 := ⟨mq_488, mq_489, mq_53, mq_490, ⟨by decide +kernel, by decide +kernel, by decide +kernel⟩, by decide +kernel, by decide⟩
theorem mX6_129 : vMS RX6 129 yX6_leftOf cX6_leftOf 1 (some .int) 1 := ⟨mq_491, mq_492, mq_53, mq_493, ⟨by decide +kernel, by decide +kernel, by decide +kernel⟩, by decide +kernel, by decide⟩
theorem mX6_84 : vMV RX6 84 5 yX6_elbow cX6_elbow 5 none 1 := ⟨mq_494, mq_496, mq_4, mq_53, mq_497, ⟨by decide +kernel, by decide +kernel, by decide +kernel⟩, by decide +kernel, by decide, by decide, rfl⟩
theorem mX6_88 : vMV RX6 88 5 yX6_count cX6_count 7 none 2 := ⟨mq_498, mq_500, mq_5, mq_53, mq_501, ⟨by decide +kernel, by decide +kernel, by decide +kernel⟩, by decide +kernel, by decide, by decide, rfl⟩
theorem mX6_135 : vMV RX6 135 5 yX6_dipping cX6_dipping 1 (some .int) 0 := ⟨mq_502, mq_503, mq_504, mq_53, mq_505, ⟨by decide +kernel, by decide +kernel, by decide +kernel⟩, by decide +kernel, by decide, by decide, rfl⟩
theorem mX6_139 : vMS RX6 139 yJ6_bitCount_0f7a4 cJ6_bitCount_0f7a4 1 (some .int) 1 := ⟨mq_506, mq_383, mq_55, mq_384, ⟨by decide +kernel, by decide +kernel, by decide +kernel⟩, by decide +kernel, by decide⟩
theorem mX8_148 : vMV RX8 148 5 yX6_didHe cX6_didHe 4 (some .int) 2 := ⟨mq_507, mq_508, mq_509, mq_53, mq_510, ⟨by decide +kernel, by decide +kernel, by decide +kernel⟩, by decide +kernel, by decide, by decide, rfl⟩
theorem mL_50 : vMV RL 50 7 yX8_sum cX8_sum 3 (some .int) 2 := ⟨mq_511, mq_512, mq_513, mq_45, mq_514, ⟨by decide +kernel, by decide +kernel, by decide +kernel⟩, by decide +kernel, by decide, by decide, rfl⟩
theorem mX8_152 : vMV RX8 152 5 yX6_total cX6_total 2 (some .int) 1 := ⟨mq_515, mq_516, mq_517, mq_53, mq_518, ⟨by decide +kernel, by decide +kernel, by decide +kernel⟩, by decide +kernel, by decide, by decide, rfl⟩
theorem mL_54 : vMV RL 54 7 yX8_first cX8_first 4 (some .int) 1 := ⟨mq_519, mq_520, mq_521, mq_45, mq_522, ⟨by decide +kernel, by decide +kernel, by decide +kernel⟩, by decide +kernel, by decide, by decide, rfl⟩
theorem mX8_155 : vMV RX8 155 5 yX6_pass cX6_pass 5 none 3 := ⟨mq_523, mq_455, mq_456, mq_53, mq_457, ⟨by decide +kernel, by decide +kernel, by decide +kernel⟩, by decide +kernel, by decide, by decide, rfl⟩
theorem mL_58 : vMV RL 58 7 yX8_gain cX8_gain 1 (some .int) 0 := ⟨mq_524, mq_525, mq_526, mq_45, mq_527, ⟨by decide +kernel, by decide +kernel, by decide +kernel⟩, by decide +kernel, by decide, by decide, rfl⟩
theorem mX8_165 : vMV RX8 165 5 yX6_gained cX6_gained 1 (some .int) 0 := ⟨mq_528, mq_529, mq_530, mq_53, mq_531, ⟨by decide +kernel, by decide +kernel, by decide +kernel⟩, by decide +kernel, by decide, by decide, rfl⟩
theorem mL_62 : vMV RL 62 7 yX8_order cX8_order 3 (some .int) 2 := ⟨mq_532, mq_533, mq_534, mq_45, mq_535, ⟨by decide +kernel, by decide +kernel, by decide +kernel⟩, by decide +kernel, by decide, by decide, rfl⟩
theorem mX8_168 : vMV RX8 168 0 yX0_aimAt cX0_aimAt 2 none 1 := ⟨mq_536, mq_537, mq_538, mq_49, mq_539, ⟨by decide +kernel, by decide +kernel, by decide +kernel⟩, by decide +kernel, by decide, by decide, rfl⟩
theorem mX8_172_0 : vMU RX8 172 0 RX0 RX2 ⟨RX0, "goThrough", "(LNodTax$Parish;LNodTax$Pad;[LNodTax$Walk;)V"⟩ yX2_goThrough cX2_goThrough 6 none 3 := ⟨mq_541, mq_542, mq_544, mq_545, mq_48, mq_546, ⟨by decide +kernel, by decide +kernel, by decide +kernel⟩, by decide +kernel, by decide, by decide, rfl, Or.inl rfl⟩
theorem mX2_28 : Cond.methodLink RX2 28 Lib.Math.min.name ∈ lw_tbl := mq_547
theorem mX2_37 : vMS RX2 37 yX3_kindOf cX3_kindOf 2 (some .int) 1 := ⟨mq_548, mq_426, mq_47, mq_427, ⟨by decide +kernel, by decide +kernel, by decide +kernel⟩, by decide +kernel, by decide⟩
theorem mX2_41 : vMV RX2 41 5 yX6_begin cX6_begin 2 none 1 := ⟨mq_549, mq_444, mq_445, mq_53, mq_446, ⟨by decide +kernel, by decide +kernel, by decide +kernel⟩, by decide +kernel, by decide, by decide, rfl⟩
theorem mX2_51_0 : vMU RX2 51 0 RX0 RX2 ⟨RX2, "arrive", "(LNodTax$Walk;)V"⟩ yX0_arrive cX0_arrive 2 none 1 := ⟨mq_554, mq_556, mq_557, mq_558, mq_49, mq_559, ⟨by decide +kernel, by decide +kernel, by decide +kernel⟩, by decide +kernel, by decide, by decide, rfl, Or.inr mq_555⟩
theorem mX2_51_1 : vMU RX2 51 1 RX1 RX2 ⟨RX2, "arrive", "(LNodTax$Walk;)V"⟩ yX1_arrive cX1_arrive 3 none 1 := ⟨mq_554, mq_556, mq_572, mq_573, mq_50, mq_574, ⟨by decide +kernel, by decide +kernel, by decide +kernel⟩, by decide +kernel, by decide, by decide, rfl, Or.inr mq_555⟩
theorem mX0_31 : vMV RX0 31 0 yX0_loss cX0_loss 2 (some .int) 1 := ⟨mq_560, mq_562, mq_6, mq_49, mq_563, ⟨by decide +kernel, by decide +kernel, by decide +kernel⟩, by decide +kernel, by decide, by decide, rfl⟩
theorem mX0_35 : vMV RX0 35 5 yX6_gained cX6_gained 1 (some .int) 0 := ⟨mq_564, mq_529, mq_530, mq_53, mq_531, ⟨by decide +kernel, by decide +kernel, by decide +kernel⟩, by decide +kernel, by decide, by decide, rfl⟩
theorem mX0_39_0 : vMU RX0 39 0 RX0 RX2 ⟨RX0, "keepAsFirst", "()V"⟩ yX2_keepAsFirst cX2_keepAsFirst 1 none 0 := ⟨mq_565, mq_566, mq_568, mq_569, mq_48, mq_570, ⟨by decide +kernel, by decide +kernel, by decide +kernel⟩, by decide +kernel, by decide, by decide, rfl, Or.inl rfl⟩
theorem mX2_70 : Cond.methodLink RX2 70 arraycopyName ∈ lw_tbl := mq_571
theorem mX1_55_1 : vMU RX1 55 1 RX1 RX2 ⟨RX1, "keepAsFirst", "()V"⟩ yX2_keepAsFirst cX2_keepAsFirst 1 none 0 := ⟨mq_575, mq_576, mq_577, mq_569, mq_48, mq_570, ⟨by decide +kernel, by decide +kernel, by decide +kernel⟩, by decide +kernel, by decide, by decide, rfl, Or.inl rfl⟩
theorem mX2_59 : vMV RX2 59 5 yX6_become cX6_become 2 none 1 := ⟨mq_579, mq_580, mq_581, mq_53, mq_582, ⟨by decide +kernel, by decide +kernel, by decide +kernel⟩, by decide +kernel, by decide, by decide, rfl⟩
theorem mX2_62 : vMV RX2 62 5 yX6_pass cX6_pass 5 none 3 := ⟨mq_583, mq_455, mq_456, mq_53, mq_457, ⟨by decide +kernel, by decide +kernel, by decide +kernel⟩, by decide +kernel, by decide, by decide, rfl⟩
theorem mX2_66_0 : vMU RX2 66 0 RX0 RX2 ⟨RX2, "mayGoOn", "(LNodTax$Parish;LNodTax$Walk;I)Z"⟩ yX0_mayGoOn cX0_mayGoOn 4 (some .boolean) 3 := ⟨mq_584, mq_586, mq_587, mq_588, mq_49, mq_589, ⟨by decide +kernel, by decide +kernel, by decide +kernel⟩, by decide +kernel, by decide, by decide, rfl, Or.inr mq_585⟩
theorem mX2_66_1 : vMU RX2 66 1 RX1 RX2 ⟨RX2, "mayGoOn", "(LNodTax$Parish;LNodTax$Walk;I)Z"⟩ yX1_mayGoOn cX1_mayGoOn 5 (some .boolean) 3 := ⟨mq_584, mq_586, mq_590, mq_591, mq_50, mq_592, ⟨by decide +kernel, by decide +kernel, by decide +kernel⟩, by decide +kernel, by decide, by decide, rfl, Or.inr mq_585⟩
theorem mX1_43 : vMV RX1 43 5 yX6_dipping cX6_dipping 1 (some .int) 0 := ⟨mq_593, mq_503, mq_504, mq_53, mq_505, ⟨by decide +kernel, by decide +kernel, by decide +kernel⟩, by decide +kernel, by decide, by decide, rfl⟩
theorem mX1_49 : vMS RX1 49 yJ6_bitCount_0f7a4 cJ6_bitCount_0f7a4 1 (some .int) 1 := ⟨mq_594, mq_383, mq_55, mq_384, ⟨by decide +kernel, by decide +kernel, by decide +kernel⟩, by decide +kernel, by decide⟩
theorem mX8_179 : vMV RX8 179 0 yX0_signOfBest cX0_signOfBest 2 (some .int) 1 := ⟨mq_595, mq_596, mq_597, mq_49, mq_598, ⟨by decide +kernel, by decide +kernel, by decide +kernel⟩, by decide +kernel, by decide, by decide, rfl⟩
theorem mL_66 : vMV RL 66 7 yX8_start cX8_start 2 (some .int) 1 := ⟨mq_599, mq_600, mq_601, mq_45, mq_602, ⟨by decide +kernel, by decide +kernel, by decide +kernel⟩, by decide +kernel, by decide, by decide, rfl⟩
theorem mX8_182 : vMV RX8 182 7 yX8_bestStart cX8_bestStart 7 (some .int) 1 := ⟨mq_603, mq_605, mq_7, mq_45, mq_606, ⟨by decide +kernel, by decide +kernel, by decide +kernel⟩, by decide +kernel, by decide, by decide, rfl⟩
theorem mX8_297 : vMV RX8 297 5 yX6_become cX6_become 2 none 1 := ⟨mq_607, mq_580, mq_581, mq_53, mq_582, ⟨by decide +kernel, by decide +kernel, by decide +kernel⟩, by decide +kernel, by decide, by decide, rfl⟩
theorem mX8_300 : Cond.methodLink RX8 300 Lib.Math.min.name ∈ lw_tbl := mq_608
theorem mL_70 : vMV RL 70 7 yX8_seated cX8_seated 2 (some .int) 1 := ⟨mq_609, mq_610, mq_611, mq_45, mq_612, ⟨by decide +kernel, by decide +kernel, by decide +kernel⟩, by decide +kernel, by decide, by decide, rfl⟩
theorem mX8_186 : vMV RX8 186 7 yX8_bestChange cX8_bestChange 7 (some .int) 1 := ⟨mq_613, mq_615, mq_8, mq_45, mq_616, ⟨by decide +kernel, by decide +kernel, by decide +kernel⟩, by decide +kernel, by decide, by decide, rfl⟩
theorem mX8_308 : vMV RX8 308 7 yX8_isNewChange cX8_isNewChange 4 (some .boolean) 2 := ⟨mq_617, mq_619, mq_9, mq_45, mq_620, ⟨by decide +kernel, by decide +kernel, by decide +kernel⟩, by decide +kernel, by decide, by decide, rfl⟩
theorem mX8_312 : vMV RX8 312 7 yX8_nodsWhenChanged cX8_nodsWhenChanged 5 (some .int) 2 := ⟨mq_621, mq_623, mq_10, mq_45, mq_624, ⟨by decide +kernel, by decide +kernel, by decide +kernel⟩, by decide +kernel, by decide, by decide, rfl⟩
theorem mX8_272 : vMV RX8 272 3 yX4_become cX4_become 2 none 1 := ⟨mq_625, mq_626, mq_627, mq_46, mq_628, ⟨by decide +kernel, by decide +kernel, by decide +kernel⟩, by decide +kernel, by decide, by decide, rfl⟩
theorem mX4_52 : Cond.methodLink RX4 52 arraycopyName ∈ lw_tbl := mq_629
theorem mL_74 : vMV RL 74 7 yX8_hired cX8_hired 4 (some .int) 2 := ⟨mq_630, mq_631, mq_632, mq_45, mq_633, ⟨by decide +kernel, by decide +kernel, by decide +kernel⟩, by decide +kernel, by decide, by decide, rfl⟩
theorem mX8_189 : vMV RX8 189 7 yX8_fewestUprights cX8_fewestUprights 5 (some .int) 1 := ⟨mq_634, mq_636, mq_11, mq_45, mq_637, ⟨by decide +kernel, by decide +kernel, by decide +kernel⟩, by decide +kernel, by decide, by decide, rfl⟩
theorem mX8_192 : vMS RX8 192 yJ6_bitCount_0f7a4 cJ6_bitCount_0f7a4 1 (some .int) 1 := ⟨mq_638, mq_383, mq_55, mq_384, ⟨by decide +kernel, by decide +kernel, by decide +kernel⟩, by decide +kernel, by decide⟩
theorem mX8_315 : vMV RX8 315 7 yX8_isTrialTaxWithin cX8_isTrialTaxWithin 4 (some .boolean) 1 := ⟨mq_639, mq_641, mq_12, mq_45, mq_642, ⟨by decide +kernel, by decide +kernel, by decide +kernel⟩, by decide +kernel, by decide, by decide, rfl⟩
theorem mL_78 : vMV RL 78 7 yX8_least cX8_least 1 (some .int) 0 := ⟨mq_643, mq_644, mq_645, mq_45, mq_646, ⟨by decide +kernel, by decide +kernel, by decide +kernel⟩, by decide +kernel, by decide, by decide, rfl⟩
theorem mX8_197 : vMV RX8 197 7 yX8_rateAgainstHell cX8_rateAgainstHell 7 (some .int) 0 := ⟨mq_647, mq_649, mq_13, mq_45, mq_650, ⟨by decide +kernel, by decide +kernel, by decide +kernel⟩, by decide +kernel, by decide, by decide, rfl⟩
theorem mL_82 : vMV RL 82 7 yX8_seen cX8_seen 3 (some .int) 2 := ⟨mq_651, mq_652, mq_653, mq_45, mq_654, ⟨by decide +kernel, by decide +kernel, by decide +kernel⟩, by decide +kernel, by decide, by decide, rfl⟩
theorem mX8_203 : vMV RX8 203 3 yX4_addSight cX4_addSight 3 (some .int) 2 := ⟨mq_655, mq_656, mq_657, mq_46, mq_658, ⟨by decide +kernel, by decide +kernel, by decide +kernel⟩, by decide +kernel, by decide, by decide, rfl⟩
theorem mL_86 : vMV RL 86 7 yX8_forget cX8_forget 2 (some .int) 0 := ⟨mq_659, mq_660, mq_661, mq_45, mq_662, ⟨by decide +kernel, by decide +kernel, by decide +kernel⟩, by decide +kernel, by decide, by decide, rfl⟩
theorem mL_90 : vMV RL 90 7 yX8_preached cX8_preached 3 (some .int) 1 := ⟨mq_663, mq_664, mq_665, mq_45, mq_666, ⟨by decide +kernel, by decide +kernel, by decide +kernel⟩, by decide +kernel, by decide, by decide, rfl⟩
theorem mX8_206 : vMV RX8 206 7 yX8_preachedRefusal cX8_preachedRefusal 1 (some .int) 0 := ⟨mq_667, mq_669, mq_14, mq_45, mq_670, ⟨by decide +kernel, by decide +kernel, by decide +kernel⟩, by decide +kernel, by decide, by decide, rfl⟩
theorem mX8_209 : vMV RX8 209 1 yX1_find cX1_find 4 none 3 := ⟨mq_671, mq_672, mq_673, mq_50, mq_674, ⟨by decide +kernel, by decide +kernel, by decide +kernel⟩, by decide +kernel, by decide, by decide, rfl⟩
theorem mX1_18 : vMS RX1 18 yX1_areMinutesThere cX1_areMinutesThere 3 (some .boolean) 2 := ⟨mq_675, mq_676, mq_50, mq_677, ⟨by decide +kernel, by decide +kernel, by decide +kernel⟩, by decide +kernel, by decide⟩
theorem mX1_22_1 : vMU RX1 22 1 RX1 RX2 ⟨RX1, "goThrough", "(LNodTax$Parish;LNodTax$Pad;[LNodTax$Walk;)V"⟩ yX2_goThrough cX2_goThrough 6 none 3 := ⟨mq_678, mq_679, mq_680, mq_545, mq_48, mq_546, ⟨by decide +kernel, by decide +kernel, by decide +kernel⟩, by decide +kernel, by decide, by decide, rfl, Or.inl rfl⟩
theorem mX8_215 : vMV RX8 215 1 yX1_signOfFirst cX1_signOfFirst 2 (some .int) 1 := ⟨mq_681, mq_682, mq_683, mq_50, mq_684, ⟨by decide +kernel, by decide +kernel, by decide +kernel⟩, by decide +kernel, by decide, by decide, rfl⟩
theorem mL_94 : vMV RL 94 7 yX8_surely cX8_surely 2 (some .int) 0 := ⟨mq_685, mq_686, mq_687, mq_45, mq_688, ⟨by decide +kernel, by decide +kernel, by decide +kernel⟩, by decide +kernel, by decide, by decide, rfl⟩
theorem mL_98 : vMV RL 98 7 yX8_dips cX8_dips 3 (some .int) 2 := ⟨mq_689, mq_690, mq_691, mq_45, mq_692, ⟨by decide +kernel, by decide +kernel, by decide +kernel⟩, by decide +kernel, by decide, by decide, rfl⟩
theorem mX8_221 : vMV RX8 221 7 yX8_dipBits cX8_dipBits 7 (some .int) 2 := ⟨mq_693, mq_695, mq_15, mq_45, mq_696, ⟨by decide +kernel, by decide +kernel, by decide +kernel⟩, by decide +kernel, by decide, by decide, rfl⟩
theorem mX8_327 : vMV RX8 327 5 yX6_dipping cX6_dipping 1 (some .int) 0 := ⟨mq_697, mq_503, mq_504, mq_53, mq_505, ⟨by decide +kernel, by decide +kernel, by decide +kernel⟩, by decide +kernel, by decide, by decide, rfl⟩
theorem mL_102 : vMV RL 102 7 yX8_alike cX8_alike 2 (some .int) 1 := ⟨mq_698, mq_699, mq_700, mq_45, mq_701, ⟨by decide +kernel, by decide +kernel, by decide +kernel⟩, by decide +kernel, by decide, by decide, rfl⟩
theorem mX8_225 : vMV RX8 225 7 yX8_fillDipRows cX8_fillDipRows 4 none 0 := ⟨mq_702, mq_704, mq_16, mq_45, mq_705, ⟨by decide +kernel, by decide +kernel, by decide +kernel⟩, by decide +kernel, by decide, by decide, rfl⟩
theorem mX8_228 : vMV RX8 228 7 yX8_pairsAlike cX8_pairsAlike 4 (some .int) 0 := ⟨mq_706, mq_708, mq_17, mq_45, mq_709, ⟨by decide +kernel, by decide +kernel, by decide +kernel⟩, by decide +kernel, by decide, by decide, rfl⟩
theorem mX8_330 : vMV RX8 330 7 yX8_areAlike cX8_areAlike 3 (some .boolean) 2 := ⟨mq_710, mq_712, mq_18, mq_45, mq_713, ⟨by decide +kernel, by decide +kernel, by decide +kernel⟩, by decide +kernel, by decide, by decide, rfl⟩
theorem mX8_231 : vMV RX8 231 7 yX8_pairAlike cX8_pairAlike 5 (some .int) 1 := ⟨mq_714, mq_716, mq_19, mq_45, mq_717, ⟨by decide +kernel, by decide +kernel, by decide +kernel⟩, by decide +kernel, by decide, by decide, rfl⟩
theorem mL_106 : vMV RL 106 7 yX8_parishes cX8_parishes 2 (some .int) 1 := ⟨mq_718, mq_719, mq_720, mq_45, mq_721, ⟨by decide +kernel, by decide +kernel, by decide +kernel⟩, by decide +kernel, by decide, by decide, rfl⟩
theorem mX8_234 : vMV RX8 234 4 yX5_settle cX5_settle 3 none 1 := ⟨mq_722, mq_723, mq_724, mq_52, mq_725, ⟨by decide +kernel, by decide +kernel, by decide +kernel⟩, by decide +kernel, by decide, by decide, rfl⟩
theorem mX5_22 : vMV RX5 22 3 yX4_howMany cX4_howMany 1 (some .int) 0 := ⟨mq_726, mq_379, mq_380, mq_46, mq_381, ⟨by decide +kernel, by decide +kernel, by decide +kernel⟩, by decide +kernel, by decide, by decide, rfl⟩
theorem mX5_28 : vMV RX5 28 4 yX5_doesAnybodyGo cX5_doesAnybodyGo 5 (some .boolean) 1 := ⟨mq_727, mq_729, mq_20, mq_52, mq_730, ⟨by decide +kernel, by decide +kernel, by decide +kernel⟩, by decide +kernel, by decide, by decide, rfl⟩
theorem mX5_32 : vMV RX5 32 3 yX4_isThere cX4_isThere 2 (some .boolean) 1 := ⟨mq_731, mq_375, mq_376, mq_46, mq_377, ⟨by decide +kernel, by decide +kernel, by decide +kernel⟩, by decide +kernel, by decide, by decide, rfl⟩
theorem mX5_39 : vMV RX5 39 4 yX5_bestChurch cX5_bestChurch 5 (some .int) 2 := ⟨mq_732, mq_734, mq_21, mq_52, mq_735, ⟨by decide +kernel, by decide +kernel, by decide +kernel⟩, by decide +kernel, by decide, by decide, rfl⟩
theorem mX5_43 : vMV RX5 43 4 yX5_liking cX5_liking 6 (some .int) 3 := ⟨mq_736, mq_738, mq_22, mq_52, mq_739, ⟨by decide +kernel, by decide +kernel, by decide +kernel⟩, by decide +kernel, by decide, by decide, rfl⟩
theorem mL_110 : vMV RL 110 7 yX8_cold cX8_cold 4 (some .long) 3 := ⟨mq_740, mq_741, mq_742, mq_45, mq_743, ⟨by decide +kernel, by decide +kernel, by decide +kernel⟩, by decide +kernel, by decide, by decide, rfl⟩
theorem mX8_250 : vMV RX8 250 6 yX7_weigh cX7_weigh 6 none 4 := ⟨mq_747, mq_748, mq_749, mq_51, mq_750, ⟨by decide +kernel, by decide +kernel, by decide +kernel⟩, by decide +kernel, by decide, by decide, rfl⟩
theorem mX7_32 : vMV RX7 32 5 yX6_begin cX6_begin 2 none 1 := ⟨mq_752, mq_444, mq_445, mq_53, mq_446, ⟨by decide +kernel, by decide +kernel, by decide +kernel⟩, by decide +kernel, by decide, by decide, rfl⟩
theorem mX7_38 : vMV RX7 38 6 yX7_goOn cX7_goOn 9 none 5 := ⟨mq_753, mq_755, mq_23, mq_51, mq_756, ⟨by decide +kernel, by decide +kernel, by decide +kernel⟩, by decide +kernel, by decide, by decide, rfl⟩
theorem mX7_45 : vMV RX7 45 5 yX6_become cX6_become 2 none 1 := ⟨mq_757, mq_580, mq_581, mq_53, mq_582, ⟨by decide +kernel, by decide +kernel, by decide +kernel⟩, by decide +kernel, by decide, by decide, rfl⟩
theorem mX7_53 : vMV RX7 53 5 yX6_pass cX6_pass 5 none 3 := ⟨mq_758, mq_455, mq_456, mq_53, mq_457, ⟨by decide +kernel, by decide +kernel, by decide +kernel⟩, by decide +kernel, by decide, by decide, rfl⟩
theorem mX8_264 : vMS RX8 264 yX8_lowestTerms cX8_lowestTerms 9 (some .long) 3 := ⟨mq_759, mq_760, mq_45, mq_761, ⟨by decide +kernel, by decide +kernel, by decide +kernel⟩, by decide +kernel, by decide⟩
theorem mX8_333 : vMS RX8 333 yX8_commonDivisor cX8_commonDivisor 7 (some .long) 2 := ⟨mq_762, mq_763, mq_45, mq_764, ⟨by decide +kernel, by decide +kernel, by decide +kernel⟩, by decide +kernel, by decide⟩
theorem mL_115 : vMV RL 115 7 yX8_year cX8_year 4 (some .int) 3 := ⟨mq_765, mq_766, mq_767, mq_45, mq_768, ⟨by decide +kernel, by decide +kernel, by decide +kernel⟩, by decide +kernel, by decide, by decide, rfl⟩
theorem mX8_268 : vMV RX8 268 7 yX8_yearTotal cX8_yearTotal 9 (some .int) 3 := ⟨mq_769, mq_771, mq_24, mq_45, mq_772, ⟨by decide +kernel, by decide +kernel, by decide +kernel⟩, by decide +kernel, by decide, by decide, rfl⟩
theorem mL_119 : vMV RL 119 7 yX8_image cX8_image 2 (some .int) 1 := ⟨mq_776, mq_777, mq_778, mq_45, mq_779, ⟨by decide +kernel, by decide +kernel, by decide +kernel⟩, by decide +kernel, by decide, by decide, rfl⟩
theorem mL_123 : vMV RL 123 7 yX8_restore cX8_restore 2 (some .int) 1 := ⟨mq_780, mq_781, mq_782, mq_45, mq_783, ⟨by decide +kernel, by decide +kernel, by decide +kernel⟩, by decide +kernel, by decide, by decide, rfl⟩
theorem mL_127 : vMV RL 127 7 yX8_told cX8_told 2 (some .int) 1 := ⟨mq_784, mq_785, mq_786, mq_45, mq_787, ⟨by decide +kernel, by decide +kernel, by decide +kernel⟩, by decide +kernel, by decide, by decide, rfl⟩
theorem mX8_284 : vMV RX8 284 7 yX8_toldOf cX8_toldOf 3 (some .int) 2 := ⟨mq_788, mq_790, mq_25, mq_45, mq_791, ⟨by decide +kernel, by decide +kernel, by decide +kernel⟩, by decide +kernel, by decide, by decide, rfl⟩
theorem mX8_294 : vMV RX8 294 3 yX4_isUpright cX4_isUpright 2 (some .boolean) 1 := ⟨mq_792, mq_485, mq_486, mq_46, mq_487, ⟨by decide +kernel, by decide +kernel, by decide +kernel⟩, by decide +kernel, by decide, by decide, rfl⟩
theorem mL_17 : vMV RL 17 8 yX9_church cX9_church 3 (some .int) 1 := ⟨mq_911, mq_912, mq_913, mq_54, mq_914, ⟨by decide +kernel, by decide +kernel, by decide +kernel⟩, by decide +kernel, by decide, by decide, rfl⟩
theorem mX9_75 : vMS RX9 75 yX9_in cX9_in 3 (some .boolean) 3 := ⟨mq_915, mq_916, mq_54, mq_917, ⟨by decide +kernel, by decide +kernel, by decide +kernel⟩, by decide +kernel, by decide⟩
theorem mL_22 : vMV RL 22 8 yX9_hearer cX9_hearer 7 (some .int) 6 := ⟨mq_918, mq_919, mq_920, mq_54, mq_921, ⟨by decide +kernel, by decide +kernel, by decide +kernel⟩, by decide +kernel, by decide, by decide, rfl⟩
theorem mX9_92 : vMV RX9 92 8 yX9_whoSits cX9_whoSits 4 (some .int) 1 := ⟨mq_922, mq_924, mq_26, mq_54, mq_925, ⟨by decide +kernel, by decide +kernel, by decide +kernel⟩, by decide +kernel, by decide, by decide, rfl⟩
theorem mX9_79 : vMS RX9 79 yX9_has cX9_has 2 (some .boolean) 2 := ⟨mq_926, mq_927, mq_54, mq_928, ⟨by decide +kernel, by decide +kernel, by decide +kernel⟩, by decide +kernel, by decide⟩
theorem mX9_96 : vMS RX9 96 yX9_bits cX9_bits 3 (some .int) 1 := ⟨mq_929, mq_930, mq_54, mq_931, ⟨by decide +kernel, by decide +kernel, by decide +kernel⟩, by decide +kernel, by decide⟩
theorem mL_26 : vMV RL 26 8 yX9_leave cX9_leave 2 (some .int) 1 := ⟨mq_932, mq_933, mq_934, mq_54, mq_935, ⟨by decide +kernel, by decide +kernel, by decide +kernel⟩, by decide +kernel, by decide, by decide, rfl⟩
theorem mX9_99 : vMV RX9 99 8 yX9_isThere cX9_isThere 2 (some .boolean) 1 := ⟨mq_936, mq_938, mq_27, mq_54, mq_939, ⟨by decide +kernel, by decide +kernel, by decide +kernel⟩, by decide +kernel, by decide, by decide, rfl⟩
theorem mL_31 : vMV RL 31 8 yX9_set cX9_set 5 (some .int) 2 := ⟨mq_940, mq_941, mq_942, mq_54, mq_943, ⟨by decide +kernel, by decide +kernel, by decide +kernel⟩, by decide +kernel, by decide, by decide, rfl⟩
theorem mL_35 : vMV RL 35 8 yX9_say cX9_say 2 (some .int) 1 := ⟨mq_944, mq_945, mq_946, mq_54, mq_947, ⟨by decide +kernel, by decide +kernel, by decide +kernel⟩, by decide +kernel, by decide, by decide, rfl⟩
theorem mL_40 : vMV RL 40 8 yX9_wipe cX9_wipe 2 (some .int) 0 := ⟨mq_948, mq_949, mq_950, mq_54, mq_951, ⟨by decide +kernel, by decide +kernel, by decide +kernel⟩, by decide +kernel, by decide, by decide, rfl⟩
theorem mL_44 : vMV RL 44 8 yX9_fault cX9_fault 1 (some .int) 0 := ⟨mq_952, mq_953, mq_954, mq_54, mq_955, ⟨by decide +kernel, by decide +kernel, by decide +kernel⟩, by decide +kernel, by decide, by decide, rfl⟩
theorem mX9_109 : vMV RX9 109 8 yX9_faultOf cX9_faultOf 2 (some .int) 0 := ⟨mq_956, mq_958, mq_28, mq_54, mq_959, ⟨by decide +kernel, by decide +kernel, by decide +kernel⟩, by decide +kernel, by decide, by decide, rfl⟩
theorem mX9_106 : vMS RX9 106 yX9_isSign cX9_isSign 1 (some .boolean) 1 := ⟨mq_960, mq_961, mq_54, mq_962, ⟨by decide +kernel, by decide +kernel, by decide +kernel⟩, by decide +kernel, by decide⟩
theorem mL_49 : vMV RL 49 8 yX9_heard cX9_heard 4 (some .int) 3 := ⟨mq_963, mq_964, mq_965, mq_54, mq_966, ⟨by decide +kernel, by decide +kernel, by decide +kernel⟩, by decide +kernel, by decide, by decide, rfl⟩
theorem mX9_160 : vMV RX9 160 8 yX9_lay cX9_lay 2 none 0 := ⟨mq_967, mq_969, mq_29, mq_54, mq_970, ⟨by decide +kernel, by decide +kernel, by decide +kernel⟩, by decide +kernel, by decide, by decide, rfl⟩
theorem mX9_163 : vMV RX9 163 8 yX9_preach cX9_preach 6 none 1 := ⟨mq_971, mq_973, mq_30, mq_54, mq_974, ⟨by decide +kernel, by decide +kernel, by decide +kernel⟩, by decide +kernel, by decide, by decide, rfl⟩
theorem mX9_156 : vMV RX9 156 8 yX9_minute cX9_minute 11 none 1 := ⟨mq_975, mq_977, mq_31, mq_54, mq_978, ⟨by decide +kernel, by decide +kernel, by decide +kernel⟩, by decide +kernel, by decide, by decide, rfl⟩
theorem mX9_134 : vMV RX9 134 8 yX9_change cX9_change 4 (some .int) 2 := ⟨mq_979, mq_981, mq_32, mq_54, mq_982, ⟨by decide +kernel, by decide +kernel, by decide +kernel⟩, by decide +kernel, by decide, by decide, rfl⟩
theorem mX9_131 : vMV RX9 131 8 yX9_turn cX9_turn 5 (some .int) 1 := ⟨mq_983, mq_985, mq_33, mq_54, mq_986, ⟨by decide +kernel, by decide +kernel, by decide +kernel⟩, by decide +kernel, by decide, by decide, rfl⟩
theorem mX9_138 : vMV RX9 138 8 yX9_beside cX9_beside 6 (some .int) 2 := ⟨mq_987, mq_989, mq_34, mq_54, mq_990, ⟨by decide +kernel, by decide +kernel, by decide +kernel⟩, by decide +kernel, by decide, by decide, rfl⟩
theorem mL_53 : vMV RL 53 8 yX9_sum cX9_sum 3 (some .int) 2 := ⟨mq_991, mq_992, mq_993, mq_54, mq_994, ⟨by decide +kernel, by decide +kernel, by decide +kernel⟩, by decide +kernel, by decide, by decide, rfl⟩
theorem mX9_166 : vMV RX9 166 8 yX9_isMinute cX9_isMinute 2 (some .boolean) 1 := ⟨mq_995, mq_997, mq_35, mq_54, mq_998, ⟨by decide +kernel, by decide +kernel, by decide +kernel⟩, by decide +kernel, by decide, by decide, rfl⟩
theorem mL_57 : vMV RL 57 8 yX9_first cX9_first 4 (some .int) 1 := ⟨mq_999, mq_1000, mq_1001, mq_54, mq_1002, ⟨by decide +kernel, by decide +kernel, by decide +kernel⟩, by decide +kernel, by decide, by decide, rfl⟩
theorem mL_61 : vMV RL 61 8 yX9_gain cX9_gain 1 (some .int) 0 := ⟨mq_1003, mq_1004, mq_1005, mq_54, mq_1006, ⟨by decide +kernel, by decide +kernel, by decide +kernel⟩, by decide +kernel, by decide, by decide, rfl⟩
theorem mX9_169 : vMV RX9 169 8 yX9_gainOf cX9_gainOf 1 (some .int) 0 := ⟨mq_1007, mq_1009, mq_36, mq_54, mq_1010, ⟨by decide +kernel, by decide +kernel, by decide +kernel⟩, by decide +kernel, by decide, by decide, rfl⟩
theorem mL_65 : vMV RL 65 8 yX9_order cX9_order 8 (some .int) 2 := ⟨mq_1011, mq_1012, mq_1013, mq_54, mq_1014, ⟨by decide +kernel, by decide +kernel, by decide +kernel⟩, by decide +kernel, by decide, by decide, rfl⟩
theorem mX9_176 : vMV RX9 176 8 yX9_sort cX9_sort 3 none 0 := ⟨mq_1015, mq_1017, mq_37, mq_54, mq_1018, ⟨by decide +kernel, by decide +kernel, by decide +kernel⟩, by decide +kernel, by decide, by decide, rfl⟩
theorem mX9_172 : vMV RX9 172 8 yX9_swap cX9_swap 4 none 2 := ⟨mq_1019, mq_1021, mq_38, mq_54, mq_1022, ⟨by decide +kernel, by decide +kernel, by decide +kernel⟩, by decide +kernel, by decide, by decide, rfl⟩
theorem mX9_180 : vMV RX9 180 8 yX9_goOn cX9_goOn 5 (some .boolean) 0 := ⟨mq_1024, mq_1026, mq_39, mq_54, mq_1027, ⟨by decide +kernel, by decide +kernel, by decide +kernel⟩, by decide +kernel, by decide, by decide, rfl⟩
theorem mL_69 : vMV RL 69 8 yX9_start cX9_start 6 (some .int) 1 := ⟨mq_1028, mq_1029, mq_1030, mq_54, mq_1031, ⟨by decide +kernel, by decide +kernel, by decide +kernel⟩, by decide +kernel, by decide, by decide, rfl⟩
theorem mL_73 : vMV RL 73 8 yX9_seated cX9_seated 7 (some .int) 1 := ⟨mq_1033, mq_1034, mq_1035, mq_54, mq_1036, ⟨by decide +kernel, by decide +kernel, by decide +kernel⟩, by decide +kernel, by decide, by decide, rfl⟩
theorem mL_77 : vMV RL 77 8 yX9_hired cX9_hired 5 (some .int) 2 := ⟨mq_1037, mq_1038, mq_1039, mq_54, mq_1040, ⟨by decide +kernel, by decide +kernel, by decide +kernel⟩, by decide +kernel, by decide, by decide, rfl⟩
theorem mL_81 : vMV RL 81 8 yX9_least cX9_least 3 (some .int) 0 := ⟨mq_1041, mq_1042, mq_1043, mq_54, mq_1044, ⟨by decide +kernel, by decide +kernel, by decide +kernel⟩, by decide +kernel, by decide, by decide, rfl⟩
theorem mL_85 : vMV RL 85 8 yX9_seen cX9_seen 3 (some .int) 2 := ⟨mq_1045, mq_1046, mq_1047, mq_54, mq_1048, ⟨by decide +kernel, by decide +kernel, by decide +kernel⟩, by decide +kernel, by decide, by decide, rfl⟩
theorem mL_89 : vMV RL 89 8 yX9_forget cX9_forget 2 (some .int) 0 := ⟨mq_1049, mq_1050, mq_1051, mq_54, mq_1052, ⟨by decide +kernel, by decide +kernel, by decide +kernel⟩, by decide +kernel, by decide, by decide, rfl⟩
theorem mL_93 : vMV RL 93 8 yX9_preached cX9_preached 3 (some .int) 1 := ⟨mq_1053, mq_1054, mq_1055, mq_54, mq_1056, ⟨by decide +kernel, by decide +kernel, by decide +kernel⟩, by decide +kernel, by decide, by decide, rfl⟩
theorem mX9_191 : vMV RX9 191 8 yX9_layPreached cX9_layPreached 4 (some .int) 0 := ⟨mq_1057, mq_1059, mq_40, mq_54, mq_1060, ⟨by decide +kernel, by decide +kernel, by decide +kernel⟩, by decide +kernel, by decide, by decide, rfl⟩
theorem mX9_188 : vMV RX9 188 8 yX9_isCounted cX9_isCounted 4 (some .boolean) 0 := ⟨mq_1061, mq_1063, mq_41, mq_54, mq_1064, ⟨by decide +kernel, by decide +kernel, by decide +kernel⟩, by decide +kernel, by decide, by decide, rfl⟩
theorem mL_97 : vMV RL 97 8 yX9_surely cX9_surely 1 (some .int) 0 := ⟨mq_1065, mq_1066, mq_1067, mq_54, mq_1068, ⟨by decide +kernel, by decide +kernel, by decide +kernel⟩, by decide +kernel, by decide, by decide, rfl⟩
theorem mL_101 : vMV RL 101 8 yX9_dips cX9_dips 6 (some .int) 2 := ⟨mq_1069, mq_1070, mq_1071, mq_54, mq_1072, ⟨by decide +kernel, by decide +kernel, by decide +kernel⟩, by decide +kernel, by decide, by decide, rfl⟩
theorem mL_105 : vMV RL 105 8 yX9_alike cX9_alike 5 (some .int) 1 := ⟨mq_1073, mq_1074, mq_1075, mq_54, mq_1076, ⟨by decide +kernel, by decide +kernel, by decide +kernel⟩, by decide +kernel, by decide, by decide, rfl⟩
theorem mX9_194 : vMV RX9 194 8 yX9_areAlike cX9_areAlike 6 (some .boolean) 2 := ⟨mq_1077, mq_1079, mq_42, mq_54, mq_1080, ⟨by decide +kernel, by decide +kernel, by decide +kernel⟩, by decide +kernel, by decide, by decide, rfl⟩
theorem mL_109 : vMV RL 109 8 yX9_parishes cX9_parishes 9 (some .int) 1 := ⟨mq_1081, mq_1082, mq_1083, mq_54, mq_1084, ⟨by decide +kernel, by decide +kernel, by decide +kernel⟩, by decide +kernel, by decide, by decide, rfl⟩
theorem mX9_197 : vMV RX9 197 8 yX9_likes cX9_likes 5 (some .int) 2 := ⟨mq_1085, mq_1087, mq_43, mq_54, mq_1088, ⟨by decide +kernel, by decide +kernel, by decide +kernel⟩, by decide +kernel, by decide, by decide, rfl⟩
theorem mL_114 : vMV RL 114 8 yX9_cold cX9_cold 14 (some .long) 3 := ⟨mq_1089, mq_1090, mq_1091, mq_54, mq_1092, ⟨by decide +kernel, by decide +kernel, by decide +kernel⟩, by decide +kernel, by decide, by decide, rfl⟩
theorem mL_118 : vMV RL 118 8 yX9_year cX9_year 10 (some .int) 3 := ⟨mq_1097, mq_1098, mq_1099, mq_54, mq_1100, ⟨by decide +kernel, by decide +kernel, by decide +kernel⟩, by decide +kernel, by decide, by decide, rfl⟩
theorem mX9_209 : vMS RX9 209 yX9_signAt cX9_signAt 1 (some .int) 1 := ⟨mq_1102, mq_1103, mq_54, mq_1104, ⟨by decide +kernel, by decide +kernel, by decide +kernel⟩, by decide +kernel, by decide⟩
theorem mL_122 : vMV RL 122 8 yX9_image cX9_image 4 (some .int) 1 := ⟨mq_1105, mq_1106, mq_1107, mq_54, mq_1108, ⟨by decide +kernel, by decide +kernel, by decide +kernel⟩, by decide +kernel, by decide, by decide, rfl⟩
theorem mL_126 : vMV RL 126 8 yX9_restore cX9_restore 4 (some .int) 1 := ⟨mq_1109, mq_1110, mq_1111, mq_54, mq_1112, ⟨by decide +kernel, by decide +kernel, by decide +kernel⟩, by decide +kernel, by decide, by decide, rfl⟩
theorem mL_130 : vMV RL 130 8 yX9_told cX9_told 3 (some .int) 1 := ⟨mq_1113, mq_1114, mq_1115, mq_54, mq_1116, ⟨by decide +kernel, by decide +kernel, by decide +kernel⟩, by decide +kernel, by decide, by decide, rfl⟩
theorem mcopy1 : Cond.native arraycopyName ∈ lw_tbl := mq_449
theorem mcopy2 : Cond.static arraycopyName ∈ lw_tbl := mq_448
theorem mcopy3 : Cond.initialized "java/lang/System" ∈ lw_tbl := mq_56
theorem mmax1 : Cond.static Lib.Math.max.name ∈ lw_tbl := mq_475
theorem mmax3 : Cond.code Lib.Math.max.name Lib.Math.max.code 2 (some .int) ∈ lw_tbl := mq_476
theorem mmin1 : Cond.static Lib.Math.min.name ∈ lw_tbl := mq_478
theorem mmin3 : Cond.code Lib.Math.min.name Lib.Math.min.code 2 (some .int) ∈ lw_tbl := mq_479
theorem mmath2 : Cond.initialized "java/lang/Math" ∈ lw_tbl := mq_57
theorem kJ6_265 : Cond.constant RJ6 265 (1431655765) ∈ lw_tbl := mq_385
theorem kJ6_266 : Cond.constant RJ6 266 (858993459) ∈ lw_tbl := mq_386
theorem kJ6_267 : Cond.constant RJ6 267 (252645135) ∈ lw_tbl := mq_387
theorem sX3_27 : Cond.fieldLinkNest RX3 27 "NodTax" "BY_CODE" "[C" "NodTax" ∈ lw_tbl := mq_428
theorem kX0_22 : Cond.constant RX0 22 (1000000) ∈ lw_tbl := mq_540
theorem sX2_55 : Cond.fieldLinkNest RX2 55 "NodTax" "BY_CODE" "[C" "NodTax" ∈ lw_tbl := mq_578
theorem kX8_244 : Cond.constantLong RX8 244 (-1000000000000000002) ∈ lw_tbl := mq_744
theorem kX8_246 : Cond.constantLong RX8 246 (-1000000000000000005) ∈ lw_tbl := mq_745
theorem kX8_248 : Cond.constantLong RX8 248 (-1000000000000000004) ∈ lw_tbl := mq_746
theorem kX7_30 : Cond.constantLong RX7 30 (10) ∈ lw_tbl := mq_751
theorem kX8_337 : Cond.constant RX8 337 (65537) ∈ lw_tbl := mq_773
theorem sX8_338 : Cond.fieldLink RX8 338 "NodTax" "BY_DRAW" "[C" ∈ lw_tbl := mq_774
theorem kX9_179 : Cond.constant RX9 179 (1000000) ∈ lw_tbl := mq_1023
theorem kX9_184 : Cond.constant RX9 184 (-1000000) ∈ lw_tbl := mq_1032
theorem kX9_200 : Cond.constantLong RX9 200 (-1000000000000000002) ∈ lw_tbl := mq_1093
theorem kX9_202 : Cond.constantLong RX9 202 (-1000000000000000005) ∈ lw_tbl := mq_1094
theorem kX9_204 : Cond.constantLong RX9 204 (-1000000000000000004) ∈ lw_tbl := mq_1095
theorem kX9_206 : Cond.constantLong RX9 206 (10) ∈ lw_tbl := mq_1096
theorem kX9_208 : Cond.constant RX9 208 (65537) ∈ lw_tbl := mq_1101
end
section
/-! rows for numbers that are naturals -/
def bI (p : Prop) [Decidable p] : Int32 := if p then 1 else 0
theorem bI_t {p : Prop} [Decidable p] (h : p) : bI p = 1 := if_pos h
theorem bI_f {p : Prop} [Decidable p] (h : ¬ p) : bI p = 0 := if_neg h
theorem bI_0 {p : Prop} [Decidable p] : bI p = 0 ↔ ¬ p := by
  unfold bI
  split
  · rename_i h
    exact ⟨fun e => absurd e (by decide), fun e => absurd h e⟩
  · rename_i h
    exact ⟨fun _ => h, fun _ => rfl⟩
theorem bI_n0 {p : Prop} [Decidable p] : ¬ bI p = 0 ↔ p := by rw [bI_0]; exact Decidable.not_not
theorem bI_nar {p : Prop} [Decidable p] : narrow .boolean (.int (bI p)) = .int (bI p) := by
  unfold bI
  split <;> rfl
theorem nI_small {a : Nat} (h : a < 1000000) : a < 2 ^ 31 := by omega
theorem nI_orI (a b : Nat) : nI a ||| nI b = nI (a ||| b) := by
  apply Int32.toBitVec_inj.mp
  show BitVec.ofNat 32 a ||| BitVec.ofNat 32 b = BitVec.ofNat 32 (a ||| b)
  apply BitVec.eq_of_toNat_eq
  simp only [BitVec.toNat_or, BitVec.toNat_ofNat]
  rw [Nat.or_mod_two_pow]
theorem nI_andI (a b : Nat) : nI a &&& nI b = nI (a &&& b) := by
  apply Int32.toBitVec_inj.mp
  show BitVec.ofNat 32 a &&& BitVec.ofNat 32 b = BitVec.ofNat 32 (a &&& b)
  apply BitVec.eq_of_toNat_eq
  simp only [BitVec.toNat_and, BitVec.toNat_ofNat]
  rw [Nat.and_mod_two_pow]
theorem nI_sh31 {k : Nat} (h : k < 32) : ((nI k &&& 31).toBitVec.smod 32).toNat = k := by
  have : ∀ k : Fin 32, ((nI k.val &&& 31).toBitVec.smod 32).toNat = k.val := by decide +kernel
  exact this ⟨k, h⟩
theorem nI_shlI {n k : Nat} (hk : k < 32) (h : n * 2 ^ k < 2 ^ 32) : nI n <<< (nI k &&& 31) = nI (n <<< k) := by
  rw [pk_shlN (nI k &&& 31) k (nI_sh31 hk) h, Nat.shiftLeft_eq]
theorem nI_shrI {n k : Nat} (hk : k < 32) (h : n < 2 ^ 31) : nI n >>> (nI k &&& 31) = nI (n >>> k) := by
  rw [pk_shrN h (nI k &&& 31) k (nI_sh31 hk), Nat.shiftRight_eq_div_pow]
section VN
variable {G : VG} {d nL pc : Nat} {y : MethodName} {cc : ByteArray} {rt : Option FieldType} {X : VX} {ls : VL} {st : List Value} {μ : VS} {a b : Nat}
theorem V_sub {ls' : VL} (ks : List Nat) (h : lv_pick ls ks = ls') (k : V G nL X pc ls' st μ) : V G nL X pc ls st μ := by
  obtain ⟨p, l, e, R, s, m, args, below, meth, c, A, cells, slots, Qf⟩ := X
  intro H locs la hP hD hS hl
  refine k H locs la hP hD hS ?_
  subst h
  refine ⟨hl.1, hl.2.1, fun q hq => hl.2.2 q ?_⟩
  unfold vrl at hq ⊢
  obtain ⟨z, hz, rfl⟩ := List.mem_map.mp hq
  obtain ⟨i, -, hi⟩ := List.mem_filterMap.mp hz
  exact List.mem_map.mpr ⟨z, List.mem_of_getElem? hi, rfl⟩
theorem V_iaddN (hX : Cx G d y cc nL rt X) (hd : decode cc pc = .ok (.iadd, 1)) (k : V G nL X (pc + 1) ls (.int (nI (a + b)) :: st) μ) : V G nL X pc ls (.int (nI b) :: .int (nI a) :: st) μ := V_iadd hX hd (by rw [nI_add]; exact k)
theorem V_isubN (hX : Cx G d y cc nL rt X) (hd : decode cc pc = .ok (.isub, 1)) (h : b ≤ a) (k : V G nL X (pc + 1) ls (.int (nI (a - b)) :: st) μ) : V G nL X pc ls (.int (nI b) :: .int (nI a) :: st) μ := V_isub hX hd (by rw [pk_sub h]; exact k)
theorem V_imulN (hX : Cx G d y cc nL rt X) (hd : decode cc pc = .ok (.imul, 1)) (k : V G nL X (pc + 1) ls (.int (nI (a * b)) :: st) μ) : V G nL X pc ls (.int (nI b) :: .int (nI a) :: st) μ := V_imul hX hd (by rw [pk_mul]; exact k)
theorem V_idivN (hX : Cx G d y cc nL rt X) (hd : decode cc pc = .ok (.idiv, 1)) (h0 : 0 < b) (ha : a < 2 ^ 31) (hb : b < 2 ^ 31) (k : V G nL X (pc + 1) ls (.int (nI (a / b)) :: st) μ) : V G nL X pc ls (.int (nI b) :: .int (nI a) :: st) μ := V_idiv hX hd (nI_ne0 h0 hb) (by rw [pk_div ha h0 hb]; exact k)
theorem V_iremN (hX : Cx G d y cc nL rt X) (hd : decode cc pc = .ok (.irem, 1)) (h0 : 0 < b) (ha : a < 2 ^ 31) (hb : b < 2 ^ 31) (k : V G nL X (pc + 1) ls (.int (nI (a % b)) :: st) μ) : V G nL X pc ls (.int (nI b) :: .int (nI a) :: st) μ := V_irem hX hd (nI_ne0 h0 hb) (by rw [pk_rem ha h0 hb]; exact k)
theorem V_iorN (hX : Cx G d y cc nL rt X) (hd : decode cc pc = .ok (.ior, 1)) (k : V G nL X (pc + 1) ls (.int (nI (a ||| b)) :: st) μ) : V G nL X pc ls (.int (nI b) :: .int (nI a) :: st) μ := V_ior hX hd (by rw [nI_orI]; exact k)
theorem V_iandN (hX : Cx G d y cc nL rt X) (hd : decode cc pc = .ok (.iand, 1)) (k : V G nL X (pc + 1) ls (.int (nI (a &&& b)) :: st) μ) : V G nL X pc ls (.int (nI b) :: .int (nI a) :: st) μ := V_iand hX hd (by rw [nI_andI]; exact k)
theorem V_ishlN (hX : Cx G d y cc nL rt X) (hd : decode cc pc = .ok (.ishl, 1)) (hb : b < 32) (ha : a * 2 ^ b < 2 ^ 32) (k : V G nL X (pc + 1) ls (.int (nI (a <<< b)) :: st) μ) : V G nL X pc ls (.int (nI b) :: .int (nI a) :: st) μ := V_ishl hX hd (by rw [nI_shlI hb ha]; exact k)
theorem V_ishrN (hX : Cx G d y cc nL rt X) (hd : decode cc pc = .ok (.ishr, 1)) (hb : b < 32) (ha : a < 2 ^ 31) (k : V G nL X (pc + 1) ls (.int (nI (a >>> b)) :: st) μ) : V G nL X pc ls (.int (nI b) :: .int (nI a) :: st) μ := V_ishr hX hd (by rw [nI_shrI hb ha]; exact k)
theorem V_iincN {i n : Nat} {ls' : VL} (hX : Cx G d y cc nL rt X) (hd : decode cc pc = .ok (.iinc i (n : Int), 3)) (j : Nat) (hj : ls[j]? = some (i, .int (nI a))) (hn : i < nL) (hl' : vset1 ls i (.int (nI (a + n))) = ls') (k : V G nL X (pc + 3) ls' st μ) : V G nL X pc ls st μ := by
  have e : Int32.ofInt (n : Int) = nI n := rfl
  exact V_iinc hX hd j hj e hn (by rw [nI_add]; exact hl') k
theorem V_getN {i ci q n : Nat} {x : Int32} (hX : Cx G d y cc nL rt X) (hf : vFL y.cls n ci q (0, 0)) (hk : vk i = (ci, 0)) (hv : μ.1 i q = x) (hd : decode cc pc = .ok (.getfield n, 3)) (k : V G nL X (pc + 3) ls (.int x :: st) μ) : V G nL X pc ls (.ref i :: st) μ := V_geti hX hf hk hd (by rw [hv]; exact k)
theorem V_ialdN {i n j : Nat} {x : Int32} (hX : Cx G d y cc nL rt X) (hk : vk i = (9, n)) (hj : j < n) (hn : n < 1000) (hv : μ.1 i j = x) (hd : decode cc pc = .ok (.iaload, 1)) (k : V G nL X (pc + 1) ls (.int x :: st) μ) : V G nL X pc ls (.int (nI j) :: .ref i :: st) μ := by
  refine V_iald hX hk (vp_in_nI hj (by omega)) hd ?_
  rw [nI_clamp (by omega), hv]
  exact k
theorem V_iastN {i n j : Nat} {x : Int32} (hX : Cx G d y cc nL rt X) (hk : vk i = (9, n)) (hj : j < n) (hn : n < 1000) (hd : decode cc pc = .ok (.iastore, 1)) (k : V G nL X (pc + 1) ls st (vup μ.1 i j x, μ.2)) : V G nL X pc ls (.int x :: .int (nI j) :: .ref i :: st) μ := by
  refine V_iast hX hk (vp_in_nI hj (by omega)) hd ?_
  rw [nI_clamp (by omega)]
  exact k
theorem V_laldN {i n j : Nat} {x : Int64} (hX : Cx G d y cc nL rt X) (hk : vk i = (10, n)) (hj : j < n) (hn : n < 1000) (hv : μ.2 i j = x) (hd : decode cc pc = .ok (.laload, 1)) (k : V G nL X (pc + 1) ls (.long x :: st) μ) : V G nL X pc ls (.int (nI j) :: .ref i :: st) μ := by
  refine V_lald hX hk (vp_in_nI hj (by omega)) hd ?_
  rw [nI_clamp (by omega), hv]
  exact k
theorem V_lastN {i n j : Nat} {x : Int64} (hX : Cx G d y cc nL rt X) (hk : vk i = (10, n)) (hj : j < n) (hn : n < 1000) (hd : decode cc pc = .ok (.lastore, 1)) (k : V G nL X (pc + 1) ls st (μ.1, vup μ.2 i j x)) : V G nL X pc ls (.long x :: .int (nI j) :: .ref i :: st) μ := by
  refine V_last hX hk (vp_in_nI hj (by omega)) hd ?_
  rw [nI_clamp (by omega)]
  exact k
theorem V_zaldN {i n j : Nat} {x : Int32} (hX : Cx G d y cc nL rt X) (hk : vk i = (11, n)) (hj : j < n) (hn : n < 1000) (hv : μ.1 i j = x) (hd : decode cc pc = .ok (.baload, 1)) (k : V G nL X (pc + 1) ls (.int x :: st) μ) : V G nL X pc ls (.int (nI j) :: .ref i :: st) μ := by
  refine V_zald hX hk (vp_in_nI hj (by omega)) hd ?_
  rw [nI_clamp (by omega), hv]
  exact k
theorem V_zastN {i n j : Nat} {x : Int32} (hX : Cx G d y cc nL rt X) (hk : vk i = (11, n)) (hj : j < n) (hn : n < 1000) (hz : vp_nar .boolean x = x) (hd : decode cc pc = .ok (.bastore, 1)) (k : V G nL X (pc + 1) ls st (vup μ.1 i j x, μ.2)) : V G nL X pc ls (.int x :: .int (nI j) :: .ref i :: st) μ := by
  refine V_zast hX hk (vp_in_nI hj (by omega)) hz hd ?_
  rw [nI_clamp (by omega)]
  exact k
theorem V_waldN {i n j r : Nat} (hX : Cx G d y cc nL rt X) (hk : vk i = (13, n)) (hj : j < n) (hn : n < 1000) (hr : i + 1 + 2 * j = r) (hd : decode cc pc = .ok (.aaload, 1)) (k : V G nL X (pc + 1) ls (.ref r :: st) μ) : V G nL X pc ls (.int (nI j) :: .ref i :: st) μ := V_wald hX hk (vp_in_nI hj (by omega)) (by rw [nI_clamp (by omega)]; exact hr) hd k
theorem V_paldN {i n j r : Nat} (hX : Cx G d y cc nL rt X) (hk : vk i = (12, n)) (hj : j < n) (hn : n < 1000) (hr : i + 1 + 7 * j = r) (hd : decode cc pc = .ok (.aaload, 1)) (k : V G nL X (pc + 1) ls (.ref r :: st) μ) : V G nL X pc ls (.int (nI j) :: .ref i :: st) μ := V_pald hX hk (vp_in_nI hj (by omega)) (by rw [nI_clamp (by omega)]; exact hr) hd k
theorem V_cald0N {j : Nat} {x : Int32} (hX : Cx G d y cc nL rt X) (hj : j < 7) (hv : vBC j = x) (hd : decode cc pc = .ok (.caload, 1)) (k : V G nL X (pc + 1) ls (.int x :: st) μ) : V G nL X pc ls (.int (nI j) :: .ref 1000 :: st) μ := V_cald0 hX (vp_in_nI hj (by omega)) hd (by rw [nI_clamp (by omega), hv]; exact k)
theorem V_cald1N {j : Nat} {x : Int32} (hX : Cx G d y cc nL rt X) (hj : j < 7) (hv : vBD j = x) (hd : decode cc pc = .ok (.caload, 1)) (k : V G nL X (pc + 1) ls (.int x :: st) μ) : V G nL X pc ls (.int (nI j) :: .ref 1001 :: st) μ := V_cald1 hX (vp_in_nI hj (by omega)) hd (by rw [nI_clamp (by omega), hv]; exact k)
theorem V_if_eqN {off : Int} {tgt : Nat} (hX : Cx G d y cc nL rt X) (hd : decode cc pc = .ok (.ifCond .eq off, 3)) (ht : (pc : Int) + off = (tgt : Int)) (ha : a < 2 ^ 31) (kt : a = 0 → V G nL X tgt ls st μ) (kf : ¬ a = 0 → V G nL X (pc + 3) ls st μ) : V G nL X pc ls (.int (nI a) :: st) μ :=
  V_if_eq hX hd ht (fun h => kt ((nI_eq ha (by decide)).mp h)) (fun h => kf (fun e => h (by rw [e]; rfl)))
theorem V_if_neN {off : Int} {tgt : Nat} (hX : Cx G d y cc nL rt X) (hd : decode cc pc = .ok (.ifCond .ne off, 3)) (ht : (pc : Int) + off = (tgt : Int)) (ha : a < 2 ^ 31) (kt : ¬ a = 0 → V G nL X tgt ls st μ) (kf : a = 0 → V G nL X (pc + 3) ls st μ) : V G nL X pc ls (.int (nI a) :: st) μ :=
  V_if_ne hX hd ht (fun h => kt (fun e => h (by rw [e]; rfl))) (fun h => kf ((nI_eq ha (by decide)).mp h))
theorem V_if_gtN {off : Int} {tgt : Nat} (hX : Cx G d y cc nL rt X) (hd : decode cc pc = .ok (.ifCond .gt off, 3)) (ht : (pc : Int) + off = (tgt : Int)) (ha : a < 2 ^ 31) (kt : 0 < a → V G nL X tgt ls st μ) (kf : a = 0 → V G nL X (pc + 3) ls st μ) : V G nL X pc ls (.int (nI a) :: st) μ :=
  V_if_gt hX hd ht (fun h => kt ((nI_ltI (by decide) ha).mp h)) (fun h => kf (by rcases Nat.eq_zero_or_pos a with q | q; exact q; exact absurd ((nI_ltI (by decide) ha).mpr q) h))
theorem V_if_leN {off : Int} {tgt : Nat} (hX : Cx G d y cc nL rt X) (hd : decode cc pc = .ok (.ifCond .le off, 3)) (ht : (pc : Int) + off = (tgt : Int)) (ha : a < 2 ^ 31) (kt : a = 0 → V G nL X tgt ls st μ) (kf : 0 < a → V G nL X (pc + 3) ls st μ) : V G nL X pc ls (.int (nI a) :: st) μ :=
  V_if_le hX hd ht (fun h => kt (Nat.le_zero.mp ((nI_leI ha (by decide)).mp h))) (fun h => kf (Nat.pos_of_ne_zero (fun e => h (by rw [e]; decide))))
theorem V_if_ltN {off : Int} {tgt : Nat} (hX : Cx G d y cc nL rt X) (hd : decode cc pc = .ok (.ifCond .lt off, 3)) (ht : (pc : Int) + off = (tgt : Int)) (ha : a < 2 ^ 31) (kf : V G nL X (pc + 3) ls st μ) : V G nL X pc ls (.int (nI a) :: st) μ :=
  V_if_lt hX hd ht (fun h => absurd h (nI_pos ha)) (fun _ => kf)
theorem V_if_geN {off : Int} {tgt : Nat} (hX : Cx G d y cc nL rt X) (hd : decode cc pc = .ok (.ifCond .ge off, 3)) (ht : (pc : Int) + off = (tgt : Int)) (ha : a < 2 ^ 31) (kt : V G nL X tgt ls st μ) : V G nL X pc ls (.int (nI a) :: st) μ :=
  V_if_ge hX hd ht (fun _ => kt) (fun h => absurd (nI_pos' ha) h)
theorem V_icmp_eqN {off : Int} {tgt : Nat} (hX : Cx G d y cc nL rt X) (hd : decode cc pc = .ok (.if_icmp .eq off, 3)) (ht : (pc : Int) + off = (tgt : Int)) (ha : a < 2 ^ 31) (hb : b < 2 ^ 31) (kt : a = b → V G nL X tgt ls st μ) (kf : ¬ a = b → V G nL X (pc + 3) ls st μ) : V G nL X pc ls (.int (nI b) :: .int (nI a) :: st) μ :=
  V_icmp_eq hX hd ht (fun h => kt ((nI_eq ha hb).mp h)) (fun h => kf (fun e => h (by rw [e])))
theorem V_icmp_neN {off : Int} {tgt : Nat} (hX : Cx G d y cc nL rt X) (hd : decode cc pc = .ok (.if_icmp .ne off, 3)) (ht : (pc : Int) + off = (tgt : Int)) (ha : a < 2 ^ 31) (hb : b < 2 ^ 31) (kt : ¬ a = b → V G nL X tgt ls st μ) (kf : a = b → V G nL X (pc + 3) ls st μ) : V G nL X pc ls (.int (nI b) :: .int (nI a) :: st) μ :=
  V_icmp_ne hX hd ht (fun h => kt (fun e => h (by rw [e]))) (fun h => kf ((nI_eq ha hb).mp h))
theorem V_icmp_ltN {off : Int} {tgt : Nat} (hX : Cx G d y cc nL rt X) (hd : decode cc pc = .ok (.if_icmp .lt off, 3)) (ht : (pc : Int) + off = (tgt : Int)) (ha : a < 2 ^ 31) (hb : b < 2 ^ 31) (kt : a < b → V G nL X tgt ls st μ) (kf : b ≤ a → V G nL X (pc + 3) ls st μ) : V G nL X pc ls (.int (nI b) :: .int (nI a) :: st) μ :=
  V_icmp_lt hX hd ht (fun h => kt ((nI_ltI ha hb).mp h)) (fun h => kf (Nat.not_lt.mp (fun e => h ((nI_ltI ha hb).mpr e))))
theorem V_icmp_geN {off : Int} {tgt : Nat} (hX : Cx G d y cc nL rt X) (hd : decode cc pc = .ok (.if_icmp .ge off, 3)) (ht : (pc : Int) + off = (tgt : Int)) (ha : a < 2 ^ 31) (hb : b < 2 ^ 31) (kt : b ≤ a → V G nL X tgt ls st μ) (kf : a < b → V G nL X (pc + 3) ls st μ) : V G nL X pc ls (.int (nI b) :: .int (nI a) :: st) μ :=
  V_icmp_ge hX hd ht (fun h => kt ((nI_leI hb ha).mp h)) (fun h => kf (Nat.not_le.mp (fun e => h ((nI_leI hb ha).mpr e))))
theorem V_icmp_gtN {off : Int} {tgt : Nat} (hX : Cx G d y cc nL rt X) (hd : decode cc pc = .ok (.if_icmp .gt off, 3)) (ht : (pc : Int) + off = (tgt : Int)) (ha : a < 2 ^ 31) (hb : b < 2 ^ 31) (kt : b < a → V G nL X tgt ls st μ) (kf : a ≤ b → V G nL X (pc + 3) ls st μ) : V G nL X pc ls (.int (nI b) :: .int (nI a) :: st) μ :=
  V_icmp_gt hX hd ht (fun h => kt ((nI_ltI hb ha).mp h)) (fun h => kf (Nat.not_lt.mp (fun e => h ((nI_ltI hb ha).mpr e))))
theorem V_icmp_leN {off : Int} {tgt : Nat} (hX : Cx G d y cc nL rt X) (hd : decode cc pc = .ok (.if_icmp .le off, 3)) (ht : (pc : Int) + off = (tgt : Int)) (ha : a < 2 ^ 31) (hb : b < 2 ^ 31) (kt : a ≤ b → V G nL X tgt ls st μ) (kf : b < a → V G nL X (pc + 3) ls st μ) : V G nL X pc ls (.int (nI b) :: .int (nI a) :: st) μ :=
  V_icmp_le hX hd ht (fun h => kt ((nI_leI ha hb).mp h)) (fun h => kf (Nat.not_le.mp (fun e => h ((nI_leI ha hb).mpr e))))
theorem V_if_eqB {off : Int} {tgt : Nat} {p : Prop} [Decidable p] (hX : Cx G d y cc nL rt X) (hd : decode cc pc = .ok (.ifCond .eq off, 3)) (ht : (pc : Int) + off = (tgt : Int)) (kt : ¬ p → V G nL X tgt ls st μ) (kf : p → V G nL X (pc + 3) ls st μ) : V G nL X pc ls (.int (bI p) :: st) μ :=
  V_if_eq hX hd ht (fun h => kt (bI_0.mp h)) (fun h => kf (bI_n0.mp h))
theorem V_if_neB {off : Int} {tgt : Nat} {p : Prop} [Decidable p] (hX : Cx G d y cc nL rt X) (hd : decode cc pc = .ok (.ifCond .ne off, 3)) (ht : (pc : Int) + off = (tgt : Int)) (kt : p → V G nL X tgt ls st μ) (kf : ¬ p → V G nL X (pc + 3) ls st μ) : V G nL X pc ls (.int (bI p) :: st) μ :=
  V_if_ne hX hd ht (fun h => kt (bI_n0.mp h)) (fun h => kf (bI_0.mp h))
end VN
end
