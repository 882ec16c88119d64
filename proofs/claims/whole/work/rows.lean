section
-- ===== PART A: goes FIRST, ahead of the names: the tables' words, and 'selects' of the private methods out of them =====
/-- a private method of a class that the tables say can be made, by its rows of tables_1 -/
def lw_okq (q : MethodName × Nat) : Prop := (q.1.cls ≠ "java/lang/invoke/MethodHandle" ∧ q.1.cls ≠ "java/lang/invoke/VarHandle") ∧ Cond.instantiable q.1.cls q.2 ∈ tables_1 ∧ Cond.privateMethod q.1 ∈ tables_1 ∧ Cond.instanceMethod q.1 ∈ tables_1
theorem lw_p0 : lw_okq (⟨"CoastLamps", "made", "(II)LCoastLamps$Lamp;"⟩, 7) := ⟨⟨by decide +kernel, by decide +kernel⟩, List.mem_of_getElem? (i := 16) (by decide +kernel), List.mem_of_getElem? (i := 85) (by decide +kernel), List.mem_of_getElem? (i := 86) (by decide +kernel)⟩
theorem lw_p1 : lw_okq (⟨"CoastLamps", "lampAt", "(I)LCoastLamps$Lamp;"⟩, 7) := ⟨⟨by decide +kernel, by decide +kernel⟩, List.mem_of_getElem? (i := 16) (by decide +kernel), List.mem_of_getElem? (i := 256) (by decide +kernel), List.mem_of_getElem? (i := 257) (by decide +kernel)⟩
theorem lw_p2 : lw_okq (⟨"CoastLamps", "beginAct", "()V"⟩, 7) := ⟨⟨by decide +kernel, by decide +kernel⟩, List.mem_of_getElem? (i := 16) (by decide +kernel), List.mem_of_getElem? (i := 261) (by decide +kernel), List.mem_of_getElem? (i := 262) (by decide +kernel)⟩
theorem lw_p3 : lw_okq (⟨"CoastLamps", "anyLit", "()Z"⟩, 7) := ⟨⟨by decide +kernel, by decide +kernel⟩, List.mem_of_getElem? (i := 16) (by decide +kernel), List.mem_of_getElem? (i := 543) (by decide +kernel), List.mem_of_getElem? (i := 544) (by decide +kernel)⟩
theorem lw_p4 : lw_okq (⟨"CoastLampsModel", "isLamp", "(I)Z"⟩, 13) := ⟨⟨by decide +kernel, by decide +kernel⟩, List.mem_of_getElem? (i := 585) (by decide +kernel), List.mem_of_getElem? (i := 647) (by decide +kernel), List.mem_of_getElem? (i := 648) (by decide +kernel)⟩
theorem lw_p5 : lw_okq (⟨"CoastLampsModel", "act", "()V"⟩, 13) := ⟨⟨by decide +kernel, by decide +kernel⟩, List.mem_of_getElem? (i := 585) (by decide +kernel), List.mem_of_getElem? (i := 652) (by decide +kernel), List.mem_of_getElem? (i := 653) (by decide +kernel)⟩
theorem lw_p6 : lw_okq (⟨"CoastLampsModel", "isHorned", "(I)Z"⟩, 13) := ⟨⟨by decide +kernel, by decide +kernel⟩, List.mem_of_getElem? (i := 585) (by decide +kernel), List.mem_of_getElem? (i := 656) (by decide +kernel), List.mem_of_getElem? (i := 657) (by decide +kernel)⟩
theorem lw_p7 : lw_okq (⟨"CoastLampsModel", "burn", "(II)I"⟩, 13) := ⟨⟨by decide +kernel, by decide +kernel⟩, List.mem_of_getElem? (i := 585) (by decide +kernel), List.mem_of_getElem? (i := 661) (by decide +kernel), List.mem_of_getElem? (i := 662) (by decide +kernel)⟩
theorem lw_p8 : lw_okq (⟨"CoastLampsModel", "burnOil", "(II)I"⟩, 13) := ⟨⟨by decide +kernel, by decide +kernel⟩, List.mem_of_getElem? (i := 585) (by decide +kernel), List.mem_of_getElem? (i := 665) (by decide +kernel), List.mem_of_getElem? (i := 666) (by decide +kernel)⟩
theorem lw_p9 : lw_okq (⟨"CoastLampsModel", "begins", "(I)V"⟩, 13) := ⟨⟨by decide +kernel, by decide +kernel⟩, List.mem_of_getElem? (i := 585) (by decide +kernel), List.mem_of_getElem? (i := 669) (by decide +kernel), List.mem_of_getElem? (i := 670) (by decide +kernel)⟩
theorem lw_p10 : lw_okq (⟨"CoastLampsModel", "burnLamp", "(II)I"⟩, 13) := ⟨⟨by decide +kernel, by decide +kernel⟩, List.mem_of_getElem? (i := 585) (by decide +kernel), List.mem_of_getElem? (i := 673) (by decide +kernel), List.mem_of_getElem? (i := 674) (by decide +kernel)⟩
theorem lw_p11 : lw_okq (⟨"CoastLampsModel", "burnTwin", "(II)I"⟩, 13) := ⟨⟨by decide +kernel, by decide +kernel⟩, List.mem_of_getElem? (i := 585) (by decide +kernel), List.mem_of_getElem? (i := 677) (by decide +kernel), List.mem_of_getElem? (i := 678) (by decide +kernel)⟩
theorem lw_p12 : lw_okq (⟨"CoastLampsModel", "burnSwing", "(II)I"⟩, 13) := ⟨⟨by decide +kernel, by decide +kernel⟩, List.mem_of_getElem? (i := 585) (by decide +kernel), List.mem_of_getElem? (i := 681) (by decide +kernel), List.mem_of_getElem? (i := 682) (by decide +kernel)⟩
theorem lw_p13 : lw_okq (⟨"CoastLampsModel", "burnOuter", "(II)I"⟩, 13) := ⟨⟨by decide +kernel, by decide +kernel⟩, List.mem_of_getElem? (i := 585) (by decide +kernel), List.mem_of_getElem? (i := 685) (by decide +kernel), List.mem_of_getElem? (i := 686) (by decide +kernel)⟩
theorem lw_p14 : lw_okq (⟨"CoastLampsModel", "burnFlare", "(II)I"⟩, 13) := ⟨⟨by decide +kernel, by decide +kernel⟩, List.mem_of_getElem? (i := 585) (by decide +kernel), List.mem_of_getElem? (i := 689) (by decide +kernel), List.mem_of_getElem? (i := 690) (by decide +kernel)⟩
theorem lw_p15 : lw_okq (⟨"CoastLampsModel", "reach", "(II)I"⟩, 13) := ⟨⟨by decide +kernel, by decide +kernel⟩, List.mem_of_getElem? (i := 585) (by decide +kernel), List.mem_of_getElem? (i := 693) (by decide +kernel), List.mem_of_getElem? (i := 694) (by decide +kernel)⟩
def lw_privs_1 : List (MethodName × Nat) := [(⟨"CoastLamps", "made", "(II)LCoastLamps$Lamp;"⟩, 7), (⟨"CoastLamps", "lampAt", "(I)LCoastLamps$Lamp;"⟩, 7), (⟨"CoastLamps", "beginAct", "()V"⟩, 7), (⟨"CoastLamps", "anyLit", "()Z"⟩, 7), (⟨"CoastLampsModel", "isLamp", "(I)Z"⟩, 13), (⟨"CoastLampsModel", "act", "()V"⟩, 13), (⟨"CoastLampsModel", "isHorned", "(I)Z"⟩, 13), (⟨"CoastLampsModel", "burn", "(II)I"⟩, 13), (⟨"CoastLampsModel", "burnOil", "(II)I"⟩, 13), (⟨"CoastLampsModel", "begins", "(I)V"⟩, 13), (⟨"CoastLampsModel", "burnLamp", "(II)I"⟩, 13), (⟨"CoastLampsModel", "burnTwin", "(II)I"⟩, 13), (⟨"CoastLampsModel", "burnSwing", "(II)I"⟩, 13), (⟨"CoastLampsModel", "burnOuter", "(II)I"⟩, 13), (⟨"CoastLampsModel", "burnFlare", "(II)I"⟩, 13), (⟨"CoastLampsModel", "reach", "(II)I"⟩, 13)]
theorem lw_r1 : ∀ q ∈ lw_privs_1, lw_okq q := List.forall_mem_cons.mpr ⟨lw_p0, List.forall_mem_cons.mpr ⟨lw_p1, List.forall_mem_cons.mpr ⟨lw_p2, List.forall_mem_cons.mpr ⟨lw_p3, List.forall_mem_cons.mpr ⟨lw_p4, List.forall_mem_cons.mpr ⟨lw_p5, List.forall_mem_cons.mpr ⟨lw_p6, List.forall_mem_cons.mpr ⟨lw_p7, List.forall_mem_cons.mpr ⟨lw_p8, List.forall_mem_cons.mpr ⟨lw_p9, List.forall_mem_cons.mpr ⟨lw_p10, List.forall_mem_cons.mpr ⟨lw_p11, List.forall_mem_cons.mpr ⟨lw_p12, List.forall_mem_cons.mpr ⟨lw_p13, List.forall_mem_cons.mpr ⟨lw_p14, List.forall_mem_cons.mpr ⟨lw_p15, fun _ h => absurd h List.not_mem_nil⟩⟩⟩⟩⟩⟩⟩⟩⟩⟩⟩⟩⟩⟩⟩⟩
theorem lw_p16 : lw_okq (⟨"CoastLampsModel", "reachLamp", "(II)I"⟩, 13) := ⟨⟨by decide +kernel, by decide +kernel⟩, List.mem_of_getElem? (i := 585) (by decide +kernel), List.mem_of_getElem? (i := 697) (by decide +kernel), List.mem_of_getElem? (i := 698) (by decide +kernel)⟩
theorem lw_p17 : lw_okq (⟨"CoastLampsModel", "reachRound", "(II)I"⟩, 13) := ⟨⟨by decide +kernel, by decide +kernel⟩, List.mem_of_getElem? (i := 585) (by decide +kernel), List.mem_of_getElem? (i := 701) (by decide +kernel), List.mem_of_getElem? (i := 702) (by decide +kernel)⟩
theorem lw_p18 : lw_okq (⟨"CoastLampsModel", "reachTwin", "(II)I"⟩, 13) := ⟨⟨by decide +kernel, by decide +kernel⟩, List.mem_of_getElem? (i := 585) (by decide +kernel), List.mem_of_getElem? (i := 705) (by decide +kernel), List.mem_of_getElem? (i := 706) (by decide +kernel)⟩
theorem lw_p19 : lw_okq (⟨"CoastLampsModel", "reachDrum", "(II)I"⟩, 13) := ⟨⟨by decide +kernel, by decide +kernel⟩, List.mem_of_getElem? (i := 585) (by decide +kernel), List.mem_of_getElem? (i := 709) (by decide +kernel), List.mem_of_getElem? (i := 710) (by decide +kernel)⟩
theorem lw_p20 : lw_okq (⟨"CoastLampsModel", "reachGas", "(II)I"⟩, 13) := ⟨⟨by decide +kernel, by decide +kernel⟩, List.mem_of_getElem? (i := 585) (by decide +kernel), List.mem_of_getElem? (i := 713) (by decide +kernel), List.mem_of_getElem? (i := 714) (by decide +kernel)⟩
theorem lw_p21 : lw_okq (⟨"CoastLampsModel", "reachBuoy", "(II)I"⟩, 13) := ⟨⟨by decide +kernel, by decide +kernel⟩, List.mem_of_getElem? (i := 585) (by decide +kernel), List.mem_of_getElem? (i := 717) (by decide +kernel), List.mem_of_getElem? (i := 718) (by decide +kernel)⟩
theorem lw_p22 : lw_okq (⟨"CoastLampsModel", "flash", "(II)I"⟩, 13) := ⟨⟨by decide +kernel, by decide +kernel⟩, List.mem_of_getElem? (i := 585) (by decide +kernel), List.mem_of_getElem? (i := 721) (by decide +kernel), List.mem_of_getElem? (i := 722) (by decide +kernel)⟩
theorem lw_p23 : lw_okq (⟨"CoastLampsModel", "flashTwin", "(I)I"⟩, 13) := ⟨⟨by decide +kernel, by decide +kernel⟩, List.mem_of_getElem? (i := 585) (by decide +kernel), List.mem_of_getElem? (i := 725) (by decide +kernel), List.mem_of_getElem? (i := 726) (by decide +kernel)⟩
theorem lw_p24 : lw_okq (⟨"CoastLampsModel", "flashLamp", "()I"⟩, 13) := ⟨⟨by decide +kernel, by decide +kernel⟩, List.mem_of_getElem? (i := 585) (by decide +kernel), List.mem_of_getElem? (i := 729) (by decide +kernel), List.mem_of_getElem? (i := 730) (by decide +kernel)⟩
theorem lw_p25 : lw_okq (⟨"CoastLampsModel", "flashSwing", "(I)I"⟩, 13) := ⟨⟨by decide +kernel, by decide +kernel⟩, List.mem_of_getElem? (i := 585) (by decide +kernel), List.mem_of_getElem? (i := 733) (by decide +kernel), List.mem_of_getElem? (i := 734) (by decide +kernel)⟩
theorem lw_p26 : lw_okq (⟨"CoastLampsModel", "flashFlare", "(I)I"⟩, 13) := ⟨⟨by decide +kernel, by decide +kernel⟩, List.mem_of_getElem? (i := 585) (by decide +kernel), List.mem_of_getElem? (i := 737) (by decide +kernel), List.mem_of_getElem? (i := 738) (by decide +kernel)⟩
theorem lw_p27 : lw_okq (⟨"CoastLampsModel", "flashOuter", "(I)I"⟩, 13) := ⟨⟨by decide +kernel, by decide +kernel⟩, List.mem_of_getElem? (i := 585) (by decide +kernel), List.mem_of_getElem? (i := 741) (by decide +kernel), List.mem_of_getElem? (i := 742) (by decide +kernel)⟩
theorem lw_p28 : lw_okq (⟨"CoastLampsModel", "tend", "(II)I"⟩, 13) := ⟨⟨by decide +kernel, by decide +kernel⟩, List.mem_of_getElem? (i := 585) (by decide +kernel), List.mem_of_getElem? (i := 745) (by decide +kernel), List.mem_of_getElem? (i := 746) (by decide +kernel)⟩
theorem lw_p29 : lw_okq (⟨"CoastLampsModel", "tendRound", "(II)I"⟩, 13) := ⟨⟨by decide +kernel, by decide +kernel⟩, List.mem_of_getElem? (i := 585) (by decide +kernel), List.mem_of_getElem? (i := 749) (by decide +kernel), List.mem_of_getElem? (i := 750) (by decide +kernel)⟩
theorem lw_p30 : lw_okq (⟨"CoastLampsModel", "tendLamp", "(II)I"⟩, 13) := ⟨⟨by decide +kernel, by decide +kernel⟩, List.mem_of_getElem? (i := 585) (by decide +kernel), List.mem_of_getElem? (i := 753) (by decide +kernel), List.mem_of_getElem? (i := 754) (by decide +kernel)⟩
theorem lw_p31 : lw_okq (⟨"CoastLampsModel", "tendDrum", "(II)I"⟩, 13) := ⟨⟨by decide +kernel, by decide +kernel⟩, List.mem_of_getElem? (i := 585) (by decide +kernel), List.mem_of_getElem? (i := 757) (by decide +kernel), List.mem_of_getElem? (i := 758) (by decide +kernel)⟩
def lw_privs_2 : List (MethodName × Nat) := [(⟨"CoastLampsModel", "reachLamp", "(II)I"⟩, 13), (⟨"CoastLampsModel", "reachRound", "(II)I"⟩, 13), (⟨"CoastLampsModel", "reachTwin", "(II)I"⟩, 13), (⟨"CoastLampsModel", "reachDrum", "(II)I"⟩, 13), (⟨"CoastLampsModel", "reachGas", "(II)I"⟩, 13), (⟨"CoastLampsModel", "reachBuoy", "(II)I"⟩, 13), (⟨"CoastLampsModel", "flash", "(II)I"⟩, 13), (⟨"CoastLampsModel", "flashTwin", "(I)I"⟩, 13), (⟨"CoastLampsModel", "flashLamp", "()I"⟩, 13), (⟨"CoastLampsModel", "flashSwing", "(I)I"⟩, 13), (⟨"CoastLampsModel", "flashFlare", "(I)I"⟩, 13), (⟨"CoastLampsModel", "flashOuter", "(I)I"⟩, 13), (⟨"CoastLampsModel", "tend", "(II)I"⟩, 13), (⟨"CoastLampsModel", "tendRound", "(II)I"⟩, 13), (⟨"CoastLampsModel", "tendLamp", "(II)I"⟩, 13), (⟨"CoastLampsModel", "tendDrum", "(II)I"⟩, 13)]
theorem lw_r2 : ∀ q ∈ lw_privs_2, lw_okq q := List.forall_mem_cons.mpr ⟨lw_p16, List.forall_mem_cons.mpr ⟨lw_p17, List.forall_mem_cons.mpr ⟨lw_p18, List.forall_mem_cons.mpr ⟨lw_p19, List.forall_mem_cons.mpr ⟨lw_p20, List.forall_mem_cons.mpr ⟨lw_p21, List.forall_mem_cons.mpr ⟨lw_p22, List.forall_mem_cons.mpr ⟨lw_p23, List.forall_mem_cons.mpr ⟨lw_p24, List.forall_mem_cons.mpr ⟨lw_p25, List.forall_mem_cons.mpr ⟨lw_p26, List.forall_mem_cons.mpr ⟨lw_p27, List.forall_mem_cons.mpr ⟨lw_p28, List.forall_mem_cons.mpr ⟨lw_p29, List.forall_mem_cons.mpr ⟨lw_p30, List.forall_mem_cons.mpr ⟨lw_p31, fun _ h => absurd h List.not_mem_nil⟩⟩⟩⟩⟩⟩⟩⟩⟩⟩⟩⟩⟩⟩⟩⟩
theorem lw_p32 : lw_okq (⟨"CoastLampsModel", "tendBuoy", "(II)I"⟩, 13) := ⟨⟨by decide +kernel, by decide +kernel⟩, List.mem_of_getElem? (i := 585) (by decide +kernel), List.mem_of_getElem? (i := 761) (by decide +kernel), List.mem_of_getElem? (i := 762) (by decide +kernel)⟩
theorem lw_p33 : lw_okq (⟨"CoastLampsModel", "rank", "(I)I"⟩, 13) := ⟨⟨by decide +kernel, by decide +kernel⟩, List.mem_of_getElem? (i := 585) (by decide +kernel), List.mem_of_getElem? (i := 765) (by decide +kernel), List.mem_of_getElem? (i := 766) (by decide +kernel)⟩
theorem lw_p34 : lw_okq (⟨"CoastLampsModel", "rankOil", "(I)I"⟩, 13) := ⟨⟨by decide +kernel, by decide +kernel⟩, List.mem_of_getElem? (i := 585) (by decide +kernel), List.mem_of_getElem? (i := 769) (by decide +kernel), List.mem_of_getElem? (i := 770) (by decide +kernel)⟩
theorem lw_p35 : lw_okq (⟨"CoastLampsModel", "rankLamp", "(I)I"⟩, 13) := ⟨⟨by decide +kernel, by decide +kernel⟩, List.mem_of_getElem? (i := 585) (by decide +kernel), List.mem_of_getElem? (i := 773) (by decide +kernel), List.mem_of_getElem? (i := 774) (by decide +kernel)⟩
theorem lw_p36 : lw_okq (⟨"CoastLampsModel", "rankDrum", "(I)I"⟩, 13) := ⟨⟨by decide +kernel, by decide +kernel⟩, List.mem_of_getElem? (i := 585) (by decide +kernel), List.mem_of_getElem? (i := 777) (by decide +kernel), List.mem_of_getElem? (i := 778) (by decide +kernel)⟩
theorem lw_p37 : lw_okq (⟨"CoastLampsModel", "rankOuter", "(I)I"⟩, 13) := ⟨⟨by decide +kernel, by decide +kernel⟩, List.mem_of_getElem? (i := 585) (by decide +kernel), List.mem_of_getElem? (i := 781) (by decide +kernel), List.mem_of_getElem? (i := 782) (by decide +kernel)⟩
theorem lw_p38 : lw_okq (⟨"CoastLampsModel", "rankFlare", "(I)I"⟩, 13) := ⟨⟨by decide +kernel, by decide +kernel⟩, List.mem_of_getElem? (i := 585) (by decide +kernel), List.mem_of_getElem? (i := 785) (by decide +kernel), List.mem_of_getElem? (i := 786) (by decide +kernel)⟩
theorem lw_p39 : lw_okq (⟨"CoastLampsModel", "horn", "(II)I"⟩, 13) := ⟨⟨by decide +kernel, by decide +kernel⟩, List.mem_of_getElem? (i := 585) (by decide +kernel), List.mem_of_getElem? (i := 789) (by decide +kernel), List.mem_of_getElem? (i := 790) (by decide +kernel)⟩
theorem lw_p40 : lw_okq (⟨"CoastLampsModel", "tone", "(I)I"⟩, 13) := ⟨⟨by decide +kernel, by decide +kernel⟩, List.mem_of_getElem? (i := 585) (by decide +kernel), List.mem_of_getElem? (i := 793) (by decide +kernel), List.mem_of_getElem? (i := 794) (by decide +kernel)⟩
theorem lw_p41 : lw_okq (⟨"CoastLampsModel", "toneDrum", "()I"⟩, 13) := ⟨⟨by decide +kernel, by decide +kernel⟩, List.mem_of_getElem? (i := 585) (by decide +kernel), List.mem_of_getElem? (i := 797) (by decide +kernel), List.mem_of_getElem? (i := 798) (by decide +kernel)⟩
theorem lw_p42 : lw_okq (⟨"CoastLampsModel", "toneOil", "()I"⟩, 13) := ⟨⟨by decide +kernel, by decide +kernel⟩, List.mem_of_getElem? (i := 585) (by decide +kernel), List.mem_of_getElem? (i := 801) (by decide +kernel), List.mem_of_getElem? (i := 802) (by decide +kernel)⟩
theorem lw_p43 : lw_okq (⟨"CoastLampsModel", "toneFlare", "()I"⟩, 13) := ⟨⟨by decide +kernel, by decide +kernel⟩, List.mem_of_getElem? (i := 585) (by decide +kernel), List.mem_of_getElem? (i := 805) (by decide +kernel), List.mem_of_getElem? (i := 806) (by decide +kernel)⟩
theorem lw_p44 : lw_okq (⟨"CoastLampsModel", "toneOuter", "(I)I"⟩, 13) := ⟨⟨by decide +kernel, by decide +kernel⟩, List.mem_of_getElem? (i := 585) (by decide +kernel), List.mem_of_getElem? (i := 809) (by decide +kernel), List.mem_of_getElem? (i := 810) (by decide +kernel)⟩
theorem lw_p45 : lw_okq (⟨"CoastLampsModel", "isAnyLit", "()Z"⟩, 13) := ⟨⟨by decide +kernel, by decide +kernel⟩, List.mem_of_getElem? (i := 585) (by decide +kernel), List.mem_of_getElem? (i := 835) (by decide +kernel), List.mem_of_getElem? (i := 836) (by decide +kernel)⟩
def lw_privs_3 : List (MethodName × Nat) := [(⟨"CoastLampsModel", "tendBuoy", "(II)I"⟩, 13), (⟨"CoastLampsModel", "rank", "(I)I"⟩, 13), (⟨"CoastLampsModel", "rankOil", "(I)I"⟩, 13), (⟨"CoastLampsModel", "rankLamp", "(I)I"⟩, 13), (⟨"CoastLampsModel", "rankDrum", "(I)I"⟩, 13), (⟨"CoastLampsModel", "rankOuter", "(I)I"⟩, 13), (⟨"CoastLampsModel", "rankFlare", "(I)I"⟩, 13), (⟨"CoastLampsModel", "horn", "(II)I"⟩, 13), (⟨"CoastLampsModel", "tone", "(I)I"⟩, 13), (⟨"CoastLampsModel", "toneDrum", "()I"⟩, 13), (⟨"CoastLampsModel", "toneOil", "()I"⟩, 13), (⟨"CoastLampsModel", "toneFlare", "()I"⟩, 13), (⟨"CoastLampsModel", "toneOuter", "(I)I"⟩, 13), (⟨"CoastLampsModel", "isAnyLit", "()Z"⟩, 13)]
theorem lw_r3 : ∀ q ∈ lw_privs_3, lw_okq q := List.forall_mem_cons.mpr ⟨lw_p32, List.forall_mem_cons.mpr ⟨lw_p33, List.forall_mem_cons.mpr ⟨lw_p34, List.forall_mem_cons.mpr ⟨lw_p35, List.forall_mem_cons.mpr ⟨lw_p36, List.forall_mem_cons.mpr ⟨lw_p37, List.forall_mem_cons.mpr ⟨lw_p38, List.forall_mem_cons.mpr ⟨lw_p39, List.forall_mem_cons.mpr ⟨lw_p40, List.forall_mem_cons.mpr ⟨lw_p41, List.forall_mem_cons.mpr ⟨lw_p42, List.forall_mem_cons.mpr ⟨lw_p43, List.forall_mem_cons.mpr ⟨lw_p44, List.forall_mem_cons.mpr ⟨lw_p45, fun _ h => absurd h List.not_mem_nil⟩⟩⟩⟩⟩⟩⟩⟩⟩⟩⟩⟩⟩⟩
def lw_privs : List (MethodName × Nat) := lw_privs_1 ++ (lw_privs_2 ++ (lw_privs_3))
def lw_tbl : List Cond := k2_sels lw_privs ++ tables_1
theorem lw_privs_ok : ∀ q ∈ lw_privs, lw_okq q := by
  show ∀ q ∈ lw_privs_1 ++ (lw_privs_2 ++ (lw_privs_3)), lw_okq q
  exact List.forall_mem_append.mpr ⟨lw_r1, List.forall_mem_append.mpr ⟨lw_r2, lw_r3⟩⟩

def R_X : String := "CoastLamps"
def R_M : String := "CoastLampsModel"
def R_Coast : String := "CoastLamps$Coast"
def R_Lamp : String := "CoastLamps$Lamp"
def R_Oil : String := "CoastLamps$Oil"
def R_Round : String := "CoastLamps$Round"
def R_Twin : String := "CoastLamps$Twin"
def R_Drum : String := "CoastLamps$Drum"
def R_Swing : String := "CoastLamps$Swing"
def R_Gas : String := "CoastLamps$Gas"
def R_Flare : String := "CoastLamps$Flare"
def R_Buoy : String := "CoastLamps$Buoy"
def R_Outer : String := "CoastLamps$Outer"
def R_K : Nat → String := fun k => match k with
  | 0 => "CoastLamps$Oil"
  | 1 => "CoastLamps$Round"
  | 2 => "CoastLamps$Twin"
  | 3 => "CoastLamps$Drum"
  | 4 => "CoastLamps$Swing"
  | 5 => "CoastLamps$Gas"
  | 6 => "CoastLamps$Flare"
  | 7 => "CoastLamps$Buoy"
  | _ => "CoastLamps$Outer"
def F_Lamp : u_T := fun k => match k with
  | 0 => ("CoastLamps$Lamp", "coast", "LCoastLamps$Coast;", true)
  | 1 => ("CoastLamps$Lamp", "kind", "I", true)
  | 2 => ("CoastLamps$Lamp", "height", "I", true)
  | 3 => ("CoastLamps$Lamp", "tank", "I", false)
  | 4 => ("CoastLamps$Lamp", "soot", "I", false)
  | _ => ("CoastLamps$Lamp", "lit", "Z", false)
def t_Lamp : Nat → FieldType := fun k => match k with
  | 0 => .object "CoastLamps$Coast"
  | 1 => .int
  | 2 => .int
  | 3 => .int
  | 4 => .int
  | _ => .boolean
theorem n_Lamp : ∀ a, a < 6 → ∀ b, b < 6 → a ≠ b → (F_Lamp a).2.1 ≠ (F_Lamp b).2.1 := by decide +kernel
theorem o_Lamp : ∀ k, k < 6 → parseFieldDescriptor (F_Lamp k).2.2.1 = some (t_Lamp k) := by decide +kernel
def F_Coast : u_T := fun k => match k with
  | 0 => ("CoastLamps$Coast", "dials", "[I", true)
  | 1 => ("CoastLamps$Coast", "entries", "[I", true)
  | _ => ("CoastLamps$Coast", "written", "I", false)
def t_Coast : Nat → FieldType := fun k => match k with
  | 0 => .array .int
  | 1 => .array .int
  | _ => .int
theorem n_Coast : ∀ a, a < 3 → ∀ b, b < 3 → a ≠ b → (F_Coast a).2.1 ≠ (F_Coast b).2.1 := by decide +kernel
theorem o_Coast : ∀ k, k < 3 → parseFieldDescriptor (F_Coast k).2.2.1 = some (t_Coast k) := by decide +kernel
def F_X : u_T := fun k => match k with
  | 0 => ("CoastLamps", "coast", "LCoastLamps$Coast;", true)
  | 1 => ("CoastLamps", "lamps", "[LCoastLamps$Lamp;", true)
  | 2 => ("CoastLamps", "lampCount", "I", false)
  | 3 => ("CoastLamps", "nights", "I", false)
  | 4 => ("CoastLamps", "acts", "I", false)
  | 5 => ("CoastLamps", "latestBlown", "I", false)
  | _ => ("CoastLamps", "stored", "J", false)
def t_X : Nat → FieldType := fun k => match k with
  | 0 => .object "CoastLamps$Coast"
  | 1 => .array (.object "CoastLamps$Lamp")
  | 2 => .int
  | 3 => .int
  | 4 => .int
  | 5 => .int
  | _ => .long
theorem n_X : ∀ a, a < 7 → ∀ b, b < 7 → a ≠ b → (F_X a).2.1 ≠ (F_X b).2.1 := by decide +kernel
theorem o_X : ∀ k, k < 7 → parseFieldDescriptor (F_X k).2.2.1 = some (t_X k) := by decide +kernel
def F_M : u_T := fun k => match k with
  | 0 => ("CoastLampsModel", "dials", "[I", true)
  | 1 => ("CoastLampsModel", "lamps", "I", false)
  | 2 => ("CoastLampsModel", "kind", "[I", true)
  | 3 => ("CoastLampsModel", "height", "[I", true)
  | 4 => ("CoastLampsModel", "tank", "[I", true)
  | 5 => ("CoastLampsModel", "soot", "[I", true)
  | 6 => ("CoastLampsModel", "lit", "[Z", true)
  | 7 => ("CoastLampsModel", "store", "J", false)
  | 8 => ("CoastLampsModel", "nights", "I", false)
  | 9 => ("CoastLampsModel", "acts", "I", false)
  | 10 => ("CoastLampsModel", "blown", "I", false)
  | 11 => ("CoastLampsModel", "trace", "[I", true)
  | _ => ("CoastLampsModel", "traced", "I", false)
def t_M : Nat → FieldType := fun k => match k with
  | 0 => .array .int
  | 1 => .int
  | 2 => .array .int
  | 3 => .array .int
  | 4 => .array .int
  | 5 => .array .int
  | 6 => .array .boolean
  | 7 => .long
  | 8 => .int
  | 9 => .int
  | 10 => .int
  | 11 => .array .int
  | _ => .int
theorem n_M : ∀ a, a < 13 → ∀ b, b < 13 → a ≠ b → (F_M a).2.1 ≠ (F_M b).2.1 := by decide +kernel
theorem o_M : ∀ k, k < 13 → parseFieldDescriptor (F_M k).2.2.1 = some (t_M k) := by decide +kernel
abbrev classes : List vw_C := [(R_Oil, F_Lamp, 6), (R_Round, F_Lamp, 6), (R_Twin, F_Lamp, 6), (R_Drum, F_Lamp, 6), (R_Swing, F_Lamp, 6), (R_Gas, F_Lamp, 6), (R_Flare, F_Lamp, 6), (R_Buoy, F_Lamp, 6), (R_Outer, F_Lamp, 6), (R_Coast, F_Coast, 3), (R_X, F_X, 7), (R_M, F_M, 13)]
abbrev b_Buoy_init : ByteArray := prog_2_method_1_code
def y_Buoy_init : MethodName := ⟨"CoastLamps$Buoy", "<init>", "(LCoastLamps$Coast;II)V"⟩
abbrev b_Buoy_reach : ByteArray := prog_2_method_2_code
def y_Buoy_reach : MethodName := ⟨"CoastLamps$Buoy", "reach", "(I)I"⟩
abbrev b_Buoy_tend : ByteArray := prog_2_method_3_code
def y_Buoy_tend : MethodName := ⟨"CoastLamps$Buoy", "tend", "(I)I"⟩
abbrev b_Coast_init : ByteArray := prog_3_method_1_code
def y_Coast_init : MethodName := ⟨"CoastLamps$Coast", "<init>", "()V"⟩
abbrev b_Coast_dialed : ByteArray := prog_3_method_2_code
def y_Coast_dialed : MethodName := ⟨"CoastLamps$Coast", "dialed", "(I)I"⟩
abbrev b_Coast_turn : ByteArray := prog_3_method_3_code
def y_Coast_turn : MethodName := ⟨"CoastLamps$Coast", "turn", "(II)V"⟩
abbrev b_Coast_entry : ByteArray := prog_3_method_4_code
def y_Coast_entry : MethodName := ⟨"CoastLamps$Coast", "entry", "(I)I"⟩
abbrev b_Coast_wipe : ByteArray := prog_3_method_5_code
def y_Coast_wipe : MethodName := ⟨"CoastLamps$Coast", "wipe", "()V"⟩
abbrev b_Coast_begins : ByteArray := prog_3_method_6_code
def y_Coast_begins : MethodName := ⟨"CoastLamps$Coast", "begins", "(II)V"⟩
abbrev b_Drum_init : ByteArray := prog_4_method_1_code
def y_Drum_init : MethodName := ⟨"CoastLamps$Drum", "<init>", "(LCoastLamps$Coast;II)V"⟩
abbrev b_Drum_reach : ByteArray := prog_4_method_2_code
def y_Drum_reach : MethodName := ⟨"CoastLamps$Drum", "reach", "(I)I"⟩
abbrev b_Drum_tend : ByteArray := prog_4_method_3_code
def y_Drum_tend : MethodName := ⟨"CoastLamps$Drum", "tend", "(I)I"⟩
abbrev b_Drum_rank : ByteArray := prog_4_method_4_code
def y_Drum_rank : MethodName := ⟨"CoastLamps$Drum", "rank", "()I"⟩
abbrev b_Drum_tone : ByteArray := prog_4_method_5_code
def y_Drum_tone : MethodName := ⟨"CoastLamps$Drum", "tone", "()I"⟩
abbrev b_Flare_init : ByteArray := prog_5_method_1_code
def y_Flare_init : MethodName := ⟨"CoastLamps$Flare", "<init>", "(LCoastLamps$Coast;II)V"⟩
abbrev b_Flare_horned : ByteArray := prog_5_method_2_code
def y_Flare_horned : MethodName := ⟨"CoastLamps$Flare", "horned", "()Z"⟩
abbrev b_Flare_burn : ByteArray := prog_5_method_3_code
def y_Flare_burn : MethodName := ⟨"CoastLamps$Flare", "burn", "(I)I"⟩
abbrev b_Flare_flash : ByteArray := prog_5_method_4_code
def y_Flare_flash : MethodName := ⟨"CoastLamps$Flare", "flash", "(I)I"⟩
abbrev b_Flare_rank : ByteArray := prog_5_method_5_code
def y_Flare_rank : MethodName := ⟨"CoastLamps$Flare", "rank", "()I"⟩
abbrev b_Flare_tone : ByteArray := prog_5_method_6_code
def y_Flare_tone : MethodName := ⟨"CoastLamps$Flare", "tone", "()I"⟩
abbrev b_Gas_init : ByteArray := prog_6_method_1_code
def y_Gas_init : MethodName := ⟨"CoastLamps$Gas", "<init>", "(LCoastLamps$Coast;II)V"⟩
abbrev b_Gas_reach : ByteArray := prog_6_method_2_code
def y_Gas_reach : MethodName := ⟨"CoastLamps$Gas", "reach", "(I)I"⟩
abbrev b_Lamp_init : ByteArray := prog_7_method_1_code
def y_Lamp_init : MethodName := ⟨"CoastLamps$Lamp", "<init>", "(LCoastLamps$Coast;II)V"⟩
abbrev b_Lamp_drain : ByteArray := prog_7_method_2_code
def y_Lamp_drain : MethodName := ⟨"CoastLamps$Lamp", "drain", "(I)V"⟩
abbrev b_Lamp_horned : ByteArray := prog_7_method_3_code
def y_Lamp_horned : MethodName := ⟨"CoastLamps$Lamp", "horned", "()Z"⟩
abbrev b_Lamp_burn : ByteArray := prog_7_method_4_code
def y_Lamp_burn : MethodName := ⟨"CoastLamps$Lamp", "burn", "(I)I"⟩
abbrev b_Lamp_reach : ByteArray := prog_7_method_5_code
def y_Lamp_reach : MethodName := ⟨"CoastLamps$Lamp", "reach", "(I)I"⟩
abbrev b_Lamp_flash : ByteArray := prog_7_method_6_code
def y_Lamp_flash : MethodName := ⟨"CoastLamps$Lamp", "flash", "(I)I"⟩
abbrev b_Lamp_tend : ByteArray := prog_7_method_7_code
def y_Lamp_tend : MethodName := ⟨"CoastLamps$Lamp", "tend", "(I)I"⟩
abbrev b_Lamp_rank : ByteArray := prog_7_method_8_code
def y_Lamp_rank : MethodName := ⟨"CoastLamps$Lamp", "rank", "()I"⟩
abbrev b_Lamp_horn : ByteArray := prog_7_method_9_code
def y_Lamp_horn : MethodName := ⟨"CoastLamps$Lamp", "horn", "(I)I"⟩
abbrev b_Lamp_tone : ByteArray := prog_7_method_10_code
def y_Lamp_tone : MethodName := ⟨"CoastLamps$Lamp", "tone", "()I"⟩
abbrev b_Oil_init : ByteArray := prog_8_method_1_code
def y_Oil_init : MethodName := ⟨"CoastLamps$Oil", "<init>", "(LCoastLamps$Coast;II)V"⟩
abbrev b_Oil_burn : ByteArray := prog_8_method_2_code
def y_Oil_burn : MethodName := ⟨"CoastLamps$Oil", "burn", "(I)I"⟩
abbrev b_Oil_rank : ByteArray := prog_8_method_3_code
def y_Oil_rank : MethodName := ⟨"CoastLamps$Oil", "rank", "()I"⟩
abbrev b_Oil_tone : ByteArray := prog_8_method_4_code
def y_Oil_tone : MethodName := ⟨"CoastLamps$Oil", "tone", "()I"⟩
abbrev b_Outer_init : ByteArray := prog_9_method_1_code
def y_Outer_init : MethodName := ⟨"CoastLamps$Outer", "<init>", "(LCoastLamps$Coast;II)V"⟩
abbrev b_Outer_burn : ByteArray := prog_9_method_2_code
def y_Outer_burn : MethodName := ⟨"CoastLamps$Outer", "burn", "(I)I"⟩
abbrev b_Outer_flash : ByteArray := prog_9_method_3_code
def y_Outer_flash : MethodName := ⟨"CoastLamps$Outer", "flash", "(I)I"⟩
abbrev b_Outer_rank : ByteArray := prog_9_method_4_code
def y_Outer_rank : MethodName := ⟨"CoastLamps$Outer", "rank", "()I"⟩
abbrev b_Outer_tone : ByteArray := prog_9_method_5_code
def y_Outer_tone : MethodName := ⟨"CoastLamps$Outer", "tone", "()I"⟩
abbrev b_Round_init : ByteArray := prog_10_method_1_code
def y_Round_init : MethodName := ⟨"CoastLamps$Round", "<init>", "(LCoastLamps$Coast;II)V"⟩
abbrev b_Round_reach : ByteArray := prog_10_method_2_code
def y_Round_reach : MethodName := ⟨"CoastLamps$Round", "reach", "(I)I"⟩
abbrev b_Round_tend : ByteArray := prog_10_method_3_code
def y_Round_tend : MethodName := ⟨"CoastLamps$Round", "tend", "(I)I"⟩
abbrev b_Swing_init : ByteArray := prog_11_method_1_code
def y_Swing_init : MethodName := ⟨"CoastLamps$Swing", "<init>", "(LCoastLamps$Coast;II)V"⟩
abbrev b_Swing_burn : ByteArray := prog_11_method_2_code
def y_Swing_burn : MethodName := ⟨"CoastLamps$Swing", "burn", "(I)I"⟩
abbrev b_Swing_flash : ByteArray := prog_11_method_3_code
def y_Swing_flash : MethodName := ⟨"CoastLamps$Swing", "flash", "(I)I"⟩
abbrev b_Swing_horn : ByteArray := prog_11_method_4_code
def y_Swing_horn : MethodName := ⟨"CoastLamps$Swing", "horn", "(I)I"⟩
abbrev b_Twin_init : ByteArray := prog_12_method_1_code
def y_Twin_init : MethodName := ⟨"CoastLamps$Twin", "<init>", "(LCoastLamps$Coast;II)V"⟩
abbrev b_Twin_horned : ByteArray := prog_12_method_2_code
def y_Twin_horned : MethodName := ⟨"CoastLamps$Twin", "horned", "()Z"⟩
abbrev b_Twin_burn : ByteArray := prog_12_method_3_code
def y_Twin_burn : MethodName := ⟨"CoastLamps$Twin", "burn", "(I)I"⟩
abbrev b_Twin_reach : ByteArray := prog_12_method_4_code
def y_Twin_reach : MethodName := ⟨"CoastLamps$Twin", "reach", "(I)I"⟩
abbrev b_Twin_flash : ByteArray := prog_12_method_5_code
def y_Twin_flash : MethodName := ⟨"CoastLamps$Twin", "flash", "(I)I"⟩
abbrev b_X_init : ByteArray := prog_1_method_1_code
def y_X_init : MethodName := ⟨"CoastLamps", "<init>", "()V"⟩
abbrev b_X_dial : ByteArray := prog_1_method_2_code
def y_X_dial : MethodName := ⟨"CoastLamps", "dial", "(II)I"⟩
abbrev b_X_lamp : ByteArray := prog_1_method_3_code
def y_X_lamp : MethodName := ⟨"CoastLamps", "lamp", "(II)I"⟩
abbrev b_X_ask : ByteArray := prog_1_method_4_code
def y_X_ask : MethodName := ⟨"CoastLamps", "ask", "(III)J"⟩
abbrev b_X_trace : ByteArray := prog_1_method_5_code
def y_X_trace : MethodName := ⟨"CoastLamps", "trace", "(I)I"⟩
abbrev b_X_haul : ByteArray := prog_1_method_6_code
def y_X_haul : MethodName := ⟨"CoastLamps", "haul", "(I)J"⟩
abbrev b_X_fill : ByteArray := prog_1_method_7_code
def y_X_fill : MethodName := ⟨"CoastLamps", "fill", "(II)I"⟩
abbrev b_X_light : ByteArray := prog_1_method_8_code
def y_X_light : MethodName := ⟨"CoastLamps", "light", "(IZ)I"⟩
abbrev b_X_night : ByteArray := prog_1_method_9_code
def y_X_night : MethodName := ⟨"CoastLamps", "night", "(I)I"⟩
abbrev b_X_seen : ByteArray := prog_1_method_10_code
def y_X_seen : MethodName := ⟨"CoastLamps", "seen", "(I)I"⟩
abbrev b_X_blow : ByteArray := prog_1_method_11_code
def y_X_blow : MethodName := ⟨"CoastLamps", "blow", "(II)I"⟩
abbrev b_X_blown : ByteArray := prog_1_method_12_code
def y_X_blown : MethodName := ⟨"CoastLamps", "blown", "()I"⟩
abbrev b_X_told : ByteArray := prog_1_method_13_code
def y_X_told : MethodName := ⟨"CoastLamps", "told", "(II)J"⟩
abbrev b_X_count : ByteArray := prog_1_method_14_code
def y_X_count : MethodName := ⟨"CoastLamps", "count", "(I)I"⟩
abbrev b_X_store : ByteArray := prog_1_method_15_code
def y_X_store : MethodName := ⟨"CoastLamps", "store", "()J"⟩
abbrev b_X_within : ByteArray := prog_1_method_16_code
def y_X_within : MethodName := ⟨"CoastLamps", "within", "(III)Z"⟩
abbrev b_X_lampAt : ByteArray := prog_1_method_17_code
def y_X_lampAt : MethodName := ⟨"CoastLamps", "lampAt", "(I)LCoastLamps$Lamp;"⟩
abbrev b_X_anyLit : ByteArray := prog_1_method_18_code
def y_X_anyLit : MethodName := ⟨"CoastLamps", "anyLit", "()Z"⟩
abbrev b_X_beginAct : ByteArray := prog_1_method_19_code
def y_X_beginAct : MethodName := ⟨"CoastLamps", "beginAct", "()V"⟩
abbrev b_X_made : ByteArray := prog_1_method_20_code
def y_X_made : MethodName := ⟨"CoastLamps", "made", "(II)LCoastLamps$Lamp;"⟩
abbrev b_M_init : ByteArray := prog_14_method_1_code
def y_M_init : MethodName := ⟨"CoastLampsModel", "<init>", "()V"⟩
abbrev b_M_in : ByteArray := prog_14_method_3_code
def y_M_in : MethodName := ⟨"CoastLampsModel", "in", "(III)Z"⟩
abbrev b_M_isLamp : ByteArray := prog_14_method_4_code
def y_M_isLamp : MethodName := ⟨"CoastLampsModel", "isLamp", "(I)Z"⟩
abbrev b_M_isHorned : ByteArray := prog_14_method_5_code
def y_M_isHorned : MethodName := ⟨"CoastLampsModel", "isHorned", "(I)Z"⟩
abbrev b_M_begins : ByteArray := prog_14_method_6_code
def y_M_begins : MethodName := ⟨"CoastLampsModel", "begins", "(I)V"⟩
abbrev b_M_act : ByteArray := prog_14_method_7_code
def y_M_act : MethodName := ⟨"CoastLampsModel", "act", "()V"⟩
abbrev b_M_burnLamp : ByteArray := prog_14_method_8_code
def y_M_burnLamp : MethodName := ⟨"CoastLampsModel", "burnLamp", "(II)I"⟩
abbrev b_M_burnOil : ByteArray := prog_14_method_9_code
def y_M_burnOil : MethodName := ⟨"CoastLampsModel", "burnOil", "(II)I"⟩
abbrev b_M_burnTwin : ByteArray := prog_14_method_10_code
def y_M_burnTwin : MethodName := ⟨"CoastLampsModel", "burnTwin", "(II)I"⟩
abbrev b_M_burnSwing : ByteArray := prog_14_method_11_code
def y_M_burnSwing : MethodName := ⟨"CoastLampsModel", "burnSwing", "(II)I"⟩
abbrev b_M_burnFlare : ByteArray := prog_14_method_12_code
def y_M_burnFlare : MethodName := ⟨"CoastLampsModel", "burnFlare", "(II)I"⟩
abbrev b_M_burnOuter : ByteArray := prog_14_method_13_code
def y_M_burnOuter : MethodName := ⟨"CoastLampsModel", "burnOuter", "(II)I"⟩
abbrev b_M_burn : ByteArray := prog_14_method_14_code
def y_M_burn : MethodName := ⟨"CoastLampsModel", "burn", "(II)I"⟩
abbrev b_M_reachLamp : ByteArray := prog_14_method_15_code
def y_M_reachLamp : MethodName := ⟨"CoastLampsModel", "reachLamp", "(II)I"⟩
abbrev b_M_reachRound : ByteArray := prog_14_method_16_code
def y_M_reachRound : MethodName := ⟨"CoastLampsModel", "reachRound", "(II)I"⟩
abbrev b_M_reachTwin : ByteArray := prog_14_method_17_code
def y_M_reachTwin : MethodName := ⟨"CoastLampsModel", "reachTwin", "(II)I"⟩
abbrev b_M_reachDrum : ByteArray := prog_14_method_18_code
def y_M_reachDrum : MethodName := ⟨"CoastLampsModel", "reachDrum", "(II)I"⟩
abbrev b_M_reachGas : ByteArray := prog_14_method_19_code
def y_M_reachGas : MethodName := ⟨"CoastLampsModel", "reachGas", "(II)I"⟩
abbrev b_M_reachBuoy : ByteArray := prog_14_method_20_code
def y_M_reachBuoy : MethodName := ⟨"CoastLampsModel", "reachBuoy", "(II)I"⟩
abbrev b_M_reach : ByteArray := prog_14_method_21_code
def y_M_reach : MethodName := ⟨"CoastLampsModel", "reach", "(II)I"⟩
abbrev b_M_flashLamp : ByteArray := prog_14_method_22_code
def y_M_flashLamp : MethodName := ⟨"CoastLampsModel", "flashLamp", "()I"⟩
abbrev b_M_flashTwin : ByteArray := prog_14_method_23_code
def y_M_flashTwin : MethodName := ⟨"CoastLampsModel", "flashTwin", "(I)I"⟩
abbrev b_M_flashSwing : ByteArray := prog_14_method_24_code
def y_M_flashSwing : MethodName := ⟨"CoastLampsModel", "flashSwing", "(I)I"⟩
abbrev b_M_flashFlare : ByteArray := prog_14_method_25_code
def y_M_flashFlare : MethodName := ⟨"CoastLampsModel", "flashFlare", "(I)I"⟩
abbrev b_M_flashOuter : ByteArray := prog_14_method_26_code
def y_M_flashOuter : MethodName := ⟨"CoastLampsModel", "flashOuter", "(I)I"⟩
abbrev b_M_flash : ByteArray := prog_14_method_27_code
def y_M_flash : MethodName := ⟨"CoastLampsModel", "flash", "(II)I"⟩
abbrev b_M_tendLamp : ByteArray := prog_14_method_28_code
def y_M_tendLamp : MethodName := ⟨"CoastLampsModel", "tendLamp", "(II)I"⟩
abbrev b_M_tendRound : ByteArray := prog_14_method_29_code
def y_M_tendRound : MethodName := ⟨"CoastLampsModel", "tendRound", "(II)I"⟩
abbrev b_M_tendDrum : ByteArray := prog_14_method_30_code
def y_M_tendDrum : MethodName := ⟨"CoastLampsModel", "tendDrum", "(II)I"⟩
abbrev b_M_tendBuoy : ByteArray := prog_14_method_31_code
def y_M_tendBuoy : MethodName := ⟨"CoastLampsModel", "tendBuoy", "(II)I"⟩
abbrev b_M_tend : ByteArray := prog_14_method_32_code
def y_M_tend : MethodName := ⟨"CoastLampsModel", "tend", "(II)I"⟩
abbrev b_M_rankLamp : ByteArray := prog_14_method_33_code
def y_M_rankLamp : MethodName := ⟨"CoastLampsModel", "rankLamp", "(I)I"⟩
abbrev b_M_rankOil : ByteArray := prog_14_method_34_code
def y_M_rankOil : MethodName := ⟨"CoastLampsModel", "rankOil", "(I)I"⟩
abbrev b_M_rankDrum : ByteArray := prog_14_method_35_code
def y_M_rankDrum : MethodName := ⟨"CoastLampsModel", "rankDrum", "(I)I"⟩
abbrev b_M_rankFlare : ByteArray := prog_14_method_36_code
def y_M_rankFlare : MethodName := ⟨"CoastLampsModel", "rankFlare", "(I)I"⟩
abbrev b_M_rankOuter : ByteArray := prog_14_method_37_code
def y_M_rankOuter : MethodName := ⟨"CoastLampsModel", "rankOuter", "(I)I"⟩
abbrev b_M_rank : ByteArray := prog_14_method_38_code
def y_M_rank : MethodName := ⟨"CoastLampsModel", "rank", "(I)I"⟩
abbrev b_M_toneOil : ByteArray := prog_14_method_39_code
def y_M_toneOil : MethodName := ⟨"CoastLampsModel", "toneOil", "()I"⟩
abbrev b_M_toneDrum : ByteArray := prog_14_method_40_code
def y_M_toneDrum : MethodName := ⟨"CoastLampsModel", "toneDrum", "()I"⟩
abbrev b_M_toneFlare : ByteArray := prog_14_method_41_code
def y_M_toneFlare : MethodName := ⟨"CoastLampsModel", "toneFlare", "()I"⟩
abbrev b_M_toneOuter : ByteArray := prog_14_method_42_code
def y_M_toneOuter : MethodName := ⟨"CoastLampsModel", "toneOuter", "(I)I"⟩
abbrev b_M_tone : ByteArray := prog_14_method_43_code
def y_M_tone : MethodName := ⟨"CoastLampsModel", "tone", "(I)I"⟩
abbrev b_M_horn : ByteArray := prog_14_method_44_code
def y_M_horn : MethodName := ⟨"CoastLampsModel", "horn", "(II)I"⟩
abbrev b_M_dial : ByteArray := prog_14_method_45_code
def y_M_dial : MethodName := ⟨"CoastLampsModel", "dial", "(II)I"⟩
abbrev b_M_lamp : ByteArray := prog_14_method_46_code
def y_M_lamp : MethodName := ⟨"CoastLampsModel", "lamp", "(II)I"⟩
abbrev b_M_ask : ByteArray := prog_14_method_47_code
def y_M_ask : MethodName := ⟨"CoastLampsModel", "ask", "(III)J"⟩
abbrev b_M_trace : ByteArray := prog_14_method_48_code
def y_M_trace : MethodName := ⟨"CoastLampsModel", "trace", "(I)I"⟩
abbrev b_M_haul : ByteArray := prog_14_method_49_code
def y_M_haul : MethodName := ⟨"CoastLampsModel", "haul", "(I)J"⟩
abbrev b_M_fill : ByteArray := prog_14_method_50_code
def y_M_fill : MethodName := ⟨"CoastLampsModel", "fill", "(II)I"⟩
abbrev b_M_light : ByteArray := prog_14_method_51_code
def y_M_light : MethodName := ⟨"CoastLampsModel", "light", "(IZ)I"⟩
abbrev b_M_isAnyLit : ByteArray := prog_14_method_52_code
def y_M_isAnyLit : MethodName := ⟨"CoastLampsModel", "isAnyLit", "()Z"⟩
abbrev b_M_night : ByteArray := prog_14_method_53_code
def y_M_night : MethodName := ⟨"CoastLampsModel", "night", "(I)I"⟩
abbrev b_M_seen : ByteArray := prog_14_method_54_code
def y_M_seen : MethodName := ⟨"CoastLampsModel", "seen", "(I)I"⟩
abbrev b_M_blow : ByteArray := prog_14_method_55_code
def y_M_blow : MethodName := ⟨"CoastLampsModel", "blow", "(II)I"⟩
abbrev b_M_blown : ByteArray := prog_14_method_56_code
def y_M_blown : MethodName := ⟨"CoastLampsModel", "blown", "()I"⟩
abbrev b_M_told : ByteArray := prog_14_method_57_code
def y_M_told : MethodName := ⟨"CoastLampsModel", "told", "(II)J"⟩
abbrev b_M_count : ByteArray := prog_14_method_58_code
def y_M_count : MethodName := ⟨"CoastLampsModel", "count", "(I)I"⟩
abbrev b_M_store : ByteArray := prog_14_method_59_code
def y_M_store : MethodName := ⟨"CoastLampsModel", "store", "()J"⟩
def tbl : List Cond := lw_tbl.filter goodWord
theorem tbl_of {w : Cond} (h : w ∈ lw_tbl) (hg : goodWord w = true) : w ∈ tbl := List.mem_filter.mpr ⟨h, hg⟩
theorem tbl_in {w : Cond} (h : w ∈ tbl) : w ∈ lw_tbl := (List.mem_filter.mp h).1
theorem tbl_good {w : Cond} (h : w ∈ tbl) : (w.onTables && w.keeps) = true ∨ ∃ ty, w = .arrayClass ty := good_of_word (List.mem_filter.mp h).2
theorem kw_0 : (Jvm.Cond.initialized "CoastLampsLaw") ∈ tbl := tbl_of (List.mem_of_getElem? (i := 46) (by decide +kernel)) (by decide +kernel)
theorem kw_1 : (Jvm.Cond.initialized "CoastLamps") ∈ tbl := tbl_of (List.mem_of_getElem? (i := 47) (by decide +kernel)) (by decide +kernel)
theorem kw_2 : (Jvm.Cond.initialized "CoastLamps$Coast") ∈ tbl := tbl_of (List.mem_of_getElem? (i := 48) (by decide +kernel)) (by decide +kernel)
theorem kw_3 : (Jvm.Cond.initialized "CoastLampsModel") ∈ tbl := tbl_of (List.mem_of_getElem? (i := 49) (by decide +kernel)) (by decide +kernel)
theorem kw_4 : (Jvm.Cond.initialized "CoastLamps$Lamp") ∈ tbl := tbl_of (List.mem_of_getElem? (i := 50) (by decide +kernel)) (by decide +kernel)
theorem kw_5 : (Jvm.Cond.initialized "CoastLamps$Oil") ∈ tbl := tbl_of (List.mem_of_getElem? (i := 51) (by decide +kernel)) (by decide +kernel)
theorem kw_6 : (Jvm.Cond.initialized "CoastLamps$Round") ∈ tbl := tbl_of (List.mem_of_getElem? (i := 52) (by decide +kernel)) (by decide +kernel)
theorem kw_7 : (Jvm.Cond.initialized "CoastLamps$Twin") ∈ tbl := tbl_of (List.mem_of_getElem? (i := 53) (by decide +kernel)) (by decide +kernel)
theorem kw_8 : (Jvm.Cond.initialized "CoastLamps$Drum") ∈ tbl := tbl_of (List.mem_of_getElem? (i := 54) (by decide +kernel)) (by decide +kernel)
theorem kw_9 : (Jvm.Cond.initialized "CoastLamps$Swing") ∈ tbl := tbl_of (List.mem_of_getElem? (i := 55) (by decide +kernel)) (by decide +kernel)
theorem kw_10 : (Jvm.Cond.initialized "CoastLamps$Gas") ∈ tbl := tbl_of (List.mem_of_getElem? (i := 56) (by decide +kernel)) (by decide +kernel)
theorem kw_11 : (Jvm.Cond.initialized "CoastLamps$Flare") ∈ tbl := tbl_of (List.mem_of_getElem? (i := 57) (by decide +kernel)) (by decide +kernel)
theorem kw_12 : (Jvm.Cond.initialized "CoastLamps$Buoy") ∈ tbl := tbl_of (List.mem_of_getElem? (i := 58) (by decide +kernel)) (by decide +kernel)
theorem kw_13 : (Jvm.Cond.initialized "CoastLamps$Outer") ∈ tbl := tbl_of (List.mem_of_getElem? (i := 59) (by decide +kernel)) (by decide +kernel)
theorem kw_14 : (Jvm.Cond.initialized "java/lang/Math") ∈ tbl := tbl_of (List.mem_of_getElem? (i := 60) (by decide +kernel)) (by decide +kernel)
theorem kw_15 : (Jvm.Cond.classLink "CoastLampsLaw" (7 : Nat) "CoastLamps") ∈ tbl := tbl_of (List.mem_of_getElem? (i := 61) (by decide +kernel)) (by decide +kernel)
theorem kw_16 : (Jvm.Cond.instantiable "CoastLamps" (7 : Nat)) ∈ tbl := tbl_of (List.mem_of_getElem? (i := 62) (by decide +kernel)) (by decide +kernel)
theorem kw_17 : (Jvm.Cond.methodLink "CoastLampsLaw" (9 : Nat) ({ cls := "CoastLamps", name := "<init>", desc := "()V" } : Jvm.MethodName)) ∈ tbl := tbl_of (List.mem_of_getElem? (i := 63) (by decide +kernel)) (by decide +kernel)
theorem kw_18 : (Jvm.Cond.instanceMethod ({ cls := "CoastLamps", name := "<init>", desc := "()V" } : Jvm.MethodName)) ∈ tbl := tbl_of (List.mem_of_getElem? (i := 64) (by decide +kernel)) (by decide +kernel)
theorem kw_19 : (Jvm.Cond.code ({ cls := "CoastLamps", name := "<init>", desc := "()V" } : Jvm.MethodName) prog_1_method_1_code (1 : Nat) (Option.none : Option Jvm.ClassFile.FieldType)) ∈ tbl := tbl_of (List.mem_of_getElem? (i := 65) (by decide +kernel)) (by decide +kernel)
theorem kw_20 : (Jvm.Cond.methodLink "CoastLamps" (3 : Nat) ({ cls := "java/lang/Object", name := "<init>", desc := "()V" } : Jvm.MethodName)) ∈ tbl := tbl_of (List.mem_of_getElem? (i := 66) (by decide +kernel)) (by decide +kernel)
theorem kw_21 : (Jvm.Cond.instanceMethod ({ cls := "java/lang/Object", name := "<init>", desc := "()V" } : Jvm.MethodName)) ∈ tbl := tbl_of (List.mem_of_getElem? (i := 67) (by decide +kernel)) (by decide +kernel)
theorem kw_22 : (Jvm.Cond.code ({ cls := "java/lang/Object", name := "<init>", desc := "()V" } : Jvm.MethodName) object_method_1_code (1 : Nat) (Option.none : Option Jvm.ClassFile.FieldType)) ∈ tbl := tbl_of (List.mem_of_getElem? (i := 68) (by decide +kernel)) (by decide +kernel)
theorem kw_23 : (Jvm.Cond.classLink "CoastLamps" (9 : Nat) "CoastLamps$Coast") ∈ tbl := tbl_of (List.mem_of_getElem? (i := 69) (by decide +kernel)) (by decide +kernel)
theorem kw_24 : (Jvm.Cond.instantiable "CoastLamps$Coast" (3 : Nat)) ∈ tbl := tbl_of (List.mem_of_getElem? (i := 70) (by decide +kernel)) (by decide +kernel)
theorem kw_25 : (Jvm.Cond.methodLink "CoastLamps" (11 : Nat) ({ cls := "CoastLamps$Coast", name := "<init>", desc := "()V" } : Jvm.MethodName)) ∈ tbl := tbl_of (List.mem_of_getElem? (i := 71) (by decide +kernel)) (by decide +kernel)
theorem kw_26 : (Jvm.Cond.instanceMethod ({ cls := "CoastLamps$Coast", name := "<init>", desc := "()V" } : Jvm.MethodName)) ∈ tbl := tbl_of (List.mem_of_getElem? (i := 72) (by decide +kernel)) (by decide +kernel)
theorem kw_27 : (Jvm.Cond.code ({ cls := "CoastLamps$Coast", name := "<init>", desc := "()V" } : Jvm.MethodName) prog_3_method_1_code (1 : Nat) (Option.none : Option Jvm.ClassFile.FieldType)) ∈ tbl := tbl_of (List.mem_of_getElem? (i := 73) (by decide +kernel)) (by decide +kernel)
theorem kw_28 : (Jvm.Cond.methodLink "CoastLamps$Coast" (3 : Nat) ({ cls := "java/lang/Object", name := "<init>", desc := "()V" } : Jvm.MethodName)) ∈ tbl := tbl_of (List.mem_of_getElem? (i := 74) (by decide +kernel)) (by decide +kernel)
theorem kw_29 : (Jvm.Cond.fieldLink "CoastLamps$Coast" (9 : Nat) "CoastLamps$Coast" "dials" "[I") ∈ tbl := tbl_of (List.mem_of_getElem? (i := 75) (by decide +kernel)) (by decide +kernel)
theorem kw_30 : (Jvm.Cond.fieldLink "CoastLamps$Coast" (15 : Nat) "CoastLamps$Coast" "entries" "[I") ∈ tbl := tbl_of (List.mem_of_getElem? (i := 76) (by decide +kernel)) (by decide +kernel)
theorem kw_31 : (Jvm.Cond.fieldLink "CoastLamps$Coast" (18 : Nat) "CoastLamps$Coast" "written" "I") ∈ tbl := tbl_of (List.mem_of_getElem? (i := 77) (by decide +kernel)) (by decide +kernel)
theorem kw_32 : (Jvm.Cond.fieldLink "CoastLamps" (79 : Nat) "CoastLamps$Coast" "written" "I") ∈ tbl := tbl_of (List.mem_of_getElem? (i := 78) (by decide +kernel)) (by decide +kernel)
theorem kw_39 : (Jvm.Cond.superclass "CoastLamps$Coast" "java/lang/Object") ∈ tbl := tbl_of (List.mem_of_getElem? (i := 85) (by decide +kernel)) (by decide +kernel)
theorem kw_40 : (Jvm.Cond.arrayClass Jvm.ClassFile.FieldType.int) ∈ tbl := tbl_of (List.mem_of_getElem? (i := 86) (by decide +kernel)) (by decide +kernel)
theorem kw_41 : (Jvm.Cond.classLink "CoastLamps" (16 : Nat) "CoastLamps$Lamp") ∈ tbl := tbl_of (List.mem_of_getElem? (i := 87) (by decide +kernel)) (by decide +kernel)
theorem kw_42 : (Jvm.Cond.arrayOver (Jvm.ClassFile.FieldType.object "CoastLamps$Lamp")) ∈ lw_tbl := List.mem_of_getElem? (i := 88) (by decide +kernel)
theorem kw_43 : (Jvm.Cond.fieldLink "CoastLamps" (12 : Nat) "CoastLamps" "coast" "LCoastLamps$Coast;") ∈ tbl := tbl_of (List.mem_of_getElem? (i := 89) (by decide +kernel)) (by decide +kernel)
theorem kw_44 : (Jvm.Cond.fieldLink "CoastLamps" (18 : Nat) "CoastLamps" "lamps" "[LCoastLamps$Lamp;") ∈ tbl := tbl_of (List.mem_of_getElem? (i := 90) (by decide +kernel)) (by decide +kernel)
theorem kw_45 : (Jvm.Cond.fieldLink "CoastLamps" (34 : Nat) "CoastLamps" "lampCount" "I") ∈ tbl := tbl_of (List.mem_of_getElem? (i := 91) (by decide +kernel)) (by decide +kernel)
theorem kw_46 : (Jvm.Cond.fieldLink "CoastLamps" (98 : Nat) "CoastLamps" "nights" "I") ∈ tbl := tbl_of (List.mem_of_getElem? (i := 92) (by decide +kernel)) (by decide +kernel)
theorem kw_47 : (Jvm.Cond.fieldLink "CoastLamps" (126 : Nat) "CoastLamps" "acts" "I") ∈ tbl := tbl_of (List.mem_of_getElem? (i := 93) (by decide +kernel)) (by decide +kernel)
theorem kw_48 : (Jvm.Cond.fieldLink "CoastLamps" (114 : Nat) "CoastLamps" "latestBlown" "I") ∈ tbl := tbl_of (List.mem_of_getElem? (i := 94) (by decide +kernel)) (by decide +kernel)
theorem kw_49 : (Jvm.Cond.fieldLink "CoastLamps" (86 : Nat) "CoastLamps" "stored" "J") ∈ tbl := tbl_of (List.mem_of_getElem? (i := 95) (by decide +kernel)) (by decide +kernel)
theorem kw_64 : (Jvm.Cond.superclass "CoastLamps" "java/lang/Object") ∈ tbl := tbl_of (List.mem_of_getElem? (i := 110) (by decide +kernel)) (by decide +kernel)
theorem kw_65 : (Jvm.Cond.methodLink "CoastLampsLaw" (13 : Nat) ({ cls := "CoastLamps", name := "dial", desc := "(II)I" } : Jvm.MethodName)) ∈ tbl := tbl_of (List.mem_of_getElem? (i := 111) (by decide +kernel)) (by decide +kernel)
theorem kw_66 : (Jvm.Cond.instanceMethod ({ cls := "CoastLamps", name := "dial", desc := "(II)I" } : Jvm.MethodName)) ∈ tbl := tbl_of (List.mem_of_getElem? (i := 112) (by decide +kernel)) (by decide +kernel)
theorem kw_67 : (Jvm.Cond.selects "CoastLamps" ({ cls := "CoastLamps", name := "dial", desc := "(II)I" } : Jvm.MethodName) ({ cls := "CoastLamps", name := "dial", desc := "(II)I" } : Jvm.MethodName)) ∈ tbl := tbl_of (List.mem_of_getElem? (i := 113) (by decide +kernel)) (by decide +kernel)
theorem kw_68 : (Jvm.Cond.code ({ cls := "CoastLamps", name := "dial", desc := "(II)I" } : Jvm.MethodName) prog_1_method_2_code (4 : Nat) (Option.some Jvm.ClassFile.FieldType.int)) ∈ tbl := tbl_of (List.mem_of_getElem? (i := 114) (by decide +kernel)) (by decide +kernel)
theorem kw_69 : (Jvm.Cond.methodLink "CoastLamps" (22 : Nat) ({ cls := "CoastLamps", name := "within", desc := "(III)Z" } : Jvm.MethodName)) ∈ tbl := tbl_of (List.mem_of_getElem? (i := 115) (by decide +kernel)) (by decide +kernel)
theorem kw_70 : (Jvm.Cond.static ({ cls := "CoastLamps", name := "within", desc := "(III)Z" } : Jvm.MethodName)) ∈ tbl := tbl_of (List.mem_of_getElem? (i := 116) (by decide +kernel)) (by decide +kernel)
theorem kw_71 : (Jvm.Cond.code ({ cls := "CoastLamps", name := "within", desc := "(III)Z" } : Jvm.MethodName) prog_1_method_16_code (3 : Nat) (Option.some Jvm.ClassFile.FieldType.boolean)) ∈ tbl := tbl_of (List.mem_of_getElem? (i := 117) (by decide +kernel)) (by decide +kernel)
theorem kw_72 : (Jvm.Cond.methodLink "CoastLamps" (26 : Nat) ({ cls := "CoastLamps$Coast", name := "dialed", desc := "(I)I" } : Jvm.MethodName)) ∈ tbl := tbl_of (List.mem_of_getElem? (i := 118) (by decide +kernel)) (by decide +kernel)
theorem kw_73 : (Jvm.Cond.instanceMethod ({ cls := "CoastLamps$Coast", name := "dialed", desc := "(I)I" } : Jvm.MethodName)) ∈ tbl := tbl_of (List.mem_of_getElem? (i := 119) (by decide +kernel)) (by decide +kernel)
theorem kw_74 : (Jvm.Cond.selects "CoastLamps$Coast" ({ cls := "CoastLamps$Coast", name := "dialed", desc := "(I)I" } : Jvm.MethodName) ({ cls := "CoastLamps$Coast", name := "dialed", desc := "(I)I" } : Jvm.MethodName)) ∈ tbl := tbl_of (List.mem_of_getElem? (i := 120) (by decide +kernel)) (by decide +kernel)
theorem kw_75 : (Jvm.Cond.code ({ cls := "CoastLamps$Coast", name := "dialed", desc := "(I)I" } : Jvm.MethodName) prog_3_method_2_code (2 : Nat) (Option.some Jvm.ClassFile.FieldType.int)) ∈ tbl := tbl_of (List.mem_of_getElem? (i := 121) (by decide +kernel)) (by decide +kernel)
theorem kw_76 : (Jvm.Cond.methodLink "CoastLamps" (30 : Nat) ({ cls := "CoastLamps$Coast", name := "turn", desc := "(II)V" } : Jvm.MethodName)) ∈ tbl := tbl_of (List.mem_of_getElem? (i := 122) (by decide +kernel)) (by decide +kernel)
theorem kw_77 : (Jvm.Cond.instanceMethod ({ cls := "CoastLamps$Coast", name := "turn", desc := "(II)V" } : Jvm.MethodName)) ∈ tbl := tbl_of (List.mem_of_getElem? (i := 123) (by decide +kernel)) (by decide +kernel)
theorem kw_78 : (Jvm.Cond.selects "CoastLamps$Coast" ({ cls := "CoastLamps$Coast", name := "turn", desc := "(II)V" } : Jvm.MethodName) ({ cls := "CoastLamps$Coast", name := "turn", desc := "(II)V" } : Jvm.MethodName)) ∈ tbl := tbl_of (List.mem_of_getElem? (i := 124) (by decide +kernel)) (by decide +kernel)
theorem kw_79 : (Jvm.Cond.code ({ cls := "CoastLamps$Coast", name := "turn", desc := "(II)V" } : Jvm.MethodName) prog_3_method_3_code (3 : Nat) (Option.none : Option Jvm.ClassFile.FieldType)) ∈ tbl := tbl_of (List.mem_of_getElem? (i := 125) (by decide +kernel)) (by decide +kernel)
theorem kw_80 : (Jvm.Cond.methodLink "CoastLampsLaw" (18 : Nat) ({ cls := "CoastLamps", name := "lamp", desc := "(II)I" } : Jvm.MethodName)) ∈ tbl := tbl_of (List.mem_of_getElem? (i := 126) (by decide +kernel)) (by decide +kernel)
theorem kw_81 : (Jvm.Cond.instanceMethod ({ cls := "CoastLamps", name := "lamp", desc := "(II)I" } : Jvm.MethodName)) ∈ tbl := tbl_of (List.mem_of_getElem? (i := 127) (by decide +kernel)) (by decide +kernel)
theorem kw_82 : (Jvm.Cond.selects "CoastLamps" ({ cls := "CoastLamps", name := "lamp", desc := "(II)I" } : Jvm.MethodName) ({ cls := "CoastLamps", name := "lamp", desc := "(II)I" } : Jvm.MethodName)) ∈ tbl := tbl_of (List.mem_of_getElem? (i := 128) (by decide +kernel)) (by decide +kernel)
theorem kw_83 : (Jvm.Cond.code ({ cls := "CoastLamps", name := "lamp", desc := "(II)I" } : Jvm.MethodName) prog_1_method_3_code (4 : Nat) (Option.some Jvm.ClassFile.FieldType.int)) ∈ tbl := tbl_of (List.mem_of_getElem? (i := 129) (by decide +kernel)) (by decide +kernel)
theorem kw_84 : (Jvm.Cond.methodLink "CoastLamps" (38 : Nat) ({ cls := "CoastLamps", name := "made", desc := "(II)LCoastLamps$Lamp;" } : Jvm.MethodName)) ∈ tbl := tbl_of (List.mem_of_getElem? (i := 130) (by decide +kernel)) (by decide +kernel)
theorem kw_86 : (Jvm.Cond.instanceMethod ({ cls := "CoastLamps", name := "made", desc := "(II)LCoastLamps$Lamp;" } : Jvm.MethodName)) ∈ tbl := tbl_of (List.mem_of_getElem? (i := 132) (by decide +kernel)) (by decide +kernel)
theorem kw_87 : (Jvm.Cond.code ({ cls := "CoastLamps", name := "made", desc := "(II)LCoastLamps$Lamp;" } : Jvm.MethodName) prog_1_method_20_code (3 : Nat) (Option.some (Jvm.ClassFile.FieldType.object "CoastLamps$Lamp"))) ∈ tbl := tbl_of (List.mem_of_getElem? (i := 133) (by decide +kernel)) (by decide +kernel)
theorem kw_88 : (Jvm.Cond.classLink "CoastLamps" (132 : Nat) "CoastLamps$Oil") ∈ tbl := tbl_of (List.mem_of_getElem? (i := 134) (by decide +kernel)) (by decide +kernel)
theorem kw_89 : (Jvm.Cond.instantiable "CoastLamps$Oil" (6 : Nat)) ∈ tbl := tbl_of (List.mem_of_getElem? (i := 135) (by decide +kernel)) (by decide +kernel)
theorem kw_90 : (Jvm.Cond.methodLink "CoastLamps" (134 : Nat) ({ cls := "CoastLamps$Oil", name := "<init>", desc := "(LCoastLamps$Coast;II)V" } : Jvm.MethodName)) ∈ tbl := tbl_of (List.mem_of_getElem? (i := 136) (by decide +kernel)) (by decide +kernel)
theorem kw_91 : (Jvm.Cond.instanceMethod ({ cls := "CoastLamps$Oil", name := "<init>", desc := "(LCoastLamps$Coast;II)V" } : Jvm.MethodName)) ∈ tbl := tbl_of (List.mem_of_getElem? (i := 137) (by decide +kernel)) (by decide +kernel)
theorem kw_92 : (Jvm.Cond.code ({ cls := "CoastLamps$Oil", name := "<init>", desc := "(LCoastLamps$Coast;II)V" } : Jvm.MethodName) prog_8_method_1_code (4 : Nat) (Option.none : Option Jvm.ClassFile.FieldType)) ∈ tbl := tbl_of (List.mem_of_getElem? (i := 138) (by decide +kernel)) (by decide +kernel)
theorem kw_93 : (Jvm.Cond.methodLink "CoastLamps$Oil" (3 : Nat) ({ cls := "CoastLamps$Lamp", name := "<init>", desc := "(LCoastLamps$Coast;II)V" } : Jvm.MethodName)) ∈ tbl := tbl_of (List.mem_of_getElem? (i := 139) (by decide +kernel)) (by decide +kernel)
theorem kw_94 : (Jvm.Cond.instanceMethod ({ cls := "CoastLamps$Lamp", name := "<init>", desc := "(LCoastLamps$Coast;II)V" } : Jvm.MethodName)) ∈ tbl := tbl_of (List.mem_of_getElem? (i := 140) (by decide +kernel)) (by decide +kernel)
theorem kw_95 : (Jvm.Cond.code ({ cls := "CoastLamps$Lamp", name := "<init>", desc := "(LCoastLamps$Coast;II)V" } : Jvm.MethodName) prog_7_method_1_code (4 : Nat) (Option.none : Option Jvm.ClassFile.FieldType)) ∈ tbl := tbl_of (List.mem_of_getElem? (i := 141) (by decide +kernel)) (by decide +kernel)
theorem kw_96 : (Jvm.Cond.methodLink "CoastLamps$Lamp" (3 : Nat) ({ cls := "java/lang/Object", name := "<init>", desc := "()V" } : Jvm.MethodName)) ∈ tbl := tbl_of (List.mem_of_getElem? (i := 142) (by decide +kernel)) (by decide +kernel)
theorem kw_97 : (Jvm.Cond.fieldLink "CoastLamps$Lamp" (9 : Nat) "CoastLamps$Lamp" "coast" "LCoastLamps$Coast;") ∈ tbl := tbl_of (List.mem_of_getElem? (i := 143) (by decide +kernel)) (by decide +kernel)
theorem kw_98 : (Jvm.Cond.fieldLink "CoastLamps$Oil" (9 : Nat) "CoastLamps$Oil" "coast" "LCoastLamps$Coast;") ∈ tbl := tbl_of (List.mem_of_getElem? (i := 144) (by decide +kernel)) (by decide +kernel)
theorem kw_99 : (Jvm.Cond.sameField "CoastLamps$Oil" "CoastLamps$Lamp" "coast" "LCoastLamps$Coast;") ∈ tbl := tbl_of (List.mem_of_getElem? (i := 145) (by decide +kernel)) (by decide +kernel)
theorem kw_100 : (Jvm.Cond.fieldLink "CoastLamps$Outer" (9 : Nat) "CoastLamps$Outer" "coast" "LCoastLamps$Coast;") ∈ tbl := tbl_of (List.mem_of_getElem? (i := 146) (by decide +kernel)) (by decide +kernel)
theorem kw_101 : (Jvm.Cond.sameField "CoastLamps$Outer" "CoastLamps$Lamp" "coast" "LCoastLamps$Coast;") ∈ tbl := tbl_of (List.mem_of_getElem? (i := 147) (by decide +kernel)) (by decide +kernel)
theorem kw_102 : (Jvm.Cond.fieldLink "CoastLamps$Swing" (9 : Nat) "CoastLamps$Swing" "coast" "LCoastLamps$Coast;") ∈ tbl := tbl_of (List.mem_of_getElem? (i := 148) (by decide +kernel)) (by decide +kernel)
theorem kw_103 : (Jvm.Cond.sameField "CoastLamps$Swing" "CoastLamps$Lamp" "coast" "LCoastLamps$Coast;") ∈ tbl := tbl_of (List.mem_of_getElem? (i := 149) (by decide +kernel)) (by decide +kernel)
theorem kw_104 : (Jvm.Cond.fieldLink "CoastLamps$Buoy" (9 : Nat) "CoastLamps$Buoy" "coast" "LCoastLamps$Coast;") ∈ tbl := tbl_of (List.mem_of_getElem? (i := 150) (by decide +kernel)) (by decide +kernel)
theorem kw_105 : (Jvm.Cond.sameField "CoastLamps$Buoy" "CoastLamps$Lamp" "coast" "LCoastLamps$Coast;") ∈ tbl := tbl_of (List.mem_of_getElem? (i := 151) (by decide +kernel)) (by decide +kernel)
theorem kw_106 : (Jvm.Cond.fieldLink "CoastLamps$Gas" (9 : Nat) "CoastLamps$Gas" "coast" "LCoastLamps$Coast;") ∈ tbl := tbl_of (List.mem_of_getElem? (i := 152) (by decide +kernel)) (by decide +kernel)
theorem kw_107 : (Jvm.Cond.sameField "CoastLamps$Gas" "CoastLamps$Lamp" "coast" "LCoastLamps$Coast;") ∈ tbl := tbl_of (List.mem_of_getElem? (i := 153) (by decide +kernel)) (by decide +kernel)
theorem kw_108 : (Jvm.Cond.fieldLink "CoastLamps$Drum" (9 : Nat) "CoastLamps$Drum" "coast" "LCoastLamps$Coast;") ∈ tbl := tbl_of (List.mem_of_getElem? (i := 154) (by decide +kernel)) (by decide +kernel)
theorem kw_109 : (Jvm.Cond.sameField "CoastLamps$Drum" "CoastLamps$Lamp" "coast" "LCoastLamps$Coast;") ∈ tbl := tbl_of (List.mem_of_getElem? (i := 155) (by decide +kernel)) (by decide +kernel)
theorem kw_110 : (Jvm.Cond.fieldLink "CoastLamps$Round" (9 : Nat) "CoastLamps$Round" "coast" "LCoastLamps$Coast;") ∈ tbl := tbl_of (List.mem_of_getElem? (i := 156) (by decide +kernel)) (by decide +kernel)
theorem kw_111 : (Jvm.Cond.sameField "CoastLamps$Round" "CoastLamps$Lamp" "coast" "LCoastLamps$Coast;") ∈ tbl := tbl_of (List.mem_of_getElem? (i := 157) (by decide +kernel)) (by decide +kernel)
theorem kw_112 : (Jvm.Cond.fieldLink "CoastLamps$Flare" (9 : Nat) "CoastLamps$Flare" "coast" "LCoastLamps$Coast;") ∈ tbl := tbl_of (List.mem_of_getElem? (i := 158) (by decide +kernel)) (by decide +kernel)
theorem kw_113 : (Jvm.Cond.sameField "CoastLamps$Flare" "CoastLamps$Lamp" "coast" "LCoastLamps$Coast;") ∈ tbl := tbl_of (List.mem_of_getElem? (i := 159) (by decide +kernel)) (by decide +kernel)
theorem kw_114 : (Jvm.Cond.fieldLink "CoastLamps$Twin" (9 : Nat) "CoastLamps$Twin" "coast" "LCoastLamps$Coast;") ∈ tbl := tbl_of (List.mem_of_getElem? (i := 160) (by decide +kernel)) (by decide +kernel)
theorem kw_115 : (Jvm.Cond.sameField "CoastLamps$Twin" "CoastLamps$Lamp" "coast" "LCoastLamps$Coast;") ∈ tbl := tbl_of (List.mem_of_getElem? (i := 161) (by decide +kernel)) (by decide +kernel)
theorem kw_116 : (Jvm.Cond.fieldLink "CoastLamps$Lamp" (15 : Nat) "CoastLamps$Lamp" "kind" "I") ∈ tbl := tbl_of (List.mem_of_getElem? (i := 162) (by decide +kernel)) (by decide +kernel)
theorem kw_117 : (Jvm.Cond.fieldLink "CoastLamps" (117 : Nat) "CoastLamps$Lamp" "kind" "I") ∈ tbl := tbl_of (List.mem_of_getElem? (i := 163) (by decide +kernel)) (by decide +kernel)
theorem kw_118 : (Jvm.Cond.fieldLink "CoastLamps$Lamp" (19 : Nat) "CoastLamps$Lamp" "height" "I") ∈ tbl := tbl_of (List.mem_of_getElem? (i := 164) (by decide +kernel)) (by decide +kernel)
theorem kw_119 : (Jvm.Cond.fieldLink "CoastLamps" (120 : Nat) "CoastLamps$Lamp" "height" "I") ∈ tbl := tbl_of (List.mem_of_getElem? (i := 165) (by decide +kernel)) (by decide +kernel)
theorem kw_120 : (Jvm.Cond.fieldLink "CoastLamps$Lamp" (22 : Nat) "CoastLamps$Lamp" "tank" "I") ∈ tbl := tbl_of (List.mem_of_getElem? (i := 166) (by decide +kernel)) (by decide +kernel)
theorem kw_121 : (Jvm.Cond.fieldLink "CoastLamps$Outer" (41 : Nat) "CoastLamps$Outer" "tank" "I") ∈ tbl := tbl_of (List.mem_of_getElem? (i := 167) (by decide +kernel)) (by decide +kernel)
theorem kw_122 : (Jvm.Cond.sameField "CoastLamps$Outer" "CoastLamps$Lamp" "tank" "I") ∈ tbl := tbl_of (List.mem_of_getElem? (i := 168) (by decide +kernel)) (by decide +kernel)
theorem kw_123 : (Jvm.Cond.fieldLink "CoastLamps" (90 : Nat) "CoastLamps$Lamp" "tank" "I") ∈ tbl := tbl_of (List.mem_of_getElem? (i := 169) (by decide +kernel)) (by decide +kernel)
theorem kw_124 : (Jvm.Cond.fieldLink "CoastLamps$Gas" (25 : Nat) "CoastLamps$Gas" "soot" "I") ∈ tbl := tbl_of (List.mem_of_getElem? (i := 170) (by decide +kernel)) (by decide +kernel)
theorem kw_125 : (Jvm.Cond.sameField "CoastLamps$Gas" "CoastLamps$Lamp" "soot" "I") ∈ tbl := tbl_of (List.mem_of_getElem? (i := 171) (by decide +kernel)) (by decide +kernel)
theorem kw_126 : (Jvm.Cond.fieldLink "CoastLamps$Oil" (25 : Nat) "CoastLamps$Oil" "soot" "I") ∈ tbl := tbl_of (List.mem_of_getElem? (i := 172) (by decide +kernel)) (by decide +kernel)
theorem kw_127 : (Jvm.Cond.sameField "CoastLamps$Oil" "CoastLamps$Lamp" "soot" "I") ∈ tbl := tbl_of (List.mem_of_getElem? (i := 173) (by decide +kernel)) (by decide +kernel)
theorem kw_128 : (Jvm.Cond.fieldLink "CoastLamps$Lamp" (35 : Nat) "CoastLamps$Lamp" "soot" "I") ∈ tbl := tbl_of (List.mem_of_getElem? (i := 174) (by decide +kernel)) (by decide +kernel)
theorem kw_129 : (Jvm.Cond.fieldLink "CoastLamps$Flare" (32 : Nat) "CoastLamps$Flare" "soot" "I") ∈ tbl := tbl_of (List.mem_of_getElem? (i := 175) (by decide +kernel)) (by decide +kernel)
theorem kw_130 : (Jvm.Cond.sameField "CoastLamps$Flare" "CoastLamps$Lamp" "soot" "I") ∈ tbl := tbl_of (List.mem_of_getElem? (i := 176) (by decide +kernel)) (by decide +kernel)
theorem kw_131 : (Jvm.Cond.fieldLink "CoastLamps" (123 : Nat) "CoastLamps$Lamp" "soot" "I") ∈ tbl := tbl_of (List.mem_of_getElem? (i := 177) (by decide +kernel)) (by decide +kernel)
theorem kw_132 : (Jvm.Cond.fieldLink "CoastLamps$Lamp" (25 : Nat) "CoastLamps$Lamp" "lit" "Z") ∈ tbl := tbl_of (List.mem_of_getElem? (i := 178) (by decide +kernel)) (by decide +kernel)
theorem kw_133 : (Jvm.Cond.fieldLink "CoastLamps" (94 : Nat) "CoastLamps$Lamp" "lit" "Z") ∈ tbl := tbl_of (List.mem_of_getElem? (i := 179) (by decide +kernel)) (by decide +kernel)
theorem kw_146 : (Jvm.Cond.superclass "CoastLamps$Oil" "CoastLamps$Lamp") ∈ tbl := tbl_of (List.mem_of_getElem? (i := 192) (by decide +kernel)) (by decide +kernel)
theorem kw_147 : (Jvm.Cond.classLink "CoastLamps" (137 : Nat) "CoastLamps$Round") ∈ tbl := tbl_of (List.mem_of_getElem? (i := 193) (by decide +kernel)) (by decide +kernel)
theorem kw_148 : (Jvm.Cond.instantiable "CoastLamps$Round" (6 : Nat)) ∈ tbl := tbl_of (List.mem_of_getElem? (i := 194) (by decide +kernel)) (by decide +kernel)
theorem kw_149 : (Jvm.Cond.methodLink "CoastLamps" (139 : Nat) ({ cls := "CoastLamps$Round", name := "<init>", desc := "(LCoastLamps$Coast;II)V" } : Jvm.MethodName)) ∈ tbl := tbl_of (List.mem_of_getElem? (i := 195) (by decide +kernel)) (by decide +kernel)
theorem kw_150 : (Jvm.Cond.instanceMethod ({ cls := "CoastLamps$Round", name := "<init>", desc := "(LCoastLamps$Coast;II)V" } : Jvm.MethodName)) ∈ tbl := tbl_of (List.mem_of_getElem? (i := 196) (by decide +kernel)) (by decide +kernel)
theorem kw_151 : (Jvm.Cond.code ({ cls := "CoastLamps$Round", name := "<init>", desc := "(LCoastLamps$Coast;II)V" } : Jvm.MethodName) prog_10_method_1_code (4 : Nat) (Option.none : Option Jvm.ClassFile.FieldType)) ∈ tbl := tbl_of (List.mem_of_getElem? (i := 197) (by decide +kernel)) (by decide +kernel)
theorem kw_152 : (Jvm.Cond.methodLink "CoastLamps$Round" (3 : Nat) ({ cls := "CoastLamps$Oil", name := "<init>", desc := "(LCoastLamps$Coast;II)V" } : Jvm.MethodName)) ∈ tbl := tbl_of (List.mem_of_getElem? (i := 198) (by decide +kernel)) (by decide +kernel)
theorem kw_159 : (Jvm.Cond.superclass "CoastLamps$Round" "CoastLamps$Oil") ∈ tbl := tbl_of (List.mem_of_getElem? (i := 205) (by decide +kernel)) (by decide +kernel)
theorem kw_160 : (Jvm.Cond.classLink "CoastLamps" (140 : Nat) "CoastLamps$Twin") ∈ tbl := tbl_of (List.mem_of_getElem? (i := 206) (by decide +kernel)) (by decide +kernel)
theorem kw_161 : (Jvm.Cond.instantiable "CoastLamps$Twin" (6 : Nat)) ∈ tbl := tbl_of (List.mem_of_getElem? (i := 207) (by decide +kernel)) (by decide +kernel)
theorem kw_162 : (Jvm.Cond.methodLink "CoastLamps" (142 : Nat) ({ cls := "CoastLamps$Twin", name := "<init>", desc := "(LCoastLamps$Coast;II)V" } : Jvm.MethodName)) ∈ tbl := tbl_of (List.mem_of_getElem? (i := 208) (by decide +kernel)) (by decide +kernel)
theorem kw_163 : (Jvm.Cond.instanceMethod ({ cls := "CoastLamps$Twin", name := "<init>", desc := "(LCoastLamps$Coast;II)V" } : Jvm.MethodName)) ∈ tbl := tbl_of (List.mem_of_getElem? (i := 209) (by decide +kernel)) (by decide +kernel)
theorem kw_164 : (Jvm.Cond.code ({ cls := "CoastLamps$Twin", name := "<init>", desc := "(LCoastLamps$Coast;II)V" } : Jvm.MethodName) prog_12_method_1_code (4 : Nat) (Option.none : Option Jvm.ClassFile.FieldType)) ∈ tbl := tbl_of (List.mem_of_getElem? (i := 210) (by decide +kernel)) (by decide +kernel)
theorem kw_165 : (Jvm.Cond.methodLink "CoastLamps$Twin" (3 : Nat) ({ cls := "CoastLamps$Round", name := "<init>", desc := "(LCoastLamps$Coast;II)V" } : Jvm.MethodName)) ∈ tbl := tbl_of (List.mem_of_getElem? (i := 211) (by decide +kernel)) (by decide +kernel)
theorem kw_172 : (Jvm.Cond.superclass "CoastLamps$Twin" "CoastLamps$Round") ∈ tbl := tbl_of (List.mem_of_getElem? (i := 218) (by decide +kernel)) (by decide +kernel)
theorem kw_173 : (Jvm.Cond.classLink "CoastLamps" (143 : Nat) "CoastLamps$Drum") ∈ tbl := tbl_of (List.mem_of_getElem? (i := 219) (by decide +kernel)) (by decide +kernel)
theorem kw_174 : (Jvm.Cond.instantiable "CoastLamps$Drum" (6 : Nat)) ∈ tbl := tbl_of (List.mem_of_getElem? (i := 220) (by decide +kernel)) (by decide +kernel)
theorem kw_175 : (Jvm.Cond.methodLink "CoastLamps" (145 : Nat) ({ cls := "CoastLamps$Drum", name := "<init>", desc := "(LCoastLamps$Coast;II)V" } : Jvm.MethodName)) ∈ tbl := tbl_of (List.mem_of_getElem? (i := 221) (by decide +kernel)) (by decide +kernel)
theorem kw_176 : (Jvm.Cond.instanceMethod ({ cls := "CoastLamps$Drum", name := "<init>", desc := "(LCoastLamps$Coast;II)V" } : Jvm.MethodName)) ∈ tbl := tbl_of (List.mem_of_getElem? (i := 222) (by decide +kernel)) (by decide +kernel)
theorem kw_177 : (Jvm.Cond.code ({ cls := "CoastLamps$Drum", name := "<init>", desc := "(LCoastLamps$Coast;II)V" } : Jvm.MethodName) prog_4_method_1_code (4 : Nat) (Option.none : Option Jvm.ClassFile.FieldType)) ∈ tbl := tbl_of (List.mem_of_getElem? (i := 223) (by decide +kernel)) (by decide +kernel)
theorem kw_178 : (Jvm.Cond.methodLink "CoastLamps$Drum" (3 : Nat) ({ cls := "CoastLamps$Twin", name := "<init>", desc := "(LCoastLamps$Coast;II)V" } : Jvm.MethodName)) ∈ tbl := tbl_of (List.mem_of_getElem? (i := 224) (by decide +kernel)) (by decide +kernel)
theorem kw_185 : (Jvm.Cond.superclass "CoastLamps$Drum" "CoastLamps$Twin") ∈ tbl := tbl_of (List.mem_of_getElem? (i := 231) (by decide +kernel)) (by decide +kernel)
theorem kw_186 : (Jvm.Cond.classLink "CoastLamps" (146 : Nat) "CoastLamps$Swing") ∈ tbl := tbl_of (List.mem_of_getElem? (i := 232) (by decide +kernel)) (by decide +kernel)
theorem kw_187 : (Jvm.Cond.instantiable "CoastLamps$Swing" (6 : Nat)) ∈ tbl := tbl_of (List.mem_of_getElem? (i := 233) (by decide +kernel)) (by decide +kernel)
theorem kw_188 : (Jvm.Cond.methodLink "CoastLamps" (148 : Nat) ({ cls := "CoastLamps$Swing", name := "<init>", desc := "(LCoastLamps$Coast;II)V" } : Jvm.MethodName)) ∈ tbl := tbl_of (List.mem_of_getElem? (i := 234) (by decide +kernel)) (by decide +kernel)
theorem kw_189 : (Jvm.Cond.instanceMethod ({ cls := "CoastLamps$Swing", name := "<init>", desc := "(LCoastLamps$Coast;II)V" } : Jvm.MethodName)) ∈ tbl := tbl_of (List.mem_of_getElem? (i := 235) (by decide +kernel)) (by decide +kernel)
theorem kw_190 : (Jvm.Cond.code ({ cls := "CoastLamps$Swing", name := "<init>", desc := "(LCoastLamps$Coast;II)V" } : Jvm.MethodName) prog_11_method_1_code (4 : Nat) (Option.none : Option Jvm.ClassFile.FieldType)) ∈ tbl := tbl_of (List.mem_of_getElem? (i := 236) (by decide +kernel)) (by decide +kernel)
theorem kw_191 : (Jvm.Cond.methodLink "CoastLamps$Swing" (3 : Nat) ({ cls := "CoastLamps$Drum", name := "<init>", desc := "(LCoastLamps$Coast;II)V" } : Jvm.MethodName)) ∈ tbl := tbl_of (List.mem_of_getElem? (i := 237) (by decide +kernel)) (by decide +kernel)
theorem kw_198 : (Jvm.Cond.superclass "CoastLamps$Swing" "CoastLamps$Drum") ∈ tbl := tbl_of (List.mem_of_getElem? (i := 244) (by decide +kernel)) (by decide +kernel)
theorem kw_199 : (Jvm.Cond.classLink "CoastLamps" (149 : Nat) "CoastLamps$Gas") ∈ tbl := tbl_of (List.mem_of_getElem? (i := 245) (by decide +kernel)) (by decide +kernel)
theorem kw_200 : (Jvm.Cond.instantiable "CoastLamps$Gas" (6 : Nat)) ∈ tbl := tbl_of (List.mem_of_getElem? (i := 246) (by decide +kernel)) (by decide +kernel)
theorem kw_201 : (Jvm.Cond.methodLink "CoastLamps" (151 : Nat) ({ cls := "CoastLamps$Gas", name := "<init>", desc := "(LCoastLamps$Coast;II)V" } : Jvm.MethodName)) ∈ tbl := tbl_of (List.mem_of_getElem? (i := 247) (by decide +kernel)) (by decide +kernel)
theorem kw_202 : (Jvm.Cond.instanceMethod ({ cls := "CoastLamps$Gas", name := "<init>", desc := "(LCoastLamps$Coast;II)V" } : Jvm.MethodName)) ∈ tbl := tbl_of (List.mem_of_getElem? (i := 248) (by decide +kernel)) (by decide +kernel)
theorem kw_203 : (Jvm.Cond.code ({ cls := "CoastLamps$Gas", name := "<init>", desc := "(LCoastLamps$Coast;II)V" } : Jvm.MethodName) prog_6_method_1_code (4 : Nat) (Option.none : Option Jvm.ClassFile.FieldType)) ∈ tbl := tbl_of (List.mem_of_getElem? (i := 249) (by decide +kernel)) (by decide +kernel)
theorem kw_204 : (Jvm.Cond.methodLink "CoastLamps$Gas" (3 : Nat) ({ cls := "CoastLamps$Lamp", name := "<init>", desc := "(LCoastLamps$Coast;II)V" } : Jvm.MethodName)) ∈ tbl := tbl_of (List.mem_of_getElem? (i := 250) (by decide +kernel)) (by decide +kernel)
theorem kw_211 : (Jvm.Cond.superclass "CoastLamps$Gas" "CoastLamps$Lamp") ∈ tbl := tbl_of (List.mem_of_getElem? (i := 257) (by decide +kernel)) (by decide +kernel)
theorem kw_212 : (Jvm.Cond.classLink "CoastLamps" (152 : Nat) "CoastLamps$Flare") ∈ tbl := tbl_of (List.mem_of_getElem? (i := 258) (by decide +kernel)) (by decide +kernel)
theorem kw_213 : (Jvm.Cond.instantiable "CoastLamps$Flare" (6 : Nat)) ∈ tbl := tbl_of (List.mem_of_getElem? (i := 259) (by decide +kernel)) (by decide +kernel)
theorem kw_214 : (Jvm.Cond.methodLink "CoastLamps" (154 : Nat) ({ cls := "CoastLamps$Flare", name := "<init>", desc := "(LCoastLamps$Coast;II)V" } : Jvm.MethodName)) ∈ tbl := tbl_of (List.mem_of_getElem? (i := 260) (by decide +kernel)) (by decide +kernel)
theorem kw_215 : (Jvm.Cond.instanceMethod ({ cls := "CoastLamps$Flare", name := "<init>", desc := "(LCoastLamps$Coast;II)V" } : Jvm.MethodName)) ∈ tbl := tbl_of (List.mem_of_getElem? (i := 261) (by decide +kernel)) (by decide +kernel)
theorem kw_216 : (Jvm.Cond.code ({ cls := "CoastLamps$Flare", name := "<init>", desc := "(LCoastLamps$Coast;II)V" } : Jvm.MethodName) prog_5_method_1_code (4 : Nat) (Option.none : Option Jvm.ClassFile.FieldType)) ∈ tbl := tbl_of (List.mem_of_getElem? (i := 262) (by decide +kernel)) (by decide +kernel)
theorem kw_217 : (Jvm.Cond.methodLink "CoastLamps$Flare" (3 : Nat) ({ cls := "CoastLamps$Gas", name := "<init>", desc := "(LCoastLamps$Coast;II)V" } : Jvm.MethodName)) ∈ tbl := tbl_of (List.mem_of_getElem? (i := 263) (by decide +kernel)) (by decide +kernel)
theorem kw_224 : (Jvm.Cond.superclass "CoastLamps$Flare" "CoastLamps$Gas") ∈ tbl := tbl_of (List.mem_of_getElem? (i := 270) (by decide +kernel)) (by decide +kernel)
theorem kw_225 : (Jvm.Cond.classLink "CoastLamps" (155 : Nat) "CoastLamps$Buoy") ∈ tbl := tbl_of (List.mem_of_getElem? (i := 271) (by decide +kernel)) (by decide +kernel)
theorem kw_226 : (Jvm.Cond.instantiable "CoastLamps$Buoy" (6 : Nat)) ∈ tbl := tbl_of (List.mem_of_getElem? (i := 272) (by decide +kernel)) (by decide +kernel)
theorem kw_227 : (Jvm.Cond.methodLink "CoastLamps" (157 : Nat) ({ cls := "CoastLamps$Buoy", name := "<init>", desc := "(LCoastLamps$Coast;II)V" } : Jvm.MethodName)) ∈ tbl := tbl_of (List.mem_of_getElem? (i := 273) (by decide +kernel)) (by decide +kernel)
theorem kw_228 : (Jvm.Cond.instanceMethod ({ cls := "CoastLamps$Buoy", name := "<init>", desc := "(LCoastLamps$Coast;II)V" } : Jvm.MethodName)) ∈ tbl := tbl_of (List.mem_of_getElem? (i := 274) (by decide +kernel)) (by decide +kernel)
theorem kw_229 : (Jvm.Cond.code ({ cls := "CoastLamps$Buoy", name := "<init>", desc := "(LCoastLamps$Coast;II)V" } : Jvm.MethodName) prog_2_method_1_code (4 : Nat) (Option.none : Option Jvm.ClassFile.FieldType)) ∈ tbl := tbl_of (List.mem_of_getElem? (i := 275) (by decide +kernel)) (by decide +kernel)
theorem kw_230 : (Jvm.Cond.methodLink "CoastLamps$Buoy" (3 : Nat) ({ cls := "CoastLamps$Flare", name := "<init>", desc := "(LCoastLamps$Coast;II)V" } : Jvm.MethodName)) ∈ tbl := tbl_of (List.mem_of_getElem? (i := 276) (by decide +kernel)) (by decide +kernel)
theorem kw_237 : (Jvm.Cond.superclass "CoastLamps$Buoy" "CoastLamps$Flare") ∈ tbl := tbl_of (List.mem_of_getElem? (i := 283) (by decide +kernel)) (by decide +kernel)
theorem kw_238 : (Jvm.Cond.classLink "CoastLamps" (158 : Nat) "CoastLamps$Outer") ∈ tbl := tbl_of (List.mem_of_getElem? (i := 284) (by decide +kernel)) (by decide +kernel)
theorem kw_239 : (Jvm.Cond.instantiable "CoastLamps$Outer" (6 : Nat)) ∈ tbl := tbl_of (List.mem_of_getElem? (i := 285) (by decide +kernel)) (by decide +kernel)
theorem kw_240 : (Jvm.Cond.methodLink "CoastLamps" (160 : Nat) ({ cls := "CoastLamps$Outer", name := "<init>", desc := "(LCoastLamps$Coast;II)V" } : Jvm.MethodName)) ∈ tbl := tbl_of (List.mem_of_getElem? (i := 286) (by decide +kernel)) (by decide +kernel)
theorem kw_241 : (Jvm.Cond.instanceMethod ({ cls := "CoastLamps$Outer", name := "<init>", desc := "(LCoastLamps$Coast;II)V" } : Jvm.MethodName)) ∈ tbl := tbl_of (List.mem_of_getElem? (i := 287) (by decide +kernel)) (by decide +kernel)
theorem kw_242 : (Jvm.Cond.code ({ cls := "CoastLamps$Outer", name := "<init>", desc := "(LCoastLamps$Coast;II)V" } : Jvm.MethodName) prog_9_method_1_code (4 : Nat) (Option.none : Option Jvm.ClassFile.FieldType)) ∈ tbl := tbl_of (List.mem_of_getElem? (i := 288) (by decide +kernel)) (by decide +kernel)
theorem kw_243 : (Jvm.Cond.methodLink "CoastLamps$Outer" (3 : Nat) ({ cls := "CoastLamps$Buoy", name := "<init>", desc := "(LCoastLamps$Coast;II)V" } : Jvm.MethodName)) ∈ tbl := tbl_of (List.mem_of_getElem? (i := 289) (by decide +kernel)) (by decide +kernel)
theorem kw_250 : (Jvm.Cond.superclass "CoastLamps$Outer" "CoastLamps$Buoy") ∈ tbl := tbl_of (List.mem_of_getElem? (i := 296) (by decide +kernel)) (by decide +kernel)
theorem kw_251 : (Jvm.Cond.methodLink "CoastLampsLaw" (22 : Nat) ({ cls := "CoastLamps", name := "ask", desc := "(III)J" } : Jvm.MethodName)) ∈ tbl := tbl_of (List.mem_of_getElem? (i := 297) (by decide +kernel)) (by decide +kernel)
theorem kw_252 : (Jvm.Cond.instanceMethod ({ cls := "CoastLamps", name := "ask", desc := "(III)J" } : Jvm.MethodName)) ∈ tbl := tbl_of (List.mem_of_getElem? (i := 298) (by decide +kernel)) (by decide +kernel)
theorem kw_253 : (Jvm.Cond.selects "CoastLamps" ({ cls := "CoastLamps", name := "ask", desc := "(III)J" } : Jvm.MethodName) ({ cls := "CoastLamps", name := "ask", desc := "(III)J" } : Jvm.MethodName)) ∈ tbl := tbl_of (List.mem_of_getElem? (i := 299) (by decide +kernel)) (by decide +kernel)
theorem kw_254 : (Jvm.Cond.code ({ cls := "CoastLamps", name := "ask", desc := "(III)J" } : Jvm.MethodName) prog_1_method_4_code (5 : Nat) (Option.some Jvm.ClassFile.FieldType.long)) ∈ tbl := tbl_of (List.mem_of_getElem? (i := 300) (by decide +kernel)) (by decide +kernel)
theorem kw_255 : (Jvm.Cond.methodLink "CoastLamps" (42 : Nat) ({ cls := "CoastLamps", name := "lampAt", desc := "(I)LCoastLamps$Lamp;" } : Jvm.MethodName)) ∈ tbl := tbl_of (List.mem_of_getElem? (i := 301) (by decide +kernel)) (by decide +kernel)
theorem kw_257 : (Jvm.Cond.instanceMethod ({ cls := "CoastLamps", name := "lampAt", desc := "(I)LCoastLamps$Lamp;" } : Jvm.MethodName)) ∈ tbl := tbl_of (List.mem_of_getElem? (i := 303) (by decide +kernel)) (by decide +kernel)
theorem kw_258 : (Jvm.Cond.code ({ cls := "CoastLamps", name := "lampAt", desc := "(I)LCoastLamps$Lamp;" } : Jvm.MethodName) prog_1_method_17_code (2 : Nat) (Option.some (Jvm.ClassFile.FieldType.object "CoastLamps$Lamp"))) ∈ tbl := tbl_of (List.mem_of_getElem? (i := 304) (by decide +kernel)) (by decide +kernel)
theorem kw_259 : (Jvm.Cond.constantLong "CoastLamps" (46 : Nat) (-9223372036854775808 : Int64)) ∈ tbl := tbl_of (List.mem_of_getElem? (i := 305) (by decide +kernel)) (by decide +kernel)
theorem kw_260 : (Jvm.Cond.methodLink "CoastLamps" (48 : Nat) ({ cls := "CoastLamps", name := "beginAct", desc := "()V" } : Jvm.MethodName)) ∈ tbl := tbl_of (List.mem_of_getElem? (i := 306) (by decide +kernel)) (by decide +kernel)
theorem kw_262 : (Jvm.Cond.instanceMethod ({ cls := "CoastLamps", name := "beginAct", desc := "()V" } : Jvm.MethodName)) ∈ tbl := tbl_of (List.mem_of_getElem? (i := 308) (by decide +kernel)) (by decide +kernel)
theorem kw_263 : (Jvm.Cond.code ({ cls := "CoastLamps", name := "beginAct", desc := "()V" } : Jvm.MethodName) prog_1_method_19_code (1 : Nat) (Option.none : Option Jvm.ClassFile.FieldType)) ∈ tbl := tbl_of (List.mem_of_getElem? (i := 309) (by decide +kernel)) (by decide +kernel)
theorem kw_264 : (Jvm.Cond.methodLink "CoastLamps" (129 : Nat) ({ cls := "CoastLamps$Coast", name := "wipe", desc := "()V" } : Jvm.MethodName)) ∈ tbl := tbl_of (List.mem_of_getElem? (i := 310) (by decide +kernel)) (by decide +kernel)
theorem kw_265 : (Jvm.Cond.instanceMethod ({ cls := "CoastLamps$Coast", name := "wipe", desc := "()V" } : Jvm.MethodName)) ∈ tbl := tbl_of (List.mem_of_getElem? (i := 311) (by decide +kernel)) (by decide +kernel)
theorem kw_266 : (Jvm.Cond.selects "CoastLamps$Coast" ({ cls := "CoastLamps$Coast", name := "wipe", desc := "()V" } : Jvm.MethodName) ({ cls := "CoastLamps$Coast", name := "wipe", desc := "()V" } : Jvm.MethodName)) ∈ tbl := tbl_of (List.mem_of_getElem? (i := 312) (by decide +kernel)) (by decide +kernel)
theorem kw_267 : (Jvm.Cond.code ({ cls := "CoastLamps$Coast", name := "wipe", desc := "()V" } : Jvm.MethodName) prog_3_method_5_code (1 : Nat) (Option.none : Option Jvm.ClassFile.FieldType)) ∈ tbl := tbl_of (List.mem_of_getElem? (i := 313) (by decide +kernel)) (by decide +kernel)
theorem kw_268 : (Jvm.Cond.methodLink "CoastLamps" (51 : Nat) ({ cls := "CoastLamps$Lamp", name := "horned", desc := "()Z" } : Jvm.MethodName)) ∈ tbl := tbl_of (List.mem_of_getElem? (i := 314) (by decide +kernel)) (by decide +kernel)
theorem kw_269 : (Jvm.Cond.instanceMethod ({ cls := "CoastLamps$Lamp", name := "horned", desc := "()Z" } : Jvm.MethodName)) ∈ tbl := tbl_of (List.mem_of_getElem? (i := 315) (by decide +kernel)) (by decide +kernel)
theorem kw_270 : (Jvm.Cond.sameMethod "CoastLamps$Lamp" "CoastLamps$Lamp" "horned" "()Z") ∈ tbl := tbl_of (List.mem_of_getElem? (i := 316) (by decide +kernel)) (by decide +kernel)
theorem kw_271 : (Jvm.Cond.selects "CoastLamps$Buoy" ({ cls := "CoastLamps$Lamp", name := "horned", desc := "()Z" } : Jvm.MethodName) ({ cls := "CoastLamps$Flare", name := "horned", desc := "()Z" } : Jvm.MethodName)) ∈ tbl := tbl_of (List.mem_of_getElem? (i := 317) (by decide +kernel)) (by decide +kernel)
theorem kw_272 : (Jvm.Cond.instanceMethod ({ cls := "CoastLamps$Flare", name := "horned", desc := "()Z" } : Jvm.MethodName)) ∈ tbl := tbl_of (List.mem_of_getElem? (i := 318) (by decide +kernel)) (by decide +kernel)
theorem kw_273 : (Jvm.Cond.code ({ cls := "CoastLamps$Flare", name := "horned", desc := "()Z" } : Jvm.MethodName) prog_5_method_2_code (1 : Nat) (Option.some Jvm.ClassFile.FieldType.boolean)) ∈ tbl := tbl_of (List.mem_of_getElem? (i := 319) (by decide +kernel)) (by decide +kernel)
theorem kw_274 : (Jvm.Cond.selects "CoastLamps$Drum" ({ cls := "CoastLamps$Lamp", name := "horned", desc := "()Z" } : Jvm.MethodName) ({ cls := "CoastLamps$Twin", name := "horned", desc := "()Z" } : Jvm.MethodName)) ∈ tbl := tbl_of (List.mem_of_getElem? (i := 320) (by decide +kernel)) (by decide +kernel)
theorem kw_275 : (Jvm.Cond.instanceMethod ({ cls := "CoastLamps$Twin", name := "horned", desc := "()Z" } : Jvm.MethodName)) ∈ tbl := tbl_of (List.mem_of_getElem? (i := 321) (by decide +kernel)) (by decide +kernel)
theorem kw_276 : (Jvm.Cond.code ({ cls := "CoastLamps$Twin", name := "horned", desc := "()Z" } : Jvm.MethodName) prog_12_method_2_code (1 : Nat) (Option.some Jvm.ClassFile.FieldType.boolean)) ∈ tbl := tbl_of (List.mem_of_getElem? (i := 322) (by decide +kernel)) (by decide +kernel)
theorem kw_277 : (Jvm.Cond.selects "CoastLamps$Flare" ({ cls := "CoastLamps$Lamp", name := "horned", desc := "()Z" } : Jvm.MethodName) ({ cls := "CoastLamps$Flare", name := "horned", desc := "()Z" } : Jvm.MethodName)) ∈ tbl := tbl_of (List.mem_of_getElem? (i := 323) (by decide +kernel)) (by decide +kernel)
theorem kw_278 : (Jvm.Cond.selects "CoastLamps$Gas" ({ cls := "CoastLamps$Lamp", name := "horned", desc := "()Z" } : Jvm.MethodName) ({ cls := "CoastLamps$Lamp", name := "horned", desc := "()Z" } : Jvm.MethodName)) ∈ tbl := tbl_of (List.mem_of_getElem? (i := 324) (by decide +kernel)) (by decide +kernel)
theorem kw_279 : (Jvm.Cond.selects "CoastLamps$Oil" ({ cls := "CoastLamps$Lamp", name := "horned", desc := "()Z" } : Jvm.MethodName) ({ cls := "CoastLamps$Lamp", name := "horned", desc := "()Z" } : Jvm.MethodName)) ∈ tbl := tbl_of (List.mem_of_getElem? (i := 325) (by decide +kernel)) (by decide +kernel)
theorem kw_280 : (Jvm.Cond.selects "CoastLamps$Outer" ({ cls := "CoastLamps$Lamp", name := "horned", desc := "()Z" } : Jvm.MethodName) ({ cls := "CoastLamps$Flare", name := "horned", desc := "()Z" } : Jvm.MethodName)) ∈ tbl := tbl_of (List.mem_of_getElem? (i := 326) (by decide +kernel)) (by decide +kernel)
theorem kw_281 : (Jvm.Cond.selects "CoastLamps$Round" ({ cls := "CoastLamps$Lamp", name := "horned", desc := "()Z" } : Jvm.MethodName) ({ cls := "CoastLamps$Lamp", name := "horned", desc := "()Z" } : Jvm.MethodName)) ∈ tbl := tbl_of (List.mem_of_getElem? (i := 327) (by decide +kernel)) (by decide +kernel)
theorem kw_282 : (Jvm.Cond.selects "CoastLamps$Swing" ({ cls := "CoastLamps$Lamp", name := "horned", desc := "()Z" } : Jvm.MethodName) ({ cls := "CoastLamps$Twin", name := "horned", desc := "()Z" } : Jvm.MethodName)) ∈ tbl := tbl_of (List.mem_of_getElem? (i := 328) (by decide +kernel)) (by decide +kernel)
theorem kw_283 : (Jvm.Cond.selects "CoastLamps$Twin" ({ cls := "CoastLamps$Lamp", name := "horned", desc := "()Z" } : Jvm.MethodName) ({ cls := "CoastLamps$Twin", name := "horned", desc := "()Z" } : Jvm.MethodName)) ∈ tbl := tbl_of (List.mem_of_getElem? (i := 329) (by decide +kernel)) (by decide +kernel)
theorem kw_284 : (Jvm.Cond.code ({ cls := "CoastLamps$Lamp", name := "horned", desc := "()Z" } : Jvm.MethodName) prog_7_method_3_code (1 : Nat) (Option.some Jvm.ClassFile.FieldType.boolean)) ∈ tbl := tbl_of (List.mem_of_getElem? (i := 330) (by decide +kernel)) (by decide +kernel)
theorem kw_285 : (Jvm.Cond.constantLong "CoastLamps" (55 : Nat) (-9223372036854775807 : Int64)) ∈ tbl := tbl_of (List.mem_of_getElem? (i := 331) (by decide +kernel)) (by decide +kernel)
theorem kw_286 : (Jvm.Cond.methodLink "CoastLamps" (57 : Nat) ({ cls := "CoastLamps$Lamp", name := "burn", desc := "(I)I" } : Jvm.MethodName)) ∈ tbl := tbl_of (List.mem_of_getElem? (i := 332) (by decide +kernel)) (by decide +kernel)
theorem kw_287 : (Jvm.Cond.instanceMethod ({ cls := "CoastLamps$Lamp", name := "burn", desc := "(I)I" } : Jvm.MethodName)) ∈ tbl := tbl_of (List.mem_of_getElem? (i := 333) (by decide +kernel)) (by decide +kernel)
theorem kw_288 : (Jvm.Cond.sameMethod "CoastLamps$Lamp" "CoastLamps$Lamp" "burn" "(I)I") ∈ tbl := tbl_of (List.mem_of_getElem? (i := 334) (by decide +kernel)) (by decide +kernel)
theorem kw_289 : (Jvm.Cond.selects "CoastLamps$Buoy" ({ cls := "CoastLamps$Lamp", name := "burn", desc := "(I)I" } : Jvm.MethodName) ({ cls := "CoastLamps$Flare", name := "burn", desc := "(I)I" } : Jvm.MethodName)) ∈ tbl := tbl_of (List.mem_of_getElem? (i := 335) (by decide +kernel)) (by decide +kernel)
theorem kw_290 : (Jvm.Cond.instanceMethod ({ cls := "CoastLamps$Flare", name := "burn", desc := "(I)I" } : Jvm.MethodName)) ∈ tbl := tbl_of (List.mem_of_getElem? (i := 336) (by decide +kernel)) (by decide +kernel)
theorem kw_291 : (Jvm.Cond.code ({ cls := "CoastLamps$Flare", name := "burn", desc := "(I)I" } : Jvm.MethodName) prog_5_method_3_code (2 : Nat) (Option.some Jvm.ClassFile.FieldType.int)) ∈ tbl := tbl_of (List.mem_of_getElem? (i := 337) (by decide +kernel)) (by decide +kernel)
theorem kw_292 : (Jvm.Cond.methodLink "CoastLamps$Flare" (15 : Nat) ({ cls := "CoastLamps$Coast", name := "begins", desc := "(II)V" } : Jvm.MethodName)) ∈ tbl := tbl_of (List.mem_of_getElem? (i := 338) (by decide +kernel)) (by decide +kernel)
theorem kw_293 : (Jvm.Cond.instanceMethod ({ cls := "CoastLamps$Coast", name := "begins", desc := "(II)V" } : Jvm.MethodName)) ∈ tbl := tbl_of (List.mem_of_getElem? (i := 339) (by decide +kernel)) (by decide +kernel)
theorem kw_294 : (Jvm.Cond.selects "CoastLamps$Coast" ({ cls := "CoastLamps$Coast", name := "begins", desc := "(II)V" } : Jvm.MethodName) ({ cls := "CoastLamps$Coast", name := "begins", desc := "(II)V" } : Jvm.MethodName)) ∈ tbl := tbl_of (List.mem_of_getElem? (i := 340) (by decide +kernel)) (by decide +kernel)
theorem kw_295 : (Jvm.Cond.code ({ cls := "CoastLamps$Coast", name := "begins", desc := "(II)V" } : Jvm.MethodName) prog_3_method_6_code (3 : Nat) (Option.none : Option Jvm.ClassFile.FieldType)) ∈ tbl := tbl_of (List.mem_of_getElem? (i := 341) (by decide +kernel)) (by decide +kernel)
theorem kw_296 : (Jvm.Cond.methodLink "CoastLamps$Flare" (21 : Nat) ({ cls := "CoastLamps$Gas", name := "burn", desc := "(I)I" } : Jvm.MethodName)) ∈ tbl := tbl_of (List.mem_of_getElem? (i := 342) (by decide +kernel)) (by decide +kernel)
theorem kw_297 : (Jvm.Cond.sameMethod "CoastLamps$Gas" "CoastLamps$Lamp" "burn" "(I)I") ∈ tbl := tbl_of (List.mem_of_getElem? (i := 343) (by decide +kernel)) (by decide +kernel)
theorem kw_299 : (Jvm.Cond.selects "CoastLamps$Drum" ({ cls := "CoastLamps$Lamp", name := "burn", desc := "(I)I" } : Jvm.MethodName) ({ cls := "CoastLamps$Twin", name := "burn", desc := "(I)I" } : Jvm.MethodName)) ∈ tbl := tbl_of (List.mem_of_getElem? (i := 345) (by decide +kernel)) (by decide +kernel)
theorem kw_300 : (Jvm.Cond.instanceMethod ({ cls := "CoastLamps$Twin", name := "burn", desc := "(I)I" } : Jvm.MethodName)) ∈ tbl := tbl_of (List.mem_of_getElem? (i := 346) (by decide +kernel)) (by decide +kernel)
theorem kw_301 : (Jvm.Cond.code ({ cls := "CoastLamps$Twin", name := "burn", desc := "(I)I" } : Jvm.MethodName) prog_12_method_3_code (3 : Nat) (Option.some Jvm.ClassFile.FieldType.int)) ∈ tbl := tbl_of (List.mem_of_getElem? (i := 347) (by decide +kernel)) (by decide +kernel)
theorem kw_302 : (Jvm.Cond.methodLink "CoastLamps$Twin" (15 : Nat) ({ cls := "CoastLamps$Coast", name := "begins", desc := "(II)V" } : Jvm.MethodName)) ∈ tbl := tbl_of (List.mem_of_getElem? (i := 348) (by decide +kernel)) (by decide +kernel)
theorem kw_303 : (Jvm.Cond.methodLink "CoastLamps$Twin" (21 : Nat) ({ cls := "CoastLamps$Round", name := "burn", desc := "(I)I" } : Jvm.MethodName)) ∈ tbl := tbl_of (List.mem_of_getElem? (i := 349) (by decide +kernel)) (by decide +kernel)
theorem kw_304 : (Jvm.Cond.sameMethod "CoastLamps$Round" "CoastLamps$Oil" "burn" "(I)I") ∈ tbl := tbl_of (List.mem_of_getElem? (i := 350) (by decide +kernel)) (by decide +kernel)
theorem kw_306 : (Jvm.Cond.instanceMethod ({ cls := "CoastLamps$Oil", name := "burn", desc := "(I)I" } : Jvm.MethodName)) ∈ tbl := tbl_of (List.mem_of_getElem? (i := 352) (by decide +kernel)) (by decide +kernel)
theorem kw_307 : (Jvm.Cond.code ({ cls := "CoastLamps$Oil", name := "burn", desc := "(I)I" } : Jvm.MethodName) prog_8_method_2_code (3 : Nat) (Option.some Jvm.ClassFile.FieldType.int)) ∈ tbl := tbl_of (List.mem_of_getElem? (i := 353) (by decide +kernel)) (by decide +kernel)
theorem kw_308 : (Jvm.Cond.methodLink "CoastLamps$Oil" (15 : Nat) ({ cls := "CoastLamps$Coast", name := "begins", desc := "(II)V" } : Jvm.MethodName)) ∈ tbl := tbl_of (List.mem_of_getElem? (i := 354) (by decide +kernel)) (by decide +kernel)
theorem kw_309 : (Jvm.Cond.methodLink "CoastLamps$Oil" (21 : Nat) ({ cls := "CoastLamps$Lamp", name := "burn", desc := "(I)I" } : Jvm.MethodName)) ∈ tbl := tbl_of (List.mem_of_getElem? (i := 355) (by decide +kernel)) (by decide +kernel)
theorem kw_310 : (Jvm.Cond.selects "CoastLamps$Flare" ({ cls := "CoastLamps$Lamp", name := "burn", desc := "(I)I" } : Jvm.MethodName) ({ cls := "CoastLamps$Flare", name := "burn", desc := "(I)I" } : Jvm.MethodName)) ∈ tbl := tbl_of (List.mem_of_getElem? (i := 356) (by decide +kernel)) (by decide +kernel)
theorem kw_311 : (Jvm.Cond.selects "CoastLamps$Gas" ({ cls := "CoastLamps$Lamp", name := "burn", desc := "(I)I" } : Jvm.MethodName) ({ cls := "CoastLamps$Lamp", name := "burn", desc := "(I)I" } : Jvm.MethodName)) ∈ tbl := tbl_of (List.mem_of_getElem? (i := 357) (by decide +kernel)) (by decide +kernel)
theorem kw_312 : (Jvm.Cond.selects "CoastLamps$Oil" ({ cls := "CoastLamps$Lamp", name := "burn", desc := "(I)I" } : Jvm.MethodName) ({ cls := "CoastLamps$Oil", name := "burn", desc := "(I)I" } : Jvm.MethodName)) ∈ tbl := tbl_of (List.mem_of_getElem? (i := 358) (by decide +kernel)) (by decide +kernel)
theorem kw_313 : (Jvm.Cond.selects "CoastLamps$Outer" ({ cls := "CoastLamps$Lamp", name := "burn", desc := "(I)I" } : Jvm.MethodName) ({ cls := "CoastLamps$Outer", name := "burn", desc := "(I)I" } : Jvm.MethodName)) ∈ tbl := tbl_of (List.mem_of_getElem? (i := 359) (by decide +kernel)) (by decide +kernel)
theorem kw_314 : (Jvm.Cond.instanceMethod ({ cls := "CoastLamps$Outer", name := "burn", desc := "(I)I" } : Jvm.MethodName)) ∈ tbl := tbl_of (List.mem_of_getElem? (i := 360) (by decide +kernel)) (by decide +kernel)
theorem kw_315 : (Jvm.Cond.code ({ cls := "CoastLamps$Outer", name := "burn", desc := "(I)I" } : Jvm.MethodName) prog_9_method_2_code (2 : Nat) (Option.some Jvm.ClassFile.FieldType.int)) ∈ tbl := tbl_of (List.mem_of_getElem? (i := 361) (by decide +kernel)) (by decide +kernel)
theorem kw_316 : (Jvm.Cond.methodLink "CoastLamps$Outer" (15 : Nat) ({ cls := "CoastLamps$Coast", name := "begins", desc := "(II)V" } : Jvm.MethodName)) ∈ tbl := tbl_of (List.mem_of_getElem? (i := 362) (by decide +kernel)) (by decide +kernel)
theorem kw_317 : (Jvm.Cond.methodLink "CoastLamps$Outer" (21 : Nat) ({ cls := "CoastLamps$Buoy", name := "burn", desc := "(I)I" } : Jvm.MethodName)) ∈ tbl := tbl_of (List.mem_of_getElem? (i := 363) (by decide +kernel)) (by decide +kernel)
theorem kw_318 : (Jvm.Cond.sameMethod "CoastLamps$Buoy" "CoastLamps$Flare" "burn" "(I)I") ∈ tbl := tbl_of (List.mem_of_getElem? (i := 364) (by decide +kernel)) (by decide +kernel)
theorem kw_320 : (Jvm.Cond.methodLink "CoastLamps$Outer" (25 : Nat) ({ cls := "CoastLamps$Coast", name := "dialed", desc := "(I)I" } : Jvm.MethodName)) ∈ tbl := tbl_of (List.mem_of_getElem? (i := 366) (by decide +kernel)) (by decide +kernel)
theorem kw_321 : (Jvm.Cond.methodLink "CoastLamps$Outer" (28 : Nat) ({ cls := "java/lang/Math", name := "max", desc := "(II)I" } : Jvm.MethodName)) ∈ tbl := tbl_of (List.mem_of_getElem? (i := 367) (by decide +kernel)) (by decide +kernel)
theorem kw_322 : (Jvm.Cond.static ({ cls := "java/lang/Math", name := "max", desc := "(II)I" } : Jvm.MethodName)) ∈ tbl := tbl_of (List.mem_of_getElem? (i := 368) (by decide +kernel)) (by decide +kernel)
theorem kw_323 : (Jvm.Cond.code ({ cls := "java/lang/Math", name := "max", desc := "(II)I" } : Jvm.MethodName) prog_15_method_65_code (2 : Nat) (Option.some Jvm.ClassFile.FieldType.int)) ∈ tbl := tbl_of (List.mem_of_getElem? (i := 369) (by decide +kernel)) (by decide +kernel)
theorem kw_324 : (Jvm.Cond.selects "CoastLamps$Round" ({ cls := "CoastLamps$Lamp", name := "burn", desc := "(I)I" } : Jvm.MethodName) ({ cls := "CoastLamps$Oil", name := "burn", desc := "(I)I" } : Jvm.MethodName)) ∈ tbl := tbl_of (List.mem_of_getElem? (i := 370) (by decide +kernel)) (by decide +kernel)
theorem kw_325 : (Jvm.Cond.selects "CoastLamps$Swing" ({ cls := "CoastLamps$Lamp", name := "burn", desc := "(I)I" } : Jvm.MethodName) ({ cls := "CoastLamps$Swing", name := "burn", desc := "(I)I" } : Jvm.MethodName)) ∈ tbl := tbl_of (List.mem_of_getElem? (i := 371) (by decide +kernel)) (by decide +kernel)
theorem kw_326 : (Jvm.Cond.instanceMethod ({ cls := "CoastLamps$Swing", name := "burn", desc := "(I)I" } : Jvm.MethodName)) ∈ tbl := tbl_of (List.mem_of_getElem? (i := 372) (by decide +kernel)) (by decide +kernel)
theorem kw_327 : (Jvm.Cond.code ({ cls := "CoastLamps$Swing", name := "burn", desc := "(I)I" } : Jvm.MethodName) prog_11_method_2_code (2 : Nat) (Option.some Jvm.ClassFile.FieldType.int)) ∈ tbl := tbl_of (List.mem_of_getElem? (i := 373) (by decide +kernel)) (by decide +kernel)
theorem kw_328 : (Jvm.Cond.methodLink "CoastLamps$Swing" (15 : Nat) ({ cls := "CoastLamps$Coast", name := "begins", desc := "(II)V" } : Jvm.MethodName)) ∈ tbl := tbl_of (List.mem_of_getElem? (i := 374) (by decide +kernel)) (by decide +kernel)
theorem kw_329 : (Jvm.Cond.methodLink "CoastLamps$Swing" (21 : Nat) ({ cls := "CoastLamps$Drum", name := "burn", desc := "(I)I" } : Jvm.MethodName)) ∈ tbl := tbl_of (List.mem_of_getElem? (i := 375) (by decide +kernel)) (by decide +kernel)
theorem kw_330 : (Jvm.Cond.sameMethod "CoastLamps$Drum" "CoastLamps$Twin" "burn" "(I)I") ∈ tbl := tbl_of (List.mem_of_getElem? (i := 376) (by decide +kernel)) (by decide +kernel)
theorem kw_332 : (Jvm.Cond.selects "CoastLamps$Twin" ({ cls := "CoastLamps$Lamp", name := "burn", desc := "(I)I" } : Jvm.MethodName) ({ cls := "CoastLamps$Twin", name := "burn", desc := "(I)I" } : Jvm.MethodName)) ∈ tbl := tbl_of (List.mem_of_getElem? (i := 378) (by decide +kernel)) (by decide +kernel)
theorem kw_333 : (Jvm.Cond.code ({ cls := "CoastLamps$Lamp", name := "burn", desc := "(I)I" } : Jvm.MethodName) prog_7_method_4_code (2 : Nat) (Option.some Jvm.ClassFile.FieldType.int)) ∈ tbl := tbl_of (List.mem_of_getElem? (i := 379) (by decide +kernel)) (by decide +kernel)
theorem kw_334 : (Jvm.Cond.methodLink "CoastLamps$Lamp" (29 : Nat) ({ cls := "CoastLamps$Coast", name := "begins", desc := "(II)V" } : Jvm.MethodName)) ∈ tbl := tbl_of (List.mem_of_getElem? (i := 380) (by decide +kernel)) (by decide +kernel)
theorem kw_335 : (Jvm.Cond.methodLink "CoastLamps$Lamp" (38 : Nat) ({ cls := "CoastLamps$Coast", name := "dialed", desc := "(I)I" } : Jvm.MethodName)) ∈ tbl := tbl_of (List.mem_of_getElem? (i := 381) (by decide +kernel)) (by decide +kernel)
theorem kw_336 : (Jvm.Cond.methodLink "CoastLamps" (60 : Nat) ({ cls := "CoastLamps$Lamp", name := "reach", desc := "(I)I" } : Jvm.MethodName)) ∈ tbl := tbl_of (List.mem_of_getElem? (i := 382) (by decide +kernel)) (by decide +kernel)
theorem kw_337 : (Jvm.Cond.instanceMethod ({ cls := "CoastLamps$Lamp", name := "reach", desc := "(I)I" } : Jvm.MethodName)) ∈ tbl := tbl_of (List.mem_of_getElem? (i := 383) (by decide +kernel)) (by decide +kernel)
theorem kw_338 : (Jvm.Cond.sameMethod "CoastLamps$Lamp" "CoastLamps$Lamp" "reach" "(I)I") ∈ tbl := tbl_of (List.mem_of_getElem? (i := 384) (by decide +kernel)) (by decide +kernel)
theorem kw_339 : (Jvm.Cond.selects "CoastLamps$Buoy" ({ cls := "CoastLamps$Lamp", name := "reach", desc := "(I)I" } : Jvm.MethodName) ({ cls := "CoastLamps$Buoy", name := "reach", desc := "(I)I" } : Jvm.MethodName)) ∈ tbl := tbl_of (List.mem_of_getElem? (i := 385) (by decide +kernel)) (by decide +kernel)
theorem kw_340 : (Jvm.Cond.instanceMethod ({ cls := "CoastLamps$Buoy", name := "reach", desc := "(I)I" } : Jvm.MethodName)) ∈ tbl := tbl_of (List.mem_of_getElem? (i := 386) (by decide +kernel)) (by decide +kernel)
theorem kw_341 : (Jvm.Cond.code ({ cls := "CoastLamps$Buoy", name := "reach", desc := "(I)I" } : Jvm.MethodName) prog_2_method_2_code (2 : Nat) (Option.some Jvm.ClassFile.FieldType.int)) ∈ tbl := tbl_of (List.mem_of_getElem? (i := 387) (by decide +kernel)) (by decide +kernel)
theorem kw_342 : (Jvm.Cond.methodLink "CoastLamps$Buoy" (15 : Nat) ({ cls := "CoastLamps$Coast", name := "begins", desc := "(II)V" } : Jvm.MethodName)) ∈ tbl := tbl_of (List.mem_of_getElem? (i := 388) (by decide +kernel)) (by decide +kernel)
theorem kw_343 : (Jvm.Cond.methodLink "CoastLamps$Buoy" (21 : Nat) ({ cls := "CoastLamps$Flare", name := "reach", desc := "(I)I" } : Jvm.MethodName)) ∈ tbl := tbl_of (List.mem_of_getElem? (i := 389) (by decide +kernel)) (by decide +kernel)
theorem kw_344 : (Jvm.Cond.sameMethod "CoastLamps$Flare" "CoastLamps$Gas" "reach" "(I)I") ∈ tbl := tbl_of (List.mem_of_getElem? (i := 390) (by decide +kernel)) (by decide +kernel)
theorem kw_346 : (Jvm.Cond.instanceMethod ({ cls := "CoastLamps$Gas", name := "reach", desc := "(I)I" } : Jvm.MethodName)) ∈ tbl := tbl_of (List.mem_of_getElem? (i := 392) (by decide +kernel)) (by decide +kernel)
theorem kw_347 : (Jvm.Cond.code ({ cls := "CoastLamps$Gas", name := "reach", desc := "(I)I" } : Jvm.MethodName) prog_6_method_2_code (2 : Nat) (Option.some Jvm.ClassFile.FieldType.int)) ∈ tbl := tbl_of (List.mem_of_getElem? (i := 393) (by decide +kernel)) (by decide +kernel)
theorem kw_348 : (Jvm.Cond.methodLink "CoastLamps$Gas" (15 : Nat) ({ cls := "CoastLamps$Coast", name := "begins", desc := "(II)V" } : Jvm.MethodName)) ∈ tbl := tbl_of (List.mem_of_getElem? (i := 394) (by decide +kernel)) (by decide +kernel)
theorem kw_349 : (Jvm.Cond.methodLink "CoastLamps$Gas" (21 : Nat) ({ cls := "CoastLamps$Lamp", name := "reach", desc := "(I)I" } : Jvm.MethodName)) ∈ tbl := tbl_of (List.mem_of_getElem? (i := 395) (by decide +kernel)) (by decide +kernel)
theorem kw_350 : (Jvm.Cond.selects "CoastLamps$Drum" ({ cls := "CoastLamps$Lamp", name := "reach", desc := "(I)I" } : Jvm.MethodName) ({ cls := "CoastLamps$Drum", name := "reach", desc := "(I)I" } : Jvm.MethodName)) ∈ tbl := tbl_of (List.mem_of_getElem? (i := 396) (by decide +kernel)) (by decide +kernel)
theorem kw_351 : (Jvm.Cond.instanceMethod ({ cls := "CoastLamps$Drum", name := "reach", desc := "(I)I" } : Jvm.MethodName)) ∈ tbl := tbl_of (List.mem_of_getElem? (i := 397) (by decide +kernel)) (by decide +kernel)
theorem kw_352 : (Jvm.Cond.code ({ cls := "CoastLamps$Drum", name := "reach", desc := "(I)I" } : Jvm.MethodName) prog_4_method_2_code (2 : Nat) (Option.some Jvm.ClassFile.FieldType.int)) ∈ tbl := tbl_of (List.mem_of_getElem? (i := 398) (by decide +kernel)) (by decide +kernel)
theorem kw_353 : (Jvm.Cond.methodLink "CoastLamps$Drum" (15 : Nat) ({ cls := "CoastLamps$Coast", name := "begins", desc := "(II)V" } : Jvm.MethodName)) ∈ tbl := tbl_of (List.mem_of_getElem? (i := 399) (by decide +kernel)) (by decide +kernel)
theorem kw_354 : (Jvm.Cond.methodLink "CoastLamps$Drum" (21 : Nat) ({ cls := "CoastLamps$Twin", name := "reach", desc := "(I)I" } : Jvm.MethodName)) ∈ tbl := tbl_of (List.mem_of_getElem? (i := 400) (by decide +kernel)) (by decide +kernel)
theorem kw_355 : (Jvm.Cond.instanceMethod ({ cls := "CoastLamps$Twin", name := "reach", desc := "(I)I" } : Jvm.MethodName)) ∈ tbl := tbl_of (List.mem_of_getElem? (i := 401) (by decide +kernel)) (by decide +kernel)
theorem kw_356 : (Jvm.Cond.code ({ cls := "CoastLamps$Twin", name := "reach", desc := "(I)I" } : Jvm.MethodName) prog_12_method_4_code (3 : Nat) (Option.some Jvm.ClassFile.FieldType.int)) ∈ tbl := tbl_of (List.mem_of_getElem? (i := 402) (by decide +kernel)) (by decide +kernel)
theorem kw_357 : (Jvm.Cond.methodLink "CoastLamps$Twin" (25 : Nat) ({ cls := "CoastLamps$Round", name := "reach", desc := "(I)I" } : Jvm.MethodName)) ∈ tbl := tbl_of (List.mem_of_getElem? (i := 403) (by decide +kernel)) (by decide +kernel)
theorem kw_358 : (Jvm.Cond.instanceMethod ({ cls := "CoastLamps$Round", name := "reach", desc := "(I)I" } : Jvm.MethodName)) ∈ tbl := tbl_of (List.mem_of_getElem? (i := 404) (by decide +kernel)) (by decide +kernel)
theorem kw_359 : (Jvm.Cond.code ({ cls := "CoastLamps$Round", name := "reach", desc := "(I)I" } : Jvm.MethodName) prog_10_method_2_code (2 : Nat) (Option.some Jvm.ClassFile.FieldType.int)) ∈ tbl := tbl_of (List.mem_of_getElem? (i := 405) (by decide +kernel)) (by decide +kernel)
theorem kw_360 : (Jvm.Cond.methodLink "CoastLamps$Round" (15 : Nat) ({ cls := "CoastLamps$Coast", name := "begins", desc := "(II)V" } : Jvm.MethodName)) ∈ tbl := tbl_of (List.mem_of_getElem? (i := 406) (by decide +kernel)) (by decide +kernel)
theorem kw_361 : (Jvm.Cond.methodLink "CoastLamps$Round" (21 : Nat) ({ cls := "CoastLamps$Oil", name := "reach", desc := "(I)I" } : Jvm.MethodName)) ∈ tbl := tbl_of (List.mem_of_getElem? (i := 407) (by decide +kernel)) (by decide +kernel)
theorem kw_362 : (Jvm.Cond.sameMethod "CoastLamps$Oil" "CoastLamps$Lamp" "reach" "(I)I") ∈ tbl := tbl_of (List.mem_of_getElem? (i := 408) (by decide +kernel)) (by decide +kernel)
theorem kw_364 : (Jvm.Cond.methodLink "CoastLamps$Round" (25 : Nat) ({ cls := "CoastLamps$Coast", name := "dialed", desc := "(I)I" } : Jvm.MethodName)) ∈ tbl := tbl_of (List.mem_of_getElem? (i := 410) (by decide +kernel)) (by decide +kernel)
theorem kw_365 : (Jvm.Cond.methodLink "CoastLamps$Drum" (25 : Nat) ({ cls := "java/lang/Math", name := "max", desc := "(II)I" } : Jvm.MethodName)) ∈ tbl := tbl_of (List.mem_of_getElem? (i := 411) (by decide +kernel)) (by decide +kernel)
theorem kw_366 : (Jvm.Cond.selects "CoastLamps$Flare" ({ cls := "CoastLamps$Lamp", name := "reach", desc := "(I)I" } : Jvm.MethodName) ({ cls := "CoastLamps$Gas", name := "reach", desc := "(I)I" } : Jvm.MethodName)) ∈ tbl := tbl_of (List.mem_of_getElem? (i := 412) (by decide +kernel)) (by decide +kernel)
theorem kw_367 : (Jvm.Cond.selects "CoastLamps$Gas" ({ cls := "CoastLamps$Lamp", name := "reach", desc := "(I)I" } : Jvm.MethodName) ({ cls := "CoastLamps$Gas", name := "reach", desc := "(I)I" } : Jvm.MethodName)) ∈ tbl := tbl_of (List.mem_of_getElem? (i := 413) (by decide +kernel)) (by decide +kernel)
theorem kw_368 : (Jvm.Cond.selects "CoastLamps$Oil" ({ cls := "CoastLamps$Lamp", name := "reach", desc := "(I)I" } : Jvm.MethodName) ({ cls := "CoastLamps$Lamp", name := "reach", desc := "(I)I" } : Jvm.MethodName)) ∈ tbl := tbl_of (List.mem_of_getElem? (i := 414) (by decide +kernel)) (by decide +kernel)
theorem kw_369 : (Jvm.Cond.selects "CoastLamps$Outer" ({ cls := "CoastLamps$Lamp", name := "reach", desc := "(I)I" } : Jvm.MethodName) ({ cls := "CoastLamps$Buoy", name := "reach", desc := "(I)I" } : Jvm.MethodName)) ∈ tbl := tbl_of (List.mem_of_getElem? (i := 415) (by decide +kernel)) (by decide +kernel)
theorem kw_370 : (Jvm.Cond.selects "CoastLamps$Round" ({ cls := "CoastLamps$Lamp", name := "reach", desc := "(I)I" } : Jvm.MethodName) ({ cls := "CoastLamps$Round", name := "reach", desc := "(I)I" } : Jvm.MethodName)) ∈ tbl := tbl_of (List.mem_of_getElem? (i := 416) (by decide +kernel)) (by decide +kernel)
theorem kw_371 : (Jvm.Cond.selects "CoastLamps$Swing" ({ cls := "CoastLamps$Lamp", name := "reach", desc := "(I)I" } : Jvm.MethodName) ({ cls := "CoastLamps$Drum", name := "reach", desc := "(I)I" } : Jvm.MethodName)) ∈ tbl := tbl_of (List.mem_of_getElem? (i := 417) (by decide +kernel)) (by decide +kernel)
theorem kw_372 : (Jvm.Cond.selects "CoastLamps$Twin" ({ cls := "CoastLamps$Lamp", name := "reach", desc := "(I)I" } : Jvm.MethodName) ({ cls := "CoastLamps$Twin", name := "reach", desc := "(I)I" } : Jvm.MethodName)) ∈ tbl := tbl_of (List.mem_of_getElem? (i := 418) (by decide +kernel)) (by decide +kernel)
theorem kw_373 : (Jvm.Cond.code ({ cls := "CoastLamps$Lamp", name := "reach", desc := "(I)I" } : Jvm.MethodName) prog_7_method_5_code (2 : Nat) (Option.some Jvm.ClassFile.FieldType.int)) ∈ tbl := tbl_of (List.mem_of_getElem? (i := 419) (by decide +kernel)) (by decide +kernel)
theorem kw_374 : (Jvm.Cond.methodLink "CoastLamps" (63 : Nat) ({ cls := "CoastLamps$Lamp", name := "flash", desc := "(I)I" } : Jvm.MethodName)) ∈ tbl := tbl_of (List.mem_of_getElem? (i := 420) (by decide +kernel)) (by decide +kernel)
theorem kw_375 : (Jvm.Cond.instanceMethod ({ cls := "CoastLamps$Lamp", name := "flash", desc := "(I)I" } : Jvm.MethodName)) ∈ tbl := tbl_of (List.mem_of_getElem? (i := 421) (by decide +kernel)) (by decide +kernel)
theorem kw_376 : (Jvm.Cond.sameMethod "CoastLamps$Lamp" "CoastLamps$Lamp" "flash" "(I)I") ∈ tbl := tbl_of (List.mem_of_getElem? (i := 422) (by decide +kernel)) (by decide +kernel)
theorem kw_377 : (Jvm.Cond.selects "CoastLamps$Buoy" ({ cls := "CoastLamps$Lamp", name := "flash", desc := "(I)I" } : Jvm.MethodName) ({ cls := "CoastLamps$Flare", name := "flash", desc := "(I)I" } : Jvm.MethodName)) ∈ tbl := tbl_of (List.mem_of_getElem? (i := 423) (by decide +kernel)) (by decide +kernel)
theorem kw_378 : (Jvm.Cond.instanceMethod ({ cls := "CoastLamps$Flare", name := "flash", desc := "(I)I" } : Jvm.MethodName)) ∈ tbl := tbl_of (List.mem_of_getElem? (i := 424) (by decide +kernel)) (by decide +kernel)
theorem kw_379 : (Jvm.Cond.code ({ cls := "CoastLamps$Flare", name := "flash", desc := "(I)I" } : Jvm.MethodName) prog_5_method_4_code (2 : Nat) (Option.some Jvm.ClassFile.FieldType.int)) ∈ tbl := tbl_of (List.mem_of_getElem? (i := 425) (by decide +kernel)) (by decide +kernel)
theorem kw_380 : (Jvm.Cond.methodLink "CoastLamps$Flare" (25 : Nat) ({ cls := "CoastLamps$Gas", name := "flash", desc := "(I)I" } : Jvm.MethodName)) ∈ tbl := tbl_of (List.mem_of_getElem? (i := 426) (by decide +kernel)) (by decide +kernel)
theorem kw_381 : (Jvm.Cond.sameMethod "CoastLamps$Gas" "CoastLamps$Lamp" "flash" "(I)I") ∈ tbl := tbl_of (List.mem_of_getElem? (i := 427) (by decide +kernel)) (by decide +kernel)
theorem kw_383 : (Jvm.Cond.selects "CoastLamps$Drum" ({ cls := "CoastLamps$Lamp", name := "flash", desc := "(I)I" } : Jvm.MethodName) ({ cls := "CoastLamps$Twin", name := "flash", desc := "(I)I" } : Jvm.MethodName)) ∈ tbl := tbl_of (List.mem_of_getElem? (i := 429) (by decide +kernel)) (by decide +kernel)
theorem kw_384 : (Jvm.Cond.instanceMethod ({ cls := "CoastLamps$Twin", name := "flash", desc := "(I)I" } : Jvm.MethodName)) ∈ tbl := tbl_of (List.mem_of_getElem? (i := 430) (by decide +kernel)) (by decide +kernel)
theorem kw_385 : (Jvm.Cond.code ({ cls := "CoastLamps$Twin", name := "flash", desc := "(I)I" } : Jvm.MethodName) prog_12_method_5_code (2 : Nat) (Option.some Jvm.ClassFile.FieldType.int)) ∈ tbl := tbl_of (List.mem_of_getElem? (i := 431) (by decide +kernel)) (by decide +kernel)
theorem kw_386 : (Jvm.Cond.methodLink "CoastLamps$Twin" (28 : Nat) ({ cls := "CoastLamps$Round", name := "flash", desc := "(I)I" } : Jvm.MethodName)) ∈ tbl := tbl_of (List.mem_of_getElem? (i := 432) (by decide +kernel)) (by decide +kernel)
theorem kw_387 : (Jvm.Cond.sameMethod "CoastLamps$Round" "CoastLamps$Lamp" "flash" "(I)I") ∈ tbl := tbl_of (List.mem_of_getElem? (i := 433) (by decide +kernel)) (by decide +kernel)
theorem kw_388 : (Jvm.Cond.selects "CoastLamps$Flare" ({ cls := "CoastLamps$Lamp", name := "flash", desc := "(I)I" } : Jvm.MethodName) ({ cls := "CoastLamps$Flare", name := "flash", desc := "(I)I" } : Jvm.MethodName)) ∈ tbl := tbl_of (List.mem_of_getElem? (i := 434) (by decide +kernel)) (by decide +kernel)
theorem kw_389 : (Jvm.Cond.selects "CoastLamps$Gas" ({ cls := "CoastLamps$Lamp", name := "flash", desc := "(I)I" } : Jvm.MethodName) ({ cls := "CoastLamps$Lamp", name := "flash", desc := "(I)I" } : Jvm.MethodName)) ∈ tbl := tbl_of (List.mem_of_getElem? (i := 435) (by decide +kernel)) (by decide +kernel)
theorem kw_390 : (Jvm.Cond.selects "CoastLamps$Oil" ({ cls := "CoastLamps$Lamp", name := "flash", desc := "(I)I" } : Jvm.MethodName) ({ cls := "CoastLamps$Lamp", name := "flash", desc := "(I)I" } : Jvm.MethodName)) ∈ tbl := tbl_of (List.mem_of_getElem? (i := 436) (by decide +kernel)) (by decide +kernel)
theorem kw_391 : (Jvm.Cond.selects "CoastLamps$Outer" ({ cls := "CoastLamps$Lamp", name := "flash", desc := "(I)I" } : Jvm.MethodName) ({ cls := "CoastLamps$Outer", name := "flash", desc := "(I)I" } : Jvm.MethodName)) ∈ tbl := tbl_of (List.mem_of_getElem? (i := 437) (by decide +kernel)) (by decide +kernel)
theorem kw_392 : (Jvm.Cond.instanceMethod ({ cls := "CoastLamps$Outer", name := "flash", desc := "(I)I" } : Jvm.MethodName)) ∈ tbl := tbl_of (List.mem_of_getElem? (i := 438) (by decide +kernel)) (by decide +kernel)
theorem kw_393 : (Jvm.Cond.code ({ cls := "CoastLamps$Outer", name := "flash", desc := "(I)I" } : Jvm.MethodName) prog_9_method_3_code (3 : Nat) (Option.some Jvm.ClassFile.FieldType.int)) ∈ tbl := tbl_of (List.mem_of_getElem? (i := 439) (by decide +kernel)) (by decide +kernel)
theorem kw_394 : (Jvm.Cond.methodLink "CoastLamps$Outer" (34 : Nat) ({ cls := "CoastLamps$Buoy", name := "flash", desc := "(I)I" } : Jvm.MethodName)) ∈ tbl := tbl_of (List.mem_of_getElem? (i := 440) (by decide +kernel)) (by decide +kernel)
theorem kw_395 : (Jvm.Cond.sameMethod "CoastLamps$Buoy" "CoastLamps$Flare" "flash" "(I)I") ∈ tbl := tbl_of (List.mem_of_getElem? (i := 441) (by decide +kernel)) (by decide +kernel)
theorem kw_397 : (Jvm.Cond.selects "CoastLamps$Round" ({ cls := "CoastLamps$Lamp", name := "flash", desc := "(I)I" } : Jvm.MethodName) ({ cls := "CoastLamps$Lamp", name := "flash", desc := "(I)I" } : Jvm.MethodName)) ∈ tbl := tbl_of (List.mem_of_getElem? (i := 443) (by decide +kernel)) (by decide +kernel)
theorem kw_398 : (Jvm.Cond.selects "CoastLamps$Swing" ({ cls := "CoastLamps$Lamp", name := "flash", desc := "(I)I" } : Jvm.MethodName) ({ cls := "CoastLamps$Swing", name := "flash", desc := "(I)I" } : Jvm.MethodName)) ∈ tbl := tbl_of (List.mem_of_getElem? (i := 444) (by decide +kernel)) (by decide +kernel)
theorem kw_399 : (Jvm.Cond.instanceMethod ({ cls := "CoastLamps$Swing", name := "flash", desc := "(I)I" } : Jvm.MethodName)) ∈ tbl := tbl_of (List.mem_of_getElem? (i := 445) (by decide +kernel)) (by decide +kernel)
theorem kw_400 : (Jvm.Cond.code ({ cls := "CoastLamps$Swing", name := "flash", desc := "(I)I" } : Jvm.MethodName) prog_11_method_3_code (2 : Nat) (Option.some Jvm.ClassFile.FieldType.int)) ∈ tbl := tbl_of (List.mem_of_getElem? (i := 446) (by decide +kernel)) (by decide +kernel)
theorem kw_401 : (Jvm.Cond.methodLink "CoastLamps$Swing" (25 : Nat) ({ cls := "CoastLamps$Drum", name := "flash", desc := "(I)I" } : Jvm.MethodName)) ∈ tbl := tbl_of (List.mem_of_getElem? (i := 447) (by decide +kernel)) (by decide +kernel)
theorem kw_402 : (Jvm.Cond.sameMethod "CoastLamps$Drum" "CoastLamps$Twin" "flash" "(I)I") ∈ tbl := tbl_of (List.mem_of_getElem? (i := 448) (by decide +kernel)) (by decide +kernel)
theorem kw_404 : (Jvm.Cond.selects "CoastLamps$Twin" ({ cls := "CoastLamps$Lamp", name := "flash", desc := "(I)I" } : Jvm.MethodName) ({ cls := "CoastLamps$Twin", name := "flash", desc := "(I)I" } : Jvm.MethodName)) ∈ tbl := tbl_of (List.mem_of_getElem? (i := 450) (by decide +kernel)) (by decide +kernel)
theorem kw_405 : (Jvm.Cond.code ({ cls := "CoastLamps$Lamp", name := "flash", desc := "(I)I" } : Jvm.MethodName) prog_7_method_6_code (2 : Nat) (Option.some Jvm.ClassFile.FieldType.int)) ∈ tbl := tbl_of (List.mem_of_getElem? (i := 451) (by decide +kernel)) (by decide +kernel)
theorem kw_406 : (Jvm.Cond.methodLink "CoastLamps" (66 : Nat) ({ cls := "CoastLamps$Lamp", name := "tend", desc := "(I)I" } : Jvm.MethodName)) ∈ tbl := tbl_of (List.mem_of_getElem? (i := 452) (by decide +kernel)) (by decide +kernel)
theorem kw_407 : (Jvm.Cond.instanceMethod ({ cls := "CoastLamps$Lamp", name := "tend", desc := "(I)I" } : Jvm.MethodName)) ∈ tbl := tbl_of (List.mem_of_getElem? (i := 453) (by decide +kernel)) (by decide +kernel)
theorem kw_408 : (Jvm.Cond.sameMethod "CoastLamps$Lamp" "CoastLamps$Lamp" "tend" "(I)I") ∈ tbl := tbl_of (List.mem_of_getElem? (i := 454) (by decide +kernel)) (by decide +kernel)
theorem kw_409 : (Jvm.Cond.selects "CoastLamps$Buoy" ({ cls := "CoastLamps$Lamp", name := "tend", desc := "(I)I" } : Jvm.MethodName) ({ cls := "CoastLamps$Buoy", name := "tend", desc := "(I)I" } : Jvm.MethodName)) ∈ tbl := tbl_of (List.mem_of_getElem? (i := 455) (by decide +kernel)) (by decide +kernel)
theorem kw_410 : (Jvm.Cond.instanceMethod ({ cls := "CoastLamps$Buoy", name := "tend", desc := "(I)I" } : Jvm.MethodName)) ∈ tbl := tbl_of (List.mem_of_getElem? (i := 456) (by decide +kernel)) (by decide +kernel)
theorem kw_411 : (Jvm.Cond.code ({ cls := "CoastLamps$Buoy", name := "tend", desc := "(I)I" } : Jvm.MethodName) prog_2_method_3_code (3 : Nat) (Option.some Jvm.ClassFile.FieldType.int)) ∈ tbl := tbl_of (List.mem_of_getElem? (i := 457) (by decide +kernel)) (by decide +kernel)
theorem kw_412 : (Jvm.Cond.methodLink "CoastLamps$Buoy" (25 : Nat) ({ cls := "CoastLamps$Coast", name := "dialed", desc := "(I)I" } : Jvm.MethodName)) ∈ tbl := tbl_of (List.mem_of_getElem? (i := 458) (by decide +kernel)) (by decide +kernel)
theorem kw_413 : (Jvm.Cond.methodLink "CoastLamps$Buoy" (28 : Nat) ({ cls := "CoastLamps$Flare", name := "tend", desc := "(I)I" } : Jvm.MethodName)) ∈ tbl := tbl_of (List.mem_of_getElem? (i := 459) (by decide +kernel)) (by decide +kernel)
theorem kw_414 : (Jvm.Cond.sameMethod "CoastLamps$Flare" "CoastLamps$Lamp" "tend" "(I)I") ∈ tbl := tbl_of (List.mem_of_getElem? (i := 460) (by decide +kernel)) (by decide +kernel)
theorem kw_416 : (Jvm.Cond.selects "CoastLamps$Drum" ({ cls := "CoastLamps$Lamp", name := "tend", desc := "(I)I" } : Jvm.MethodName) ({ cls := "CoastLamps$Drum", name := "tend", desc := "(I)I" } : Jvm.MethodName)) ∈ tbl := tbl_of (List.mem_of_getElem? (i := 462) (by decide +kernel)) (by decide +kernel)
theorem kw_417 : (Jvm.Cond.instanceMethod ({ cls := "CoastLamps$Drum", name := "tend", desc := "(I)I" } : Jvm.MethodName)) ∈ tbl := tbl_of (List.mem_of_getElem? (i := 463) (by decide +kernel)) (by decide +kernel)
theorem kw_418 : (Jvm.Cond.code ({ cls := "CoastLamps$Drum", name := "tend", desc := "(I)I" } : Jvm.MethodName) prog_4_method_3_code (2 : Nat) (Option.some Jvm.ClassFile.FieldType.int)) ∈ tbl := tbl_of (List.mem_of_getElem? (i := 464) (by decide +kernel)) (by decide +kernel)
theorem kw_419 : (Jvm.Cond.methodLink "CoastLamps$Drum" (31 : Nat) ({ cls := "CoastLamps$Coast", name := "dialed", desc := "(I)I" } : Jvm.MethodName)) ∈ tbl := tbl_of (List.mem_of_getElem? (i := 465) (by decide +kernel)) (by decide +kernel)
theorem kw_420 : (Jvm.Cond.methodLink "CoastLamps$Drum" (34 : Nat) ({ cls := "CoastLamps$Twin", name := "tend", desc := "(I)I" } : Jvm.MethodName)) ∈ tbl := tbl_of (List.mem_of_getElem? (i := 466) (by decide +kernel)) (by decide +kernel)
theorem kw_421 : (Jvm.Cond.sameMethod "CoastLamps$Twin" "CoastLamps$Round" "tend" "(I)I") ∈ tbl := tbl_of (List.mem_of_getElem? (i := 467) (by decide +kernel)) (by decide +kernel)
theorem kw_423 : (Jvm.Cond.instanceMethod ({ cls := "CoastLamps$Round", name := "tend", desc := "(I)I" } : Jvm.MethodName)) ∈ tbl := tbl_of (List.mem_of_getElem? (i := 469) (by decide +kernel)) (by decide +kernel)
theorem kw_424 : (Jvm.Cond.code ({ cls := "CoastLamps$Round", name := "tend", desc := "(I)I" } : Jvm.MethodName) prog_10_method_3_code (2 : Nat) (Option.some Jvm.ClassFile.FieldType.int)) ∈ tbl := tbl_of (List.mem_of_getElem? (i := 470) (by decide +kernel)) (by decide +kernel)
theorem kw_425 : (Jvm.Cond.methodLink "CoastLamps$Round" (28 : Nat) ({ cls := "CoastLamps$Oil", name := "tend", desc := "(I)I" } : Jvm.MethodName)) ∈ tbl := tbl_of (List.mem_of_getElem? (i := 471) (by decide +kernel)) (by decide +kernel)
theorem kw_426 : (Jvm.Cond.sameMethod "CoastLamps$Oil" "CoastLamps$Lamp" "tend" "(I)I") ∈ tbl := tbl_of (List.mem_of_getElem? (i := 472) (by decide +kernel)) (by decide +kernel)
theorem kw_427 : (Jvm.Cond.selects "CoastLamps$Flare" ({ cls := "CoastLamps$Lamp", name := "tend", desc := "(I)I" } : Jvm.MethodName) ({ cls := "CoastLamps$Lamp", name := "tend", desc := "(I)I" } : Jvm.MethodName)) ∈ tbl := tbl_of (List.mem_of_getElem? (i := 473) (by decide +kernel)) (by decide +kernel)
theorem kw_428 : (Jvm.Cond.selects "CoastLamps$Gas" ({ cls := "CoastLamps$Lamp", name := "tend", desc := "(I)I" } : Jvm.MethodName) ({ cls := "CoastLamps$Lamp", name := "tend", desc := "(I)I" } : Jvm.MethodName)) ∈ tbl := tbl_of (List.mem_of_getElem? (i := 474) (by decide +kernel)) (by decide +kernel)
theorem kw_429 : (Jvm.Cond.selects "CoastLamps$Oil" ({ cls := "CoastLamps$Lamp", name := "tend", desc := "(I)I" } : Jvm.MethodName) ({ cls := "CoastLamps$Lamp", name := "tend", desc := "(I)I" } : Jvm.MethodName)) ∈ tbl := tbl_of (List.mem_of_getElem? (i := 475) (by decide +kernel)) (by decide +kernel)
theorem kw_430 : (Jvm.Cond.selects "CoastLamps$Outer" ({ cls := "CoastLamps$Lamp", name := "tend", desc := "(I)I" } : Jvm.MethodName) ({ cls := "CoastLamps$Buoy", name := "tend", desc := "(I)I" } : Jvm.MethodName)) ∈ tbl := tbl_of (List.mem_of_getElem? (i := 476) (by decide +kernel)) (by decide +kernel)
theorem kw_431 : (Jvm.Cond.selects "CoastLamps$Round" ({ cls := "CoastLamps$Lamp", name := "tend", desc := "(I)I" } : Jvm.MethodName) ({ cls := "CoastLamps$Round", name := "tend", desc := "(I)I" } : Jvm.MethodName)) ∈ tbl := tbl_of (List.mem_of_getElem? (i := 477) (by decide +kernel)) (by decide +kernel)
theorem kw_432 : (Jvm.Cond.selects "CoastLamps$Swing" ({ cls := "CoastLamps$Lamp", name := "tend", desc := "(I)I" } : Jvm.MethodName) ({ cls := "CoastLamps$Drum", name := "tend", desc := "(I)I" } : Jvm.MethodName)) ∈ tbl := tbl_of (List.mem_of_getElem? (i := 478) (by decide +kernel)) (by decide +kernel)
theorem kw_433 : (Jvm.Cond.selects "CoastLamps$Twin" ({ cls := "CoastLamps$Lamp", name := "tend", desc := "(I)I" } : Jvm.MethodName) ({ cls := "CoastLamps$Round", name := "tend", desc := "(I)I" } : Jvm.MethodName)) ∈ tbl := tbl_of (List.mem_of_getElem? (i := 479) (by decide +kernel)) (by decide +kernel)
theorem kw_434 : (Jvm.Cond.code ({ cls := "CoastLamps$Lamp", name := "tend", desc := "(I)I" } : Jvm.MethodName) prog_7_method_7_code (2 : Nat) (Option.some Jvm.ClassFile.FieldType.int)) ∈ tbl := tbl_of (List.mem_of_getElem? (i := 480) (by decide +kernel)) (by decide +kernel)
theorem kw_435 : (Jvm.Cond.methodLink "CoastLamps$Lamp" (42 : Nat) ({ cls := "java/lang/Math", name := "max", desc := "(II)I" } : Jvm.MethodName)) ∈ tbl := tbl_of (List.mem_of_getElem? (i := 481) (by decide +kernel)) (by decide +kernel)
theorem kw_436 : (Jvm.Cond.methodLink "CoastLamps" (69 : Nat) ({ cls := "CoastLamps$Lamp", name := "rank", desc := "()I" } : Jvm.MethodName)) ∈ tbl := tbl_of (List.mem_of_getElem? (i := 482) (by decide +kernel)) (by decide +kernel)
theorem kw_437 : (Jvm.Cond.instanceMethod ({ cls := "CoastLamps$Lamp", name := "rank", desc := "()I" } : Jvm.MethodName)) ∈ tbl := tbl_of (List.mem_of_getElem? (i := 483) (by decide +kernel)) (by decide +kernel)
theorem kw_438 : (Jvm.Cond.sameMethod "CoastLamps$Lamp" "CoastLamps$Lamp" "rank" "()I") ∈ tbl := tbl_of (List.mem_of_getElem? (i := 484) (by decide +kernel)) (by decide +kernel)
theorem kw_439 : (Jvm.Cond.selects "CoastLamps$Buoy" ({ cls := "CoastLamps$Lamp", name := "rank", desc := "()I" } : Jvm.MethodName) ({ cls := "CoastLamps$Flare", name := "rank", desc := "()I" } : Jvm.MethodName)) ∈ tbl := tbl_of (List.mem_of_getElem? (i := 485) (by decide +kernel)) (by decide +kernel)
theorem kw_440 : (Jvm.Cond.instanceMethod ({ cls := "CoastLamps$Flare", name := "rank", desc := "()I" } : Jvm.MethodName)) ∈ tbl := tbl_of (List.mem_of_getElem? (i := 486) (by decide +kernel)) (by decide +kernel)
theorem kw_441 : (Jvm.Cond.code ({ cls := "CoastLamps$Flare", name := "rank", desc := "()I" } : Jvm.MethodName) prog_5_method_5_code (1 : Nat) (Option.some Jvm.ClassFile.FieldType.int)) ∈ tbl := tbl_of (List.mem_of_getElem? (i := 487) (by decide +kernel)) (by decide +kernel)
theorem kw_442 : (Jvm.Cond.methodLink "CoastLamps$Flare" (28 : Nat) ({ cls := "CoastLamps$Gas", name := "rank", desc := "()I" } : Jvm.MethodName)) ∈ tbl := tbl_of (List.mem_of_getElem? (i := 488) (by decide +kernel)) (by decide +kernel)
theorem kw_443 : (Jvm.Cond.sameMethod "CoastLamps$Gas" "CoastLamps$Lamp" "rank" "()I") ∈ tbl := tbl_of (List.mem_of_getElem? (i := 489) (by decide +kernel)) (by decide +kernel)
theorem kw_445 : (Jvm.Cond.selects "CoastLamps$Drum" ({ cls := "CoastLamps$Lamp", name := "rank", desc := "()I" } : Jvm.MethodName) ({ cls := "CoastLamps$Drum", name := "rank", desc := "()I" } : Jvm.MethodName)) ∈ tbl := tbl_of (List.mem_of_getElem? (i := 491) (by decide +kernel)) (by decide +kernel)
theorem kw_446 : (Jvm.Cond.instanceMethod ({ cls := "CoastLamps$Drum", name := "rank", desc := "()I" } : Jvm.MethodName)) ∈ tbl := tbl_of (List.mem_of_getElem? (i := 492) (by decide +kernel)) (by decide +kernel)
theorem kw_447 : (Jvm.Cond.code ({ cls := "CoastLamps$Drum", name := "rank", desc := "()I" } : Jvm.MethodName) prog_4_method_4_code (1 : Nat) (Option.some Jvm.ClassFile.FieldType.int)) ∈ tbl := tbl_of (List.mem_of_getElem? (i := 493) (by decide +kernel)) (by decide +kernel)
theorem kw_448 : (Jvm.Cond.methodLink "CoastLamps$Drum" (37 : Nat) ({ cls := "CoastLamps$Twin", name := "rank", desc := "()I" } : Jvm.MethodName)) ∈ tbl := tbl_of (List.mem_of_getElem? (i := 494) (by decide +kernel)) (by decide +kernel)
theorem kw_449 : (Jvm.Cond.sameMethod "CoastLamps$Twin" "CoastLamps$Oil" "rank" "()I") ∈ tbl := tbl_of (List.mem_of_getElem? (i := 495) (by decide +kernel)) (by decide +kernel)
theorem kw_451 : (Jvm.Cond.instanceMethod ({ cls := "CoastLamps$Oil", name := "rank", desc := "()I" } : Jvm.MethodName)) ∈ tbl := tbl_of (List.mem_of_getElem? (i := 497) (by decide +kernel)) (by decide +kernel)
theorem kw_452 : (Jvm.Cond.code ({ cls := "CoastLamps$Oil", name := "rank", desc := "()I" } : Jvm.MethodName) prog_8_method_3_code (1 : Nat) (Option.some Jvm.ClassFile.FieldType.int)) ∈ tbl := tbl_of (List.mem_of_getElem? (i := 498) (by decide +kernel)) (by decide +kernel)
theorem kw_453 : (Jvm.Cond.methodLink "CoastLamps$Oil" (29 : Nat) ({ cls := "CoastLamps$Lamp", name := "rank", desc := "()I" } : Jvm.MethodName)) ∈ tbl := tbl_of (List.mem_of_getElem? (i := 499) (by decide +kernel)) (by decide +kernel)
theorem kw_454 : (Jvm.Cond.selects "CoastLamps$Flare" ({ cls := "CoastLamps$Lamp", name := "rank", desc := "()I" } : Jvm.MethodName) ({ cls := "CoastLamps$Flare", name := "rank", desc := "()I" } : Jvm.MethodName)) ∈ tbl := tbl_of (List.mem_of_getElem? (i := 500) (by decide +kernel)) (by decide +kernel)
theorem kw_455 : (Jvm.Cond.selects "CoastLamps$Gas" ({ cls := "CoastLamps$Lamp", name := "rank", desc := "()I" } : Jvm.MethodName) ({ cls := "CoastLamps$Lamp", name := "rank", desc := "()I" } : Jvm.MethodName)) ∈ tbl := tbl_of (List.mem_of_getElem? (i := 501) (by decide +kernel)) (by decide +kernel)
theorem kw_456 : (Jvm.Cond.selects "CoastLamps$Oil" ({ cls := "CoastLamps$Lamp", name := "rank", desc := "()I" } : Jvm.MethodName) ({ cls := "CoastLamps$Oil", name := "rank", desc := "()I" } : Jvm.MethodName)) ∈ tbl := tbl_of (List.mem_of_getElem? (i := 502) (by decide +kernel)) (by decide +kernel)
theorem kw_457 : (Jvm.Cond.selects "CoastLamps$Outer" ({ cls := "CoastLamps$Lamp", name := "rank", desc := "()I" } : Jvm.MethodName) ({ cls := "CoastLamps$Outer", name := "rank", desc := "()I" } : Jvm.MethodName)) ∈ tbl := tbl_of (List.mem_of_getElem? (i := 503) (by decide +kernel)) (by decide +kernel)
theorem kw_458 : (Jvm.Cond.instanceMethod ({ cls := "CoastLamps$Outer", name := "rank", desc := "()I" } : Jvm.MethodName)) ∈ tbl := tbl_of (List.mem_of_getElem? (i := 504) (by decide +kernel)) (by decide +kernel)
theorem kw_459 : (Jvm.Cond.code ({ cls := "CoastLamps$Outer", name := "rank", desc := "()I" } : Jvm.MethodName) prog_9_method_4_code (1 : Nat) (Option.some Jvm.ClassFile.FieldType.int)) ∈ tbl := tbl_of (List.mem_of_getElem? (i := 505) (by decide +kernel)) (by decide +kernel)
theorem kw_460 : (Jvm.Cond.methodLink "CoastLamps$Outer" (37 : Nat) ({ cls := "CoastLamps$Buoy", name := "rank", desc := "()I" } : Jvm.MethodName)) ∈ tbl := tbl_of (List.mem_of_getElem? (i := 506) (by decide +kernel)) (by decide +kernel)
theorem kw_461 : (Jvm.Cond.sameMethod "CoastLamps$Buoy" "CoastLamps$Flare" "rank" "()I") ∈ tbl := tbl_of (List.mem_of_getElem? (i := 507) (by decide +kernel)) (by decide +kernel)
theorem kw_463 : (Jvm.Cond.selects "CoastLamps$Round" ({ cls := "CoastLamps$Lamp", name := "rank", desc := "()I" } : Jvm.MethodName) ({ cls := "CoastLamps$Oil", name := "rank", desc := "()I" } : Jvm.MethodName)) ∈ tbl := tbl_of (List.mem_of_getElem? (i := 509) (by decide +kernel)) (by decide +kernel)
theorem kw_464 : (Jvm.Cond.selects "CoastLamps$Swing" ({ cls := "CoastLamps$Lamp", name := "rank", desc := "()I" } : Jvm.MethodName) ({ cls := "CoastLamps$Drum", name := "rank", desc := "()I" } : Jvm.MethodName)) ∈ tbl := tbl_of (List.mem_of_getElem? (i := 510) (by decide +kernel)) (by decide +kernel)
theorem kw_465 : (Jvm.Cond.selects "CoastLamps$Twin" ({ cls := "CoastLamps$Lamp", name := "rank", desc := "()I" } : Jvm.MethodName) ({ cls := "CoastLamps$Oil", name := "rank", desc := "()I" } : Jvm.MethodName)) ∈ tbl := tbl_of (List.mem_of_getElem? (i := 511) (by decide +kernel)) (by decide +kernel)
theorem kw_466 : (Jvm.Cond.code ({ cls := "CoastLamps$Lamp", name := "rank", desc := "()I" } : Jvm.MethodName) prog_7_method_8_code (1 : Nat) (Option.some Jvm.ClassFile.FieldType.int)) ∈ tbl := tbl_of (List.mem_of_getElem? (i := 512) (by decide +kernel)) (by decide +kernel)
theorem kw_467 : (Jvm.Cond.methodLink "CoastLamps" (73 : Nat) ({ cls := "CoastLamps$Lamp", name := "horn", desc := "(I)I" } : Jvm.MethodName)) ∈ tbl := tbl_of (List.mem_of_getElem? (i := 513) (by decide +kernel)) (by decide +kernel)
theorem kw_468 : (Jvm.Cond.instanceMethod ({ cls := "CoastLamps$Lamp", name := "horn", desc := "(I)I" } : Jvm.MethodName)) ∈ tbl := tbl_of (List.mem_of_getElem? (i := 514) (by decide +kernel)) (by decide +kernel)
theorem kw_469 : (Jvm.Cond.sameMethod "CoastLamps$Lamp" "CoastLamps$Lamp" "horn" "(I)I") ∈ tbl := tbl_of (List.mem_of_getElem? (i := 515) (by decide +kernel)) (by decide +kernel)
theorem kw_470 : (Jvm.Cond.selects "CoastLamps$Buoy" ({ cls := "CoastLamps$Lamp", name := "horn", desc := "(I)I" } : Jvm.MethodName) ({ cls := "CoastLamps$Lamp", name := "horn", desc := "(I)I" } : Jvm.MethodName)) ∈ tbl := tbl_of (List.mem_of_getElem? (i := 516) (by decide +kernel)) (by decide +kernel)
theorem kw_471 : (Jvm.Cond.selects "CoastLamps$Drum" ({ cls := "CoastLamps$Lamp", name := "horn", desc := "(I)I" } : Jvm.MethodName) ({ cls := "CoastLamps$Lamp", name := "horn", desc := "(I)I" } : Jvm.MethodName)) ∈ tbl := tbl_of (List.mem_of_getElem? (i := 517) (by decide +kernel)) (by decide +kernel)
theorem kw_472 : (Jvm.Cond.selects "CoastLamps$Flare" ({ cls := "CoastLamps$Lamp", name := "horn", desc := "(I)I" } : Jvm.MethodName) ({ cls := "CoastLamps$Lamp", name := "horn", desc := "(I)I" } : Jvm.MethodName)) ∈ tbl := tbl_of (List.mem_of_getElem? (i := 518) (by decide +kernel)) (by decide +kernel)
theorem kw_473 : (Jvm.Cond.selects "CoastLamps$Gas" ({ cls := "CoastLamps$Lamp", name := "horn", desc := "(I)I" } : Jvm.MethodName) ({ cls := "CoastLamps$Lamp", name := "horn", desc := "(I)I" } : Jvm.MethodName)) ∈ tbl := tbl_of (List.mem_of_getElem? (i := 519) (by decide +kernel)) (by decide +kernel)
theorem kw_474 : (Jvm.Cond.selects "CoastLamps$Oil" ({ cls := "CoastLamps$Lamp", name := "horn", desc := "(I)I" } : Jvm.MethodName) ({ cls := "CoastLamps$Lamp", name := "horn", desc := "(I)I" } : Jvm.MethodName)) ∈ tbl := tbl_of (List.mem_of_getElem? (i := 520) (by decide +kernel)) (by decide +kernel)
theorem kw_475 : (Jvm.Cond.selects "CoastLamps$Outer" ({ cls := "CoastLamps$Lamp", name := "horn", desc := "(I)I" } : Jvm.MethodName) ({ cls := "CoastLamps$Lamp", name := "horn", desc := "(I)I" } : Jvm.MethodName)) ∈ tbl := tbl_of (List.mem_of_getElem? (i := 521) (by decide +kernel)) (by decide +kernel)
theorem kw_476 : (Jvm.Cond.selects "CoastLamps$Round" ({ cls := "CoastLamps$Lamp", name := "horn", desc := "(I)I" } : Jvm.MethodName) ({ cls := "CoastLamps$Lamp", name := "horn", desc := "(I)I" } : Jvm.MethodName)) ∈ tbl := tbl_of (List.mem_of_getElem? (i := 522) (by decide +kernel)) (by decide +kernel)
theorem kw_477 : (Jvm.Cond.selects "CoastLamps$Swing" ({ cls := "CoastLamps$Lamp", name := "horn", desc := "(I)I" } : Jvm.MethodName) ({ cls := "CoastLamps$Swing", name := "horn", desc := "(I)I" } : Jvm.MethodName)) ∈ tbl := tbl_of (List.mem_of_getElem? (i := 523) (by decide +kernel)) (by decide +kernel)
theorem kw_478 : (Jvm.Cond.instanceMethod ({ cls := "CoastLamps$Swing", name := "horn", desc := "(I)I" } : Jvm.MethodName)) ∈ tbl := tbl_of (List.mem_of_getElem? (i := 524) (by decide +kernel)) (by decide +kernel)
theorem kw_479 : (Jvm.Cond.code ({ cls := "CoastLamps$Swing", name := "horn", desc := "(I)I" } : Jvm.MethodName) prog_11_method_4_code (2 : Nat) (Option.some Jvm.ClassFile.FieldType.int)) ∈ tbl := tbl_of (List.mem_of_getElem? (i := 525) (by decide +kernel)) (by decide +kernel)
theorem kw_480 : (Jvm.Cond.methodLink "CoastLamps$Swing" (28 : Nat) ({ cls := "CoastLamps$Swing", name := "tone", desc := "()I" } : Jvm.MethodName)) ∈ tbl := tbl_of (List.mem_of_getElem? (i := 526) (by decide +kernel)) (by decide +kernel)
theorem kw_481 : (Jvm.Cond.sameMethod "CoastLamps$Swing" "CoastLamps$Drum" "tone" "()I") ∈ tbl := tbl_of (List.mem_of_getElem? (i := 527) (by decide +kernel)) (by decide +kernel)
theorem kw_483 : (Jvm.Cond.selects "CoastLamps$Swing" ({ cls := "CoastLamps$Swing", name := "tone", desc := "()I" } : Jvm.MethodName) ({ cls := "CoastLamps$Drum", name := "tone", desc := "()I" } : Jvm.MethodName)) ∈ tbl := tbl_of (List.mem_of_getElem? (i := 529) (by decide +kernel)) (by decide +kernel)
theorem kw_484 : (Jvm.Cond.instanceMethod ({ cls := "CoastLamps$Drum", name := "tone", desc := "()I" } : Jvm.MethodName)) ∈ tbl := tbl_of (List.mem_of_getElem? (i := 530) (by decide +kernel)) (by decide +kernel)
theorem kw_485 : (Jvm.Cond.code ({ cls := "CoastLamps$Drum", name := "tone", desc := "()I" } : Jvm.MethodName) prog_4_method_5_code (1 : Nat) (Option.some Jvm.ClassFile.FieldType.int)) ∈ tbl := tbl_of (List.mem_of_getElem? (i := 531) (by decide +kernel)) (by decide +kernel)
theorem kw_486 : (Jvm.Cond.methodLink "CoastLamps$Drum" (41 : Nat) ({ cls := "CoastLamps$Twin", name := "tone", desc := "()I" } : Jvm.MethodName)) ∈ tbl := tbl_of (List.mem_of_getElem? (i := 532) (by decide +kernel)) (by decide +kernel)
theorem kw_487 : (Jvm.Cond.sameMethod "CoastLamps$Twin" "CoastLamps$Oil" "tone" "()I") ∈ tbl := tbl_of (List.mem_of_getElem? (i := 533) (by decide +kernel)) (by decide +kernel)
theorem kw_489 : (Jvm.Cond.instanceMethod ({ cls := "CoastLamps$Oil", name := "tone", desc := "()I" } : Jvm.MethodName)) ∈ tbl := tbl_of (List.mem_of_getElem? (i := 535) (by decide +kernel)) (by decide +kernel)
theorem kw_490 : (Jvm.Cond.code ({ cls := "CoastLamps$Oil", name := "tone", desc := "()I" } : Jvm.MethodName) prog_8_method_4_code (1 : Nat) (Option.some Jvm.ClassFile.FieldType.int)) ∈ tbl := tbl_of (List.mem_of_getElem? (i := 536) (by decide +kernel)) (by decide +kernel)
theorem kw_491 : (Jvm.Cond.selects "CoastLamps$Twin" ({ cls := "CoastLamps$Lamp", name := "horn", desc := "(I)I" } : Jvm.MethodName) ({ cls := "CoastLamps$Lamp", name := "horn", desc := "(I)I" } : Jvm.MethodName)) ∈ tbl := tbl_of (List.mem_of_getElem? (i := 537) (by decide +kernel)) (by decide +kernel)
theorem kw_492 : (Jvm.Cond.code ({ cls := "CoastLamps$Lamp", name := "horn", desc := "(I)I" } : Jvm.MethodName) prog_7_method_9_code (3 : Nat) (Option.some Jvm.ClassFile.FieldType.int)) ∈ tbl := tbl_of (List.mem_of_getElem? (i := 538) (by decide +kernel)) (by decide +kernel)
theorem kw_493 : (Jvm.Cond.methodLink "CoastLamps$Lamp" (48 : Nat) ({ cls := "CoastLamps$Lamp", name := "tone", desc := "()I" } : Jvm.MethodName)) ∈ tbl := tbl_of (List.mem_of_getElem? (i := 539) (by decide +kernel)) (by decide +kernel)
theorem kw_494 : (Jvm.Cond.instanceMethod ({ cls := "CoastLamps$Lamp", name := "tone", desc := "()I" } : Jvm.MethodName)) ∈ tbl := tbl_of (List.mem_of_getElem? (i := 540) (by decide +kernel)) (by decide +kernel)
theorem kw_495 : (Jvm.Cond.sameMethod "CoastLamps$Lamp" "CoastLamps$Lamp" "tone" "()I") ∈ tbl := tbl_of (List.mem_of_getElem? (i := 541) (by decide +kernel)) (by decide +kernel)
theorem kw_496 : (Jvm.Cond.selects "CoastLamps$Buoy" ({ cls := "CoastLamps$Lamp", name := "tone", desc := "()I" } : Jvm.MethodName) ({ cls := "CoastLamps$Flare", name := "tone", desc := "()I" } : Jvm.MethodName)) ∈ tbl := tbl_of (List.mem_of_getElem? (i := 542) (by decide +kernel)) (by decide +kernel)
theorem kw_497 : (Jvm.Cond.instanceMethod ({ cls := "CoastLamps$Flare", name := "tone", desc := "()I" } : Jvm.MethodName)) ∈ tbl := tbl_of (List.mem_of_getElem? (i := 543) (by decide +kernel)) (by decide +kernel)
theorem kw_498 : (Jvm.Cond.code ({ cls := "CoastLamps$Flare", name := "tone", desc := "()I" } : Jvm.MethodName) prog_5_method_6_code (1 : Nat) (Option.some Jvm.ClassFile.FieldType.int)) ∈ tbl := tbl_of (List.mem_of_getElem? (i := 544) (by decide +kernel)) (by decide +kernel)
theorem kw_499 : (Jvm.Cond.selects "CoastLamps$Drum" ({ cls := "CoastLamps$Lamp", name := "tone", desc := "()I" } : Jvm.MethodName) ({ cls := "CoastLamps$Drum", name := "tone", desc := "()I" } : Jvm.MethodName)) ∈ tbl := tbl_of (List.mem_of_getElem? (i := 545) (by decide +kernel)) (by decide +kernel)
theorem kw_500 : (Jvm.Cond.selects "CoastLamps$Flare" ({ cls := "CoastLamps$Lamp", name := "tone", desc := "()I" } : Jvm.MethodName) ({ cls := "CoastLamps$Flare", name := "tone", desc := "()I" } : Jvm.MethodName)) ∈ tbl := tbl_of (List.mem_of_getElem? (i := 546) (by decide +kernel)) (by decide +kernel)
theorem kw_501 : (Jvm.Cond.selects "CoastLamps$Gas" ({ cls := "CoastLamps$Lamp", name := "tone", desc := "()I" } : Jvm.MethodName) ({ cls := "CoastLamps$Lamp", name := "tone", desc := "()I" } : Jvm.MethodName)) ∈ tbl := tbl_of (List.mem_of_getElem? (i := 547) (by decide +kernel)) (by decide +kernel)
theorem kw_502 : (Jvm.Cond.selects "CoastLamps$Oil" ({ cls := "CoastLamps$Lamp", name := "tone", desc := "()I" } : Jvm.MethodName) ({ cls := "CoastLamps$Oil", name := "tone", desc := "()I" } : Jvm.MethodName)) ∈ tbl := tbl_of (List.mem_of_getElem? (i := 548) (by decide +kernel)) (by decide +kernel)
theorem kw_503 : (Jvm.Cond.selects "CoastLamps$Outer" ({ cls := "CoastLamps$Lamp", name := "tone", desc := "()I" } : Jvm.MethodName) ({ cls := "CoastLamps$Outer", name := "tone", desc := "()I" } : Jvm.MethodName)) ∈ tbl := tbl_of (List.mem_of_getElem? (i := 549) (by decide +kernel)) (by decide +kernel)
theorem kw_504 : (Jvm.Cond.instanceMethod ({ cls := "CoastLamps$Outer", name := "tone", desc := "()I" } : Jvm.MethodName)) ∈ tbl := tbl_of (List.mem_of_getElem? (i := 550) (by decide +kernel)) (by decide +kernel)
theorem kw_505 : (Jvm.Cond.code ({ cls := "CoastLamps$Outer", name := "tone", desc := "()I" } : Jvm.MethodName) prog_9_method_5_code (2 : Nat) (Option.some Jvm.ClassFile.FieldType.int)) ∈ tbl := tbl_of (List.mem_of_getElem? (i := 551) (by decide +kernel)) (by decide +kernel)
theorem kw_506 : (Jvm.Cond.methodLink "CoastLamps$Outer" (45 : Nat) ({ cls := "CoastLamps$Buoy", name := "tone", desc := "()I" } : Jvm.MethodName)) ∈ tbl := tbl_of (List.mem_of_getElem? (i := 552) (by decide +kernel)) (by decide +kernel)
theorem kw_507 : (Jvm.Cond.sameMethod "CoastLamps$Buoy" "CoastLamps$Flare" "tone" "()I") ∈ tbl := tbl_of (List.mem_of_getElem? (i := 553) (by decide +kernel)) (by decide +kernel)
theorem kw_509 : (Jvm.Cond.methodLink "CoastLamps$Outer" (48 : Nat) ({ cls := "CoastLamps$Outer", name := "rank", desc := "()I" } : Jvm.MethodName)) ∈ tbl := tbl_of (List.mem_of_getElem? (i := 555) (by decide +kernel)) (by decide +kernel)
theorem kw_510 : (Jvm.Cond.selects "CoastLamps$Round" ({ cls := "CoastLamps$Lamp", name := "tone", desc := "()I" } : Jvm.MethodName) ({ cls := "CoastLamps$Oil", name := "tone", desc := "()I" } : Jvm.MethodName)) ∈ tbl := tbl_of (List.mem_of_getElem? (i := 556) (by decide +kernel)) (by decide +kernel)
theorem kw_511 : (Jvm.Cond.selects "CoastLamps$Swing" ({ cls := "CoastLamps$Lamp", name := "tone", desc := "()I" } : Jvm.MethodName) ({ cls := "CoastLamps$Drum", name := "tone", desc := "()I" } : Jvm.MethodName)) ∈ tbl := tbl_of (List.mem_of_getElem? (i := 557) (by decide +kernel)) (by decide +kernel)
theorem kw_512 : (Jvm.Cond.selects "CoastLamps$Twin" ({ cls := "CoastLamps$Lamp", name := "tone", desc := "()I" } : Jvm.MethodName) ({ cls := "CoastLamps$Oil", name := "tone", desc := "()I" } : Jvm.MethodName)) ∈ tbl := tbl_of (List.mem_of_getElem? (i := 558) (by decide +kernel)) (by decide +kernel)
theorem kw_513 : (Jvm.Cond.code ({ cls := "CoastLamps$Lamp", name := "tone", desc := "()I" } : Jvm.MethodName) prog_7_method_10_code (1 : Nat) (Option.some Jvm.ClassFile.FieldType.int)) ∈ tbl := tbl_of (List.mem_of_getElem? (i := 559) (by decide +kernel)) (by decide +kernel)
theorem kw_514 : (Jvm.Cond.methodLink "CoastLamps$Lamp" (52 : Nat) ({ cls := "CoastLamps$Lamp", name := "reach", desc := "(I)I" } : Jvm.MethodName)) ∈ tbl := tbl_of (List.mem_of_getElem? (i := 560) (by decide +kernel)) (by decide +kernel)
theorem kw_515 : (Jvm.Cond.methodLink "CoastLamps" (76 : Nat) ({ cls := "CoastLamps$Lamp", name := "tone", desc := "()I" } : Jvm.MethodName)) ∈ tbl := tbl_of (List.mem_of_getElem? (i := 561) (by decide +kernel)) (by decide +kernel)
theorem kw_516 : (Jvm.Cond.methodLink "CoastLampsLaw" (27 : Nat) ({ cls := "CoastLamps", name := "trace", desc := "(I)I" } : Jvm.MethodName)) ∈ tbl := tbl_of (List.mem_of_getElem? (i := 562) (by decide +kernel)) (by decide +kernel)
theorem kw_517 : (Jvm.Cond.instanceMethod ({ cls := "CoastLamps", name := "trace", desc := "(I)I" } : Jvm.MethodName)) ∈ tbl := tbl_of (List.mem_of_getElem? (i := 563) (by decide +kernel)) (by decide +kernel)
theorem kw_518 : (Jvm.Cond.selects "CoastLamps" ({ cls := "CoastLamps", name := "trace", desc := "(I)I" } : Jvm.MethodName) ({ cls := "CoastLamps", name := "trace", desc := "(I)I" } : Jvm.MethodName)) ∈ tbl := tbl_of (List.mem_of_getElem? (i := 564) (by decide +kernel)) (by decide +kernel)
theorem kw_519 : (Jvm.Cond.code ({ cls := "CoastLamps", name := "trace", desc := "(I)I" } : Jvm.MethodName) prog_1_method_5_code (2 : Nat) (Option.some Jvm.ClassFile.FieldType.int)) ∈ tbl := tbl_of (List.mem_of_getElem? (i := 565) (by decide +kernel)) (by decide +kernel)
theorem kw_520 : (Jvm.Cond.methodLink "CoastLamps" (82 : Nat) ({ cls := "CoastLamps$Coast", name := "entry", desc := "(I)I" } : Jvm.MethodName)) ∈ tbl := tbl_of (List.mem_of_getElem? (i := 566) (by decide +kernel)) (by decide +kernel)
theorem kw_521 : (Jvm.Cond.instanceMethod ({ cls := "CoastLamps$Coast", name := "entry", desc := "(I)I" } : Jvm.MethodName)) ∈ tbl := tbl_of (List.mem_of_getElem? (i := 567) (by decide +kernel)) (by decide +kernel)
theorem kw_522 : (Jvm.Cond.selects "CoastLamps$Coast" ({ cls := "CoastLamps$Coast", name := "entry", desc := "(I)I" } : Jvm.MethodName) ({ cls := "CoastLamps$Coast", name := "entry", desc := "(I)I" } : Jvm.MethodName)) ∈ tbl := tbl_of (List.mem_of_getElem? (i := 568) (by decide +kernel)) (by decide +kernel)
theorem kw_523 : (Jvm.Cond.code ({ cls := "CoastLamps$Coast", name := "entry", desc := "(I)I" } : Jvm.MethodName) prog_3_method_4_code (2 : Nat) (Option.some Jvm.ClassFile.FieldType.int)) ∈ tbl := tbl_of (List.mem_of_getElem? (i := 569) (by decide +kernel)) (by decide +kernel)
theorem kw_524 : (Jvm.Cond.methodLink "CoastLampsLaw" (32 : Nat) ({ cls := "CoastLamps", name := "haul", desc := "(I)J" } : Jvm.MethodName)) ∈ tbl := tbl_of (List.mem_of_getElem? (i := 570) (by decide +kernel)) (by decide +kernel)
theorem kw_525 : (Jvm.Cond.instanceMethod ({ cls := "CoastLamps", name := "haul", desc := "(I)J" } : Jvm.MethodName)) ∈ tbl := tbl_of (List.mem_of_getElem? (i := 571) (by decide +kernel)) (by decide +kernel)
theorem kw_526 : (Jvm.Cond.selects "CoastLamps" ({ cls := "CoastLamps", name := "haul", desc := "(I)J" } : Jvm.MethodName) ({ cls := "CoastLamps", name := "haul", desc := "(I)J" } : Jvm.MethodName)) ∈ tbl := tbl_of (List.mem_of_getElem? (i := 572) (by decide +kernel)) (by decide +kernel)
theorem kw_527 : (Jvm.Cond.code ({ cls := "CoastLamps", name := "haul", desc := "(I)J" } : Jvm.MethodName) prog_1_method_6_code (2 : Nat) (Option.some Jvm.ClassFile.FieldType.long)) ∈ tbl := tbl_of (List.mem_of_getElem? (i := 573) (by decide +kernel)) (by decide +kernel)
theorem kw_528 : (Jvm.Cond.constant "CoastLamps" (85 : Nat) (100000 : Int32)) ∈ tbl := tbl_of (List.mem_of_getElem? (i := 574) (by decide +kernel)) (by decide +kernel)
theorem kw_529 : (Jvm.Cond.methodLink "CoastLampsLaw" (37 : Nat) ({ cls := "CoastLamps", name := "fill", desc := "(II)I" } : Jvm.MethodName)) ∈ tbl := tbl_of (List.mem_of_getElem? (i := 575) (by decide +kernel)) (by decide +kernel)
theorem kw_530 : (Jvm.Cond.instanceMethod ({ cls := "CoastLamps", name := "fill", desc := "(II)I" } : Jvm.MethodName)) ∈ tbl := tbl_of (List.mem_of_getElem? (i := 576) (by decide +kernel)) (by decide +kernel)
theorem kw_531 : (Jvm.Cond.selects "CoastLamps" ({ cls := "CoastLamps", name := "fill", desc := "(II)I" } : Jvm.MethodName) ({ cls := "CoastLamps", name := "fill", desc := "(II)I" } : Jvm.MethodName)) ∈ tbl := tbl_of (List.mem_of_getElem? (i := 577) (by decide +kernel)) (by decide +kernel)
theorem kw_532 : (Jvm.Cond.code ({ cls := "CoastLamps", name := "fill", desc := "(II)I" } : Jvm.MethodName) prog_1_method_7_code (4 : Nat) (Option.some Jvm.ClassFile.FieldType.int)) ∈ tbl := tbl_of (List.mem_of_getElem? (i := 578) (by decide +kernel)) (by decide +kernel)
theorem kw_533 : (Jvm.Cond.constant "CoastLamps" (93 : Nat) (1000000 : Int32)) ∈ tbl := tbl_of (List.mem_of_getElem? (i := 579) (by decide +kernel)) (by decide +kernel)
theorem kw_534 : (Jvm.Cond.methodLink "CoastLampsLaw" (41 : Nat) ({ cls := "CoastLamps", name := "light", desc := "(IZ)I" } : Jvm.MethodName)) ∈ tbl := tbl_of (List.mem_of_getElem? (i := 580) (by decide +kernel)) (by decide +kernel)
theorem kw_535 : (Jvm.Cond.instanceMethod ({ cls := "CoastLamps", name := "light", desc := "(IZ)I" } : Jvm.MethodName)) ∈ tbl := tbl_of (List.mem_of_getElem? (i := 581) (by decide +kernel)) (by decide +kernel)
theorem kw_536 : (Jvm.Cond.selects "CoastLamps" ({ cls := "CoastLamps", name := "light", desc := "(IZ)I" } : Jvm.MethodName) ({ cls := "CoastLamps", name := "light", desc := "(IZ)I" } : Jvm.MethodName)) ∈ tbl := tbl_of (List.mem_of_getElem? (i := 582) (by decide +kernel)) (by decide +kernel)
theorem kw_537 : (Jvm.Cond.code ({ cls := "CoastLamps", name := "light", desc := "(IZ)I" } : Jvm.MethodName) prog_1_method_8_code (4 : Nat) (Option.some Jvm.ClassFile.FieldType.int)) ∈ tbl := tbl_of (List.mem_of_getElem? (i := 583) (by decide +kernel)) (by decide +kernel)
theorem kw_538 : (Jvm.Cond.methodLink "CoastLampsLaw" (46 : Nat) ({ cls := "CoastLamps", name := "night", desc := "(I)I" } : Jvm.MethodName)) ∈ tbl := tbl_of (List.mem_of_getElem? (i := 584) (by decide +kernel)) (by decide +kernel)
theorem kw_539 : (Jvm.Cond.instanceMethod ({ cls := "CoastLamps", name := "night", desc := "(I)I" } : Jvm.MethodName)) ∈ tbl := tbl_of (List.mem_of_getElem? (i := 585) (by decide +kernel)) (by decide +kernel)
theorem kw_540 : (Jvm.Cond.selects "CoastLamps" ({ cls := "CoastLamps", name := "night", desc := "(I)I" } : Jvm.MethodName) ({ cls := "CoastLamps", name := "night", desc := "(I)I" } : Jvm.MethodName)) ∈ tbl := tbl_of (List.mem_of_getElem? (i := 586) (by decide +kernel)) (by decide +kernel)
theorem kw_541 : (Jvm.Cond.code ({ cls := "CoastLamps", name := "night", desc := "(I)I" } : Jvm.MethodName) prog_1_method_9_code (5 : Nat) (Option.some Jvm.ClassFile.FieldType.int)) ∈ tbl := tbl_of (List.mem_of_getElem? (i := 587) (by decide +kernel)) (by decide +kernel)
theorem kw_542 : (Jvm.Cond.methodLink "CoastLamps" (101 : Nat) ({ cls := "CoastLamps", name := "anyLit", desc := "()Z" } : Jvm.MethodName)) ∈ tbl := tbl_of (List.mem_of_getElem? (i := 588) (by decide +kernel)) (by decide +kernel)
theorem kw_544 : (Jvm.Cond.instanceMethod ({ cls := "CoastLamps", name := "anyLit", desc := "()Z" } : Jvm.MethodName)) ∈ tbl := tbl_of (List.mem_of_getElem? (i := 590) (by decide +kernel)) (by decide +kernel)
theorem kw_545 : (Jvm.Cond.code ({ cls := "CoastLamps", name := "anyLit", desc := "()Z" } : Jvm.MethodName) prog_1_method_18_code (3 : Nat) (Option.some Jvm.ClassFile.FieldType.boolean)) ∈ tbl := tbl_of (List.mem_of_getElem? (i := 591) (by decide +kernel)) (by decide +kernel)
theorem kw_546 : (Jvm.Cond.methodLink "CoastLamps" (104 : Nat) ({ cls := "java/lang/Math", name := "max", desc := "(II)I" } : Jvm.MethodName)) ∈ tbl := tbl_of (List.mem_of_getElem? (i := 592) (by decide +kernel)) (by decide +kernel)
theorem kw_547 : (Jvm.Cond.methodLink "CoastLamps" (110 : Nat) ({ cls := "CoastLamps$Lamp", name := "drain", desc := "(I)V" } : Jvm.MethodName)) ∈ tbl := tbl_of (List.mem_of_getElem? (i := 593) (by decide +kernel)) (by decide +kernel)
theorem kw_548 : (Jvm.Cond.instanceMethod ({ cls := "CoastLamps$Lamp", name := "drain", desc := "(I)V" } : Jvm.MethodName)) ∈ tbl := tbl_of (List.mem_of_getElem? (i := 594) (by decide +kernel)) (by decide +kernel)
theorem kw_549 : (Jvm.Cond.sameMethod "CoastLamps$Lamp" "CoastLamps$Lamp" "drain" "(I)V") ∈ tbl := tbl_of (List.mem_of_getElem? (i := 595) (by decide +kernel)) (by decide +kernel)
theorem kw_550 : (Jvm.Cond.selects "CoastLamps$Buoy" ({ cls := "CoastLamps$Lamp", name := "drain", desc := "(I)V" } : Jvm.MethodName) ({ cls := "CoastLamps$Lamp", name := "drain", desc := "(I)V" } : Jvm.MethodName)) ∈ tbl := tbl_of (List.mem_of_getElem? (i := 596) (by decide +kernel)) (by decide +kernel)
theorem kw_551 : (Jvm.Cond.selects "CoastLamps$Drum" ({ cls := "CoastLamps$Lamp", name := "drain", desc := "(I)V" } : Jvm.MethodName) ({ cls := "CoastLamps$Lamp", name := "drain", desc := "(I)V" } : Jvm.MethodName)) ∈ tbl := tbl_of (List.mem_of_getElem? (i := 597) (by decide +kernel)) (by decide +kernel)
theorem kw_552 : (Jvm.Cond.selects "CoastLamps$Flare" ({ cls := "CoastLamps$Lamp", name := "drain", desc := "(I)V" } : Jvm.MethodName) ({ cls := "CoastLamps$Lamp", name := "drain", desc := "(I)V" } : Jvm.MethodName)) ∈ tbl := tbl_of (List.mem_of_getElem? (i := 598) (by decide +kernel)) (by decide +kernel)
theorem kw_553 : (Jvm.Cond.selects "CoastLamps$Gas" ({ cls := "CoastLamps$Lamp", name := "drain", desc := "(I)V" } : Jvm.MethodName) ({ cls := "CoastLamps$Lamp", name := "drain", desc := "(I)V" } : Jvm.MethodName)) ∈ tbl := tbl_of (List.mem_of_getElem? (i := 599) (by decide +kernel)) (by decide +kernel)
theorem kw_554 : (Jvm.Cond.selects "CoastLamps$Oil" ({ cls := "CoastLamps$Lamp", name := "drain", desc := "(I)V" } : Jvm.MethodName) ({ cls := "CoastLamps$Lamp", name := "drain", desc := "(I)V" } : Jvm.MethodName)) ∈ tbl := tbl_of (List.mem_of_getElem? (i := 600) (by decide +kernel)) (by decide +kernel)
theorem kw_555 : (Jvm.Cond.selects "CoastLamps$Outer" ({ cls := "CoastLamps$Lamp", name := "drain", desc := "(I)V" } : Jvm.MethodName) ({ cls := "CoastLamps$Lamp", name := "drain", desc := "(I)V" } : Jvm.MethodName)) ∈ tbl := tbl_of (List.mem_of_getElem? (i := 601) (by decide +kernel)) (by decide +kernel)
theorem kw_556 : (Jvm.Cond.selects "CoastLamps$Round" ({ cls := "CoastLamps$Lamp", name := "drain", desc := "(I)V" } : Jvm.MethodName) ({ cls := "CoastLamps$Lamp", name := "drain", desc := "(I)V" } : Jvm.MethodName)) ∈ tbl := tbl_of (List.mem_of_getElem? (i := 602) (by decide +kernel)) (by decide +kernel)
theorem kw_557 : (Jvm.Cond.selects "CoastLamps$Swing" ({ cls := "CoastLamps$Lamp", name := "drain", desc := "(I)V" } : Jvm.MethodName) ({ cls := "CoastLamps$Lamp", name := "drain", desc := "(I)V" } : Jvm.MethodName)) ∈ tbl := tbl_of (List.mem_of_getElem? (i := 603) (by decide +kernel)) (by decide +kernel)
theorem kw_558 : (Jvm.Cond.selects "CoastLamps$Twin" ({ cls := "CoastLamps$Lamp", name := "drain", desc := "(I)V" } : Jvm.MethodName) ({ cls := "CoastLamps$Lamp", name := "drain", desc := "(I)V" } : Jvm.MethodName)) ∈ tbl := tbl_of (List.mem_of_getElem? (i := 604) (by decide +kernel)) (by decide +kernel)
theorem kw_559 : (Jvm.Cond.code ({ cls := "CoastLamps$Lamp", name := "drain", desc := "(I)V" } : Jvm.MethodName) prog_7_method_2_code (2 : Nat) (Option.none : Option Jvm.ClassFile.FieldType)) ∈ tbl := tbl_of (List.mem_of_getElem? (i := 605) (by decide +kernel)) (by decide +kernel)
theorem kw_560 : (Jvm.Cond.methodLink "CoastLampsLaw" (50 : Nat) ({ cls := "CoastLamps", name := "seen", desc := "(I)I" } : Jvm.MethodName)) ∈ tbl := tbl_of (List.mem_of_getElem? (i := 606) (by decide +kernel)) (by decide +kernel)
theorem kw_561 : (Jvm.Cond.instanceMethod ({ cls := "CoastLamps", name := "seen", desc := "(I)I" } : Jvm.MethodName)) ∈ tbl := tbl_of (List.mem_of_getElem? (i := 607) (by decide +kernel)) (by decide +kernel)
theorem kw_562 : (Jvm.Cond.selects "CoastLamps" ({ cls := "CoastLamps", name := "seen", desc := "(I)I" } : Jvm.MethodName) ({ cls := "CoastLamps", name := "seen", desc := "(I)I" } : Jvm.MethodName)) ∈ tbl := tbl_of (List.mem_of_getElem? (i := 608) (by decide +kernel)) (by decide +kernel)
theorem kw_563 : (Jvm.Cond.code ({ cls := "CoastLamps", name := "seen", desc := "(I)I" } : Jvm.MethodName) prog_1_method_10_code (7 : Nat) (Option.some Jvm.ClassFile.FieldType.int)) ∈ tbl := tbl_of (List.mem_of_getElem? (i := 609) (by decide +kernel)) (by decide +kernel)
theorem kw_564 : (Jvm.Cond.methodLink "CoastLampsLaw" (54 : Nat) ({ cls := "CoastLamps", name := "blow", desc := "(II)I" } : Jvm.MethodName)) ∈ tbl := tbl_of (List.mem_of_getElem? (i := 610) (by decide +kernel)) (by decide +kernel)
theorem kw_565 : (Jvm.Cond.instanceMethod ({ cls := "CoastLamps", name := "blow", desc := "(II)I" } : Jvm.MethodName)) ∈ tbl := tbl_of (List.mem_of_getElem? (i := 611) (by decide +kernel)) (by decide +kernel)
theorem kw_566 : (Jvm.Cond.selects "CoastLamps" ({ cls := "CoastLamps", name := "blow", desc := "(II)I" } : Jvm.MethodName) ({ cls := "CoastLamps", name := "blow", desc := "(II)I" } : Jvm.MethodName)) ∈ tbl := tbl_of (List.mem_of_getElem? (i := 612) (by decide +kernel)) (by decide +kernel)
theorem kw_567 : (Jvm.Cond.code ({ cls := "CoastLamps", name := "blow", desc := "(II)I" } : Jvm.MethodName) prog_1_method_11_code (4 : Nat) (Option.some Jvm.ClassFile.FieldType.int)) ∈ tbl := tbl_of (List.mem_of_getElem? (i := 613) (by decide +kernel)) (by decide +kernel)
theorem kw_568 : (Jvm.Cond.methodLink "CoastLampsLaw" (58 : Nat) ({ cls := "CoastLamps", name := "blown", desc := "()I" } : Jvm.MethodName)) ∈ tbl := tbl_of (List.mem_of_getElem? (i := 614) (by decide +kernel)) (by decide +kernel)
theorem kw_569 : (Jvm.Cond.instanceMethod ({ cls := "CoastLamps", name := "blown", desc := "()I" } : Jvm.MethodName)) ∈ tbl := tbl_of (List.mem_of_getElem? (i := 615) (by decide +kernel)) (by decide +kernel)
theorem kw_570 : (Jvm.Cond.selects "CoastLamps" ({ cls := "CoastLamps", name := "blown", desc := "()I" } : Jvm.MethodName) ({ cls := "CoastLamps", name := "blown", desc := "()I" } : Jvm.MethodName)) ∈ tbl := tbl_of (List.mem_of_getElem? (i := 616) (by decide +kernel)) (by decide +kernel)
theorem kw_571 : (Jvm.Cond.code ({ cls := "CoastLamps", name := "blown", desc := "()I" } : Jvm.MethodName) prog_1_method_12_code (1 : Nat) (Option.some Jvm.ClassFile.FieldType.int)) ∈ tbl := tbl_of (List.mem_of_getElem? (i := 617) (by decide +kernel)) (by decide +kernel)
theorem kw_572 : (Jvm.Cond.methodLink "CoastLampsLaw" (63 : Nat) ({ cls := "CoastLamps", name := "told", desc := "(II)J" } : Jvm.MethodName)) ∈ tbl := tbl_of (List.mem_of_getElem? (i := 618) (by decide +kernel)) (by decide +kernel)
theorem kw_573 : (Jvm.Cond.instanceMethod ({ cls := "CoastLamps", name := "told", desc := "(II)J" } : Jvm.MethodName)) ∈ tbl := tbl_of (List.mem_of_getElem? (i := 619) (by decide +kernel)) (by decide +kernel)
theorem kw_574 : (Jvm.Cond.selects "CoastLamps" ({ cls := "CoastLamps", name := "told", desc := "(II)J" } : Jvm.MethodName) ({ cls := "CoastLamps", name := "told", desc := "(II)J" } : Jvm.MethodName)) ∈ tbl := tbl_of (List.mem_of_getElem? (i := 620) (by decide +kernel)) (by decide +kernel)
theorem kw_575 : (Jvm.Cond.code ({ cls := "CoastLamps", name := "told", desc := "(II)J" } : Jvm.MethodName) prog_1_method_13_code (4 : Nat) (Option.some Jvm.ClassFile.FieldType.long)) ∈ tbl := tbl_of (List.mem_of_getElem? (i := 621) (by decide +kernel)) (by decide +kernel)
theorem kw_576 : (Jvm.Cond.methodLink "CoastLampsLaw" (68 : Nat) ({ cls := "CoastLamps", name := "count", desc := "(I)I" } : Jvm.MethodName)) ∈ tbl := tbl_of (List.mem_of_getElem? (i := 622) (by decide +kernel)) (by decide +kernel)
theorem kw_577 : (Jvm.Cond.instanceMethod ({ cls := "CoastLamps", name := "count", desc := "(I)I" } : Jvm.MethodName)) ∈ tbl := tbl_of (List.mem_of_getElem? (i := 623) (by decide +kernel)) (by decide +kernel)
theorem kw_578 : (Jvm.Cond.selects "CoastLamps" ({ cls := "CoastLamps", name := "count", desc := "(I)I" } : Jvm.MethodName) ({ cls := "CoastLamps", name := "count", desc := "(I)I" } : Jvm.MethodName)) ∈ tbl := tbl_of (List.mem_of_getElem? (i := 624) (by decide +kernel)) (by decide +kernel)
theorem kw_579 : (Jvm.Cond.code ({ cls := "CoastLamps", name := "count", desc := "(I)I" } : Jvm.MethodName) prog_1_method_14_code (2 : Nat) (Option.some Jvm.ClassFile.FieldType.int)) ∈ tbl := tbl_of (List.mem_of_getElem? (i := 625) (by decide +kernel)) (by decide +kernel)
theorem kw_580 : (Jvm.Cond.methodLink "CoastLampsLaw" (72 : Nat) ({ cls := "CoastLamps", name := "store", desc := "()J" } : Jvm.MethodName)) ∈ tbl := tbl_of (List.mem_of_getElem? (i := 626) (by decide +kernel)) (by decide +kernel)
theorem kw_581 : (Jvm.Cond.instanceMethod ({ cls := "CoastLamps", name := "store", desc := "()J" } : Jvm.MethodName)) ∈ tbl := tbl_of (List.mem_of_getElem? (i := 627) (by decide +kernel)) (by decide +kernel)
theorem kw_582 : (Jvm.Cond.selects "CoastLamps" ({ cls := "CoastLamps", name := "store", desc := "()J" } : Jvm.MethodName) ({ cls := "CoastLamps", name := "store", desc := "()J" } : Jvm.MethodName)) ∈ tbl := tbl_of (List.mem_of_getElem? (i := 628) (by decide +kernel)) (by decide +kernel)
theorem kw_583 : (Jvm.Cond.code ({ cls := "CoastLamps", name := "store", desc := "()J" } : Jvm.MethodName) prog_1_method_15_code (1 : Nat) (Option.some Jvm.ClassFile.FieldType.long)) ∈ tbl := tbl_of (List.mem_of_getElem? (i := 629) (by decide +kernel)) (by decide +kernel)
theorem kw_584 : (Jvm.Cond.classLink "CoastLampsLaw" (10 : Nat) "CoastLampsModel") ∈ tbl := tbl_of (List.mem_of_getElem? (i := 630) (by decide +kernel)) (by decide +kernel)
theorem kw_585 : (Jvm.Cond.instantiable "CoastLampsModel" (13 : Nat)) ∈ tbl := tbl_of (List.mem_of_getElem? (i := 631) (by decide +kernel)) (by decide +kernel)
theorem kw_586 : (Jvm.Cond.methodLink "CoastLampsLaw" (12 : Nat) ({ cls := "CoastLampsModel", name := "<init>", desc := "()V" } : Jvm.MethodName)) ∈ tbl := tbl_of (List.mem_of_getElem? (i := 632) (by decide +kernel)) (by decide +kernel)
theorem kw_587 : (Jvm.Cond.instanceMethod ({ cls := "CoastLampsModel", name := "<init>", desc := "()V" } : Jvm.MethodName)) ∈ tbl := tbl_of (List.mem_of_getElem? (i := 633) (by decide +kernel)) (by decide +kernel)
theorem kw_588 : (Jvm.Cond.code ({ cls := "CoastLampsModel", name := "<init>", desc := "()V" } : Jvm.MethodName) prog_14_method_1_code (1 : Nat) (Option.none : Option Jvm.ClassFile.FieldType)) ∈ tbl := tbl_of (List.mem_of_getElem? (i := 634) (by decide +kernel)) (by decide +kernel)
theorem kw_589 : (Jvm.Cond.methodLink "CoastLampsModel" (1 : Nat) ({ cls := "java/lang/Object", name := "<init>", desc := "()V" } : Jvm.MethodName)) ∈ tbl := tbl_of (List.mem_of_getElem? (i := 635) (by decide +kernel)) (by decide +kernel)
theorem kw_590 : (Jvm.Cond.fieldLink "CoastLampsModel" (7 : Nat) "CoastLampsModel" "dials" "[I") ∈ tbl := tbl_of (List.mem_of_getElem? (i := 636) (by decide +kernel)) (by decide +kernel)
theorem kw_591 : (Jvm.Cond.fieldLink "CoastLampsModel" (32 : Nat) "CoastLampsModel" "lamps" "I") ∈ tbl := tbl_of (List.mem_of_getElem? (i := 637) (by decide +kernel)) (by decide +kernel)
theorem kw_592 : (Jvm.Cond.fieldLink "CoastLampsModel" (13 : Nat) "CoastLampsModel" "kind" "[I") ∈ tbl := tbl_of (List.mem_of_getElem? (i := 638) (by decide +kernel)) (by decide +kernel)
theorem kw_593 : (Jvm.Cond.fieldLink "CoastLampsModel" (16 : Nat) "CoastLampsModel" "height" "[I") ∈ tbl := tbl_of (List.mem_of_getElem? (i := 639) (by decide +kernel)) (by decide +kernel)
theorem kw_594 : (Jvm.Cond.fieldLink "CoastLampsModel" (19 : Nat) "CoastLampsModel" "tank" "[I") ∈ tbl := tbl_of (List.mem_of_getElem? (i := 640) (by decide +kernel)) (by decide +kernel)
theorem kw_595 : (Jvm.Cond.fieldLink "CoastLampsModel" (22 : Nat) "CoastLampsModel" "soot" "[I") ∈ tbl := tbl_of (List.mem_of_getElem? (i := 641) (by decide +kernel)) (by decide +kernel)
theorem kw_596 : (Jvm.Cond.fieldLink "CoastLampsModel" (25 : Nat) "CoastLampsModel" "lit" "[Z") ∈ tbl := tbl_of (List.mem_of_getElem? (i := 642) (by decide +kernel)) (by decide +kernel)
theorem kw_597 : (Jvm.Cond.fieldLink "CoastLampsModel" (179 : Nat) "CoastLampsModel" "store" "J") ∈ tbl := tbl_of (List.mem_of_getElem? (i := 643) (by decide +kernel)) (by decide +kernel)
theorem kw_598 : (Jvm.Cond.fieldLink "CoastLampsModel" (184 : Nat) "CoastLampsModel" "nights" "I") ∈ tbl := tbl_of (List.mem_of_getElem? (i := 644) (by decide +kernel)) (by decide +kernel)
theorem kw_599 : (Jvm.Cond.fieldLink "CoastLampsModel" (43 : Nat) "CoastLampsModel" "acts" "I") ∈ tbl := tbl_of (List.mem_of_getElem? (i := 645) (by decide +kernel)) (by decide +kernel)
theorem kw_600 : (Jvm.Cond.fieldLink "CoastLampsModel" (191 : Nat) "CoastLampsModel" "blown" "I") ∈ tbl := tbl_of (List.mem_of_getElem? (i := 646) (by decide +kernel)) (by decide +kernel)
theorem kw_601 : (Jvm.Cond.fieldLink "CoastLampsModel" (29 : Nat) "CoastLampsModel" "trace" "[I") ∈ tbl := tbl_of (List.mem_of_getElem? (i := 647) (by decide +kernel)) (by decide +kernel)
theorem kw_602 : (Jvm.Cond.fieldLink "CoastLampsModel" (40 : Nat) "CoastLampsModel" "traced" "I") ∈ tbl := tbl_of (List.mem_of_getElem? (i := 648) (by decide +kernel)) (by decide +kernel)
theorem kw_629 : (Jvm.Cond.superclass "CoastLampsModel" "java/lang/Object") ∈ tbl := tbl_of (List.mem_of_getElem? (i := 675) (by decide +kernel)) (by decide +kernel)
theorem kw_630 : (Jvm.Cond.arrayClass Jvm.ClassFile.FieldType.boolean) ∈ tbl := tbl_of (List.mem_of_getElem? (i := 676) (by decide +kernel)) (by decide +kernel)
theorem kw_631 : (Jvm.Cond.methodLink "CoastLampsLaw" (17 : Nat) ({ cls := "CoastLampsModel", name := "dial", desc := "(II)I" } : Jvm.MethodName)) ∈ tbl := tbl_of (List.mem_of_getElem? (i := 677) (by decide +kernel)) (by decide +kernel)
theorem kw_632 : (Jvm.Cond.instanceMethod ({ cls := "CoastLampsModel", name := "dial", desc := "(II)I" } : Jvm.MethodName)) ∈ tbl := tbl_of (List.mem_of_getElem? (i := 678) (by decide +kernel)) (by decide +kernel)
theorem kw_633 : (Jvm.Cond.selects "CoastLampsModel" ({ cls := "CoastLampsModel", name := "dial", desc := "(II)I" } : Jvm.MethodName) ({ cls := "CoastLampsModel", name := "dial", desc := "(II)I" } : Jvm.MethodName)) ∈ tbl := tbl_of (List.mem_of_getElem? (i := 679) (by decide +kernel)) (by decide +kernel)
theorem kw_634 : (Jvm.Cond.code ({ cls := "CoastLampsModel", name := "dial", desc := "(II)I" } : Jvm.MethodName) prog_14_method_45_code (4 : Nat) (Option.some Jvm.ClassFile.FieldType.int)) ∈ tbl := tbl_of (List.mem_of_getElem? (i := 680) (by decide +kernel)) (by decide +kernel)
theorem kw_635 : (Jvm.Cond.methodLink "CoastLampsModel" (36 : Nat) ({ cls := "CoastLampsModel", name := "in", desc := "(III)Z" } : Jvm.MethodName)) ∈ tbl := tbl_of (List.mem_of_getElem? (i := 681) (by decide +kernel)) (by decide +kernel)
theorem kw_636 : (Jvm.Cond.static ({ cls := "CoastLampsModel", name := "in", desc := "(III)Z" } : Jvm.MethodName)) ∈ tbl := tbl_of (List.mem_of_getElem? (i := 682) (by decide +kernel)) (by decide +kernel)
theorem kw_637 : (Jvm.Cond.code ({ cls := "CoastLampsModel", name := "in", desc := "(III)Z" } : Jvm.MethodName) prog_14_method_3_code (3 : Nat) (Option.some Jvm.ClassFile.FieldType.boolean)) ∈ tbl := tbl_of (List.mem_of_getElem? (i := 683) (by decide +kernel)) (by decide +kernel)
theorem kw_638 : (Jvm.Cond.methodLink "CoastLampsLaw" (21 : Nat) ({ cls := "CoastLampsModel", name := "lamp", desc := "(II)I" } : Jvm.MethodName)) ∈ tbl := tbl_of (List.mem_of_getElem? (i := 684) (by decide +kernel)) (by decide +kernel)
theorem kw_639 : (Jvm.Cond.instanceMethod ({ cls := "CoastLampsModel", name := "lamp", desc := "(II)I" } : Jvm.MethodName)) ∈ tbl := tbl_of (List.mem_of_getElem? (i := 685) (by decide +kernel)) (by decide +kernel)
theorem kw_640 : (Jvm.Cond.selects "CoastLampsModel" ({ cls := "CoastLampsModel", name := "lamp", desc := "(II)I" } : Jvm.MethodName) ({ cls := "CoastLampsModel", name := "lamp", desc := "(II)I" } : Jvm.MethodName)) ∈ tbl := tbl_of (List.mem_of_getElem? (i := 686) (by decide +kernel)) (by decide +kernel)
theorem kw_641 : (Jvm.Cond.code ({ cls := "CoastLampsModel", name := "lamp", desc := "(II)I" } : Jvm.MethodName) prog_14_method_46_code (3 : Nat) (Option.some Jvm.ClassFile.FieldType.int)) ∈ tbl := tbl_of (List.mem_of_getElem? (i := 687) (by decide +kernel)) (by decide +kernel)
theorem kw_642 : (Jvm.Cond.methodLink "CoastLampsLaw" (26 : Nat) ({ cls := "CoastLampsModel", name := "ask", desc := "(III)J" } : Jvm.MethodName)) ∈ tbl := tbl_of (List.mem_of_getElem? (i := 688) (by decide +kernel)) (by decide +kernel)
theorem kw_643 : (Jvm.Cond.instanceMethod ({ cls := "CoastLampsModel", name := "ask", desc := "(III)J" } : Jvm.MethodName)) ∈ tbl := tbl_of (List.mem_of_getElem? (i := 689) (by decide +kernel)) (by decide +kernel)
theorem kw_644 : (Jvm.Cond.selects "CoastLampsModel" ({ cls := "CoastLampsModel", name := "ask", desc := "(III)J" } : Jvm.MethodName) ({ cls := "CoastLampsModel", name := "ask", desc := "(III)J" } : Jvm.MethodName)) ∈ tbl := tbl_of (List.mem_of_getElem? (i := 690) (by decide +kernel)) (by decide +kernel)
theorem kw_645 : (Jvm.Cond.code ({ cls := "CoastLampsModel", name := "ask", desc := "(III)J" } : Jvm.MethodName) prog_14_method_47_code (4 : Nat) (Option.some Jvm.ClassFile.FieldType.long)) ∈ tbl := tbl_of (List.mem_of_getElem? (i := 691) (by decide +kernel)) (by decide +kernel)
theorem kw_646 : (Jvm.Cond.methodLink "CoastLampsModel" (152 : Nat) ({ cls := "CoastLampsModel", name := "isLamp", desc := "(I)Z" } : Jvm.MethodName)) ∈ tbl := tbl_of (List.mem_of_getElem? (i := 692) (by decide +kernel)) (by decide +kernel)
theorem kw_648 : (Jvm.Cond.instanceMethod ({ cls := "CoastLampsModel", name := "isLamp", desc := "(I)Z" } : Jvm.MethodName)) ∈ tbl := tbl_of (List.mem_of_getElem? (i := 694) (by decide +kernel)) (by decide +kernel)
theorem kw_649 : (Jvm.Cond.code ({ cls := "CoastLampsModel", name := "isLamp", desc := "(I)Z" } : Jvm.MethodName) prog_14_method_4_code (2 : Nat) (Option.some Jvm.ClassFile.FieldType.boolean)) ∈ tbl := tbl_of (List.mem_of_getElem? (i := 695) (by decide +kernel)) (by decide +kernel)
theorem kw_650 : (Jvm.Cond.constantLong "CoastLampsModel" (156 : Nat) (-9223372036854775808 : Int64)) ∈ tbl := tbl_of (List.mem_of_getElem? (i := 696) (by decide +kernel)) (by decide +kernel)
theorem kw_651 : (Jvm.Cond.methodLink "CoastLampsModel" (158 : Nat) ({ cls := "CoastLampsModel", name := "act", desc := "()V" } : Jvm.MethodName)) ∈ tbl := tbl_of (List.mem_of_getElem? (i := 697) (by decide +kernel)) (by decide +kernel)
theorem kw_653 : (Jvm.Cond.instanceMethod ({ cls := "CoastLampsModel", name := "act", desc := "()V" } : Jvm.MethodName)) ∈ tbl := tbl_of (List.mem_of_getElem? (i := 699) (by decide +kernel)) (by decide +kernel)
theorem kw_654 : (Jvm.Cond.code ({ cls := "CoastLampsModel", name := "act", desc := "()V" } : Jvm.MethodName) prog_14_method_7_code (1 : Nat) (Option.none : Option Jvm.ClassFile.FieldType)) ∈ tbl := tbl_of (List.mem_of_getElem? (i := 700) (by decide +kernel)) (by decide +kernel)
theorem kw_655 : (Jvm.Cond.methodLink "CoastLampsModel" (161 : Nat) ({ cls := "CoastLampsModel", name := "isHorned", desc := "(I)Z" } : Jvm.MethodName)) ∈ tbl := tbl_of (List.mem_of_getElem? (i := 701) (by decide +kernel)) (by decide +kernel)
theorem kw_657 : (Jvm.Cond.instanceMethod ({ cls := "CoastLampsModel", name := "isHorned", desc := "(I)Z" } : Jvm.MethodName)) ∈ tbl := tbl_of (List.mem_of_getElem? (i := 703) (by decide +kernel)) (by decide +kernel)
theorem kw_658 : (Jvm.Cond.code ({ cls := "CoastLampsModel", name := "isHorned", desc := "(I)Z" } : Jvm.MethodName) prog_14_method_5_code (2 : Nat) (Option.some Jvm.ClassFile.FieldType.boolean)) ∈ tbl := tbl_of (List.mem_of_getElem? (i := 704) (by decide +kernel)) (by decide +kernel)
theorem kw_659 : (Jvm.Cond.constantLong "CoastLampsModel" (164 : Nat) (-9223372036854775807 : Int64)) ∈ tbl := tbl_of (List.mem_of_getElem? (i := 705) (by decide +kernel)) (by decide +kernel)
theorem kw_660 : (Jvm.Cond.methodLink "CoastLampsModel" (166 : Nat) ({ cls := "CoastLampsModel", name := "burn", desc := "(II)I" } : Jvm.MethodName)) ∈ tbl := tbl_of (List.mem_of_getElem? (i := 706) (by decide +kernel)) (by decide +kernel)
theorem kw_662 : (Jvm.Cond.instanceMethod ({ cls := "CoastLampsModel", name := "burn", desc := "(II)I" } : Jvm.MethodName)) ∈ tbl := tbl_of (List.mem_of_getElem? (i := 708) (by decide +kernel)) (by decide +kernel)
theorem kw_663 : (Jvm.Cond.code ({ cls := "CoastLampsModel", name := "burn", desc := "(II)I" } : Jvm.MethodName) prog_14_method_14_code (3 : Nat) (Option.some Jvm.ClassFile.FieldType.int)) ∈ tbl := tbl_of (List.mem_of_getElem? (i := 709) (by decide +kernel)) (by decide +kernel)
theorem kw_664 : (Jvm.Cond.methodLink "CoastLampsModel" (54 : Nat) ({ cls := "CoastLampsModel", name := "burnOil", desc := "(II)I" } : Jvm.MethodName)) ∈ tbl := tbl_of (List.mem_of_getElem? (i := 710) (by decide +kernel)) (by decide +kernel)
theorem kw_666 : (Jvm.Cond.instanceMethod ({ cls := "CoastLampsModel", name := "burnOil", desc := "(II)I" } : Jvm.MethodName)) ∈ tbl := tbl_of (List.mem_of_getElem? (i := 712) (by decide +kernel)) (by decide +kernel)
theorem kw_667 : (Jvm.Cond.code ({ cls := "CoastLampsModel", name := "burnOil", desc := "(II)I" } : Jvm.MethodName) prog_14_method_9_code (4 : Nat) (Option.some Jvm.ClassFile.FieldType.int)) ∈ tbl := tbl_of (List.mem_of_getElem? (i := 713) (by decide +kernel)) (by decide +kernel)
theorem kw_668 : (Jvm.Cond.methodLink "CoastLampsModel" (46 : Nat) ({ cls := "CoastLampsModel", name := "begins", desc := "(I)V" } : Jvm.MethodName)) ∈ tbl := tbl_of (List.mem_of_getElem? (i := 714) (by decide +kernel)) (by decide +kernel)
theorem kw_670 : (Jvm.Cond.instanceMethod ({ cls := "CoastLampsModel", name := "begins", desc := "(I)V" } : Jvm.MethodName)) ∈ tbl := tbl_of (List.mem_of_getElem? (i := 716) (by decide +kernel)) (by decide +kernel)
theorem kw_671 : (Jvm.Cond.code ({ cls := "CoastLampsModel", name := "begins", desc := "(I)V" } : Jvm.MethodName) prog_14_method_6_code (2 : Nat) (Option.none : Option Jvm.ClassFile.FieldType)) ∈ tbl := tbl_of (List.mem_of_getElem? (i := 717) (by decide +kernel)) (by decide +kernel)
theorem kw_672 : (Jvm.Cond.methodLink "CoastLampsModel" (50 : Nat) ({ cls := "CoastLampsModel", name := "burnLamp", desc := "(II)I" } : Jvm.MethodName)) ∈ tbl := tbl_of (List.mem_of_getElem? (i := 718) (by decide +kernel)) (by decide +kernel)
theorem kw_674 : (Jvm.Cond.instanceMethod ({ cls := "CoastLampsModel", name := "burnLamp", desc := "(II)I" } : Jvm.MethodName)) ∈ tbl := tbl_of (List.mem_of_getElem? (i := 720) (by decide +kernel)) (by decide +kernel)
theorem kw_675 : (Jvm.Cond.code ({ cls := "CoastLampsModel", name := "burnLamp", desc := "(II)I" } : Jvm.MethodName) prog_14_method_8_code (3 : Nat) (Option.some Jvm.ClassFile.FieldType.int)) ∈ tbl := tbl_of (List.mem_of_getElem? (i := 721) (by decide +kernel)) (by decide +kernel)
theorem kw_676 : (Jvm.Cond.methodLink "CoastLampsModel" (57 : Nat) ({ cls := "CoastLampsModel", name := "burnTwin", desc := "(II)I" } : Jvm.MethodName)) ∈ tbl := tbl_of (List.mem_of_getElem? (i := 722) (by decide +kernel)) (by decide +kernel)
theorem kw_678 : (Jvm.Cond.instanceMethod ({ cls := "CoastLampsModel", name := "burnTwin", desc := "(II)I" } : Jvm.MethodName)) ∈ tbl := tbl_of (List.mem_of_getElem? (i := 724) (by decide +kernel)) (by decide +kernel)
theorem kw_679 : (Jvm.Cond.code ({ cls := "CoastLampsModel", name := "burnTwin", desc := "(II)I" } : Jvm.MethodName) prog_14_method_10_code (4 : Nat) (Option.some Jvm.ClassFile.FieldType.int)) ∈ tbl := tbl_of (List.mem_of_getElem? (i := 725) (by decide +kernel)) (by decide +kernel)
theorem kw_680 : (Jvm.Cond.methodLink "CoastLampsModel" (63 : Nat) ({ cls := "CoastLampsModel", name := "burnSwing", desc := "(II)I" } : Jvm.MethodName)) ∈ tbl := tbl_of (List.mem_of_getElem? (i := 726) (by decide +kernel)) (by decide +kernel)
theorem kw_682 : (Jvm.Cond.instanceMethod ({ cls := "CoastLampsModel", name := "burnSwing", desc := "(II)I" } : Jvm.MethodName)) ∈ tbl := tbl_of (List.mem_of_getElem? (i := 728) (by decide +kernel)) (by decide +kernel)
theorem kw_683 : (Jvm.Cond.code ({ cls := "CoastLampsModel", name := "burnSwing", desc := "(II)I" } : Jvm.MethodName) prog_14_method_11_code (3 : Nat) (Option.some Jvm.ClassFile.FieldType.int)) ∈ tbl := tbl_of (List.mem_of_getElem? (i := 729) (by decide +kernel)) (by decide +kernel)
theorem kw_684 : (Jvm.Cond.methodLink "CoastLampsModel" (66 : Nat) ({ cls := "CoastLampsModel", name := "burnOuter", desc := "(II)I" } : Jvm.MethodName)) ∈ tbl := tbl_of (List.mem_of_getElem? (i := 730) (by decide +kernel)) (by decide +kernel)
theorem kw_686 : (Jvm.Cond.instanceMethod ({ cls := "CoastLampsModel", name := "burnOuter", desc := "(II)I" } : Jvm.MethodName)) ∈ tbl := tbl_of (List.mem_of_getElem? (i := 732) (by decide +kernel)) (by decide +kernel)
theorem kw_687 : (Jvm.Cond.code ({ cls := "CoastLampsModel", name := "burnOuter", desc := "(II)I" } : Jvm.MethodName) prog_14_method_13_code (4 : Nat) (Option.some Jvm.ClassFile.FieldType.int)) ∈ tbl := tbl_of (List.mem_of_getElem? (i := 733) (by decide +kernel)) (by decide +kernel)
theorem kw_688 : (Jvm.Cond.methodLink "CoastLampsModel" (60 : Nat) ({ cls := "CoastLampsModel", name := "burnFlare", desc := "(II)I" } : Jvm.MethodName)) ∈ tbl := tbl_of (List.mem_of_getElem? (i := 734) (by decide +kernel)) (by decide +kernel)
theorem kw_690 : (Jvm.Cond.instanceMethod ({ cls := "CoastLampsModel", name := "burnFlare", desc := "(II)I" } : Jvm.MethodName)) ∈ tbl := tbl_of (List.mem_of_getElem? (i := 736) (by decide +kernel)) (by decide +kernel)
theorem kw_691 : (Jvm.Cond.code ({ cls := "CoastLampsModel", name := "burnFlare", desc := "(II)I" } : Jvm.MethodName) prog_14_method_12_code (3 : Nat) (Option.some Jvm.ClassFile.FieldType.int)) ∈ tbl := tbl_of (List.mem_of_getElem? (i := 737) (by decide +kernel)) (by decide +kernel)
theorem kw_692 : (Jvm.Cond.methodLink "CoastLampsModel" (149 : Nat) ({ cls := "CoastLampsModel", name := "reach", desc := "(II)I" } : Jvm.MethodName)) ∈ tbl := tbl_of (List.mem_of_getElem? (i := 738) (by decide +kernel)) (by decide +kernel)
theorem kw_694 : (Jvm.Cond.instanceMethod ({ cls := "CoastLampsModel", name := "reach", desc := "(II)I" } : Jvm.MethodName)) ∈ tbl := tbl_of (List.mem_of_getElem? (i := 740) (by decide +kernel)) (by decide +kernel)
theorem kw_695 : (Jvm.Cond.code ({ cls := "CoastLampsModel", name := "reach", desc := "(II)I" } : Jvm.MethodName) prog_14_method_21_code (3 : Nat) (Option.some Jvm.ClassFile.FieldType.int)) ∈ tbl := tbl_of (List.mem_of_getElem? (i := 741) (by decide +kernel)) (by decide +kernel)
theorem kw_696 : (Jvm.Cond.methodLink "CoastLampsModel" (69 : Nat) ({ cls := "CoastLampsModel", name := "reachLamp", desc := "(II)I" } : Jvm.MethodName)) ∈ tbl := tbl_of (List.mem_of_getElem? (i := 742) (by decide +kernel)) (by decide +kernel)
theorem kw_698 : (Jvm.Cond.instanceMethod ({ cls := "CoastLampsModel", name := "reachLamp", desc := "(II)I" } : Jvm.MethodName)) ∈ tbl := tbl_of (List.mem_of_getElem? (i := 744) (by decide +kernel)) (by decide +kernel)
theorem kw_699 : (Jvm.Cond.code ({ cls := "CoastLampsModel", name := "reachLamp", desc := "(II)I" } : Jvm.MethodName) prog_14_method_15_code (3 : Nat) (Option.some Jvm.ClassFile.FieldType.int)) ∈ tbl := tbl_of (List.mem_of_getElem? (i := 745) (by decide +kernel)) (by decide +kernel)
theorem kw_700 : (Jvm.Cond.methodLink "CoastLampsModel" (72 : Nat) ({ cls := "CoastLampsModel", name := "reachRound", desc := "(II)I" } : Jvm.MethodName)) ∈ tbl := tbl_of (List.mem_of_getElem? (i := 746) (by decide +kernel)) (by decide +kernel)
theorem kw_702 : (Jvm.Cond.instanceMethod ({ cls := "CoastLampsModel", name := "reachRound", desc := "(II)I" } : Jvm.MethodName)) ∈ tbl := tbl_of (List.mem_of_getElem? (i := 748) (by decide +kernel)) (by decide +kernel)
theorem kw_703 : (Jvm.Cond.code ({ cls := "CoastLampsModel", name := "reachRound", desc := "(II)I" } : Jvm.MethodName) prog_14_method_16_code (3 : Nat) (Option.some Jvm.ClassFile.FieldType.int)) ∈ tbl := tbl_of (List.mem_of_getElem? (i := 749) (by decide +kernel)) (by decide +kernel)
theorem kw_704 : (Jvm.Cond.methodLink "CoastLampsModel" (75 : Nat) ({ cls := "CoastLampsModel", name := "reachTwin", desc := "(II)I" } : Jvm.MethodName)) ∈ tbl := tbl_of (List.mem_of_getElem? (i := 750) (by decide +kernel)) (by decide +kernel)
theorem kw_706 : (Jvm.Cond.instanceMethod ({ cls := "CoastLampsModel", name := "reachTwin", desc := "(II)I" } : Jvm.MethodName)) ∈ tbl := tbl_of (List.mem_of_getElem? (i := 752) (by decide +kernel)) (by decide +kernel)
theorem kw_707 : (Jvm.Cond.code ({ cls := "CoastLampsModel", name := "reachTwin", desc := "(II)I" } : Jvm.MethodName) prog_14_method_17_code (4 : Nat) (Option.some Jvm.ClassFile.FieldType.int)) ∈ tbl := tbl_of (List.mem_of_getElem? (i := 753) (by decide +kernel)) (by decide +kernel)
theorem kw_708 : (Jvm.Cond.methodLink "CoastLampsModel" (81 : Nat) ({ cls := "CoastLampsModel", name := "reachDrum", desc := "(II)I" } : Jvm.MethodName)) ∈ tbl := tbl_of (List.mem_of_getElem? (i := 754) (by decide +kernel)) (by decide +kernel)
theorem kw_710 : (Jvm.Cond.instanceMethod ({ cls := "CoastLampsModel", name := "reachDrum", desc := "(II)I" } : Jvm.MethodName)) ∈ tbl := tbl_of (List.mem_of_getElem? (i := 756) (by decide +kernel)) (by decide +kernel)
theorem kw_711 : (Jvm.Cond.code ({ cls := "CoastLampsModel", name := "reachDrum", desc := "(II)I" } : Jvm.MethodName) prog_14_method_18_code (4 : Nat) (Option.some Jvm.ClassFile.FieldType.int)) ∈ tbl := tbl_of (List.mem_of_getElem? (i := 757) (by decide +kernel)) (by decide +kernel)
theorem kw_712 : (Jvm.Cond.methodLink "CoastLampsModel" (78 : Nat) ({ cls := "CoastLampsModel", name := "reachGas", desc := "(II)I" } : Jvm.MethodName)) ∈ tbl := tbl_of (List.mem_of_getElem? (i := 758) (by decide +kernel)) (by decide +kernel)
theorem kw_714 : (Jvm.Cond.instanceMethod ({ cls := "CoastLampsModel", name := "reachGas", desc := "(II)I" } : Jvm.MethodName)) ∈ tbl := tbl_of (List.mem_of_getElem? (i := 760) (by decide +kernel)) (by decide +kernel)
theorem kw_715 : (Jvm.Cond.code ({ cls := "CoastLampsModel", name := "reachGas", desc := "(II)I" } : Jvm.MethodName) prog_14_method_19_code (3 : Nat) (Option.some Jvm.ClassFile.FieldType.int)) ∈ tbl := tbl_of (List.mem_of_getElem? (i := 761) (by decide +kernel)) (by decide +kernel)
theorem kw_716 : (Jvm.Cond.methodLink "CoastLampsModel" (84 : Nat) ({ cls := "CoastLampsModel", name := "reachBuoy", desc := "(II)I" } : Jvm.MethodName)) ∈ tbl := tbl_of (List.mem_of_getElem? (i := 762) (by decide +kernel)) (by decide +kernel)
theorem kw_718 : (Jvm.Cond.instanceMethod ({ cls := "CoastLampsModel", name := "reachBuoy", desc := "(II)I" } : Jvm.MethodName)) ∈ tbl := tbl_of (List.mem_of_getElem? (i := 764) (by decide +kernel)) (by decide +kernel)
theorem kw_719 : (Jvm.Cond.code ({ cls := "CoastLampsModel", name := "reachBuoy", desc := "(II)I" } : Jvm.MethodName) prog_14_method_20_code (3 : Nat) (Option.some Jvm.ClassFile.FieldType.int)) ∈ tbl := tbl_of (List.mem_of_getElem? (i := 765) (by decide +kernel)) (by decide +kernel)
theorem kw_720 : (Jvm.Cond.methodLink "CoastLampsModel" (169 : Nat) ({ cls := "CoastLampsModel", name := "flash", desc := "(II)I" } : Jvm.MethodName)) ∈ tbl := tbl_of (List.mem_of_getElem? (i := 766) (by decide +kernel)) (by decide +kernel)
theorem kw_722 : (Jvm.Cond.instanceMethod ({ cls := "CoastLampsModel", name := "flash", desc := "(II)I" } : Jvm.MethodName)) ∈ tbl := tbl_of (List.mem_of_getElem? (i := 768) (by decide +kernel)) (by decide +kernel)
theorem kw_723 : (Jvm.Cond.code ({ cls := "CoastLampsModel", name := "flash", desc := "(II)I" } : Jvm.MethodName) prog_14_method_27_code (3 : Nat) (Option.some Jvm.ClassFile.FieldType.int)) ∈ tbl := tbl_of (List.mem_of_getElem? (i := 769) (by decide +kernel)) (by decide +kernel)
theorem kw_724 : (Jvm.Cond.methodLink "CoastLampsModel" (91 : Nat) ({ cls := "CoastLampsModel", name := "flashTwin", desc := "(I)I" } : Jvm.MethodName)) ∈ tbl := tbl_of (List.mem_of_getElem? (i := 770) (by decide +kernel)) (by decide +kernel)
theorem kw_726 : (Jvm.Cond.instanceMethod ({ cls := "CoastLampsModel", name := "flashTwin", desc := "(I)I" } : Jvm.MethodName)) ∈ tbl := tbl_of (List.mem_of_getElem? (i := 772) (by decide +kernel)) (by decide +kernel)
theorem kw_727 : (Jvm.Cond.code ({ cls := "CoastLampsModel", name := "flashTwin", desc := "(I)I" } : Jvm.MethodName) prog_14_method_23_code (2 : Nat) (Option.some Jvm.ClassFile.FieldType.int)) ∈ tbl := tbl_of (List.mem_of_getElem? (i := 773) (by decide +kernel)) (by decide +kernel)
theorem kw_728 : (Jvm.Cond.methodLink "CoastLampsModel" (87 : Nat) ({ cls := "CoastLampsModel", name := "flashLamp", desc := "()I" } : Jvm.MethodName)) ∈ tbl := tbl_of (List.mem_of_getElem? (i := 774) (by decide +kernel)) (by decide +kernel)
theorem kw_730 : (Jvm.Cond.instanceMethod ({ cls := "CoastLampsModel", name := "flashLamp", desc := "()I" } : Jvm.MethodName)) ∈ tbl := tbl_of (List.mem_of_getElem? (i := 776) (by decide +kernel)) (by decide +kernel)
theorem kw_731 : (Jvm.Cond.code ({ cls := "CoastLampsModel", name := "flashLamp", desc := "()I" } : Jvm.MethodName) prog_14_method_22_code (1 : Nat) (Option.some Jvm.ClassFile.FieldType.int)) ∈ tbl := tbl_of (List.mem_of_getElem? (i := 777) (by decide +kernel)) (by decide +kernel)
theorem kw_732 : (Jvm.Cond.methodLink "CoastLampsModel" (98 : Nat) ({ cls := "CoastLampsModel", name := "flashSwing", desc := "(I)I" } : Jvm.MethodName)) ∈ tbl := tbl_of (List.mem_of_getElem? (i := 778) (by decide +kernel)) (by decide +kernel)
theorem kw_734 : (Jvm.Cond.instanceMethod ({ cls := "CoastLampsModel", name := "flashSwing", desc := "(I)I" } : Jvm.MethodName)) ∈ tbl := tbl_of (List.mem_of_getElem? (i := 780) (by decide +kernel)) (by decide +kernel)
theorem kw_735 : (Jvm.Cond.code ({ cls := "CoastLampsModel", name := "flashSwing", desc := "(I)I" } : Jvm.MethodName) prog_14_method_24_code (2 : Nat) (Option.some Jvm.ClassFile.FieldType.int)) ∈ tbl := tbl_of (List.mem_of_getElem? (i := 781) (by decide +kernel)) (by decide +kernel)
theorem kw_736 : (Jvm.Cond.methodLink "CoastLampsModel" (95 : Nat) ({ cls := "CoastLampsModel", name := "flashFlare", desc := "(I)I" } : Jvm.MethodName)) ∈ tbl := tbl_of (List.mem_of_getElem? (i := 782) (by decide +kernel)) (by decide +kernel)
theorem kw_738 : (Jvm.Cond.instanceMethod ({ cls := "CoastLampsModel", name := "flashFlare", desc := "(I)I" } : Jvm.MethodName)) ∈ tbl := tbl_of (List.mem_of_getElem? (i := 784) (by decide +kernel)) (by decide +kernel)
theorem kw_739 : (Jvm.Cond.code ({ cls := "CoastLampsModel", name := "flashFlare", desc := "(I)I" } : Jvm.MethodName) prog_14_method_25_code (2 : Nat) (Option.some Jvm.ClassFile.FieldType.int)) ∈ tbl := tbl_of (List.mem_of_getElem? (i := 785) (by decide +kernel)) (by decide +kernel)
theorem kw_740 : (Jvm.Cond.methodLink "CoastLampsModel" (101 : Nat) ({ cls := "CoastLampsModel", name := "flashOuter", desc := "(I)I" } : Jvm.MethodName)) ∈ tbl := tbl_of (List.mem_of_getElem? (i := 786) (by decide +kernel)) (by decide +kernel)
theorem kw_742 : (Jvm.Cond.instanceMethod ({ cls := "CoastLampsModel", name := "flashOuter", desc := "(I)I" } : Jvm.MethodName)) ∈ tbl := tbl_of (List.mem_of_getElem? (i := 788) (by decide +kernel)) (by decide +kernel)
theorem kw_743 : (Jvm.Cond.code ({ cls := "CoastLampsModel", name := "flashOuter", desc := "(I)I" } : Jvm.MethodName) prog_14_method_26_code (3 : Nat) (Option.some Jvm.ClassFile.FieldType.int)) ∈ tbl := tbl_of (List.mem_of_getElem? (i := 789) (by decide +kernel)) (by decide +kernel)
theorem kw_744 : (Jvm.Cond.methodLink "CoastLampsModel" (172 : Nat) ({ cls := "CoastLampsModel", name := "tend", desc := "(II)I" } : Jvm.MethodName)) ∈ tbl := tbl_of (List.mem_of_getElem? (i := 790) (by decide +kernel)) (by decide +kernel)
theorem kw_746 : (Jvm.Cond.instanceMethod ({ cls := "CoastLampsModel", name := "tend", desc := "(II)I" } : Jvm.MethodName)) ∈ tbl := tbl_of (List.mem_of_getElem? (i := 792) (by decide +kernel)) (by decide +kernel)
theorem kw_747 : (Jvm.Cond.code ({ cls := "CoastLampsModel", name := "tend", desc := "(II)I" } : Jvm.MethodName) prog_14_method_32_code (3 : Nat) (Option.some Jvm.ClassFile.FieldType.int)) ∈ tbl := tbl_of (List.mem_of_getElem? (i := 793) (by decide +kernel)) (by decide +kernel)
theorem kw_748 : (Jvm.Cond.methodLink "CoastLampsModel" (107 : Nat) ({ cls := "CoastLampsModel", name := "tendRound", desc := "(II)I" } : Jvm.MethodName)) ∈ tbl := tbl_of (List.mem_of_getElem? (i := 794) (by decide +kernel)) (by decide +kernel)
theorem kw_750 : (Jvm.Cond.instanceMethod ({ cls := "CoastLampsModel", name := "tendRound", desc := "(II)I" } : Jvm.MethodName)) ∈ tbl := tbl_of (List.mem_of_getElem? (i := 796) (by decide +kernel)) (by decide +kernel)
theorem kw_751 : (Jvm.Cond.code ({ cls := "CoastLampsModel", name := "tendRound", desc := "(II)I" } : Jvm.MethodName) prog_14_method_29_code (4 : Nat) (Option.some Jvm.ClassFile.FieldType.int)) ∈ tbl := tbl_of (List.mem_of_getElem? (i := 797) (by decide +kernel)) (by decide +kernel)
theorem kw_752 : (Jvm.Cond.methodLink "CoastLampsModel" (104 : Nat) ({ cls := "CoastLampsModel", name := "tendLamp", desc := "(II)I" } : Jvm.MethodName)) ∈ tbl := tbl_of (List.mem_of_getElem? (i := 798) (by decide +kernel)) (by decide +kernel)
theorem kw_754 : (Jvm.Cond.instanceMethod ({ cls := "CoastLampsModel", name := "tendLamp", desc := "(II)I" } : Jvm.MethodName)) ∈ tbl := tbl_of (List.mem_of_getElem? (i := 800) (by decide +kernel)) (by decide +kernel)
theorem kw_755 : (Jvm.Cond.code ({ cls := "CoastLampsModel", name := "tendLamp", desc := "(II)I" } : Jvm.MethodName) prog_14_method_28_code (4 : Nat) (Option.some Jvm.ClassFile.FieldType.int)) ∈ tbl := tbl_of (List.mem_of_getElem? (i := 801) (by decide +kernel)) (by decide +kernel)
theorem kw_756 : (Jvm.Cond.methodLink "CoastLampsModel" (110 : Nat) ({ cls := "CoastLampsModel", name := "tendDrum", desc := "(II)I" } : Jvm.MethodName)) ∈ tbl := tbl_of (List.mem_of_getElem? (i := 802) (by decide +kernel)) (by decide +kernel)
theorem kw_758 : (Jvm.Cond.instanceMethod ({ cls := "CoastLampsModel", name := "tendDrum", desc := "(II)I" } : Jvm.MethodName)) ∈ tbl := tbl_of (List.mem_of_getElem? (i := 804) (by decide +kernel)) (by decide +kernel)
theorem kw_759 : (Jvm.Cond.code ({ cls := "CoastLampsModel", name := "tendDrum", desc := "(II)I" } : Jvm.MethodName) prog_14_method_30_code (3 : Nat) (Option.some Jvm.ClassFile.FieldType.int)) ∈ tbl := tbl_of (List.mem_of_getElem? (i := 805) (by decide +kernel)) (by decide +kernel)
theorem kw_760 : (Jvm.Cond.methodLink "CoastLampsModel" (113 : Nat) ({ cls := "CoastLampsModel", name := "tendBuoy", desc := "(II)I" } : Jvm.MethodName)) ∈ tbl := tbl_of (List.mem_of_getElem? (i := 806) (by decide +kernel)) (by decide +kernel)
theorem kw_762 : (Jvm.Cond.instanceMethod ({ cls := "CoastLampsModel", name := "tendBuoy", desc := "(II)I" } : Jvm.MethodName)) ∈ tbl := tbl_of (List.mem_of_getElem? (i := 808) (by decide +kernel)) (by decide +kernel)
theorem kw_763 : (Jvm.Cond.code ({ cls := "CoastLampsModel", name := "tendBuoy", desc := "(II)I" } : Jvm.MethodName) prog_14_method_31_code (3 : Nat) (Option.some Jvm.ClassFile.FieldType.int)) ∈ tbl := tbl_of (List.mem_of_getElem? (i := 809) (by decide +kernel)) (by decide +kernel)
theorem kw_764 : (Jvm.Cond.methodLink "CoastLampsModel" (137 : Nat) ({ cls := "CoastLampsModel", name := "rank", desc := "(I)I" } : Jvm.MethodName)) ∈ tbl := tbl_of (List.mem_of_getElem? (i := 810) (by decide +kernel)) (by decide +kernel)
theorem kw_766 : (Jvm.Cond.instanceMethod ({ cls := "CoastLampsModel", name := "rank", desc := "(I)I" } : Jvm.MethodName)) ∈ tbl := tbl_of (List.mem_of_getElem? (i := 812) (by decide +kernel)) (by decide +kernel)
theorem kw_767 : (Jvm.Cond.code ({ cls := "CoastLampsModel", name := "rank", desc := "(I)I" } : Jvm.MethodName) prog_14_method_38_code (2 : Nat) (Option.some Jvm.ClassFile.FieldType.int)) ∈ tbl := tbl_of (List.mem_of_getElem? (i := 813) (by decide +kernel)) (by decide +kernel)
theorem kw_768 : (Jvm.Cond.methodLink "CoastLampsModel" (119 : Nat) ({ cls := "CoastLampsModel", name := "rankOil", desc := "(I)I" } : Jvm.MethodName)) ∈ tbl := tbl_of (List.mem_of_getElem? (i := 814) (by decide +kernel)) (by decide +kernel)
theorem kw_770 : (Jvm.Cond.instanceMethod ({ cls := "CoastLampsModel", name := "rankOil", desc := "(I)I" } : Jvm.MethodName)) ∈ tbl := tbl_of (List.mem_of_getElem? (i := 816) (by decide +kernel)) (by decide +kernel)
theorem kw_771 : (Jvm.Cond.code ({ cls := "CoastLampsModel", name := "rankOil", desc := "(I)I" } : Jvm.MethodName) prog_14_method_34_code (2 : Nat) (Option.some Jvm.ClassFile.FieldType.int)) ∈ tbl := tbl_of (List.mem_of_getElem? (i := 817) (by decide +kernel)) (by decide +kernel)
theorem kw_772 : (Jvm.Cond.methodLink "CoastLampsModel" (116 : Nat) ({ cls := "CoastLampsModel", name := "rankLamp", desc := "(I)I" } : Jvm.MethodName)) ∈ tbl := tbl_of (List.mem_of_getElem? (i := 818) (by decide +kernel)) (by decide +kernel)
theorem kw_774 : (Jvm.Cond.instanceMethod ({ cls := "CoastLampsModel", name := "rankLamp", desc := "(I)I" } : Jvm.MethodName)) ∈ tbl := tbl_of (List.mem_of_getElem? (i := 820) (by decide +kernel)) (by decide +kernel)
theorem kw_775 : (Jvm.Cond.code ({ cls := "CoastLampsModel", name := "rankLamp", desc := "(I)I" } : Jvm.MethodName) prog_14_method_33_code (2 : Nat) (Option.some Jvm.ClassFile.FieldType.int)) ∈ tbl := tbl_of (List.mem_of_getElem? (i := 821) (by decide +kernel)) (by decide +kernel)
theorem kw_776 : (Jvm.Cond.methodLink "CoastLampsModel" (125 : Nat) ({ cls := "CoastLampsModel", name := "rankDrum", desc := "(I)I" } : Jvm.MethodName)) ∈ tbl := tbl_of (List.mem_of_getElem? (i := 822) (by decide +kernel)) (by decide +kernel)
theorem kw_778 : (Jvm.Cond.instanceMethod ({ cls := "CoastLampsModel", name := "rankDrum", desc := "(I)I" } : Jvm.MethodName)) ∈ tbl := tbl_of (List.mem_of_getElem? (i := 824) (by decide +kernel)) (by decide +kernel)
theorem kw_779 : (Jvm.Cond.code ({ cls := "CoastLampsModel", name := "rankDrum", desc := "(I)I" } : Jvm.MethodName) prog_14_method_35_code (2 : Nat) (Option.some Jvm.ClassFile.FieldType.int)) ∈ tbl := tbl_of (List.mem_of_getElem? (i := 825) (by decide +kernel)) (by decide +kernel)
theorem kw_780 : (Jvm.Cond.methodLink "CoastLampsModel" (128 : Nat) ({ cls := "CoastLampsModel", name := "rankOuter", desc := "(I)I" } : Jvm.MethodName)) ∈ tbl := tbl_of (List.mem_of_getElem? (i := 826) (by decide +kernel)) (by decide +kernel)
theorem kw_782 : (Jvm.Cond.instanceMethod ({ cls := "CoastLampsModel", name := "rankOuter", desc := "(I)I" } : Jvm.MethodName)) ∈ tbl := tbl_of (List.mem_of_getElem? (i := 828) (by decide +kernel)) (by decide +kernel)
theorem kw_783 : (Jvm.Cond.code ({ cls := "CoastLampsModel", name := "rankOuter", desc := "(I)I" } : Jvm.MethodName) prog_14_method_37_code (2 : Nat) (Option.some Jvm.ClassFile.FieldType.int)) ∈ tbl := tbl_of (List.mem_of_getElem? (i := 829) (by decide +kernel)) (by decide +kernel)
theorem kw_784 : (Jvm.Cond.methodLink "CoastLampsModel" (122 : Nat) ({ cls := "CoastLampsModel", name := "rankFlare", desc := "(I)I" } : Jvm.MethodName)) ∈ tbl := tbl_of (List.mem_of_getElem? (i := 830) (by decide +kernel)) (by decide +kernel)
theorem kw_786 : (Jvm.Cond.instanceMethod ({ cls := "CoastLampsModel", name := "rankFlare", desc := "(I)I" } : Jvm.MethodName)) ∈ tbl := tbl_of (List.mem_of_getElem? (i := 832) (by decide +kernel)) (by decide +kernel)
theorem kw_787 : (Jvm.Cond.code ({ cls := "CoastLampsModel", name := "rankFlare", desc := "(I)I" } : Jvm.MethodName) prog_14_method_36_code (2 : Nat) (Option.some Jvm.ClassFile.FieldType.int)) ∈ tbl := tbl_of (List.mem_of_getElem? (i := 833) (by decide +kernel)) (by decide +kernel)
theorem kw_788 : (Jvm.Cond.methodLink "CoastLampsModel" (175 : Nat) ({ cls := "CoastLampsModel", name := "horn", desc := "(II)I" } : Jvm.MethodName)) ∈ tbl := tbl_of (List.mem_of_getElem? (i := 834) (by decide +kernel)) (by decide +kernel)
theorem kw_790 : (Jvm.Cond.instanceMethod ({ cls := "CoastLampsModel", name := "horn", desc := "(II)I" } : Jvm.MethodName)) ∈ tbl := tbl_of (List.mem_of_getElem? (i := 836) (by decide +kernel)) (by decide +kernel)
theorem kw_791 : (Jvm.Cond.code ({ cls := "CoastLampsModel", name := "horn", desc := "(II)I" } : Jvm.MethodName) prog_14_method_44_code (4 : Nat) (Option.some Jvm.ClassFile.FieldType.int)) ∈ tbl := tbl_of (List.mem_of_getElem? (i := 837) (by decide +kernel)) (by decide +kernel)
theorem kw_792 : (Jvm.Cond.methodLink "CoastLampsModel" (146 : Nat) ({ cls := "CoastLampsModel", name := "tone", desc := "(I)I" } : Jvm.MethodName)) ∈ tbl := tbl_of (List.mem_of_getElem? (i := 838) (by decide +kernel)) (by decide +kernel)
theorem kw_794 : (Jvm.Cond.instanceMethod ({ cls := "CoastLampsModel", name := "tone", desc := "(I)I" } : Jvm.MethodName)) ∈ tbl := tbl_of (List.mem_of_getElem? (i := 840) (by decide +kernel)) (by decide +kernel)
theorem kw_795 : (Jvm.Cond.code ({ cls := "CoastLampsModel", name := "tone", desc := "(I)I" } : Jvm.MethodName) prog_14_method_43_code (2 : Nat) (Option.some Jvm.ClassFile.FieldType.int)) ∈ tbl := tbl_of (List.mem_of_getElem? (i := 841) (by decide +kernel)) (by decide +kernel)
theorem kw_796 : (Jvm.Cond.methodLink "CoastLampsModel" (140 : Nat) ({ cls := "CoastLampsModel", name := "toneDrum", desc := "()I" } : Jvm.MethodName)) ∈ tbl := tbl_of (List.mem_of_getElem? (i := 842) (by decide +kernel)) (by decide +kernel)
theorem kw_798 : (Jvm.Cond.instanceMethod ({ cls := "CoastLampsModel", name := "toneDrum", desc := "()I" } : Jvm.MethodName)) ∈ tbl := tbl_of (List.mem_of_getElem? (i := 844) (by decide +kernel)) (by decide +kernel)
theorem kw_799 : (Jvm.Cond.code ({ cls := "CoastLampsModel", name := "toneDrum", desc := "()I" } : Jvm.MethodName) prog_14_method_40_code (1 : Nat) (Option.some Jvm.ClassFile.FieldType.int)) ∈ tbl := tbl_of (List.mem_of_getElem? (i := 845) (by decide +kernel)) (by decide +kernel)
theorem kw_800 : (Jvm.Cond.methodLink "CoastLampsModel" (131 : Nat) ({ cls := "CoastLampsModel", name := "toneOil", desc := "()I" } : Jvm.MethodName)) ∈ tbl := tbl_of (List.mem_of_getElem? (i := 846) (by decide +kernel)) (by decide +kernel)
theorem kw_802 : (Jvm.Cond.instanceMethod ({ cls := "CoastLampsModel", name := "toneOil", desc := "()I" } : Jvm.MethodName)) ∈ tbl := tbl_of (List.mem_of_getElem? (i := 848) (by decide +kernel)) (by decide +kernel)
theorem kw_803 : (Jvm.Cond.code ({ cls := "CoastLampsModel", name := "toneOil", desc := "()I" } : Jvm.MethodName) prog_14_method_39_code (1 : Nat) (Option.some Jvm.ClassFile.FieldType.int)) ∈ tbl := tbl_of (List.mem_of_getElem? (i := 849) (by decide +kernel)) (by decide +kernel)
theorem kw_804 : (Jvm.Cond.methodLink "CoastLampsModel" (134 : Nat) ({ cls := "CoastLampsModel", name := "toneFlare", desc := "()I" } : Jvm.MethodName)) ∈ tbl := tbl_of (List.mem_of_getElem? (i := 850) (by decide +kernel)) (by decide +kernel)
theorem kw_806 : (Jvm.Cond.instanceMethod ({ cls := "CoastLampsModel", name := "toneFlare", desc := "()I" } : Jvm.MethodName)) ∈ tbl := tbl_of (List.mem_of_getElem? (i := 852) (by decide +kernel)) (by decide +kernel)
theorem kw_807 : (Jvm.Cond.code ({ cls := "CoastLampsModel", name := "toneFlare", desc := "()I" } : Jvm.MethodName) prog_14_method_41_code (1 : Nat) (Option.some Jvm.ClassFile.FieldType.int)) ∈ tbl := tbl_of (List.mem_of_getElem? (i := 853) (by decide +kernel)) (by decide +kernel)
theorem kw_808 : (Jvm.Cond.methodLink "CoastLampsModel" (143 : Nat) ({ cls := "CoastLampsModel", name := "toneOuter", desc := "(I)I" } : Jvm.MethodName)) ∈ tbl := tbl_of (List.mem_of_getElem? (i := 854) (by decide +kernel)) (by decide +kernel)
theorem kw_810 : (Jvm.Cond.instanceMethod ({ cls := "CoastLampsModel", name := "toneOuter", desc := "(I)I" } : Jvm.MethodName)) ∈ tbl := tbl_of (List.mem_of_getElem? (i := 856) (by decide +kernel)) (by decide +kernel)
theorem kw_811 : (Jvm.Cond.code ({ cls := "CoastLampsModel", name := "toneOuter", desc := "(I)I" } : Jvm.MethodName) prog_14_method_42_code (3 : Nat) (Option.some Jvm.ClassFile.FieldType.int)) ∈ tbl := tbl_of (List.mem_of_getElem? (i := 857) (by decide +kernel)) (by decide +kernel)
theorem kw_812 : (Jvm.Cond.methodLink "CoastLampsLaw" (31 : Nat) ({ cls := "CoastLampsModel", name := "trace", desc := "(I)I" } : Jvm.MethodName)) ∈ tbl := tbl_of (List.mem_of_getElem? (i := 858) (by decide +kernel)) (by decide +kernel)
theorem kw_813 : (Jvm.Cond.instanceMethod ({ cls := "CoastLampsModel", name := "trace", desc := "(I)I" } : Jvm.MethodName)) ∈ tbl := tbl_of (List.mem_of_getElem? (i := 859) (by decide +kernel)) (by decide +kernel)
theorem kw_814 : (Jvm.Cond.selects "CoastLampsModel" ({ cls := "CoastLampsModel", name := "trace", desc := "(I)I" } : Jvm.MethodName) ({ cls := "CoastLampsModel", name := "trace", desc := "(I)I" } : Jvm.MethodName)) ∈ tbl := tbl_of (List.mem_of_getElem? (i := 860) (by decide +kernel)) (by decide +kernel)
theorem kw_815 : (Jvm.Cond.code ({ cls := "CoastLampsModel", name := "trace", desc := "(I)I" } : Jvm.MethodName) prog_14_method_48_code (2 : Nat) (Option.some Jvm.ClassFile.FieldType.int)) ∈ tbl := tbl_of (List.mem_of_getElem? (i := 861) (by decide +kernel)) (by decide +kernel)
theorem kw_816 : (Jvm.Cond.methodLink "CoastLampsLaw" (36 : Nat) ({ cls := "CoastLampsModel", name := "haul", desc := "(I)J" } : Jvm.MethodName)) ∈ tbl := tbl_of (List.mem_of_getElem? (i := 862) (by decide +kernel)) (by decide +kernel)
theorem kw_817 : (Jvm.Cond.instanceMethod ({ cls := "CoastLampsModel", name := "haul", desc := "(I)J" } : Jvm.MethodName)) ∈ tbl := tbl_of (List.mem_of_getElem? (i := 863) (by decide +kernel)) (by decide +kernel)
theorem kw_818 : (Jvm.Cond.selects "CoastLampsModel" ({ cls := "CoastLampsModel", name := "haul", desc := "(I)J" } : Jvm.MethodName) ({ cls := "CoastLampsModel", name := "haul", desc := "(I)J" } : Jvm.MethodName)) ∈ tbl := tbl_of (List.mem_of_getElem? (i := 864) (by decide +kernel)) (by decide +kernel)
theorem kw_819 : (Jvm.Cond.code ({ cls := "CoastLampsModel", name := "haul", desc := "(I)J" } : Jvm.MethodName) prog_14_method_49_code (2 : Nat) (Option.some Jvm.ClassFile.FieldType.long)) ∈ tbl := tbl_of (List.mem_of_getElem? (i := 865) (by decide +kernel)) (by decide +kernel)
theorem kw_820 : (Jvm.Cond.constant "CoastLampsModel" (178 : Nat) (100000 : Int32)) ∈ tbl := tbl_of (List.mem_of_getElem? (i := 866) (by decide +kernel)) (by decide +kernel)
theorem kw_821 : (Jvm.Cond.methodLink "CoastLampsLaw" (40 : Nat) ({ cls := "CoastLampsModel", name := "fill", desc := "(II)I" } : Jvm.MethodName)) ∈ tbl := tbl_of (List.mem_of_getElem? (i := 867) (by decide +kernel)) (by decide +kernel)
theorem kw_822 : (Jvm.Cond.instanceMethod ({ cls := "CoastLampsModel", name := "fill", desc := "(II)I" } : Jvm.MethodName)) ∈ tbl := tbl_of (List.mem_of_getElem? (i := 868) (by decide +kernel)) (by decide +kernel)
theorem kw_823 : (Jvm.Cond.selects "CoastLampsModel" ({ cls := "CoastLampsModel", name := "fill", desc := "(II)I" } : Jvm.MethodName) ({ cls := "CoastLampsModel", name := "fill", desc := "(II)I" } : Jvm.MethodName)) ∈ tbl := tbl_of (List.mem_of_getElem? (i := 869) (by decide +kernel)) (by decide +kernel)
theorem kw_824 : (Jvm.Cond.code ({ cls := "CoastLampsModel", name := "fill", desc := "(II)I" } : Jvm.MethodName) prog_14_method_50_code (3 : Nat) (Option.some Jvm.ClassFile.FieldType.int)) ∈ tbl := tbl_of (List.mem_of_getElem? (i := 870) (by decide +kernel)) (by decide +kernel)
theorem kw_825 : (Jvm.Cond.constant "CoastLampsModel" (183 : Nat) (1000000 : Int32)) ∈ tbl := tbl_of (List.mem_of_getElem? (i := 871) (by decide +kernel)) (by decide +kernel)
theorem kw_826 : (Jvm.Cond.methodLink "CoastLampsLaw" (45 : Nat) ({ cls := "CoastLampsModel", name := "light", desc := "(IZ)I" } : Jvm.MethodName)) ∈ tbl := tbl_of (List.mem_of_getElem? (i := 872) (by decide +kernel)) (by decide +kernel)
theorem kw_827 : (Jvm.Cond.instanceMethod ({ cls := "CoastLampsModel", name := "light", desc := "(IZ)I" } : Jvm.MethodName)) ∈ tbl := tbl_of (List.mem_of_getElem? (i := 873) (by decide +kernel)) (by decide +kernel)
theorem kw_828 : (Jvm.Cond.selects "CoastLampsModel" ({ cls := "CoastLampsModel", name := "light", desc := "(IZ)I" } : Jvm.MethodName) ({ cls := "CoastLampsModel", name := "light", desc := "(IZ)I" } : Jvm.MethodName)) ∈ tbl := tbl_of (List.mem_of_getElem? (i := 874) (by decide +kernel)) (by decide +kernel)
theorem kw_829 : (Jvm.Cond.code ({ cls := "CoastLampsModel", name := "light", desc := "(IZ)I" } : Jvm.MethodName) prog_14_method_51_code (3 : Nat) (Option.some Jvm.ClassFile.FieldType.int)) ∈ tbl := tbl_of (List.mem_of_getElem? (i := 875) (by decide +kernel)) (by decide +kernel)
theorem kw_830 : (Jvm.Cond.methodLink "CoastLampsLaw" (49 : Nat) ({ cls := "CoastLampsModel", name := "night", desc := "(I)I" } : Jvm.MethodName)) ∈ tbl := tbl_of (List.mem_of_getElem? (i := 876) (by decide +kernel)) (by decide +kernel)
theorem kw_831 : (Jvm.Cond.instanceMethod ({ cls := "CoastLampsModel", name := "night", desc := "(I)I" } : Jvm.MethodName)) ∈ tbl := tbl_of (List.mem_of_getElem? (i := 877) (by decide +kernel)) (by decide +kernel)
theorem kw_832 : (Jvm.Cond.selects "CoastLampsModel" ({ cls := "CoastLampsModel", name := "night", desc := "(I)I" } : Jvm.MethodName) ({ cls := "CoastLampsModel", name := "night", desc := "(I)I" } : Jvm.MethodName)) ∈ tbl := tbl_of (List.mem_of_getElem? (i := 878) (by decide +kernel)) (by decide +kernel)
theorem kw_833 : (Jvm.Cond.code ({ cls := "CoastLampsModel", name := "night", desc := "(I)I" } : Jvm.MethodName) prog_14_method_53_code (5 : Nat) (Option.some Jvm.ClassFile.FieldType.int)) ∈ tbl := tbl_of (List.mem_of_getElem? (i := 879) (by decide +kernel)) (by decide +kernel)
theorem kw_834 : (Jvm.Cond.methodLink "CoastLampsModel" (187 : Nat) ({ cls := "CoastLampsModel", name := "isAnyLit", desc := "()Z" } : Jvm.MethodName)) ∈ tbl := tbl_of (List.mem_of_getElem? (i := 880) (by decide +kernel)) (by decide +kernel)
theorem kw_836 : (Jvm.Cond.instanceMethod ({ cls := "CoastLampsModel", name := "isAnyLit", desc := "()Z" } : Jvm.MethodName)) ∈ tbl := tbl_of (List.mem_of_getElem? (i := 882) (by decide +kernel)) (by decide +kernel)
theorem kw_837 : (Jvm.Cond.code ({ cls := "CoastLampsModel", name := "isAnyLit", desc := "()Z" } : Jvm.MethodName) prog_14_method_52_code (3 : Nat) (Option.some Jvm.ClassFile.FieldType.boolean)) ∈ tbl := tbl_of (List.mem_of_getElem? (i := 883) (by decide +kernel)) (by decide +kernel)
theorem kw_838 : (Jvm.Cond.methodLink "CoastLampsLaw" (53 : Nat) ({ cls := "CoastLampsModel", name := "seen", desc := "(I)I" } : Jvm.MethodName)) ∈ tbl := tbl_of (List.mem_of_getElem? (i := 884) (by decide +kernel)) (by decide +kernel)
theorem kw_839 : (Jvm.Cond.instanceMethod ({ cls := "CoastLampsModel", name := "seen", desc := "(I)I" } : Jvm.MethodName)) ∈ tbl := tbl_of (List.mem_of_getElem? (i := 885) (by decide +kernel)) (by decide +kernel)
theorem kw_840 : (Jvm.Cond.selects "CoastLampsModel" ({ cls := "CoastLampsModel", name := "seen", desc := "(I)I" } : Jvm.MethodName) ({ cls := "CoastLampsModel", name := "seen", desc := "(I)I" } : Jvm.MethodName)) ∈ tbl := tbl_of (List.mem_of_getElem? (i := 886) (by decide +kernel)) (by decide +kernel)
theorem kw_841 : (Jvm.Cond.code ({ cls := "CoastLampsModel", name := "seen", desc := "(I)I" } : Jvm.MethodName) prog_14_method_54_code (6 : Nat) (Option.some Jvm.ClassFile.FieldType.int)) ∈ tbl := tbl_of (List.mem_of_getElem? (i := 887) (by decide +kernel)) (by decide +kernel)
theorem kw_842 : (Jvm.Cond.methodLink "CoastLampsLaw" (57 : Nat) ({ cls := "CoastLampsModel", name := "blow", desc := "(II)I" } : Jvm.MethodName)) ∈ tbl := tbl_of (List.mem_of_getElem? (i := 888) (by decide +kernel)) (by decide +kernel)
theorem kw_843 : (Jvm.Cond.instanceMethod ({ cls := "CoastLampsModel", name := "blow", desc := "(II)I" } : Jvm.MethodName)) ∈ tbl := tbl_of (List.mem_of_getElem? (i := 889) (by decide +kernel)) (by decide +kernel)
theorem kw_844 : (Jvm.Cond.selects "CoastLampsModel" ({ cls := "CoastLampsModel", name := "blow", desc := "(II)I" } : Jvm.MethodName) ({ cls := "CoastLampsModel", name := "blow", desc := "(II)I" } : Jvm.MethodName)) ∈ tbl := tbl_of (List.mem_of_getElem? (i := 890) (by decide +kernel)) (by decide +kernel)
theorem kw_845 : (Jvm.Cond.code ({ cls := "CoastLampsModel", name := "blow", desc := "(II)I" } : Jvm.MethodName) prog_14_method_55_code (3 : Nat) (Option.some Jvm.ClassFile.FieldType.int)) ∈ tbl := tbl_of (List.mem_of_getElem? (i := 891) (by decide +kernel)) (by decide +kernel)
theorem kw_846 : (Jvm.Cond.methodLink "CoastLampsLaw" (62 : Nat) ({ cls := "CoastLampsModel", name := "blown", desc := "()I" } : Jvm.MethodName)) ∈ tbl := tbl_of (List.mem_of_getElem? (i := 892) (by decide +kernel)) (by decide +kernel)
theorem kw_847 : (Jvm.Cond.instanceMethod ({ cls := "CoastLampsModel", name := "blown", desc := "()I" } : Jvm.MethodName)) ∈ tbl := tbl_of (List.mem_of_getElem? (i := 893) (by decide +kernel)) (by decide +kernel)
theorem kw_848 : (Jvm.Cond.selects "CoastLampsModel" ({ cls := "CoastLampsModel", name := "blown", desc := "()I" } : Jvm.MethodName) ({ cls := "CoastLampsModel", name := "blown", desc := "()I" } : Jvm.MethodName)) ∈ tbl := tbl_of (List.mem_of_getElem? (i := 894) (by decide +kernel)) (by decide +kernel)
theorem kw_849 : (Jvm.Cond.code ({ cls := "CoastLampsModel", name := "blown", desc := "()I" } : Jvm.MethodName) prog_14_method_56_code (1 : Nat) (Option.some Jvm.ClassFile.FieldType.int)) ∈ tbl := tbl_of (List.mem_of_getElem? (i := 895) (by decide +kernel)) (by decide +kernel)
theorem kw_850 : (Jvm.Cond.methodLink "CoastLampsLaw" (67 : Nat) ({ cls := "CoastLampsModel", name := "told", desc := "(II)J" } : Jvm.MethodName)) ∈ tbl := tbl_of (List.mem_of_getElem? (i := 896) (by decide +kernel)) (by decide +kernel)
theorem kw_851 : (Jvm.Cond.instanceMethod ({ cls := "CoastLampsModel", name := "told", desc := "(II)J" } : Jvm.MethodName)) ∈ tbl := tbl_of (List.mem_of_getElem? (i := 897) (by decide +kernel)) (by decide +kernel)
theorem kw_852 : (Jvm.Cond.selects "CoastLampsModel" ({ cls := "CoastLampsModel", name := "told", desc := "(II)J" } : Jvm.MethodName) ({ cls := "CoastLampsModel", name := "told", desc := "(II)J" } : Jvm.MethodName)) ∈ tbl := tbl_of (List.mem_of_getElem? (i := 898) (by decide +kernel)) (by decide +kernel)
theorem kw_853 : (Jvm.Cond.code ({ cls := "CoastLampsModel", name := "told", desc := "(II)J" } : Jvm.MethodName) prog_14_method_57_code (3 : Nat) (Option.some Jvm.ClassFile.FieldType.long)) ∈ tbl := tbl_of (List.mem_of_getElem? (i := 899) (by decide +kernel)) (by decide +kernel)
theorem kw_854 : (Jvm.Cond.methodLink "CoastLampsLaw" (71 : Nat) ({ cls := "CoastLampsModel", name := "count", desc := "(I)I" } : Jvm.MethodName)) ∈ tbl := tbl_of (List.mem_of_getElem? (i := 900) (by decide +kernel)) (by decide +kernel)
theorem kw_855 : (Jvm.Cond.instanceMethod ({ cls := "CoastLampsModel", name := "count", desc := "(I)I" } : Jvm.MethodName)) ∈ tbl := tbl_of (List.mem_of_getElem? (i := 901) (by decide +kernel)) (by decide +kernel)
theorem kw_856 : (Jvm.Cond.selects "CoastLampsModel" ({ cls := "CoastLampsModel", name := "count", desc := "(I)I" } : Jvm.MethodName) ({ cls := "CoastLampsModel", name := "count", desc := "(I)I" } : Jvm.MethodName)) ∈ tbl := tbl_of (List.mem_of_getElem? (i := 902) (by decide +kernel)) (by decide +kernel)
theorem kw_857 : (Jvm.Cond.code ({ cls := "CoastLampsModel", name := "count", desc := "(I)I" } : Jvm.MethodName) prog_14_method_58_code (2 : Nat) (Option.some Jvm.ClassFile.FieldType.int)) ∈ tbl := tbl_of (List.mem_of_getElem? (i := 903) (by decide +kernel)) (by decide +kernel)
theorem kw_858 : (Jvm.Cond.methodLink "CoastLampsLaw" (76 : Nat) ({ cls := "CoastLampsModel", name := "store", desc := "()J" } : Jvm.MethodName)) ∈ tbl := tbl_of (List.mem_of_getElem? (i := 904) (by decide +kernel)) (by decide +kernel)
theorem kw_859 : (Jvm.Cond.instanceMethod ({ cls := "CoastLampsModel", name := "store", desc := "()J" } : Jvm.MethodName)) ∈ tbl := tbl_of (List.mem_of_getElem? (i := 905) (by decide +kernel)) (by decide +kernel)
theorem kw_860 : (Jvm.Cond.selects "CoastLampsModel" ({ cls := "CoastLampsModel", name := "store", desc := "()J" } : Jvm.MethodName) ({ cls := "CoastLampsModel", name := "store", desc := "()J" } : Jvm.MethodName)) ∈ tbl := tbl_of (List.mem_of_getElem? (i := 906) (by decide +kernel)) (by decide +kernel)
theorem kw_861 : (Jvm.Cond.code ({ cls := "CoastLampsModel", name := "store", desc := "()J" } : Jvm.MethodName) prog_14_method_59_code (1 : Nat) (Option.some Jvm.ClassFile.FieldType.long)) ∈ tbl := tbl_of (List.mem_of_getElem? (i := 907) (by decide +kernel)) (by decide +kernel)
theorem kw_862 : (Jvm.Cond.sameMethod "CoastLamps$Twin" "CoastLamps$Twin" "reach" "(I)I") ∈ tbl := tbl_of (List.mem_of_getElem? (i := 908) (by decide +kernel)) (by decide +kernel)
theorem kw_863 : (Jvm.Cond.sameMethod "CoastLamps$Round" "CoastLamps$Round" "reach" "(I)I") ∈ tbl := tbl_of (List.mem_of_getElem? (i := 909) (by decide +kernel)) (by decide +kernel)
theorem kw_864 : (Jvm.Cond.selects "CoastLamps$Outer" ({ cls := "CoastLamps$Outer", name := "rank", desc := "()I" } : Jvm.MethodName) ({ cls := "CoastLamps$Outer", name := "rank", desc := "()I" } : Jvm.MethodName)) ∈ tbl := tbl_of (List.mem_of_getElem? (i := 910) (by decide +kernel)) (by decide +kernel)
theorem kw_865 : (Jvm.Cond.castable "CoastLamps$Buoy" "CoastLamps$Lamp") ∈ lw_tbl := List.mem_of_getElem? (i := 911) (by decide +kernel)
theorem kw_866 : (Jvm.Cond.castable "CoastLamps$Drum" "CoastLamps$Lamp") ∈ lw_tbl := List.mem_of_getElem? (i := 912) (by decide +kernel)
theorem kw_867 : (Jvm.Cond.castable "CoastLamps$Flare" "CoastLamps$Lamp") ∈ lw_tbl := List.mem_of_getElem? (i := 913) (by decide +kernel)
theorem kw_868 : (Jvm.Cond.castable "CoastLamps$Gas" "CoastLamps$Lamp") ∈ lw_tbl := List.mem_of_getElem? (i := 914) (by decide +kernel)
theorem kw_869 : (Jvm.Cond.castable "CoastLamps$Oil" "CoastLamps$Lamp") ∈ lw_tbl := List.mem_of_getElem? (i := 915) (by decide +kernel)
theorem kw_870 : (Jvm.Cond.castable "CoastLamps$Outer" "CoastLamps$Lamp") ∈ lw_tbl := List.mem_of_getElem? (i := 916) (by decide +kernel)
theorem kw_871 : (Jvm.Cond.castable "CoastLamps$Round" "CoastLamps$Lamp") ∈ lw_tbl := List.mem_of_getElem? (i := 917) (by decide +kernel)
theorem kw_872 : (Jvm.Cond.castable "CoastLamps$Swing" "CoastLamps$Lamp") ∈ lw_tbl := List.mem_of_getElem? (i := 918) (by decide +kernel)
theorem kw_873 : (Jvm.Cond.castable "CoastLamps$Twin" "CoastLamps$Lamp") ∈ lw_tbl := List.mem_of_getElem? (i := 919) (by decide +kernel)
theorem ks_0 : Cond.selects "CoastLamps" (⟨"CoastLamps", "made", "(II)LCoastLamps$Lamp;"⟩ : MethodName) (⟨"CoastLamps", "made", "(II)LCoastLamps$Lamp;"⟩ : MethodName) ∈ tbl := tbl_of (List.mem_of_getElem? (i := 0) (by decide +kernel)) (by decide +kernel)
theorem ks_1 : Cond.selects "CoastLamps" (⟨"CoastLamps", "lampAt", "(I)LCoastLamps$Lamp;"⟩ : MethodName) (⟨"CoastLamps", "lampAt", "(I)LCoastLamps$Lamp;"⟩ : MethodName) ∈ tbl := tbl_of (List.mem_of_getElem? (i := 1) (by decide +kernel)) (by decide +kernel)
theorem ks_2 : Cond.selects "CoastLamps" (⟨"CoastLamps", "beginAct", "()V"⟩ : MethodName) (⟨"CoastLamps", "beginAct", "()V"⟩ : MethodName) ∈ tbl := tbl_of (List.mem_of_getElem? (i := 2) (by decide +kernel)) (by decide +kernel)
theorem ks_3 : Cond.selects "CoastLamps" (⟨"CoastLamps", "anyLit", "()Z"⟩ : MethodName) (⟨"CoastLamps", "anyLit", "()Z"⟩ : MethodName) ∈ tbl := tbl_of (List.mem_of_getElem? (i := 3) (by decide +kernel)) (by decide +kernel)
theorem ks_4 : Cond.selects "CoastLampsModel" (⟨"CoastLampsModel", "isLamp", "(I)Z"⟩ : MethodName) (⟨"CoastLampsModel", "isLamp", "(I)Z"⟩ : MethodName) ∈ tbl := tbl_of (List.mem_of_getElem? (i := 4) (by decide +kernel)) (by decide +kernel)
theorem ks_5 : Cond.selects "CoastLampsModel" (⟨"CoastLampsModel", "act", "()V"⟩ : MethodName) (⟨"CoastLampsModel", "act", "()V"⟩ : MethodName) ∈ tbl := tbl_of (List.mem_of_getElem? (i := 5) (by decide +kernel)) (by decide +kernel)
theorem ks_6 : Cond.selects "CoastLampsModel" (⟨"CoastLampsModel", "isHorned", "(I)Z"⟩ : MethodName) (⟨"CoastLampsModel", "isHorned", "(I)Z"⟩ : MethodName) ∈ tbl := tbl_of (List.mem_of_getElem? (i := 6) (by decide +kernel)) (by decide +kernel)
theorem ks_7 : Cond.selects "CoastLampsModel" (⟨"CoastLampsModel", "burn", "(II)I"⟩ : MethodName) (⟨"CoastLampsModel", "burn", "(II)I"⟩ : MethodName) ∈ tbl := tbl_of (List.mem_of_getElem? (i := 7) (by decide +kernel)) (by decide +kernel)
theorem ks_8 : Cond.selects "CoastLampsModel" (⟨"CoastLampsModel", "burnOil", "(II)I"⟩ : MethodName) (⟨"CoastLampsModel", "burnOil", "(II)I"⟩ : MethodName) ∈ tbl := tbl_of (List.mem_of_getElem? (i := 8) (by decide +kernel)) (by decide +kernel)
theorem ks_9 : Cond.selects "CoastLampsModel" (⟨"CoastLampsModel", "begins", "(I)V"⟩ : MethodName) (⟨"CoastLampsModel", "begins", "(I)V"⟩ : MethodName) ∈ tbl := tbl_of (List.mem_of_getElem? (i := 9) (by decide +kernel)) (by decide +kernel)
theorem ks_10 : Cond.selects "CoastLampsModel" (⟨"CoastLampsModel", "burnLamp", "(II)I"⟩ : MethodName) (⟨"CoastLampsModel", "burnLamp", "(II)I"⟩ : MethodName) ∈ tbl := tbl_of (List.mem_of_getElem? (i := 10) (by decide +kernel)) (by decide +kernel)
theorem ks_11 : Cond.selects "CoastLampsModel" (⟨"CoastLampsModel", "burnTwin", "(II)I"⟩ : MethodName) (⟨"CoastLampsModel", "burnTwin", "(II)I"⟩ : MethodName) ∈ tbl := tbl_of (List.mem_of_getElem? (i := 11) (by decide +kernel)) (by decide +kernel)
theorem ks_12 : Cond.selects "CoastLampsModel" (⟨"CoastLampsModel", "burnSwing", "(II)I"⟩ : MethodName) (⟨"CoastLampsModel", "burnSwing", "(II)I"⟩ : MethodName) ∈ tbl := tbl_of (List.mem_of_getElem? (i := 12) (by decide +kernel)) (by decide +kernel)
theorem ks_13 : Cond.selects "CoastLampsModel" (⟨"CoastLampsModel", "burnOuter", "(II)I"⟩ : MethodName) (⟨"CoastLampsModel", "burnOuter", "(II)I"⟩ : MethodName) ∈ tbl := tbl_of (List.mem_of_getElem? (i := 13) (by decide +kernel)) (by decide +kernel)
theorem ks_14 : Cond.selects "CoastLampsModel" (⟨"CoastLampsModel", "burnFlare", "(II)I"⟩ : MethodName) (⟨"CoastLampsModel", "burnFlare", "(II)I"⟩ : MethodName) ∈ tbl := tbl_of (List.mem_of_getElem? (i := 14) (by decide +kernel)) (by decide +kernel)
theorem ks_15 : Cond.selects "CoastLampsModel" (⟨"CoastLampsModel", "reach", "(II)I"⟩ : MethodName) (⟨"CoastLampsModel", "reach", "(II)I"⟩ : MethodName) ∈ tbl := tbl_of (List.mem_of_getElem? (i := 15) (by decide +kernel)) (by decide +kernel)
theorem ks_16 : Cond.selects "CoastLampsModel" (⟨"CoastLampsModel", "reachLamp", "(II)I"⟩ : MethodName) (⟨"CoastLampsModel", "reachLamp", "(II)I"⟩ : MethodName) ∈ tbl := tbl_of (List.mem_of_getElem? (i := 16) (by decide +kernel)) (by decide +kernel)
theorem ks_17 : Cond.selects "CoastLampsModel" (⟨"CoastLampsModel", "reachRound", "(II)I"⟩ : MethodName) (⟨"CoastLampsModel", "reachRound", "(II)I"⟩ : MethodName) ∈ tbl := tbl_of (List.mem_of_getElem? (i := 17) (by decide +kernel)) (by decide +kernel)
theorem ks_18 : Cond.selects "CoastLampsModel" (⟨"CoastLampsModel", "reachTwin", "(II)I"⟩ : MethodName) (⟨"CoastLampsModel", "reachTwin", "(II)I"⟩ : MethodName) ∈ tbl := tbl_of (List.mem_of_getElem? (i := 18) (by decide +kernel)) (by decide +kernel)
theorem ks_19 : Cond.selects "CoastLampsModel" (⟨"CoastLampsModel", "reachDrum", "(II)I"⟩ : MethodName) (⟨"CoastLampsModel", "reachDrum", "(II)I"⟩ : MethodName) ∈ tbl := tbl_of (List.mem_of_getElem? (i := 19) (by decide +kernel)) (by decide +kernel)
theorem ks_20 : Cond.selects "CoastLampsModel" (⟨"CoastLampsModel", "reachGas", "(II)I"⟩ : MethodName) (⟨"CoastLampsModel", "reachGas", "(II)I"⟩ : MethodName) ∈ tbl := tbl_of (List.mem_of_getElem? (i := 20) (by decide +kernel)) (by decide +kernel)
theorem ks_21 : Cond.selects "CoastLampsModel" (⟨"CoastLampsModel", "reachBuoy", "(II)I"⟩ : MethodName) (⟨"CoastLampsModel", "reachBuoy", "(II)I"⟩ : MethodName) ∈ tbl := tbl_of (List.mem_of_getElem? (i := 21) (by decide +kernel)) (by decide +kernel)
theorem ks_22 : Cond.selects "CoastLampsModel" (⟨"CoastLampsModel", "flash", "(II)I"⟩ : MethodName) (⟨"CoastLampsModel", "flash", "(II)I"⟩ : MethodName) ∈ tbl := tbl_of (List.mem_of_getElem? (i := 22) (by decide +kernel)) (by decide +kernel)
theorem ks_23 : Cond.selects "CoastLampsModel" (⟨"CoastLampsModel", "flashTwin", "(I)I"⟩ : MethodName) (⟨"CoastLampsModel", "flashTwin", "(I)I"⟩ : MethodName) ∈ tbl := tbl_of (List.mem_of_getElem? (i := 23) (by decide +kernel)) (by decide +kernel)
theorem ks_24 : Cond.selects "CoastLampsModel" (⟨"CoastLampsModel", "flashLamp", "()I"⟩ : MethodName) (⟨"CoastLampsModel", "flashLamp", "()I"⟩ : MethodName) ∈ tbl := tbl_of (List.mem_of_getElem? (i := 24) (by decide +kernel)) (by decide +kernel)
theorem ks_25 : Cond.selects "CoastLampsModel" (⟨"CoastLampsModel", "flashSwing", "(I)I"⟩ : MethodName) (⟨"CoastLampsModel", "flashSwing", "(I)I"⟩ : MethodName) ∈ tbl := tbl_of (List.mem_of_getElem? (i := 25) (by decide +kernel)) (by decide +kernel)
theorem ks_26 : Cond.selects "CoastLampsModel" (⟨"CoastLampsModel", "flashFlare", "(I)I"⟩ : MethodName) (⟨"CoastLampsModel", "flashFlare", "(I)I"⟩ : MethodName) ∈ tbl := tbl_of (List.mem_of_getElem? (i := 26) (by decide +kernel)) (by decide +kernel)
theorem ks_27 : Cond.selects "CoastLampsModel" (⟨"CoastLampsModel", "flashOuter", "(I)I"⟩ : MethodName) (⟨"CoastLampsModel", "flashOuter", "(I)I"⟩ : MethodName) ∈ tbl := tbl_of (List.mem_of_getElem? (i := 27) (by decide +kernel)) (by decide +kernel)
theorem ks_28 : Cond.selects "CoastLampsModel" (⟨"CoastLampsModel", "tend", "(II)I"⟩ : MethodName) (⟨"CoastLampsModel", "tend", "(II)I"⟩ : MethodName) ∈ tbl := tbl_of (List.mem_of_getElem? (i := 28) (by decide +kernel)) (by decide +kernel)
theorem ks_29 : Cond.selects "CoastLampsModel" (⟨"CoastLampsModel", "tendRound", "(II)I"⟩ : MethodName) (⟨"CoastLampsModel", "tendRound", "(II)I"⟩ : MethodName) ∈ tbl := tbl_of (List.mem_of_getElem? (i := 29) (by decide +kernel)) (by decide +kernel)
theorem ks_30 : Cond.selects "CoastLampsModel" (⟨"CoastLampsModel", "tendLamp", "(II)I"⟩ : MethodName) (⟨"CoastLampsModel", "tendLamp", "(II)I"⟩ : MethodName) ∈ tbl := tbl_of (List.mem_of_getElem? (i := 30) (by decide +kernel)) (by decide +kernel)
theorem ks_31 : Cond.selects "CoastLampsModel" (⟨"CoastLampsModel", "tendDrum", "(II)I"⟩ : MethodName) (⟨"CoastLampsModel", "tendDrum", "(II)I"⟩ : MethodName) ∈ tbl := tbl_of (List.mem_of_getElem? (i := 31) (by decide +kernel)) (by decide +kernel)
theorem ks_32 : Cond.selects "CoastLampsModel" (⟨"CoastLampsModel", "tendBuoy", "(II)I"⟩ : MethodName) (⟨"CoastLampsModel", "tendBuoy", "(II)I"⟩ : MethodName) ∈ tbl := tbl_of (List.mem_of_getElem? (i := 32) (by decide +kernel)) (by decide +kernel)
theorem ks_33 : Cond.selects "CoastLampsModel" (⟨"CoastLampsModel", "rank", "(I)I"⟩ : MethodName) (⟨"CoastLampsModel", "rank", "(I)I"⟩ : MethodName) ∈ tbl := tbl_of (List.mem_of_getElem? (i := 33) (by decide +kernel)) (by decide +kernel)
theorem ks_34 : Cond.selects "CoastLampsModel" (⟨"CoastLampsModel", "rankOil", "(I)I"⟩ : MethodName) (⟨"CoastLampsModel", "rankOil", "(I)I"⟩ : MethodName) ∈ tbl := tbl_of (List.mem_of_getElem? (i := 34) (by decide +kernel)) (by decide +kernel)
theorem ks_35 : Cond.selects "CoastLampsModel" (⟨"CoastLampsModel", "rankLamp", "(I)I"⟩ : MethodName) (⟨"CoastLampsModel", "rankLamp", "(I)I"⟩ : MethodName) ∈ tbl := tbl_of (List.mem_of_getElem? (i := 35) (by decide +kernel)) (by decide +kernel)
theorem ks_36 : Cond.selects "CoastLampsModel" (⟨"CoastLampsModel", "rankDrum", "(I)I"⟩ : MethodName) (⟨"CoastLampsModel", "rankDrum", "(I)I"⟩ : MethodName) ∈ tbl := tbl_of (List.mem_of_getElem? (i := 36) (by decide +kernel)) (by decide +kernel)
theorem ks_37 : Cond.selects "CoastLampsModel" (⟨"CoastLampsModel", "rankOuter", "(I)I"⟩ : MethodName) (⟨"CoastLampsModel", "rankOuter", "(I)I"⟩ : MethodName) ∈ tbl := tbl_of (List.mem_of_getElem? (i := 37) (by decide +kernel)) (by decide +kernel)
theorem ks_38 : Cond.selects "CoastLampsModel" (⟨"CoastLampsModel", "rankFlare", "(I)I"⟩ : MethodName) (⟨"CoastLampsModel", "rankFlare", "(I)I"⟩ : MethodName) ∈ tbl := tbl_of (List.mem_of_getElem? (i := 38) (by decide +kernel)) (by decide +kernel)
theorem ks_39 : Cond.selects "CoastLampsModel" (⟨"CoastLampsModel", "horn", "(II)I"⟩ : MethodName) (⟨"CoastLampsModel", "horn", "(II)I"⟩ : MethodName) ∈ tbl := tbl_of (List.mem_of_getElem? (i := 39) (by decide +kernel)) (by decide +kernel)
theorem ks_40 : Cond.selects "CoastLampsModel" (⟨"CoastLampsModel", "tone", "(I)I"⟩ : MethodName) (⟨"CoastLampsModel", "tone", "(I)I"⟩ : MethodName) ∈ tbl := tbl_of (List.mem_of_getElem? (i := 40) (by decide +kernel)) (by decide +kernel)
theorem ks_41 : Cond.selects "CoastLampsModel" (⟨"CoastLampsModel", "toneDrum", "()I"⟩ : MethodName) (⟨"CoastLampsModel", "toneDrum", "()I"⟩ : MethodName) ∈ tbl := tbl_of (List.mem_of_getElem? (i := 41) (by decide +kernel)) (by decide +kernel)
theorem ks_42 : Cond.selects "CoastLampsModel" (⟨"CoastLampsModel", "toneOil", "()I"⟩ : MethodName) (⟨"CoastLampsModel", "toneOil", "()I"⟩ : MethodName) ∈ tbl := tbl_of (List.mem_of_getElem? (i := 42) (by decide +kernel)) (by decide +kernel)
theorem ks_43 : Cond.selects "CoastLampsModel" (⟨"CoastLampsModel", "toneFlare", "()I"⟩ : MethodName) (⟨"CoastLampsModel", "toneFlare", "()I"⟩ : MethodName) ∈ tbl := tbl_of (List.mem_of_getElem? (i := 43) (by decide +kernel)) (by decide +kernel)
theorem ks_44 : Cond.selects "CoastLampsModel" (⟨"CoastLampsModel", "toneOuter", "(I)I"⟩ : MethodName) (⟨"CoastLampsModel", "toneOuter", "(I)I"⟩ : MethodName) ∈ tbl := tbl_of (List.mem_of_getElem? (i := 44) (by decide +kernel)) (by decide +kernel)
theorem ks_45 : Cond.selects "CoastLampsModel" (⟨"CoastLampsModel", "isAnyLit", "()Z"⟩ : MethodName) (⟨"CoastLampsModel", "isAnyLit", "()Z"⟩ : MethodName) ∈ tbl := tbl_of (List.mem_of_getElem? (i := 45) (by decide +kernel)) (by decide +kernel)
theorem i_Oil : ∀ w ∈ u_ws R_Oil F_Lamp 6, w ∈ tbl := by decide +kernel
theorem i_Round : ∀ w ∈ u_ws R_Round F_Lamp 6, w ∈ tbl := by decide +kernel
theorem i_Twin : ∀ w ∈ u_ws R_Twin F_Lamp 6, w ∈ tbl := by decide +kernel
theorem i_Drum : ∀ w ∈ u_ws R_Drum F_Lamp 6, w ∈ tbl := by decide +kernel
theorem i_Swing : ∀ w ∈ u_ws R_Swing F_Lamp 6, w ∈ tbl := by decide +kernel
theorem i_Gas : ∀ w ∈ u_ws R_Gas F_Lamp 6, w ∈ tbl := by decide +kernel
theorem i_Flare : ∀ w ∈ u_ws R_Flare F_Lamp 6, w ∈ tbl := by decide +kernel
theorem i_Buoy : ∀ w ∈ u_ws R_Buoy F_Lamp 6, w ∈ tbl := by decide +kernel
theorem i_Outer : ∀ w ∈ u_ws R_Outer F_Lamp 6, w ∈ tbl := by decide +kernel
theorem i_Coast : ∀ w ∈ u_ws R_Coast F_Coast 3, w ∈ tbl := by decide +kernel
theorem i_X : ∀ w ∈ u_ws R_X F_X 7, w ∈ tbl := by decide +kernel
theorem i_M : ∀ w ∈ u_ws R_M F_M 13, w ∈ tbl := by decide +kernel
end
section
/-! my own rows: a contract with an exact end, over a whole world of cells, no cell made -/
abbrev zR (fr lo : Nat) : Room := { frames := fr, cells := 0, slots := 0, locals := lo }
def zW (D : va_G) (tys : List (ClassId × FieldType)) (A : Nat → Prop) (w : va_W) (U : State) : Prop := va_P D classes w U.heap ∧ va_K D classes tys U ∧ va_D A w
def zQ (D : va_G) (tys : List (ClassId × FieldType)) (A : Nat → Prop) (w2 : va_W) (rv : Option Value) : Array Value → State → Outcome → State → Prop := fun _ st oc t => oc = .returned rv ∧ zW D tys A w2 t ∧ va_F A st t
def zM (l : Launch) (y : MethodName) (b : ByteArray) (n : Nat) (r : Option FieldType) (fr lo : Nat) (as : List Value) (D : va_G) (tys : List (ClassId × FieldType)) (A : Nat → Prop) (w w2 : va_W) (rv : Option Value) : Prop :=
  Met l y (.code y b n r :: tbl) (zR fr lo) (va_Pc as (zW D tys A w)) (zQ D tys A w2 rv) 0 0 A
/-- what a method's body has at hand -/
def zE (p : Program) (s : State) (m : MethodId) (args : Array Value) (meth : Method) (c : Code) (own : String) (b : ByteArray) (n : Nat) (r : Option FieldType) : Prop :=
  p.tables.exec = Jvm.exec ∧ c.code = b ∧ c.maxLocals = n ∧ s.vm.findClass own = some m.cls ∧ (∀ w ∈ tbl, w.before args s = true) ∧ meth.sig.returnType = r ∧ meth.locks = false
theorem zM_of {l : Launch} {y : MethodName} {b : ByteArray} {n : Nat} {r : Option FieldType} {fr lo : Nat} {as : List Value} {D : va_G} {tys : List (ClassId × FieldType)} {A : Nat → Prop} {w w2 : va_W} {rv : Option Value} (own : String) (ho : y.cls = own) (hy : plainName own = true) (hn : (lg_sl as).length ≤ n)
    (body : ∀ (p : Program) (e : Env) (s : State) (m : MethodId) (below : List Frame) (meth : Method) (c : Code) (ls : Array Slot), zE p s m as.toArray meth c own b n r → va_P D classes w s.heap → va_K D classes tys s → va_D A w → va_S A s.heap s.heap [] → lv_has ls n (lv_args 0 as) →
      W p l e (zR fr lo) s m as.toArray below meth c s.heap [] 0 0 (MQ below (zQ D tys A w2 rv) as.toArray s 0 0 A) (F0 m 0 ls [])) : zM l y b n r fr lo as D tys A w w2 rv := by
  subst ho
  refine Met.ofW (cc := b) (maxL := n) (ret := r) hy rfl ?_
  intro p e s m args below meth c s₁ B hml hv
  obtain ⟨rfl, hP, hK, hD⟩ := hv
  have hl := lv_entry as (n := n) hn
  have hts := atoms_spec (ws := Cond.code y b n r :: tbl) B.pre
  rw [lg_entry_eq]
  exact body p e s m below meth c _ ⟨B.exec, B.bytes, hml, findClass_of_methodNamed B.named, fun w h => hts w (List.mem_cons_of_mem _ h), B.returns, B.notSynchronized⟩ hP hK hD va_S.rf hl
/-- what the tables say of a method that is called -/
def zY (y : MethodName) (b : ByteArray) (n : Nat) (r : Option FieldType) (np : Nat) : Prop :=
  Cond.code y b n r ∈ tbl ∧ Cond.initialized y.cls ∈ tbl ∧ (y.cls ≠ "java/lang/invoke/MethodHandle" ∧ y.cls ≠ "java/lang/invoke/VarHandle") ∧ (parseMethodDescriptor y.desc).map (fun d => d.parameters.length) = some np
theorem z_gd {y : MethodName} {b : ByteArray} {n : Nat} {r : Option FieldType} (h : Cond.code y b n r ∈ tbl) : GoodIn tbl (.code y b n r :: tbl) := fun w hw => by
  rcases List.mem_cons.mp hw with rfl | hw
  · exact ⟨h, tbl_good h⟩
  · exact ⟨hw, tbl_good hw⟩
theorem z_ga {a b : List Cond} (ha : ∀ w ∈ a, w ∈ tbl) (hb : GoodIn tbl b) : GoodIn tbl (a ++ b) := fun w hw => by
  rcases List.mem_append.mp hw with h | h
  · exact ⟨ha w h, tbl_good (ha w h)⟩
  · exact hb w h
theorem z_blind (as : List Value) (D : va_G) (tys : List (ClassId × FieldType)) (A : Nat → Prop) (w : va_W) : FrameBlind (va_Pc as (zW D tys A w)) := fun a U g mk q => ⟨q.1, q.2.1, va_K.moved (u := U) (U := U.calling g mk a) (Vm.Alike.refl U.vm) q.2.2.1, q.2.2.2⟩
abbrev zst (rv : Option Value) (rest : List Value) : List Value := match rv with
  | none => rest
  | some v => v :: rest
section ZC
variable {p : Program} {l : Launch} {e : Env} {R : Room} {s : State} {m : MethodId} {args : Array Value} {below : List Frame} {meth : Method} {c : Code} {H : Heap} {locs : List Loc} {cells slots : Nat} {Q : State → Prop}
variable {pc : Nat} {ls : Array Slot} {D : va_G} {tys : List (ClassId × FieldType)} {A A0 : Nat → Prop} {own : String} {b : ByteArray} {n : Nat} {r : Option FieldType}
/-- behind a call -/
theorem zgo {rv : Option Value} {w2 : va_W} {rest st0 : List Value} {a : Array Value} {H0 : Heap} (hr : va_Run p l e R s m args below meth c H locs cells slots 0 0 (F0 m pc ls st0) rest (zQ D tys A w2 rv a) A) (hS : va_S A0 H0 H locs) (hA : ∀ q, A q → A0 q)
    (kk : ∀ (H1 : Heap) (locs1 : List Loc), va_P D classes w2 H1 → va_D A w2 → (∀ q : Nat, q < H.size → ¬ A q → H1[q]? = H[q]?) → va_S A0 H0 H1 locs1 → W p l e R s m args below meth c H1 locs1 cells slots Q (F0 m (pc + 3) ls (zst rv rest))) : W p l e R s m args below meth c H locs cells slots Q (F0 m pc ls st0) := by
  intro T hT X
  obtain ⟨v, st₀, t, T', L, h0, X', hL, e1, e2, ⟨hv, ⟨hP, hK, hD⟩, hz, hk⟩, st⟩ := hr T hT X
  have hv' : v = rv := Outcome.returned.inj hv
  subst hv'
  rw [h0] at hz hk
  obtain ⟨t2, a1, b1⟩ := kk T'.heap (locs ++ L) (by rw [e1]; exact hP) hD (fun q h1 h2 => by rw [e1]; exact hk q h1 h2)
    ⟨Nat.le_trans hS.1 (by rw [e1]; exact hz), fun q h1 h2 => by rw [e1, hk q (Nat.lt_of_lt_of_le h1 hS.1) (fun z => h2 (hA q z))]; exact hS.2.1 q h1 h2, fun q hq => by
      rcases List.mem_append.mp hq with h | h
      · exact hS.2.2 q h
      · exact hA _ (hL q h)⟩ T' rfl X'
  refine ⟨t2, st t2 ?_, b1⟩
  cases v <;> exact a1
theorem z_pre {C : String} {T : u_T} {N ci : Nat} {a : Nat} {fs : List Value} {w : va_W} {As : List Value} (hK : va_K D classes tys s) (hP : va_P D classes w H) (hD : va_D A w) (q0 : Nat) (he : w[q0]? = some (a, .inr (ci, fs))) (hc : classes[ci]? = some (C, T, N)) : PreV s H C a (va_Pc (.ref a :: As) (zW D tys A w)) As :=
  ⟨z_blind _ _ _ _ _, va_recv hK hP hc he, fun U hU hW => ⟨rfl, by rw [hU]; exact hP, va_K.moved hW.alike hK, hD⟩⟩
/-- a virtual call whose reference names the method that runs -/
theorem zcV {y : MethodName} {b' : ByteArray} {n' : Nat} {r' : Option FieldType} {np fr lo idx ci N : Nat} {As rest st : List Value} {a : Nat} {w w2 : va_W} {rv : Option Value} {C : String} {T : u_T} {fs : List Value} (E : zE p s m args meth c own b n r) (hY : zY y b' n' r' np) (hin : Cond.instanceMethod y ∈ tbl) (hsel : Cond.selects y.cls y y ∈ tbl) (hlink : Cond.methodLink own idx y ∈ tbl)
    (hM : zM l y b' n' r' fr lo (.ref a :: As) D tys A w w2 rv) (hK : va_K D classes tys s) (hP : va_P D classes w H) (hD : va_D A w) (hS : va_S A s.heap H locs) (q0 : Nat) (he : w[q0]? = some (a, .inr (ci, fs))) (hc : classes[ci]? = some (C, T, N)) (hC : C = y.cls)
    (hn : As.length = np) (hl : ls.size = n) (hst : st = As.reverse ++ .ref a :: rest) (hroom : (rest.map fun v => v.category).sum ≤ 8) (hR : fr + 1 ≤ R.frames ∧ 8 + (n' + 11) + lo ≤ R.locals) (hd : decode b pc = .ok (.invokevirtual idx, 3)) (hcs : cells ≤ R.cells ∧ slots ≤ R.slots)
    (kk : ∀ (H1 : Heap) (locs1 : List Loc), va_P D classes w2 H1 → va_D A w2 → va_S A s.heap H1 locs1 → W p l e R s m args below meth c H1 locs1 cells slots Q (F0 m (pc + 3) ls (zst rv rest))) : W p l e R s m args below meth c H locs cells slots Q (F0 m pc ls st) := by
  subst hC; subst hst
  obtain ⟨hx, hb, hml, ho, hts, hr, hk⟩ := E
  obtain ⟨hcode, hini, hmh, hnp⟩ := hY
  refine zgo (va_runV (As := As) (rest := rest) (own := own) ⟨hx, hb, hml, ho, hts⟩ hM (cwV np hts (z_ga (fun w hw => ?_) (z_gd hcode)) rfl rfl rfl ⟨rfl, hmh.1, hmh.2, hnp⟩ hR) (z_pre hK hP hD q0 he hc) rfl hn hl rfl (lv_room hroom) hd hcs) hS (fun _ h => h) (fun H1 locs1 h1 h2 _ h3 => kk H1 locs1 h1 h2 h3)
  simp only [List.mem_cons, List.not_mem_nil, or_false] at hw
  rcases hw with rfl | rfl | rfl | rfl <;> assumption
/-- a static call -/
theorem zcS {y : MethodName} {b' : ByteArray} {n' : Nat} {r' : Option FieldType} {np fr lo idx : Nat} {As rest st : List Value} {w w2 : va_W} {rv : Option Value} (E : zE p s m args meth c own b n r) (hY : zY y b' n' r' np) (hin : Cond.static y ∈ tbl) (hlink : Cond.methodLink own idx y ∈ tbl) (hC : y.cls = own)
    (hM : zM l y b' n' r' fr lo As D tys A w w2 rv) (hK : va_K D classes tys s) (hP : va_P D classes w H) (hD : va_D A w) (hS : va_S A s.heap H locs)
    (hn : As.length = np) (hl : ls.size = n) (hst : st = As.reverse ++ rest) (hroom : (rest.map fun v => v.category).sum ≤ 8) (hR : fr + 1 ≤ R.frames ∧ 8 + (n' + 11) + lo ≤ R.locals) (hd : decode b pc = .ok (.invokestatic idx, 3)) (hcs : cells ≤ R.cells ∧ slots ≤ R.slots)
    (kk : ∀ (H1 : Heap) (locs1 : List Loc), va_P D classes w2 H1 → va_D A w2 → va_S A s.heap H1 locs1 → W p l e R s m args below meth c H1 locs1 cells slots Q (F0 m (pc + 3) ls (zst rv rest))) : W p l e R s m args below meth c H locs cells slots Q (F0 m pc ls st) := by
  subst hC; subst hst
  obtain ⟨hx, hb, hml, ho, hts, hr, hk⟩ := E
  obtain ⟨hcode, hini, hmh, hnp⟩ := hY
  refine zgo (va_runS (As := As) (rest := rest) (own := y.cls) ⟨hx, hb, hml, ho, hts⟩ hM (cwS np hts (z_ga (fun w hw => ?_) (z_gd hcode)) rfl rfl rfl ⟨rfl, hmh.1, hmh.2, hnp⟩ hR) ⟨z_blind _ _ _ _ _, fun U hU hW => ⟨rfl, by rw [hU]; exact hP, va_K.moved hW.alike hK, hD⟩⟩ rfl hn hl rfl (lv_room hroom) hd hcs) hS (fun _ h => h) (fun H1 locs1 h1 h2 _ h3 => kk H1 locs1 h1 h2 h3)
  simp only [List.mem_cons, List.not_mem_nil, or_false] at hw
  rcases hw with rfl | rfl | rfl <;> assumption
/-- a virtual call by the reference x (declared by owner), of which the receiver's class C selects y -/
theorem zcU {x y : MethodName} {owner : String} {b' b0 : ByteArray} {n' n0 : Nat} {r' r0 : Option FieldType} {np fr lo idx ci N : Nat} {As rest st : List Value} {a : Nat} {w w2 : va_W} {rv : Option Value} {C : String} {T : u_T} {fs : List Value} (E : zE p s m args meth c own b n r) (hY : zY y b' n' r' np) (hY0 : zY ⟨owner, x.name, x.desc⟩ b0 n0 r0 np) (hin : Cond.instanceMethod y ∈ tbl) (hin0 : Cond.instanceMethod ⟨owner, x.name, x.desc⟩ ∈ tbl) (hsame : Cond.sameMethod x.cls owner x.name x.desc ∈ tbl) (hsel : Cond.selects C x y ∈ tbl) (hlink : Cond.methodLink own idx x ∈ tbl)
    (hM : zM l y b' n' r' fr lo (.ref a :: As) D tys A w w2 rv) (hK : va_K D classes tys s) (hP : va_P D classes w H) (hD : va_D A w) (hS : va_S A s.heap H locs) (q0 : Nat) (he : w[q0]? = some (a, .inr (ci, fs))) (hc : classes[ci]? = some (C, T, N))
    (hn : As.length = np) (hl : ls.size = n) (hst : st = As.reverse ++ .ref a :: rest) (hroom : (rest.map fun v => v.category).sum ≤ 8) (hR : fr + 1 ≤ R.frames ∧ 8 + (n' + 11) + lo ≤ R.locals) (hd : decode b pc = .ok (.invokevirtual idx, 3)) (hcs : cells ≤ R.cells ∧ slots ≤ R.slots)
    (kk : ∀ (H1 : Heap) (locs1 : List Loc), va_P D classes w2 H1 → va_D A w2 → va_S A s.heap H1 locs1 → W p l e R s m args below meth c H1 locs1 cells slots Q (F0 m (pc + 3) ls (zst rv rest))) : W p l e R s m args below meth c H locs cells slots Q (F0 m pc ls st) := by
  subst hst
  obtain ⟨hx, hb, hml, ho, hts, hr, hk⟩ := E
  obtain ⟨hcode, hini, hmh, hnp⟩ := hY
  obtain ⟨hcode0, hini0, hmh0, hnp0⟩ := hY0
  refine zgo (va_runU (x := x) (owner := owner) (As := As) (rest := rest) (own := own) ⟨hx, hb, hml, ho, hts⟩ hM (va_cwO np hts (z_ga (fun w hw => ?_) (z_gd hcode)) rfl rfl rfl hcode0 ⟨hmh0.1, hmh0.2, hnp0⟩ hR) (z_pre hK hP hD q0 he hc) rfl hn hl rfl (lv_room hroom) hd hcs) hS (fun _ h => h) (fun H1 locs1 h1 h2 _ h3 => kk H1 locs1 h1 h2 h3)
  simp only [List.mem_cons, List.not_mem_nil, or_false] at hw
  rcases hw with rfl | rfl | rfl | rfl | rfl | rfl <;> assumption
/-- one step up -/
theorem z_sub1 {C P : String} {c1 p1 : ClassId} (h : (Cond.superclass C P).before args s = true) (hc : s.vm.findClass C = some c1) (hp : s.vm.findClass P = some p1) : s.vm.isSubclass c1 p1 = true := by
  obtain ⟨p, k, kp, h1, h2, h3, h4, -, -, -⟩ := Cond.superclass_spec hc h
  cases h1.symm.trans hp
  have hz : 1 ≤ s.vm.classes.size := by
    have := (Array.getElem?_eq_some_iff.mp h2).1
    omega
  obtain ⟨z, hz⟩ : ∃ z, s.vm.classes.size = z + 1 := ⟨s.vm.classes.size - 1, by omega⟩
  simp [Vm.isSubclass, Vm.isSubclassAux, h2, h4, hz]
theorem z_sub2 {C P G : String} {c1 g1 : ClassId} (h : (Cond.superclass C P).before args s = true) (h' : (Cond.superclass P G).before args s = true) (hc : s.vm.findClass C = some c1) (hg : s.vm.findClass G = some g1) : s.vm.isSubclass c1 g1 = true := by
  obtain ⟨p, k, kp, h1, h2, h3, h4, -, -, -⟩ := Cond.superclass_spec hc h
  obtain ⟨g, k', kg, q1, q2, q3, q4, -, -, -⟩ := Cond.superclass_spec h1 h'
  cases q1.symm.trans hg
  by_cases hcp : c1 = p
  · subst hcp
    have hz : 1 ≤ s.vm.classes.size := by
      have := (Array.getElem?_eq_some_iff.mp h2).1
      omega
    obtain ⟨z, hz⟩ : ∃ z, s.vm.classes.size = z + 1 := ⟨s.vm.classes.size - 1, by omega⟩
    simp [Vm.isSubclass, Vm.isSubclassAux, q2, q4, hz]
  · have hz : 2 ≤ s.vm.classes.size := by
      have a1 := (Array.getElem?_eq_some_iff.mp h2).1
      have a2 := (Array.getElem?_eq_some_iff.mp q2).1
      rcases Nat.lt_or_gt_of_ne (show @Ne Nat c1 p from hcp) with h9 | h9
      · exact Nat.le_trans (Nat.succ_le_succ (Nat.succ_le_of_lt (Nat.lt_of_le_of_lt (Nat.zero_le _) h9))) a2
      · exact Nat.le_trans (Nat.succ_le_succ (Nat.succ_le_of_lt (Nat.lt_of_le_of_lt (Nat.zero_le _) h9))) a1
    obtain ⟨z, hz⟩ : ∃ z, s.vm.classes.size = z + 2 := ⟨s.vm.classes.size - 2, by omega⟩
    simp [Vm.isSubclass, Vm.isSubclassAux, h2, h4, q2, q4, hz]
/-- super.m(..), the method being the superclass's own or one above it: the reference names x, the method that runs is y -/
theorem zcP {x y : MethodName} {b' : ByteArray} {n' : Nat} {r' : Option FieldType} {np fr lo idx ci N : Nat} {As rest st : List Value} {a : Nat} {w w2 : va_W} {rv : Option Value} {C : String} {T : u_T} {fs : List Value} (E : zE p s m args meth c own b n r) (hY : zY y b' n' r' np) (hin : Cond.instanceMethod y ∈ tbl) (hsame : Cond.sameMethod x.cls y.cls x.name x.desc ∈ tbl) (hxy : y.name = x.name ∧ y.desc = x.desc ∧ x.name ≠ "<init>") (hsup : Cond.superclass own x.cls ∈ tbl) (hsub : ∀ a1 g1, s.vm.findClass x.cls = some a1 → s.vm.findClass y.cls = some g1 → s.vm.isSubclass a1 g1 = true) (hlink : Cond.methodLink own idx x ∈ tbl)
    (hM : zM l y b' n' r' fr lo (.ref a :: As) D tys A w w2 rv) (hK : va_K D classes tys s) (hP : va_P D classes w H) (hD : va_D A w) (hS : va_S A s.heap H locs) (q0 : Nat) (he : w[q0]? = some (a, .inr (ci, fs))) (hc : classes[ci]? = some (C, T, N))
    (hn : As.length = np) (hl : ls.size = n) (hst : st = As.reverse ++ .ref a :: rest) (hroom : (rest.map fun v => v.category).sum ≤ 8) (hR : fr + 1 ≤ R.frames ∧ 8 + (n' + 11) + lo ≤ R.locals) (hd : decode b pc = .ok (.invokespecial idx, 3)) (hcs : cells ≤ R.cells ∧ slots ≤ R.slots)
    (kk : ∀ (H1 : Heap) (locs1 : List Loc), va_P D classes w2 H1 → va_D A w2 → va_S A s.heap H1 locs1 → W p l e R s m args below meth c H1 locs1 cells slots Q (F0 m (pc + 3) ls (zst rv rest))) : W p l e R s m args below meth c H locs cells slots Q (F0 m pc ls st) := by
  subst hst
  obtain ⟨hx, hb, hml, ho, hts, hr, hk⟩ := E
  obtain ⟨hcode, hini, hmh, hnp⟩ := hY
  obtain ⟨hyn, hyd, hno⟩ := hxy
  have hp : PreV s H C a (va_Pc (.ref a :: As) (zW D tys A w)) As := z_pre hK hP hD q0 he hc
  have hBk : Back l R p e below s args y 3 8 (PreOf R 0 0 (va_Pc (.ref a :: As) (zW D tys A w))) (PostOf (zQ D tys A w2 rv) 0 0 A) := back_of (bytes := b') (maxL := n') (ret := r') hM hp.1 rfl rfl hR.1 hR.2 (pay_in hts (z_gd hcode)) List.mem_cons_self (fun a' U hW => word_at hW (Or.inl (by first | rfl | simp [Cond.onTables, Cond.keeps, Cond.steady])) (hts _ hini))
  obtain ⟨hfc, kB, hkB, -⟩ := (hK.1 ci _ hc).2
  obtain ⟨-, ⟨cellB, hcB, hoB, hclB⟩, hPc⟩ := hp
  have hcc : D.1 ci = cellB.cls := Option.some.inj (hfc.symm.trans hclB)
  rw [hcc] at hkB
  have hrun : va_Run p l e R s m args below meth c H locs cells slots 0 0 (F0 m pc ls (As.reverse ++ .ref a :: rest)) rest (zQ D tys A w2 rv (Value.ref a :: As).toArray) A := by
    intro T0 hT X
    obtain ⟨mk, methM, hnamed, hmethM, hstM, habM⟩ := Cond.instanceMethod_spec (hts _ hin)
    obtain ⟨methM', cM, hmethM', -, -, -, -, -, -, hsigM⟩ := Cond.code_spec hnamed (hts _ hcode)
    cases hmethM.symm.trans hmethM'
    obtain ⟨ps, dk, kp, hps, hdk, hkp, hsuper, -, -, hnid⟩ := Cond.superclass_spec ho (hts _ hsup)
    have hn' : s.methodNamed? ⟨y.cls, x.name, x.desc⟩ = some mk := by rw [← hyn, ← hyd]; exact hnamed
    have hsb : s.vm.isSubclass ps mk.cls = true := hsub ps mk.cls hps (findClass_of_methodNamed hnamed)
    have hlen : As.length = methM.sig.parameters.length := by
      rw [hsigM] at hnp
      exact hn.trans (Option.some.inj hnp).symm
    obtain ⟨vm₁, X₁, hstep₁⟩ := X.invokespecialUp hx ho (hts _ hlink) (hts _ hsame) hn' hmethM hstM habM hno hdk hnid hps hsuper hsb (a := a) (cell := cellB) (by rw [hT]; exact hcB)
      (fun z h => by rw [h] at hoB; cases hoB) hkB (g := F0 m pc ls (As.reverse ++ .ref a :: rest)) rfl (argsL := As) (rest := rest) hlen rfl (by rw [hb]; exact hd)
    obtain ⟨v, ⟨U', l2, c2, s2⟩, X', ⟨g', mk', t, L, e1, e2, hq, h1, hL, h2, h3⟩, hsteps⟩ := hBk m meth c ⟨T0.setVm vm₁, locs, cells, slots⟩ { F0 m pc ls (As.reverse ++ .ref a :: rest) with stack := rest } (.invokespecial idx) mk (Value.ref a :: As).toArray X₁ rfl (hl.trans hml.symm) (by rw [hb]; exact hd) (lv_room (ls := ls) (m := m) (pc := pc) (rest := rest) hroom) (X₁.named hnamed) ⟨hcs.1, hcs.2, hPc (T0.setVm vm₁) hT X₁.warmed⟩
    dsimp only [Pt.U, Pt.locs, Pt.cells, Pt.slots] at X' e1 e2 h1 h2 h3 hsteps
    subst h1; subst h2; subst h3
    exact ⟨v, (T0.setVm vm₁).calling g' mk' (Value.ref a :: As).toArray, t, U', L, hT, X', hL, e1, e2, hq, fun target h => hstep₁ _ (by rw [doInvoke_state]; exact hsteps.trans h)⟩
  exact zgo hrun hS (fun _ h => h) (fun H1 locs1 h1 h2 _ h3 => kk H1 locs1 h1 h2 h3)
/-- a class of the worlds -/
def zC (ci : Nat) (C : String) (T : u_T) (N : Nat) : Prop := classes[ci]? = some (C, T, N) ∧ ∀ w ∈ u_ws C T N, w ∈ tbl
theorem zget {C ref : String} {T : u_T} {N ci idx a : Nat} {fs rest : List Value} {ws : va_W} (E : zE p s m args meth c own b n r) (hK : va_K D classes tys s) (hP : va_P D classes ws H) (q0 : Nat) (he : ws[q0]? = some (a, .inr (ci, fs))) (hc : zC ci C T N) (k : Nat) (hk : k < N) (hlink : Cond.fieldLink own idx ref (T k).2.1 (T k).2.2.1 ∈ tbl) (hsame : (T k).1 = ref ∨ Cond.sameField ref (T k).1 (T k).2.1 (T k).2.2.1 ∈ tbl) {v : Value} (hv : fs[k]? = some v) (hd : decode b pc = .ok (.getfield idx, 3))
    (kk : W p l e R s m args below meth c H locs cells slots Q (F0 m (pc + 3) ls (v :: rest))) : W p l e R s m args below meth c H locs cells slots Q (F0 m pc ls (.ref a :: rest)) := by
  obtain ⟨hx, hb, hml, ho, hts, hr, hlk⟩ := E
  refine va_get (ref := ref) hx hb hts hc.2 ho hK hP q0 he hc.1 k hk (hts _ hlink) ?_ hv hd kk
  rcases hsame with h | h
  · rw [h]; exact fun _ h => h
  · exact fun x hx => u_same (hts _ h) x hx
theorem zput {C ref : String} {T : u_T} {N ci idx a : Nat} {fs rest : List Value} {ws : va_W} {H0 : Heap} {ty : FieldType} (E : zE p s m args meth c own b n r) (hK : va_K D classes tys s) (hP : va_P D classes ws H) (hD : va_D A ws) (hS : va_S A H0 H locs) (q0 : Nat) (he : ws[q0]? = some (a, .inr (ci, fs))) (hc : zC ci C T N) (ty0 : Nat → FieldType) (hty : ∀ k, k < N → parseFieldDescriptor (T k).2.2.1 = some (ty0 k)) (hnm : ∀ a, a < N → ∀ b, b < N → a ≠ b → (T a).2.1 ≠ (T b).2.1) (k : Nat) (hk : k < N) (hlink : Cond.fieldLink own idx ref (T k).2.1 (T k).2.2.1 ∈ tbl) (hsame : (T k).1 = ref ∨ Cond.sameField ref (T k).1 (T k).2.1 (T k).2.2.1 ∈ tbl) (hfin : (T k).2.2.2 = false) (hte : ty0 k = ty) {v : Value} (hn : narrow ty v = v) (hfit : fits ty v = true) (hl : k < fs.length) (hd : decode b pc = .ok (.putfield idx, 3)) {ws2 : va_W} (he2 : ws.set q0 (a, .inr (ci, fs.set k v)) = ws2)
    (kk : ∀ (H1 : Heap) (locs1 : List Loc), va_P D classes ws2 H1 → va_D A ws2 → va_S A H0 H1 locs1 → W p l e R s m args below meth c H1 locs1 cells slots Q (F0 m (pc + 3) ls rest)) : W p l e R s m args below meth c H locs cells slots Q (F0 m pc ls (v :: .ref a :: rest)) := by
  obtain ⟨hx, hb, hml, ho, hts, hr, hlk⟩ := E
  subst he2; subst hte
  refine va_put (ref := ref) hx hb hts hc.2 ty0 hty hnm ho hK hP hD hS q0 he hc.1 k hk (hts _ hlink) ?_ hfin (hty k hk) hn hfit hl hd kk
  rcases hsame with h | h
  · rw [h]; exact fun _ h => h
  · exact fun x hx => u_same (hts _ h) x hx
theorem zmax {idx : Nat} {x y : Int32} {rest : List Value} (E : zE p s m args meth c own b n r) (hl : ls.size = n) (hlink : Cond.methodLink own idx Lib.Math.max.name ∈ tbl) (hstat : Cond.static Lib.Math.max.name ∈ tbl) (hini : Cond.initialized "java/lang/Math" ∈ tbl) (hcode : Cond.code Lib.Math.max.name Lib.Math.max.code 2 (some .int) ∈ tbl)
    (hf : 1 ≤ R.frames) (hlo : (rest.map fun v => v.category).sum + 13 ≤ R.locals) (hcs : cells ≤ R.cells ∧ slots ≤ R.slots) (hd : decode b pc = .ok (.invokestatic idx, 3))
    (kk : W p l e R s m args below meth c H locs cells slots Q (F0 m (pc + 3) ls (.int (if x < y then y else x) :: rest))) : W p l e R s m args below meth c H locs cells slots Q (F0 m pc ls (.int y :: .int x :: rest)) := by
  obtain ⟨hx, hb, hml, ho, hts, hr, hlk⟩ := E
  exact va_mmax hx hb (hml.trans hl.symm) ho (hts _ hlink) (hts _ hstat) (hts _ hini) (hts _ hcode) hf hlo hcs.1 hcs.2 hd kk
theorem zri {w : va_W} {v : Int32} (E : zE p s m args meth c own b n (some .int)) (hK : va_K D classes tys s) (hP : va_P D classes w H) (hD : va_D A w) (hS : va_S A s.heap H locs) (hd : decode b pc = .ok (.ireturn, 1)) : W p l e R s m args below meth c H locs cells slots (MQ below (zQ D tys A w (some (.int v))) args s cells slots A) (F0 m pc ls [.int v]) := by
  obtain ⟨hx, hb, hml, ho, hts, hr, hk⟩ := E
  exact W.iret hx hb hr (fun t ht hW => ⟨rfl, ⟨by rw [ht]; exact hP, va_K.moved hW.alike hK, hD⟩, hS.F ht⟩) hS.2.2 hd hk
theorem zrz {w : va_W} {v : Int32} (E : zE p s m args meth c own b n (some .boolean)) (hK : va_K D classes tys s) (hP : va_P D classes w H) (hD : va_D A w) (hS : va_S A s.heap H locs) (hn : narrow .boolean (.int v) = .int v) (hd : decode b pc = .ok (.ireturn, 1)) : W p l e R s m args below meth c H locs cells slots (MQ below (zQ D tys A w (some (.int v))) args s cells slots A) (F0 m pc ls [.int v]) := by
  obtain ⟨hx, hb, hml, ho, hts, hr, hk⟩ := E
  exact W.zret hx hb hr hn (fun t ht hW => ⟨rfl, ⟨by rw [ht]; exact hP, va_K.moved hW.alike hK, hD⟩, hS.F ht⟩) hS.2.2 hd hk
theorem zrl {w : va_W} {v : Int64} (E : zE p s m args meth c own b n (some .long)) (hK : va_K D classes tys s) (hP : va_P D classes w H) (hD : va_D A w) (hS : va_S A s.heap H locs) (hd : decode b pc = .ok (.lreturn, 1)) : W p l e R s m args below meth c H locs cells slots (MQ below (zQ D tys A w (some (.long v))) args s cells slots A) (F0 m pc ls [.long v]) := by
  obtain ⟨hx, hb, hml, ho, hts, hr, hk⟩ := E
  exact W.lret hx hb hr (fun t ht hW => ⟨rfl, ⟨by rw [ht]; exact hP, va_K.moved hW.alike hK, hD⟩, hS.F ht⟩) hS.2.2 hd hk
theorem zrv {w : va_W} (E : zE p s m args meth c own b n none) (hK : va_K D classes tys s) (hP : va_P D classes w H) (hD : va_D A w) (hS : va_S A s.heap H locs) (hd : decode b pc = .ok (.return_, 1)) : W p l e R s m args below meth c H locs cells slots (MQ below (zQ D tys A w none) args s cells slots A) (F0 m pc ls []) := by
  obtain ⟨hx, hb, hml, ho, hts, hr, hk⟩ := E
  exact W.vret hx hb hr (fun t ht hW => ⟨rfl, ⟨by rw [ht]; exact hP, va_K.moved hW.alike hK, hD⟩, hS.F ht⟩) hS.2.2 hd hk
theorem zra {w : va_W} {v : Value} {C : String} (E : zE p s m args meth c own b n (some (.object C))) (hK : va_K D classes tys s) (hP : va_P D classes w H) (hD : va_D A w) (hS : va_S A s.heap H locs) (hv : v = .null ∨ ∃ a, v = .ref a) (hd : decode b pc = .ok (.areturn, 1)) : W p l e R s m args below meth c H locs cells slots (MQ below (zQ D tys A w (some v)) args s cells slots A) (F0 m pc ls [v]) := by
  obtain ⟨hx, hb, hml, ho, hts, hr, hk⟩ := E
  exact W.aret hx hb hr (Or.inl ⟨C, rfl⟩) hv (fun t ht hW => ⟨rfl, ⟨by rw [ht]; exact hP, va_K.moved hW.alike hK, hD⟩, hS.F ht⟩) hS.2.2 hd hk
end ZC
theorem zC_Coast : zC 9 R_Coast F_Coast 3 := ⟨rfl, i_Coast⟩
theorem zC_X : zC 10 R_X F_X 7 := ⟨rfl, i_X⟩
theorem zC_M : zC 11 R_M F_M 13 := ⟨rfl, i_M⟩
theorem zC_K {k : Nat} (hk : k < 9) : zC k (R_K k) F_Lamp 6 := by
  rcases (show k = 0 ∨ k = 1 ∨ k = 2 ∨ k = 3 ∨ k = 4 ∨ k = 5 ∨ k = 6 ∨ k = 7 ∨ k = 8 by omega) with rfl | rfl | rfl | rfl | rfl | rfl | rfl | rfl | rfl
  · exact ⟨rfl, i_Oil⟩
  · exact ⟨rfl, i_Round⟩
  · exact ⟨rfl, i_Twin⟩
  · exact ⟨rfl, i_Drum⟩
  · exact ⟨rfl, i_Swing⟩
  · exact ⟨rfl, i_Gas⟩
  · exact ⟨rfl, i_Flare⟩
  · exact ⟨rfl, i_Buoy⟩
  · exact ⟨rfl, i_Outer⟩
end
